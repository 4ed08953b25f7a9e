/-! the relation between the class's reel and the reference's row; what both tell -/
def rng (lo hi : Int) (x : Int32) : Prop := lo ≤ x.toInt ∧ x.toInt ≤ hi
/-- the class's place of a shot's number j of the reference, and of its number j ahead of the shots -/
def pj (j : Nat) : Nat := if j = 0 then 0 else if j = 10 then 1 else if j < 10 then j + 1 else j
def hp (j : Nat) : Nat := if j < 4 then j else if j = 4 then 12 else if j = 5 then 10 else if j = 6 then 11 else j - 3
def Sh (f g : Nat → Int32) (p q : Nat) : Prop := ∀ j : Nat, j < 14 → (11 ≤ j → ¬ g (13 + 14 * q + 10) = 0) → f (13 + 14 * p + pj j) = g (13 + 14 * q + j)
def Iv (g : Nat → Int32) (q : Nat) : Prop := (g (13 + 14 * q + 10) = nI 0 ∨ g (13 + 14 * q + 10) = nI 1) ∧ rng 1 99 (g (13 + 14 * q + 0)) ∧ (∀ c : Nat, c < 3 → rng (-10) 10 (g (13 + 14 * q + (4 + c)))) ∧ (¬ g (13 + 14 * q + 10) = 0 → ∀ c : Nat, c < 3 → rng (-35) 35 (g (13 + 14 * q + (11 + c))))
def Hd (f g : Nat → Int32) : Prop := ∀ j : Nat, j < 13 → f (hp j) = g j
def Rel (n : Nat) (f g : Nat → Int32) : Prop := n ≤ 20 ∧ g 4 = nI n ∧ Hd f g ∧ (rng 1 5 (g 0) ∧ rng 0 9 (g 1) ∧ rng 0 40 (g 2)) ∧ ∀ p : Nat, p < n → Sh f g p p ∧ Iv g p
def Ag (g : Nat → Int32) : Prop := ∀ c : Nat, c < 3 → rng 0 999 (g (7 + c))
theorem pj1 {c : Nat} (h : c < 3) : pj (1 + c) = 2 + c := by unfold pj; rw [if_neg (by omega), if_neg (by omega), if_pos (by omega)]; omega
theorem pj4 {c : Nat} (h : c < 3) : pj (4 + c) = 5 + c := by unfold pj; rw [if_neg (by omega), if_neg (by omega), if_pos (by omega)]; omega
theorem pj7 {c : Nat} (h : c < 3) : pj (7 + c) = 8 + c := by unfold pj; rw [if_neg (by omega), if_neg (by omega), if_pos (by omega)]; omega
theorem pj11 (c : Nat) : pj (11 + c) = 11 + c := by unfold pj; rw [if_neg (by omega), if_neg (by omega), if_neg (by omega)]
theorem pj_lt {j : Nat} (h : j < 14) : pj j < 14 := by unfold pj; (repeat' split) <;> omega
theorem pj_inj {i j : Nat} (h : pj i = pj j) : i = j := by unfold pj at h; (repeat' split at h) <;> omega
theorem hp_inj {i j : Nat} (hi : i < 13) (hj : j < 13) (h : hp i = hp j) : i = j := by unfold hp at h; (repeat' split at h) <;> omega
theorem hp_lt {j : Nat} (h : j < 13) : hp j < 13 := by unfold hp; (repeat' split) <;> omega
theorem hp_4 : hp 4 = 12 := rfl
theorem hp_a (c : Nat) (h : c < 3) : hp (7 + c) = 4 + c := by unfold hp; rw [if_neg (by omega), if_neg (by omega), if_neg (by omega), if_neg (by omega)]; omega
theorem hp_t (c : Nat) (h : c < 3) : hp (10 + c) = 7 + c := by unfold hp; rw [if_neg (by omega), if_neg (by omega), if_neg (by omega), if_neg (by omega)]; omega
theorem hp_s (c : Nat) (h : c < 4) : hp c = c := if_pos h
section
variable {n : Nat} {f g : Nat → Int32}
theorem R_n (h : Rel n f g) : n ≤ 20 := h.1
theorem R_4 (h : Rel n f g) : g 4 = nI n := h.2.1
theorem R_12 (h : Rel n f g) : f 12 = nI n := (h.2.2.1 4 (by decide)).trans h.2.1
theorem R_hd (h : Rel n f g) : Hd f g := h.2.2.1
theorem R_set (h : Rel n f g) {c : Nat} (hc : c < 4) : f c = g c := by
  have e := h.2.2.1 c (by omega)
  rw [hp_s c hc] at e; exact e
theorem R_age (h : Rel n f g) {c : Nat} (hc : c < 3) : f (4 + c) = g (7 + c) := by
  have e := h.2.2.1 (7 + c) (by omega)
  rw [hp_a c hc] at e; exact e
theorem R_trim (h : Rel n f g) {c : Nat} (hc : c < 3) : f (7 + c) = g (10 + c) := by
  have e := h.2.2.1 (10 + c) (by omega)
  rw [hp_t c hc] at e; exact e
theorem R_pr (h : Rel n f g) : f 10 = g 5 := h.2.2.1 5 (by decide)
theorem R_ch (h : Rel n f g) : f 11 = g 6 := h.2.2.1 6 (by decide)
theorem R_sh (h : Rel n f g) {p : Nat} (hp : p < n) : Sh f g p p := (h.2.2.2.2 p hp).1
theorem R_iv (h : Rel n f g) {p : Nat} (hp : p < n) : Iv g p := (h.2.2.2.2 p hp).2
theorem R_0 (h : Rel n f g) : rng 1 5 (g 0) := h.2.2.2.1.1
theorem R_1 (h : Rel n f g) : rng 0 9 (g 1) := h.2.2.2.1.2.1
theorem R_2 (h : Rel n f g) : rng 0 40 (g 2) := h.2.2.2.1.2.2
end
section
variable {f g : Nat → Int32} {p q : Nat}
theorem S_feet (h : Sh f g p q) : f (13 + 14 * p + 0) = g (13 + 14 * q + 0) := h 0 (by decide) (fun z => absurd z (by decide))
theorem S_has (h : Sh f g p q) : f (13 + 14 * p + 1) = g (13 + 14 * q + 10) := h 10 (by decide) (fun z => absurd z (by decide))
theorem S_dens (h : Sh f g p q) {c : Nat} (hc : c < 3) : f (13 + 14 * p + (2 + c)) = g (13 + 14 * q + (1 + c)) := by
  have e := h (1 + c) (by omega) (fun z => absurd z (by omega))
  rw [pj1 hc] at e; exact e
theorem S_wish (h : Sh f g p q) {c : Nat} (hc : c < 3) : f (13 + 14 * p + (5 + c)) = g (13 + 14 * q + (4 + c)) := by
  have e := h (4 + c) (by omega) (fun z => absurd z (by omega))
  rw [pj4 hc] at e; exact e
theorem S_light (h : Sh f g p q) {c : Nat} (hc : c < 3) : f (13 + 14 * p + (8 + c)) = g (13 + 14 * q + (7 + c)) := by
  have e := h (7 + c) (by omega) (fun z => absurd z (by omega))
  rw [pj7 hc] at e; exact e
theorem S_ans (h : Sh f g p q) (hh : ¬ g (13 + 14 * q + 10) = 0) {c : Nat} (hc : c < 3) : f (13 + 14 * p + (11 + c)) = g (13 + 14 * q + (11 + c)) := by
  have e := h (11 + c) (by omega) (fun _ => hh)
  rw [pj11] at e; exact e
end
theorem rng_mono {lo hi lo' hi' : Int} {x : Int32} (h : rng lo hi x) (h1 : lo' ≤ lo) (h2 : hi ≤ hi') : rng lo' hi' x := ⟨Int.le_trans h1 h.1, Int.le_trans h.2 h2⟩
theorem rng_nI {k : Nat} {lo hi : Int} (hk : k < 2 ^ 31) (h1 : lo ≤ k) (h2 : (k : Int) ≤ hi) : rng lo hi (nI k) := by
  unfold rng
  rw [nI_toInt hk]; exact ⟨h1, h2⟩
theorem i32_le {x y : Int32} : x ≤ y ↔ x.toInt ≤ y.toInt := Int32.le_iff_toInt_le
theorem i32_lt {x y : Int32} : x < y ↔ x.toInt < y.toInt := Int32.lt_iff_toInt_lt
theorem i32_z : (0 : Int32).toInt = 0 := by decide
theorem imax_le {x y s : Int32} : imax x y ≤ s ↔ x ≤ s ∧ y ≤ s := by
  unfold imax
  rw [i32_le, i32_le, i32_le]
  split
  · rename_i c
    rw [i32_lt] at c
    constructor
    · intro z; exact ⟨by omega, z⟩
    · intro z; exact z.2
  · rename_i c
    rw [i32_lt] at c
    constructor
    · intro z; exact ⟨z, by omega⟩
    · intro z; exact z.1
theorem imax3 {a b c s : Int32} (h0 : 0 ≤ s) : imax (imax (imax (nI 0) a) b) c ≤ s ↔ a ≤ s ∧ b ≤ s ∧ c ≤ s := by
  rw [imax_le, imax_le, imax_le]
  exact ⟨fun z => ⟨z.1.1.2, z.1.2, z.2⟩, fun z => ⟨⟨⟨h0, z.1⟩, z.2.1⟩, z.2.2⟩⟩
theorem iabs_mAb (x : Int32) : iabs x = mAb x := by
  unfold iabs mAb
  rw [Int32.zero_sub]
theorem rng_pos {hi : Int} {x : Int32} (h : rng 0 hi x) : 0 ≤ x := by rw [i32_le, i32_z]; exact h.1
/-- all three within, told by nested ifs -/
theorem if3 {a b c s : Int32} {x y : Int32} : (if a ≤ s then if b ≤ s then if c ≤ s then x else y else y else y) = (if a ≤ s ∧ b ≤ s ∧ c ≤ s then x else y) := by
  by_cases h1 : a ≤ s
  · rw [if_pos h1]
    by_cases h2 : b ≤ s
    · rw [if_pos h2]
      by_cases h3 : c ≤ s
      · rw [if_pos h3, if_pos ⟨h1, h2, h3⟩]
      · rw [if_neg h3, if_neg (fun z => h3 z.2.2)]
    · rw [if_neg h2, if_neg (fun z => h2 z.2.1)]
  · rw [if_neg h1, if_neg (fun z => h1 z.1)]
theorem if_same {P Q : Prop} [Decidable P] [Decidable Q] {α : Type} {x y : α} (h : P ↔ Q) : (if P then x else y) = (if Q then x else y) := by
  by_cases c : P
  · rw [if_pos c, if_pos (h.mp c)]
  · rw [if_neg c, if_neg (fun z => c (h.mpr z))]
def mPt3 (g : Nat → Int32) (p co : Nat) (li tr : Int32) : Int32 := mBd (nI 25 + li + tr - (mLo g co) - (g (13 + 14 * p + (1 + co))))
section
variable {n : Nat} {f g : Nat → Int32} {p c : Nat}
theorem V_lo (h : Rel n f g) (hc : c < 3) : f (4 + c) * f 3 / nI 100 = mLo g c := by rw [R_age h hc, R_set h (c := 3) (by decide)]; rfl
theorem V_prT (h : Rel n f g) (hp : p < n) (hc : c < 3) (li tr : Int32) : cPr f p c li tr = mPt3 g p c li tr := by
  unfold cPr mPt3
  rw [V_lo h hc, S_dens (R_sh h hp) hc]; rfl
theorem V_pr (h : Rel n f g) (hp : p < n) (hc : c < 3) (li : Int32) : cPr f p c li (f (7 + c)) = mPr g p c li := by
  rw [V_prT h hp hc, R_trim h hc]; rfl
theorem V_pn (h : Rel n f g) (hp : p < n) (hc : c < 3) : cPn f p c = mPn g p c := by
  unfold cPn mPn
  rw [V_pr h hp hc, S_light (R_sh h hp) hc]
theorem V_ofT (h : Rel n f g) (hp : p < n) (hc : c < 3) (tr : Int32) : cOf f p c tr = mPt3 g p c (g (13 + 14 * p + (7 + c))) tr - nI 25 - g (13 + 14 * p + (4 + c)) := by
  unfold cOf
  rw [V_prT h hp hc, S_light (R_sh h hp) hc, S_wish (R_sh h hp) hc]
theorem V_on (h : Rel n f g) (hp : p < n) (hc : c < 3) : cOf f p c (f (7 + c)) = mOn g p c := by
  rw [V_ofT h hp hc, R_trim h hc]; rfl
theorem V_oo (h : Rel n f g) (hp : p < n) : cOo f p = mOo g p := by
  unfold cOo mOo
  rw [if3, ← R_set h (c := 1) (by decide)]
  have e0 := V_on h hp (c := 0) (by decide)
  have e1 := V_on h hp (c := 1) (by decide)
  have e2 := V_on h hp (c := 2) (by decide)
  rw [show cOf f p 0 (f 7) = mOn g p 0 from e0, show cOf f p 1 (f 8) = mOn g p 1 from e1, show cOf f p 2 (f 9) = mOn g p 2 from e2, iabs_mAb, iabs_mAb, iabs_mAb]
  exact if_same (imax3 (by rw [R_set h (c := 1) (by decide)]; exact rng_pos (R_1 h)))
theorem V_an (h : Rel n f g) (hp : p < n) : cAn f p = mHa g p := by
  unfold cAn mHa
  rw [S_has (R_sh h hp)]
  rcases (R_iv h hp).1 with e | e
  · rw [e, if_pos nI_0, if_neg (by decide)]
  · rw [e, if_neg (by decide), if_pos rfl]
theorem V_has (h : Rel n f g) (hp : p < n) : g (13 + 14 * p + 10) = nI 1 ↔ ¬ g (13 + 14 * p + 10) = 0 := by
  rcases (R_iv h hp).1 with e | e
  · rw [e]; exact ⟨fun z => absurd z (by decide), fun z => absurd nI_0 z⟩
  · rw [e]; exact ⟨fun _ => by decide, fun _ => rfl⟩
theorem V_ba (h : Rel n f g) (hp : p < n) : cBa f p = mBa g p := by
  unfold cBa mBa
  rw [V_an h hp]
  unfold mHa
  by_cases c1 : g (13 + 14 * p + 10) = nI 1
  · have hh := (V_has h hp).mp c1
    rw [if_pos c1, if_neg (show ¬ nI 1 = 0 by decide), if3, ← R_set h (c := 1) (by decide)]
    rw [show f (13 + 14 * p + 11) = g (13 + 14 * p + 11) from S_ans (R_sh h hp) hh (c := 0) (by decide), show f (13 + 14 * p + 12) = g (13 + 14 * p + 12) from S_ans (R_sh h hp) hh (c := 1) (by decide), show f (13 + 14 * p + 13) = g (13 + 14 * p + 13) from S_ans (R_sh h hp) hh (c := 2) (by decide), iabs_mAb, iabs_mAb, iabs_mAb]
    exact if_same (imax3 (by rw [R_set h (c := 1) (by decide)]; exact rng_pos (R_1 h)))
  · rw [if_neg c1, if_pos nI_0, if3]
    split <;> rfl
theorem bd_rng (x : Int32) : rng 0 50 (mBd x) := by
  unfold mBd
  by_cases h0 : 0 ≤ x
  · rw [if_pos h0]
    by_cases h1 : x ≤ nI 50
    · rw [if_pos h1]
      rw [i32_le, i32_z] at h0
      rw [i32_le, nI_toInt (by decide)] at h1
      exact ⟨h0, h1⟩
    · rw [if_neg h1]; exact rng_nI (by decide) (by decide) (by decide)
  · rw [if_neg h0]; exact rng_nI (by decide) (by decide) (by decide)
theorem toInt_sub {x y : Int32} (h1 : -2147483648 ≤ x.toInt - y.toInt) (h2 : x.toInt - y.toInt < 2147483648) : (x - y).toInt = x.toInt - y.toInt := by
  rw [Int32.toInt_sub]
  exact Int.bmod_eq_of_le (by omega) (by omega)
theorem toInt_add {x y : Int32} (h1 : -2147483648 ≤ x.toInt + y.toInt) (h2 : x.toInt + y.toInt < 2147483648) : (x + y).toInt = x.toInt + y.toInt := by
  rw [Int32.toInt_add]
  exact Int.bmod_eq_of_le (by omega) (by omega)
theorem toInt_neg {x : Int32} (h1 : -2147483648 < x.toInt) : (-x).toInt = -x.toInt := by
  have h2 := Int32.toInt_lt x
  rw [Int32.toInt_neg]
  exact Int.bmod_eq_of_le (by omega) (by omega)
theorem mAb_toInt {x : Int32} (h1 : -2147483648 < x.toInt) : (mAb x).toInt = if 0 ≤ x.toInt then x.toInt else -x.toInt := by
  unfold mAb
  by_cases h0 : 0 ≤ x
  · rw [if_pos h0]
    rw [i32_le, i32_z] at h0
    rw [if_pos h0]
  · rw [if_neg h0]
    rw [i32_le, i32_z] at h0
    rw [if_neg h0, toInt_neg h1]
theorem mAb_sw {x y : Int32} (hx : rng 0 50 x) (hy : rng 0 50 y) : mAb (x - y) = mAb (y - x) := by
  obtain ⟨a1, a2⟩ := hx
  obtain ⟨b1, b2⟩ := hy
  have e1 : (x - y).toInt = x.toInt - y.toInt := toInt_sub (by omega) (by omega)
  have e2 : (y - x).toInt = y.toInt - x.toInt := toInt_sub (by omega) (by omega)
  apply Int32.toInt_inj.mp
  rw [mAb_toInt (by omega), mAb_toInt (by omega), e1, e2]
  split <;> split <;> omega
theorem V_ju (h : Rel n f g) (hp : p < n) : cJu f n p = mJu g n p := by
  have hn := R_n h
  unfold cJu mJu
  by_cases c1 : n ≤ p + 1
  · rw [if_pos c1, if_pos]
    unfold hasS
    rw [if_neg (nI_pos (by omega)), if_pos (nI_le c1 (by omega))]; exact nI_0
  · have hp1 : p + 1 < n := by omega
    rw [if_neg c1, if_neg (hasS_ne (by omega) hp1), if3, ← R_set h (c := 2) (by decide)]
    have key : ∀ c : Nat, c < 3 → iabs (cPn f (p + 1) c - cPn f p c) = mAb (mPn g p c - mPn g (p + 1) c) := by
      intro c hc
      rw [V_pn h hp hc, V_pn h hp1 hc, iabs_mAb]
      exact mAb_sw (bd_rng _) (bd_rng _)
    rw [key 0 (by decide), key 1 (by decide), key 2 (by decide)]
    exact if_same (imax3 (by rw [R_set h (c := 2) (by decide)]; exact rng_pos (R_2 h)))
theorem V_ft (h : Rel n f g) : ∀ k, k ≤ n → cFt f k = mFt g k
  | 0, _ => rfl
  | k + 1, hk => by
    show cFt f k + f (13 + 14 * k + 0) = mFt g k + g (13 + 14 * k + 0)
    rw [V_ft h k (by omega), S_feet (R_sh h (by omega))]
theorem V_ho (h : Rel n f g) : cHo f n = mHo g n := by
  unfold cHo mHo
  rw [V_ft h n (Nat.le_refl n)]
end
