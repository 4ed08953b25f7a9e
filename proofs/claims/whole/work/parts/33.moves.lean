/-! the changes of the shots' row keep the relation -/
def Ok (f g : Nat → Int32) : Prop := ∃ n : Nat, Rel n f g ∧ Ag g
theorem Ag_of {g g' : Nat → Int32} (h : Ag g) (e : ∀ c : Nat, c < 3 → g' (7 + c) = g (7 + c)) : Ag g' := fun c hc => by rw [e c hc]; exact h c hc
theorem Sh_mv {f g f' g' : Nat → Int32} {p q p' q' : Nat} (hf : ∀ j : Nat, j < 14 → f' (13 + 14 * p + j) = f (13 + 14 * p' + j)) (hg : ∀ j : Nat, j < 14 → g' (13 + 14 * q + j) = g (13 + 14 * q' + j)) (h : Sh f g p' q') : Sh f' g' p q := by
  intro j hj hh
  rw [hf _ (pj_lt hj), hg j hj]
  refine h j hj (fun h11 => ?_)
  have := hh h11
  rw [hg 10 (by decide)] at this; exact this
theorem Iv_mv {g g' : Nat → Int32} {q q' : Nat} (hg : ∀ j : Nat, j < 14 → g' (13 + 14 * q + j) = g (13 + 14 * q' + j)) (h : Iv g q') : Iv g' q := by
  obtain ⟨a, b, c, d⟩ := h
  refine ⟨by rw [hg 10 (by decide)]; exact a, by rw [hg 0 (by decide)]; exact b, fun i hi => by rw [hg _ (by omega)]; exact c i hi, fun hh i hi => ?_⟩
  rw [hg 10 (by decide)] at hh
  rw [hg _ (by omega)]; exact d hh i hi
theorem Sh_set {f g : Nat → Int32} {p q : Nat} (h : Sh f g p q) {i : Nat} (hi : i < 14) (h10 : i ≠ 10) (z : Int32) : Sh (upd f (13 + 14 * p + pj i) z) (upd g (13 + 14 * q + i) z) p q := by
  intro j hj hh
  by_cases e : j = i
  · subst e; rw [pk_us, pk_us]
  · rw [pk_un (fun e' => e (pj_inj (by omega))), pk_un (by omega)]
    refine h j hj (fun h11 => ?_)
    have := hh h11
    rw [pk_un (by omega)] at this; exact this
theorem mTa_has (g : Nat → Int32) (q : Nat) : mTa g q (13 + 14 * q + 10) = nI 0 := by
  unfold mTa
  rw [pk_un (by omega), pk_un (by omega), pk_un (by omega), pk_us]
theorem mTa_f (g : Nat → Int32) (q : Nat) {k : Nat} (h : k < 13 + 14 * q + 10 ∨ 13 + 14 * q + 14 ≤ k) : mTa g q k = g k := by
  unfold mTa
  rw [pk_un (by omega), pk_un (by omega), pk_un (by omega), pk_un (by omega)]
theorem Sh_off {f g : Nat → Int32} {p q : Nat} (h : Sh f g p q) : Sh (upd f (13 + 14 * p + 1) (nI 0)) (mTa g q) p q := by
  intro j hj hh
  have h11 : j < 11 := by
    rcases Nat.lt_or_ge j 11 with e | e
    · exact e
    · exact absurd ((mTa_has g q).trans nI_0) (hh e)
  by_cases e : j = 10
  · subst e
    rw [mTa_has]; exact pk_us
  · rw [pk_un (fun e' => e (pj_inj (show pj j = pj 10 by show pj j = 1; omega))), mTa_f g q (by omega)]
    exact h j hj (fun z => absurd z (by omega))
theorem Iv_off {g : Nat → Int32} {q : Nat} (h : Iv g q) : Iv (mTa g q) q := by
  obtain ⟨a, b, c, d⟩ := h
  refine ⟨Or.inl (mTa_has g q), by rw [mTa_f g q (by omega)]; exact b, fun i hi => by rw [mTa_f g q (by omega)]; exact c i hi, fun hh => absurd ((mTa_has g q).trans nI_0) hh⟩
section
variable {n : Nat} {f g f' g' : Nat → Int32}
theorem Rel_build (h : Rel n f g) {n' : Nat} (hn : n' ≤ 20) (h4 : g' 4 = nI n') (h12 : f' 12 = nI n') (hf : ∀ k : Nat, k < 12 → f' k = f k) (hg : ∀ k : Nat, k < 13 → k ≠ 4 → g' k = g k) (hs : ∀ p : Nat, p < n' → Sh f' g' p p ∧ Iv g' p) : Rel n' f' g' := by
  refine ⟨hn, h4, fun j hj => ?_, ?_, hs⟩
  · by_cases e : j = 4
    · subst e; rw [h4]; exact h12
    · have h1 : hp j < 12 := by
        have := hp_lt hj
        rcases Nat.lt_or_ge (hp j) 12 with z | z
        · exact z
        · exact absurd (hp_inj hj (by decide) (show hp j = hp 4 by rw [hp_4]; omega)) e
      rw [hf _ h1, hg j hj e]
      exact R_hd h j hj
  · rw [hg 0 (by decide) (by decide), hg 1 (by decide) (by decide), hg 2 (by decide) (by decide)]
    exact h.2.2.2.1
theorem Rel_shot (h : Rel n f g) {p : Nat} (hf : ∀ k : Nat, k < 13 + 14 * p ∨ 13 + 14 * (p + 1) ≤ k → f' k = f k) (hg : ∀ k : Nat, k < 13 + 14 * p ∨ 13 + 14 * (p + 1) ≤ k → g' k = g k) (hs : Sh f' g' p p) (hi : Iv g' p) : Rel n f' g' := by
  refine Rel_build h (R_n h) ((hg 4 (by omega)).trans (R_4 h)) ((hf 12 (by omega)).trans (R_12 h)) (fun k hk => hf k (by omega)) (fun k hk _ => hg k (by omega)) (fun q hq => ?_)
  by_cases e : q = p
  · subst e; exact ⟨hs, hi⟩
  · have a : ∀ j : Nat, j < 14 → g' (13 + 14 * q + j) = g (13 + 14 * q + j) := fun j hj => hg _ (by omega)
    exact ⟨Sh_mv (fun j hj => hf _ (by omega)) a (R_sh h hq), Iv_mv a (R_iv h hq)⟩
theorem Rel_hd (h : Rel n f g) {j : Nat} (hj : j < 13) (h4 : j ≠ 4) {z : Int32} (h0 : j = 0 → rng 1 5 z) (h1 : j = 1 → rng 0 9 z) (h2 : j = 2 → rng 0 40 z) : Rel n (upd f (hp j) z) (upd g j z) := by
  have hl := hp_lt hj
  refine ⟨R_n h, (pk_un (by omega)).trans (R_4 h), fun i hi => ?_, ⟨?_, ?_, ?_⟩, fun p hp => ?_⟩
  · by_cases e : i = j
    · subst e; rw [pk_us, pk_us]
    · rw [pk_un (fun z => e (hp_inj hi hj z)), pk_un e]; exact R_hd h i hi
  · by_cases e : j = 0
    · subst e; rw [pk_us]; exact h0 rfl
    · rw [pk_un (by omega)]; exact R_0 h
  · by_cases e : j = 1
    · subst e; rw [pk_us]; exact h1 rfl
    · rw [pk_un (by omega)]; exact R_1 h
  · by_cases e : j = 2
    · subst e; rw [pk_us]; exact h2 rfl
    · rw [pk_un (by omega)]; exact R_2 h
  · have a : ∀ i : Nat, i < 14 → (upd g j z) (13 + 14 * p + i) = g (13 + 14 * p + i) := fun i _ => pk_un (by omega)
    exact ⟨Sh_mv (fun i _ => pk_un (by omega)) a (R_sh h hp), Iv_mv a (R_iv h hp)⟩
theorem isW_rng {x lo hi : Int32} (c : ¬ isW x lo hi = 0) : rng lo.toInt hi.toInt x := by
  unfold isW at c
  by_cases h1 : x < lo
  · rw [if_pos h1] at c; exact absurd nI_0 c
  · rw [if_neg h1] at c
    by_cases h2 : hi < x
    · rw [if_pos h2] at c; exact absurd nI_0 c
    · rw [i32_lt] at h1 h2
      exact ⟨by omega, by omega⟩
/-! room made, a place closed, two exchanged -/
theorem opN_lo (f : Nat → Int32) {n p q j : Nat} (h : q ≤ p) (hj : j < 14) : opN f n p (13 + 14 * q + j) = f (13 + 14 * q + j) := by
  unfold opN; rw [if_neg (by omega)]
theorem opN_hi (f : Nat → Int32) {n p q j : Nat} (h : p < q) (hq : q ≤ n) (hj : j < 14) : opN f n p (13 + 14 * q + j) = f (13 + 14 * (q - 1) + j) := by
  unfold opN; rw [if_pos (by omega)]; exact congrArg f (by omega)
theorem opN_h (f : Nat → Int32) {n p k : Nat} (h : k < 13) : opN f n p k = f k := by
  unfold opN; rw [if_neg (by omega)]
theorem op_sh (h : Rel n f g) {p q : Nat} (hp : p ≤ n) (hq : q < n + 1) (hc : q < p ∨ (q = p ∧ p < n) ∨ p < q) : Sh (opS f n p) (opM g n p) q q ∧ Iv (opM g n p) q := by
  rcases Nat.lt_or_ge p q with e | e
  · have a : ∀ j : Nat, j < 14 → opM g n p (13 + 14 * q + j) = g (13 + 14 * (q - 1) + j) := fun j hj => (pk_un (by omega)).trans (opN_hi g e (by omega) hj)
    have b : ∀ j : Nat, j < 14 → opS f n p (13 + 14 * q + j) = f (13 + 14 * (q - 1) + j) := fun j hj => (pk_un (by omega)).trans (opN_hi f e (by omega) hj)
    exact ⟨Sh_mv b a (R_sh h (by omega)), Iv_mv a (R_iv h (by omega))⟩
  · have a : ∀ j : Nat, j < 14 → opM g n p (13 + 14 * q + j) = g (13 + 14 * q + j) := fun j hj => (pk_un (by omega)).trans (opN_lo g e hj)
    have b : ∀ j : Nat, j < 14 → opS f n p (13 + 14 * q + j) = f (13 + 14 * q + j) := fun j hj => (pk_un (by omega)).trans (opN_lo f e hj)
    exact ⟨Sh_mv b a (R_sh h (by omega)), Iv_mv a (R_iv h (by omega))⟩
theorem op_f {f : Nat → Int32} {n p k : Nat} (hk : k < 12) : opS f n p k = f k := (pk_un (by omega)).trans (opN_h f (by omega))
theorem clN_lo (f : Nat → Int32) {p t q j : Nat} (h : q < p) (hj : j < 14) : clN f p t (13 + 14 * q + j) = f (13 + 14 * q + j) := by
  unfold clN; rw [if_neg (by omega)]
theorem clN_hi (f : Nat → Int32) {p t q j : Nat} (h : p ≤ q) (hq : q < t) (hj : j < 14) : clN f p t (13 + 14 * q + j) = f (13 + 14 * (q + 1) + j) := by
  unfold clN; rw [if_pos (by omega)]; exact congrArg f (by omega)
theorem clN_h (f : Nat → Int32) {p t k : Nat} (h : k < 13) : clN f p t k = f k := by
  unfold clN; rw [if_neg (by omega)]
theorem cl_sh (h : Rel n f g) {p q : Nat} (hq : q < n - 1) : Sh (clS f n p) (clM g n p) q q ∧ Iv (clM g n p) q := by
  rcases Nat.lt_or_ge q p with e | e
  · have a : ∀ j : Nat, j < 14 → clM g n p (13 + 14 * q + j) = g (13 + 14 * q + j) := fun j hj => (pk_un (by omega)).trans (clN_lo g e hj)
    have b : ∀ j : Nat, j < 14 → clS f n p (13 + 14 * q + j) = f (13 + 14 * q + j) := fun j hj => (pk_un (by omega)).trans (clN_lo f e hj)
    exact ⟨Sh_mv b a (R_sh h (by omega)), Iv_mv a (R_iv h (by omega))⟩
  · have a : ∀ j : Nat, j < 14 → clM g n p (13 + 14 * q + j) = g (13 + 14 * (q + 1) + j) := fun j hj => (pk_un (by omega)).trans (clN_hi g e hq hj)
    have b : ∀ j : Nat, j < 14 → clS f n p (13 + 14 * q + j) = f (13 + 14 * (q + 1) + j) := fun j hj => (pk_un (by omega)).trans (clN_hi f e hq hj)
    exact ⟨Sh_mv b a (R_sh h (by omega)), Iv_mv a (R_iv h (by omega))⟩
theorem cl_f {f : Nat → Int32} {n p k : Nat} (hk : k < 12) : clS f n p k = f k := (pk_un (by omega)).trans (clN_h f (by omega))
theorem Rel_cl (h : Rel n f g) (p : Nat) : Rel (n - 1) (clS f n p) (clM g n p) := by
  have hn := R_n h
  exact Rel_build h (by omega) pk_us pk_us (fun k hk => cl_f hk) (fun k hk h4 => clM_u g n p k hk h4) (fun q hq => cl_sh h hq)
theorem sw_a (f : Nat → Int32) {a b j : Nat} (hj : j < 14) : swN f a b 14 (13 + 14 * a + j) = f (13 + 14 * b + j) := by
  unfold swN; rw [if_pos (by omega)]; exact congrArg f (by omega)
theorem sw_b (f : Nat → Int32) {a b j : Nat} (hab : a ≠ b) (hj : j < 14) : swN f a b 14 (13 + 14 * b + j) = f (13 + 14 * a + j) := by
  unfold swN; rw [if_neg (by omega), if_pos (by omega)]; exact congrArg f (by omega)
theorem sw_o (f : Nat → Int32) {a b q j : Nat} (h1 : q ≠ a) (h2 : q ≠ b) (hj : j < 14) : swN f a b 14 (13 + 14 * q + j) = f (13 + 14 * q + j) := by
  unfold swN; rw [if_neg (by omega), if_neg (by omega)]
theorem Rel_sw (h : Rel n f g) {a b : Nat} (ha : a < n) (hb : b < n) (hab : a ≠ b) : Rel n (swN f a b 14) (swN g a b 14) := by
  refine Rel_build h (R_n h) ((swN_u g a b 14 4 (by decide)).trans (R_4 h)) ((swN_u f a b 14 12 (by decide)).trans (R_12 h)) (fun k hk => swN_u f a b 14 k (by omega)) (fun k hk _ => swN_u g a b 14 k hk) (fun q hq => ?_)
  by_cases e1 : q = a
  · subst e1
    exact ⟨Sh_mv (fun j hj => sw_a f hj) (fun j hj => sw_a g hj) (R_sh h hb), Iv_mv (fun j hj => sw_a g hj) (R_iv h hb)⟩
  · by_cases e2 : q = b
    · subst e2
      exact ⟨Sh_mv (fun j hj => sw_b f hab hj) (fun j hj => sw_b g hab hj) (R_sh h ha), Iv_mv (fun j hj => sw_b g hab hj) (R_iv h ha)⟩
    · exact ⟨Sh_mv (fun j hj => sw_o f e1 e2 hj) (fun j hj => sw_o g e1 e2 hj) (R_sh h hq), Iv_mv (fun j hj => sw_o g e1 e2 hj) (R_iv h hq)⟩
theorem Rel_mvU (h : Rel n f g) {p : Nat} : ∀ d : Nat, p + d < n → Rel n (mvU f p d) (mvU g p d)
  | 0, _ => h
  | d + 1, hd => Rel_sw (Rel_mvU h d (by omega)) (by omega) (by omega) (by omega)
theorem Rel_mvD (h : Rel n f g) {p : Nat} (hp : p < n) : ∀ d : Nat, d ≤ p → Rel n (mvD f p d) (mvD g p d)
  | 0, _ => h
  | d + 1, hd => Rel_sw (Rel_mvD h hp d (by omega)) (by omega) (by omega) (by omega)
/-! the changes themselves -/
theorem C_lp (h : Rel n f g) (ha : Ag g) (sn : Nat) (gp gh : Nat → Int32) (x : Int32) : cQv f x = mLpV sn g gp gh x ∧ Ok (cQw f x) (mLpG sn g gp gh x) := by
  unfold cQv mLpV cQw mLpG
  by_cases c : isC x = 0
  · rw [if_pos c, if_pos c, if_pos (show mIc x = 0 from c), if_pos (show mIc x = 0 from c)]; exact ⟨rfl, n, h, ha⟩
  · rw [if_neg c, if_neg c, if_neg (show ¬ mIc x = 0 from c), if_neg (show ¬ mIc x = 0 from c)]
    have hc := (ic_of c).1
    refine ⟨R_age h hc, n, ?_, fun i hi => ?_⟩
    · have := Rel_hd h (j := 7 + ix x) (by omega) (by omega) (z := nI 0) (fun z => absurd z (by omega)) (fun z => absurd z (by omega)) (fun z => absurd z (by omega))
      rw [hp_a _ hc] at this; exact this
    · by_cases e : i = ix x
      · subst e; rw [pk_us]; exact rng_nI (by decide) (by decide) (by decide)
      · rw [pk_un (by omega)]; exact ha i hi
theorem C_tr (h : Rel n f g) (ha : Ag g) (sn : Nat) (gp gh : Nat → Int32) (x y : Int32) : cUv f x y = mTrV sn g gp gh x y ∧ Ok (cUw f x y) (mTrG sn g gp gh x y) := by
  unfold cUv mTrV cUw mTrG
  by_cases c : isC x = 0
  · rw [if_pos c, if_pos c, if_pos (show mIc x = 0 from c), if_pos (show mIc x = 0 from c)]; exact ⟨rfl, n, h, ha⟩
  · rw [if_neg c, if_neg c, if_neg (show ¬ mIc x = 0 from c), if_neg (show ¬ mIc x = 0 from c)]
    by_cases c2 : isW y (-20) (nI 20) = 0
    · rw [if_pos c2, if_pos c2, if_pos (show mIw y (-20) (nI 20) = 0 from c2), if_pos (show mIw y (-20) (nI 20) = 0 from c2)]; exact ⟨rfl, n, h, ha⟩
    · rw [if_neg c2, if_neg c2, if_neg (show ¬ mIw y (-20) (nI 20) = 0 from c2), if_neg (show ¬ mIw y (-20) (nI 20) = 0 from c2)]
      have hc := (ic_of c).1
      refine ⟨by rw [R_trim h hc], n, ?_, Ag_of ha (fun i hi => pk_un (by omega))⟩
      have := Rel_hd h (j := 10 + ix x) (by omega) (by omega) (z := y) (fun z => absurd z (by omega)) (fun z => absurd z (by omega)) (fun z => absurd z (by omega))
      rw [hp_t _ hc] at this; exact this
theorem C_do (h : Rel n f g) (ha : Ag g) (sn : Nat) (gp gh : Nat → Int32) (x : Int32) : cDv f n x = mToV sn g gp gh n x ∧ Ok (cDw f n x) (mToG sn g gp gh n x) := by
  unfold cDv mToV cDw mToG
  rw [V_is h]
  by_cases c : hasS n x = 0
  · rw [if_pos c, if_pos c, if_pos c]; exact ⟨rfl, n, h, ha⟩
  · rw [if_neg c, if_neg c, if_neg c]
    exact ⟨rfl, n - 1, Rel_cl h _, Ag_of ha (fun i hi => clM_u g n _ _ (by omega) (by omega))⟩
theorem C_li (h : Rel n f g) (ha : Ag g) (x y z : Int32) : cLv f n x y z = mLv g n x y z ∧ Ok (cLw f n x y z) (mLw g n x y z) := by
  unfold cLv mLv cLw mLw
  rw [V_is h]
  by_cases c : hasS n x = 0
  · rw [if_pos c, if_pos c, if_pos c, if_pos c]; exact ⟨rfl, n, h, ha⟩
  · rw [if_neg c, if_neg c, if_neg c, if_neg c]
    by_cases c2 : isC y = 0
    · rw [if_pos c2, if_pos c2, if_pos (show mIc y = 0 from c2), if_pos (show mIc y = 0 from c2)]; exact ⟨rfl, n, h, ha⟩
    · rw [if_neg c2, if_neg c2, if_neg (show ¬ mIc y = 0 from c2), if_neg (show ¬ mIc y = 0 from c2)]
      by_cases c3 : isP z = 0
      · rw [if_pos c3, if_pos c3, if_pos (show mIp z = 0 from c3), if_pos (show mIp z = 0 from c3)]; exact ⟨rfl, n, h, ha⟩
      · rw [if_neg c3, if_neg c3, if_neg (show ¬ mIp z = 0 from c3), if_neg (show ¬ mIp z = 0 from c3)]
        have hc := (ic_of c2).1
        have hp := is_p h c
        refine ⟨S_light (R_sh h hp) hc, n, ?_, Ag_of ha (fun i hi => pk_un (by omega))⟩
        have e := Sh_set (R_sh h hp) (i := 7 + ix y) (by omega) (by omega) z
        rw [pj7 hc] at e
        obtain ⟨a1, a2, a3, a4⟩ := R_iv h hp
        exact Rel_shot h (fun k hk => pk_un (by omega)) (fun k hk => pk_un (by omega)) e ⟨by rw [pk_un (by omega)]; exact a1, by rw [pk_un (by omega)]; exact a2, fun i hi => by rw [pk_un (by omega)]; exact a3 i hi, fun hh i hi => by rw [pk_un (by omega)] at hh ⊢; exact a4 hh i hi⟩
theorem C_wi (h : Rel n f g) (ha : Ag g) (x y z : Int32) : cWv f n x y z = mWv g n x y z ∧ Ok (cWw f n x y z) (mWw g n x y z) := by
  unfold cWv mWv cWw mWw
  rw [V_is h]
  by_cases c : hasS n x = 0
  · rw [if_pos c, if_pos c, if_pos c, if_pos c]; exact ⟨rfl, n, h, ha⟩
  · rw [if_neg c, if_neg c, if_neg c, if_neg c]
    by_cases c2 : isC y = 0
    · rw [if_pos c2, if_pos c2, if_pos (show mIc y = 0 from c2), if_pos (show mIc y = 0 from c2)]; exact ⟨rfl, n, h, ha⟩
    · rw [if_neg c2, if_neg c2, if_neg (show ¬ mIc y = 0 from c2), if_neg (show ¬ mIc y = 0 from c2)]
      by_cases c3 : isW z (-10) (nI 10) = 0
      · rw [if_pos c3, if_pos c3, if_pos (show mIw z (-10) (nI 10) = 0 from c3), if_pos (show mIw z (-10) (nI 10) = 0 from c3)]; exact ⟨rfl, n, h, ha⟩
      · rw [if_neg c3, if_neg c3, if_neg (show ¬ mIw z (-10) (nI 10) = 0 from c3), if_neg (show ¬ mIw z (-10) (nI 10) = 0 from c3)]
        have hc := (ic_of c2).1
        have hp := is_p h c
        refine ⟨by rw [S_wish (R_sh h hp) hc], n, ?_, Ag_of ha (fun i hi => pk_un (by omega))⟩
        have e := Sh_set (R_sh h hp) (i := 4 + ix y) (by omega) (by omega) z
        rw [pj4 hc] at e
        obtain ⟨a1, a2, a3, a4⟩ := R_iv h hp
        refine Rel_shot h (fun k hk => pk_un (by omega)) (fun k hk => pk_un (by omega)) e ⟨by rw [pk_un (by omega)]; exact a1, by rw [pk_un (by omega)]; exact a2, fun i hi => ?_, fun hh i hi => by rw [pk_un (by omega)] at hh ⊢; exact a4 hh i hi⟩
        by_cases e9 : i = ix y
        · subst e9; rw [pk_us]; exact isW_rng c3
        · rw [pk_un (by omega)]; exact a3 i hi
theorem C_mo (h : Rel n f g) (ha : Ag g) (x y : Int32) : cMv f n x y = mMv g n x y ∧ Ok (cMw f n x y) (mMw g n x y) := by
  unfold cMv mMv cMw mMw
  rw [V_is h, V_is h]
  by_cases c : hasS n x = 0
  · rw [if_pos c, if_pos c, if_pos c, if_pos c]; exact ⟨rfl, n, h, ha⟩
  · rw [if_neg c, if_neg c, if_neg c, if_neg c]
    by_cases c2 : hasS n y = 0
    · rw [if_pos c2, if_pos c2, if_pos c2, if_pos c2]; exact ⟨rfl, n, h, ha⟩
    · rw [if_neg c2, if_neg c2, if_neg c2, if_neg c2]
      have hx := is_p h c
      have hy := is_p h c2
      by_cases c3 : ix x ≤ ix y
      · rw [if_pos c3, if_pos c3, show ix x - ix y = 0 by omega, iabs_mAb]
        refine ⟨congrArg mAb (pk_sub c3), n, Rel_mvU h _ (by omega), Ag_of ha (fun i hi => mvU_u g _ _ (by omega) _)⟩
      · rw [if_neg c3, if_neg c3, show ix y - ix x = 0 by omega, iabs_mAb]
        exact ⟨rfl, n, Rel_mvD h hx _ (by omega), Ag_of ha (fun i hi => mvD_u g _ _ (by omega) _)⟩
end
