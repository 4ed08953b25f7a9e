/-! what makes shots: shot, split, join; the settings -/
section
variable {n : Nat} {f g f' g' : Nat → Int32}
theorem C_sh (h : Rel n f g) (ha : Ag g) (x ft re gr bl : Int32) : cAv f n x ft re gr bl = mAv g n x ft re gr bl ∧ Ok (cAw f n x ft re gr bl) (mAw g n x ft re gr bl) := by
  have hn := R_n h
  unfold cAv mAv cAw mAw
  by_cases c1 : isW x (nI 0) (nI n) = 0
  · simp only [if_pos c1, if_pos (show mIw x (nI 0) (nI n) = 0 from c1)]; exact ⟨trivial, n, h, ha⟩
  simp only [if_neg c1, if_neg (show ¬ mIw x (nI 0) (nI n) = 0 from c1)]
  by_cases c2 : isW ft (nI 1) (nI 99) = 0
  · simp only [if_pos c2, if_pos (show mIw ft (nI 1) (nI 99) = 0 from c2)]; exact ⟨trivial, n, h, ha⟩
  simp only [if_neg c2, if_neg (show ¬ mIw ft (nI 1) (nI 99) = 0 from c2)]
  by_cases c3 : isP re = 0
  · simp only [if_pos c3, if_pos (show mIp re = 0 from c3)]; exact ⟨trivial, n, h, ha⟩
  simp only [if_neg c3, if_neg (show ¬ mIp re = 0 from c3)]
  by_cases c4 : isP gr = 0
  · simp only [if_pos c4, if_pos (show mIp gr = 0 from c4)]; exact ⟨trivial, n, h, ha⟩
  simp only [if_neg c4, if_neg (show ¬ mIp gr = 0 from c4)]
  by_cases c5 : isP bl = 0
  · simp only [if_pos c5, if_pos (show mIp bl = 0 from c5)]; exact ⟨trivial, n, h, ha⟩
  simp only [if_neg c5, if_neg (show ¬ mIp bl = 0 from c5)]
  by_cases c6 : n = 20
  · simp only [if_pos c6, if_neg (show ¬ n < 20 by omega)]; exact ⟨trivial, n, h, ha⟩
  simp only [if_neg c6, if_pos (show n < 20 by omega)]
  refine ⟨trivial, n + 1, ?_, ?_⟩
  · obtain ⟨p, hp, rfl⟩ := isW_of (n := n) (by omega) c1
    rw [ix_nI (by omega)]
    have hft := isW_rng c2
    have e1 : (nI 1).toInt = 1 := by decide
    have e99 : (nI 99).toInt = 99 := by decide
    rw [e1, e99] at hft
    refine Rel_build h (by omega) ?_ ?_ (fun k hk => ?_) (fun k hk h4 => ?_) (fun q hq => ?_)
    · rw [mTa_f _ _ (by omega)]
      repeat rw [pk_un (by omega)]
      exact pk_us
    · repeat rw [pk_un (by omega)]
      exact pk_us
    · repeat rw [pk_un (by omega)]
      exact op_f hk
    · rw [mTa_f _ _ (by omega)]
      repeat rw [pk_un (by omega)]
      exact opM_u g n p k hk h4
    · by_cases e : q = p
      · subst e
        constructor
        · intro j hj hh
          have h11 : j < 11 := by
            rcases Nat.lt_or_ge j 11 with z | z
            · exact z
            · exact absurd ((mTa_has _ q).trans nI_0) (hh z)
          rcases (by omega : j = 0 ∨ j = 1 ∨ j = 2 ∨ j = 3 ∨ j = 4 ∨ j = 5 ∨ j = 6 ∨ j = 7 ∨ j = 8 ∨ j = 9 ∨ j = 10) with e | e | e | e | e | e | e | e | e | e | e <;> subst e
          all_goals first | rw [mTa_f _ _ (by omega)] | rw [mTa_has]
          all_goals simp only [pj]
          all_goals simp [upd]
        · refine ⟨Or.inl (mTa_has _ q), ?_, fun c hc => ?_, fun hh => absurd ((mTa_has _ q).trans nI_0) hh⟩
          · rw [mTa_f _ _ (by omega)]
            repeat rw [pk_un (by omega)]
            rw [pk_us]; exact hft
          · rw [mTa_f _ _ (by omega)]
            rcases (by omega : c = 0 ∨ c = 1 ∨ c = 2) with e | e | e <;> subst e
            all_goals simp [upd]
            all_goals exact rng_nI (by decide) (by decide) (by decide)
      · obtain ⟨a1, a2⟩ := op_sh h (p := p) (q := q) (by omega) hq (by omega)
        have a : ∀ j : Nat, j < 14 → mTa (upd (upd (upd (upd (upd (upd (upd (upd (upd (upd (opM g n p) (13 + 14 * p + 0) ft) (13 + 14 * p + 1) re) (13 + 14 * p + 2) gr) (13 + 14 * p + 3) bl) (13 + 14 * p + 4) (nI 0)) (13 + 14 * p + 7) (nI 25)) (13 + 14 * p + 5) (nI 0)) (13 + 14 * p + 8) (nI 25)) (13 + 14 * p + 6) (nI 0)) (13 + 14 * p + 9) (nI 25)) p (13 + 14 * q + j) = opM g n p (13 + 14 * q + j) := by
          intro j hj
          rw [mTa_f _ _ (by omega)]
          repeat rw [pk_un (by omega)]
        refine ⟨Sh_mv (fun j hj => ?_) a a1, Iv_mv a a2⟩
        repeat rw [pk_un (by omega)]
  · refine Ag_of ha (fun i hi => ?_)
    rw [mTa_f _ _ (by omega)]
    repeat rw [pk_un (by omega)]
    exact opM_u g n _ _ (by omega) (by omega)
theorem sub_pos {x z : Int32} {a b c d : Int} (hx : rng a b x) (hz : rng c d z) (h1 : -1000 ≤ a) (h2 : b ≤ 1000) (h3 : -1000 ≤ c) (h4 : d ≤ 1000) : (0 < x - z ↔ z < x) ∧ (x - z).toInt = x.toInt - z.toInt := by
  obtain ⟨x1, x2⟩ := hx
  obtain ⟨z1, z2⟩ := hz
  have e : (x - z).toInt = x.toInt - z.toInt := toInt_sub (by omega) (by omega)
  refine ⟨?_, e⟩
  rw [i32_lt, i32_lt, e, i32_z]
  omega
theorem C_sp (h : Rel n f g) (ha : Ag g) (x z : Int32) : cPv f n x z = mPv g n x z ∧ Ok (cPw f n x z) (mPw g n x z) := by
  have hn := R_n h
  unfold cPv mPv cPw mPw
  rw [V_is h]
  by_cases c : hasS n x = 0
  · simp only [if_pos c]; exact ⟨trivial, n, h, ha⟩
  simp only [if_neg c]
  by_cases c2 : isW z (nI 1) (nI 98) = 0
  · simp only [if_pos c2, if_pos (show mIw z (nI 1) (nI 98) = 0 from c2)]; exact ⟨trivial, n, h, ha⟩
  simp only [if_neg c2, if_neg (show ¬ mIw z (nI 1) (nI 98) = 0 from c2)]
  have hp := is_p h c
  rw [S_feet (R_sh h hp)]
  generalize ix x = p at hp ⊢
  have hz := isW_rng c2
  have e1 : (nI 1).toInt = 1 := by decide
  have e98 : (nI 98).toInt = 98 := by decide
  rw [e1, e98] at hz
  obtain ⟨k1, k2⟩ := sub_pos (R_iv h hp).2.1 hz (by decide) (by decide) (by decide) (by decide)
  by_cases c3 : z < g (13 + 14 * p + 0)
  · simp only [if_pos c3, if_pos (k1.mpr c3)]
    by_cases c6 : n = 20
    · simp only [if_pos c6, if_neg (show ¬ n < 20 by omega)]; exact ⟨trivial, n, h, ha⟩
    simp only [if_neg c6, if_pos (show n < 20 by omega)]
    have hfo : opM g n p (13 + 14 * p + 0) = g (13 + 14 * p + 0) := (pk_un (by omega)).trans (opN_lo g (Nat.le_refl p) (by omega))
    rw [hfo]
    refine ⟨trivial, n + 1, ?_, Ag_of ha (fun i hi => ?_)⟩
    · have hd : rng 1 99 (g (13 + 14 * p + 0) - z) := by
        have q := (R_iv h hp).2.1
        unfold rng at q hz ⊢
        rw [i32_lt] at c3
        rw [k2]; omega
      refine Rel_build h (by omega) ?_ ?_ (fun k hk => ?_) (fun k hk h4 => ?_) (fun q hq => ?_)
      · rw [mTa_f _ _ (by omega), mTa_f _ _ (by omega), pk_un (by omega), pk_un (by omega)]; exact pk_us
      · rw [pk_un (by omega), pk_un (by omega), pk_un (by omega), pk_un (by omega)]; exact pk_us
      · rw [pk_un (by omega), pk_un (by omega), pk_un (by omega), pk_un (by omega)]; exact op_f hk
      · rw [mTa_f _ _ (by omega), mTa_f _ _ (by omega), pk_un (by omega), pk_un (by omega)]; exact opM_u g n p k hk h4
      · obtain ⟨a1, a2⟩ := op_sh h (p := p) (q := q) (by omega) hq (by omega)
        obtain ⟨b1, b2, b3, b4⟩ := a2
        by_cases e : q = p
        · subst e
          have s1 := Sh_off (Sh_set a1 (i := 0) (by decide) (by decide) z)
          have i1 : Iv (upd (opM g n q) (13 + 14 * q + 0) z) q := ⟨by rw [pk_un (by omega)]; exact b1, by rw [pk_us]; exact rng_mono hz (by decide) (by decide), fun i hi => by rw [pk_un (by omega)]; exact b3 i hi, fun hh i hi => by rw [pk_un (by omega)] at hh ⊢; exact b4 hh i hi⟩
          have a : ∀ j : Nat, j < 14 → mTa (mTa (upd (upd (opM g n q) (13 + 14 * (q + 1) + 0) (g (13 + 14 * q + 0) - z)) (13 + 14 * q + 0) z) q) (q + 1) (13 + 14 * q + j) = mTa (upd (opM g n q) (13 + 14 * q + 0) z) q (13 + 14 * q + j) := by
            intro j hj
            rw [mTa_f _ _ (by omega)]
            simp only [mTa, upd]
            (repeat' split) <;> first | rfl | omega
          refine ⟨Sh_mv (fun j hj => ?_) a s1, Iv_mv a (Iv_off i1)⟩
          simp only [upd, show pj 0 = 0 from rfl]
          (repeat' split) <;> first | rfl | omega
        · by_cases e2 : q = p + 1
          · subst e2
            have s1 := Sh_off (Sh_set a1 (i := 0) (by decide) (by decide) (g (13 + 14 * p + 0) - z))
            have i1 : Iv (upd (opM g n p) (13 + 14 * (p + 1) + 0) (g (13 + 14 * p + 0) - z)) (p + 1) := ⟨by rw [pk_un (by omega)]; exact b1, by rw [pk_us]; exact hd, fun i hi => by rw [pk_un (by omega)]; exact b3 i hi, fun hh i hi => by rw [pk_un (by omega)] at hh ⊢; exact b4 hh i hi⟩
            have a : ∀ j : Nat, j < 14 → mTa (mTa (upd (upd (opM g n p) (13 + 14 * (p + 1) + 0) (g (13 + 14 * p + 0) - z)) (13 + 14 * p + 0) z) p) (p + 1) (13 + 14 * (p + 1) + j) = mTa (upd (opM g n p) (13 + 14 * (p + 1) + 0) (g (13 + 14 * p + 0) - z)) (p + 1) (13 + 14 * (p + 1) + j) := by
              intro j hj
              simp only [mTa, upd]
              (repeat' split) <;> first | rfl | omega
            refine ⟨Sh_mv (fun j hj => ?_) a s1, Iv_mv a (Iv_off i1)⟩
            simp only [upd, show pj 0 = 0 from rfl]
            (repeat' split) <;> first | rfl | omega
          · have a : ∀ j : Nat, j < 14 → mTa (mTa (upd (upd (opM g n p) (13 + 14 * (p + 1) + 0) (g (13 + 14 * p + 0) - z)) (13 + 14 * p + 0) z) p) (p + 1) (13 + 14 * q + j) = opM g n p (13 + 14 * q + j) := by
              intro j hj
              rw [mTa_f _ _ (by omega), mTa_f _ _ (by omega), pk_un (by omega), pk_un (by omega)]
            refine ⟨Sh_mv (fun j hj => ?_) a a1, Iv_mv a ⟨b1, b2, b3, b4⟩⟩
            rw [pk_un (by omega), pk_un (by omega), pk_un (by omega), pk_un (by omega)]
    · rw [mTa_f _ _ (by omega), mTa_f _ _ (by omega), pk_un (by omega), pk_un (by omega)]
      exact opM_u g n _ _ (by omega) (by omega)
  · simp only [if_neg c3, if_neg (fun q => c3 (k1.mp q))]; exact ⟨trivial, n, h, ha⟩
theorem V_al (h : Rel n f g) {p : Nat} (hp : p + 1 < n) : cSs f p (p + 1) = mAl g p := by
  unfold cSs mAl
  have a0 := S_dens (R_sh h (p := p) (by omega)) (c := 0) (by decide)
  have a1 := S_dens (R_sh h (p := p) (by omega)) (c := 1) (by decide)
  have a2 := S_dens (R_sh h (p := p) (by omega)) (c := 2) (by decide)
  have b0 := S_dens (R_sh h hp) (c := 0) (by decide)
  have b1 := S_dens (R_sh h hp) (c := 1) (by decide)
  have b2 := S_dens (R_sh h hp) (c := 2) (by decide)
  rw [show f (13 + 14 * p + 2) = g (13 + 14 * p + 1) from a0, show f (13 + 14 * p + 3) = g (13 + 14 * p + 2) from a1, show f (13 + 14 * p + 4) = g (13 + 14 * p + 3) from a2,
    show f (13 + 14 * (p + 1) + 2) = g (13 + 14 * (p + 1) + 1) from b0, show f (13 + 14 * (p + 1) + 3) = g (13 + 14 * (p + 1) + 2) from b1, show f (13 + 14 * (p + 1) + 4) = g (13 + 14 * (p + 1) + 3) from b2]
theorem C_jo (h : Rel n f g) (ha : Ag g) (x : Int32) : cJv f n x = mJv g n x ∧ Ok (cJw f n x) (mJw g n x) := by
  have hn := R_n h
  unfold cJv mJv cJw mJw
  rw [V_is h, V_is h]
  by_cases c : hasS n x = 0
  · simp only [if_pos c]; exact ⟨trivial, n, h, ha⟩
  simp only [if_neg c]
  have hp := is_p h c
  generalize ix x = p at hp ⊢
  by_cases c2 : hasS n (nI (p + 1)) = 0
  · simp only [if_pos c2]; exact ⟨trivial, n, h, ha⟩
  simp only [if_neg c2]
  have hp1 : p + 1 < n := hasS_lt (by omega) (by omega) c2
  rw [S_feet (R_sh h hp), S_feet (R_sh h hp1), V_al h hp1]
  by_cases c3 : nI 99 < g (13 + 14 * p + 0) + g (13 + 14 * (p + 1) + 0)
  · simp only [if_pos c3]; exact ⟨trivial, n, h, ha⟩
  simp only [if_neg c3]
  by_cases c4 : mAl g p = 0
  · simp only [if_pos c4]; exact ⟨trivial, n, h, ha⟩
  simp only [if_neg c4]
  refine ⟨trivial, n - 1, ?_, Ag_of ha (fun i hi => ?_)⟩
  · have hr := Rel_cl h (p + 1)
    have hs : rng 1 99 (g (13 + 14 * p + 0) + g (13 + 14 * (p + 1) + 0)) := by
      obtain ⟨x1, x2⟩ := (R_iv h hp).2.1
      obtain ⟨y1, y2⟩ := (R_iv h hp1).2.1
      have e : (g (13 + 14 * p + 0) + g (13 + 14 * (p + 1) + 0)).toInt = (g (13 + 14 * p + 0)).toInt + (g (13 + 14 * (p + 1) + 0)).toInt := toInt_add (by omega) (by omega)
      have e99 : (nI 99).toInt = 99 := by decide
      unfold rng
      rw [i32_lt, e, e99] at c3
      rw [e]; omega
    obtain ⟨b1, b2, b3, b4⟩ := R_iv hr (p := p) (by omega)
    have s1 := Sh_off (Sh_set (R_sh hr (p := p) (by omega)) (i := 0) (by decide) (by decide) (g (13 + 14 * p + 0) + g (13 + 14 * (p + 1) + 0)))
    have i1 : Iv (upd (clM g n (p + 1)) (13 + 14 * p + 0) (g (13 + 14 * p + 0) + g (13 + 14 * (p + 1) + 0))) p := ⟨by rw [pk_un (by omega)]; exact b1, by rw [pk_us]; exact hs, fun i hi => by rw [pk_un (by omega)]; exact b3 i hi, fun hh i hi => by rw [pk_un (by omega)] at hh ⊢; exact b4 hh i hi⟩
    exact Rel_shot hr (fun k hk => by rw [pk_un (by omega), pk_un (by omega)]) (fun k hk => by rw [mTa_f _ _ (by omega), pk_un (by omega)]) s1 (Iv_off i1)
  · rw [mTa_f _ _ (by omega), pk_un (by omega)]
    exact clM_u g n _ _ (by omega) (by omega)
theorem C_se (h : Rel n f g) (ha : Ag g) (sn : Nat) (gp gh : Nat → Int32) (x z : Int32) : cSv f x z = mSeV sn g gp gh x z ∧ Ok (cSw f x z) (mSeG sn g gp gh x z) := by
  unfold cSv mSeV cSw mSeG
  by_cases c : isW x (nI 0) (nI 3) = 0
  · simp only [if_pos c, if_pos (show mIw x (nI 0) (nI 3) = 0 from c)]; exact ⟨trivial, n, h, ha⟩
  simp only [if_neg c, if_neg (show ¬ mIw x (nI 0) (nI 3) = 0 from c)]
  obtain ⟨i, hi, rfl⟩ := isW_of (n := 3) (by omega) c
  rw [ix_nI (by omega), Nat.zero_add]
  have fin : ∀ lo hi9 : Int32, (([1, 0, 1, 0] : List Int32).getD i 0) = lo → (([5, 9, 40, 50] : List Int32).getD i 0) = hi9 → (i = 0 → rng lo.toInt hi9.toInt z → rng 1 5 z) → (i = 1 → rng lo.toInt hi9.toInt z → rng 0 9 z) → (i = 2 → rng lo.toInt hi9.toInt z → rng 0 40 z) →
      ((if isW z (([1, 0, 1, 0] : List Int32).getD i 0) (([5, 9, 40, 50] : List Int32).getD i 0) = 0 then (-2 : Int32) else f i) = (if mIw z lo hi9 = 0 then -2 else g i) ∧ Ok (if isW z (([1, 0, 1, 0] : List Int32).getD i 0) (([5, 9, 40, 50] : List Int32).getD i 0) = 0 then f else upd f i z) (if mIw z lo hi9 = 0 then g else upd g i z)) := by
    intro lo hi9 e1 e2 k0 k1 k2
    rw [e1, e2]
    by_cases c2 : isW z lo hi9 = 0
    · simp only [if_pos c2, if_pos (show mIw z lo hi9 = 0 from c2)]; exact ⟨trivial, n, h, ha⟩
    simp only [if_neg c2, if_neg (show ¬ mIw z lo hi9 = 0 from c2)]
    have hr := isW_rng c2
    refine ⟨R_set h (by omega), n, ?_, Ag_of ha (fun q hq => pk_un (by omega))⟩
    have := Rel_hd h (j := i) (by omega) (by omega) (z := z) (fun e => k0 e hr) (fun e => k1 e hr) (fun e => k2 e hr)
    rw [hp_s i (by omega)] at this; exact this
  rcases (by omega : i = 0 ∨ i = 1 ∨ i = 2 ∨ i = 3) with e | e | e | e <;> subst e
  · simp only [if_pos nI_0]
    exact fin (nI 1) (nI 5) (by decide) (by decide) (fun _ q => rng_mono q (by decide) (by decide)) (fun e => absurd e (by decide)) (fun e => absurd e (by decide))
  · simp only [if_neg (show ¬ nI 1 = 0 by decide), if_neg (show ¬ nI 1 = nI 2 by decide)]
    exact fin (nI 0) (nI 9) (by decide) (by decide) (fun e => absurd e (by decide)) (fun _ q => rng_mono q (by decide) (by decide)) (fun e => absurd e (by decide))
  · simp only [if_neg (show ¬ nI 2 = 0 by decide), if_pos (show nI 2 = nI 2 from rfl)]
    exact fin (nI 1) (nI 40) (by decide) (by decide) (fun e => absurd e (by decide)) (fun e => absurd e (by decide)) (fun _ q => rng_mono q (by decide) (by decide))
  · simp only [if_neg (show ¬ nI 3 = 0 by decide), if_neg (show ¬ nI 3 = nI 2 by decide)]
    exact fin (nI 0) (nI 50) (by decide) (by decide) (fun e => absurd e (by decide)) (fun e => absurd e (by decide)) (fun e => absurd e (by decide))
end
