/-! the history and the slots -/
def bl (h : Nat → Int32) (b : Nat) : Nat → Int32 := fun k => h (b * 293 + k)
def Hist (o z : Nat) (h : Nat → Int32) (sn : Nat) (th : Nat → Int32) : Prop := o < 6 ∧ z ≤ 6 ∧ sn = z ∧ ∀ i : Nat, i < z → Ok (bl h ((o + i) % 6)) (bl th i)
theorem Ok_ext {f g f' g' : Nat → Int32} (h : Ok f g) (hf : ∀ k : Nat, k < 293 → f' k = f k) (hg : ∀ k : Nat, k < 293 → g' k = g k) : Ok f' g' := by
  obtain ⟨n, r, a⟩ := h
  exact ⟨n, Rel_ext r hf hg, Ag_ext a hg⟩
theorem bl_in (f h : Nat → Int32) (b : Nat) {k : Nat} (hk : k < 293) : bl (va_cpy f h 0 (b * 293) 293) b k = f k := by
  unfold bl
  rw [pk_cpy_in (by omega) (by omega)]; exact congrArg f (by omega)
theorem bl_out (f h : Nat → Int32) {b c : Nat} (hc : c ≠ b) {k : Nat} (hk : k < 293) : bl (va_cpy f h 0 (b * 293) 293) c k = bl h c k := by
  unfold bl
  rw [pk_cpy_out (by rcases Nat.lt_or_ge c b with e | e; left; omega; right; omega)]
theorem bl_sh (h : Nat → Int32) {c : Nat} (hc : c < 5) {k : Nat} (hk : k < 293) : bl (shT h 1465) c k = bl h (c + 1) k := by
  unfold bl shT
  rw [if_pos (by omega)]; exact congrArg h (by omega)
theorem Hist_push {o z sn : Nat} {h th f g fb gp : Nat → Int32} (H : Hist o z h sn th) (hO : Ok f g) (hfb : ∀ k : Nat, k < 293 → fb k = f k) (hgp : ∀ k : Nat, k < 293 → gp k = g k) : Hist (hiO o z) (hiZ z) (va_cpy fb h 0 ((o + z) % 6 * 293) 293) (puN sn) (puH sn gp th) := by
  obtain ⟨ho, hz, rfl, hb⟩ := H
  by_cases c : sn = 6
  · subst c
    refine ⟨Nat.mod_lt _ (by decide), by decide, rfl, fun i hi => ?_⟩
    have hi : i < 6 := hi
    show Ok (bl _ (((o + 1) % 6 + i) % 6)) (bl (va_cpy gp (shT th 1465) 0 (5 * 293) 293) i)
    by_cases e : i = 5
    · subst e
      rw [show ((o + 1) % 6 + 5) % 6 = (o + 6) % 6 by omega]
      exact Ok_ext hO (fun k hk => (bl_in fb h _ hk).trans (hfb k hk)) (fun k hk => (bl_in gp _ 5 hk).trans (hgp k hk))
    · refine Ok_ext (hb (i + 1) (by omega)) (fun k hk => ?_) (fun k hk => ?_)
      · rw [bl_out fb h (by omega) hk, show ((o + 1) % 6 + i) % 6 = (o + (i + 1)) % 6 by omega]
      · rw [bl_out gp _ (by omega) hk, bl_sh th (by omega) hk]
  · have hlt : sn < 6 := by omega
    rw [hiO, if_pos hlt, hiZ, if_pos hlt, puN, if_neg c, puH, if_neg c]
    refine ⟨ho, by omega, rfl, fun i hi => ?_⟩
    by_cases e : i = sn
    · subst e
      exact Ok_ext hO (fun k hk => (bl_in fb h _ hk).trans (hfb k hk)) (fun k hk => (bl_in gp _ _ hk).trans (hgp k hk))
    · exact Ok_ext (hb i (by omega)) (fun k hk => bl_out fb h (by omega) hk) (fun k hk => bl_out gp _ (by omega) hk)
theorem Hist_rec {o z sn : Nat} {h th f g fb gp : Nat → Int32} {v : Int32} (H : Hist o z h sn th) (hO : Ok f g) (hfb : ∀ k : Nat, k < 293 → fb k = f k) (hgp : ∀ k : Nat, k < 293 → gp k = g k) : Hist (recO v o z) (recZ v z) (recH v fb h o z) (rcN v sn) (rcH v sn gp th) := by
  unfold recO recZ recH rcN rcH
  by_cases c : v < 0
  · rw [if_pos c, if_pos c, if_pos c, if_pos c, if_pos c]; exact H
  · rw [if_neg c, if_neg c, if_neg c, if_neg c, if_neg c]; exact Hist_push H hO hfb hgp
/-- a change that both do -/
theorem Hist_ch {o z sn : Nat} {h th f g : Nat → Int32} (fb gp : Nat → Int32) {v : Int32} (H : Hist o z h sn th) (hO : Ok f g) : Hist (recO v o z) (recZ v z) (recH v (cp293 f fb) h o z) (rcN v sn) (rcH v sn (va_cpy g gp 0 0 293) th) := Hist_rec H hO (fun k hk => cpy_in f fb hk) (fun k hk => cpy_in g gp hk)
theorem cpy_bl (h f : Nat → Int32) (b : Nat) {k : Nat} (hk : k < 293) : va_cpy h f (b * 293) 0 293 k = bl h b k := by
  unfold bl
  rw [pk_cpy_in (by omega) (by omega)]; exact congrArg h (by omega)
theorem C_un {o z sn : Nat} {h th f g : Nat → Int32} (H : Hist o z h sn th) (hO : Ok f g) : unV z = mUnV sn ∧ Ok (unF f h o z) (mUnG sn g th) ∧ Hist o (z - 1) h (sn - 1) th := by
  obtain ⟨ho, hz, rfl, hb⟩ := H
  unfold unV mUnV unF mUnG
  by_cases c : sn = 0
  · rw [if_pos c, if_pos c, if_pos c]
    exact ⟨rfl, hO, ho, by omega, rfl, fun i hi => hb i (by omega)⟩
  · rw [if_neg c, if_neg c, if_neg c]
    exact ⟨rfl, Ok_ext (hb (sn - 1) (by omega)) (fun k hk => cpy_bl h f _ hk) (fun k hk => cpy_bl th g _ hk), ho, by omega, rfl, fun i hi => hb i (by omega)⟩
abbrev sbit (i : Nat) : Int32 := nI 1 <<< (nI i &&& 31)
def Slots (sf : Int32) (sl gs gv : Nat → Int32) : Prop := (∃ s : Nat, s < 4 ∧ sf = nI s) ∧ ∀ i : Nat, i < 2 → (sf &&& sbit i = 0 ↔ gv i = 0) ∧ (¬ gv i = 0 → Ok (bl sl i) (bl gs i))
theorem sbit_or : ∀ s, s < 4 → ∀ i, i < 2 → (nI s ||| sbit i = nI (s ||| 2 ^ i)) ∧ s ||| 2 ^ i < 4 := by decide +kernel
theorem sbit_t : ∀ s, s < 4 → ∀ i, i < 2 → ∀ j, j < 2 → ((nI s ||| sbit i) &&& sbit j = 0 ↔ (j ≠ i ∧ nI s &&& sbit j = 0)) := by decide +kernel
theorem is_l {x : Int32} (c : ¬ isSl x = 0) : ix x < 2 := by
  obtain ⟨i, hi, rfl⟩ := isW_of (n := 1) (by omega) c
  rw [ix_nI (by omega)]; exact hi
section
variable {n : Nat} {f g : Nat → Int32}
theorem C_sv {sf : Int32} {sl gs gv : Nat → Int32} (S : Slots sf sl gs gv) (h : Rel n f g) (ha : Ag g) (x : Int32) : saV f sl sf n x = mSvV n gs gv g x ∧ Slots (saF f sl sf n x) (saW f sl sf n x) (mSvS n gs gv g x) (mSvF n gs gv g x) := by
  unfold saV mSvV saF saW mSvS mSvF
  by_cases c : isSl x = 0
  · simp only [if_pos c, if_pos (show mIl x = 0 from c)]; exact ⟨trivial, S⟩
  simp only [if_neg c, if_neg (show ¬ mIl x = 0 from c)]
  refine ⟨trivial, ?_⟩
  have hi := is_l c
  generalize ix x = i at hi ⊢
  obtain ⟨⟨s, hs, rfl⟩, hb⟩ := S
  obtain ⟨e1, e2⟩ := sbit_or s hs i hi
  refine ⟨⟨_, e2, e1⟩, fun j hj => ?_⟩
  by_cases e : j = i
  · subst e
    rw [pk_us]
    refine ⟨⟨fun z => absurd rfl ((sbit_t s hs j hj j hj).mp z).1, fun z => absurd z (by decide)⟩, fun _ => ?_⟩
    exact Ok_ext ⟨n, h, ha⟩ (fun k hk => bl_in f sl j hk) (fun k hk => bl_in g gs j hk)
  · rw [pk_un e]
    refine ⟨⟨fun z => (hb j hj).1.mp ((sbit_t s hs i hi j hj).mp z).2, fun z => (sbit_t s hs i hi j hj).mpr ⟨e, (hb j hj).1.mpr z⟩⟩, fun z => ?_⟩
    exact Ok_ext ((hb j hj).2 z) (fun k hk => bl_out f sl e hk) (fun k hk => bl_out g gs e hk)
theorem C_re {o z sn : Nat} {h9 th : Nat → Int32} {sf : Int32} {sl gs gv : Nat → Int32} (fb gp : Nat → Int32) (H : Hist o z h9 sn th) (S : Slots sf sl gs gv) (h : Rel n f g) (ha : Ag g) (x : Int32) :
    reV f fb sl sf h9 o z x = mReV sn g gp th gs gv x ∧ Ok (reF f fb sl sf h9 o z x) (mReG sn g gp th gs gv x) ∧ Hist (reO f fb sl sf h9 o z x) (reZ f fb sl sf h9 o z x) (reH f fb sl sf h9 o z x) (mReN sn g gp th gs gv x) (mReH sn g gp th gs gv x) := by
  have hO : Ok f g := ⟨n, h, ha⟩
  unfold reV mReV reF mReG reO reZ reH mReN mReH
  by_cases c : isSl x = 0
  · simp only [if_pos c, if_pos (show mIl x = 0 from c)]; exact ⟨trivial, hO, H⟩
  simp only [if_neg c, if_neg (show ¬ mIl x = 0 from c)]
  have hi := is_l c
  generalize ix x = i at hi ⊢
  obtain ⟨_, hb⟩ := S
  obtain ⟨b1, b2⟩ := hb i hi
  by_cases c2 : gv i = 0
  · simp only [if_pos c2, if_pos (b1.mpr c2)]; exact ⟨trivial, hO, H⟩
  simp only [if_neg c2, if_neg (fun q => c2 (b1.mp q))]
  have hN : Ok (va_cpy sl f (i * 293) 0 293) (va_cpy gs g (i * 293) 0 293) := Ok_ext (b2 c2) (fun k hk => cpy_bl sl f _ hk) (fun k hk => cpy_bl gs g _ hk)
  obtain ⟨m, r, a⟩ := hN
  have hm := R_n r
  rw [R_12 r, R_4 r]
  refine ⟨rfl, ⟨m, r, a⟩, ?_⟩
  have q : ¬ nI m < 0 := nI_pos (by omega)
  unfold recO recZ recH
  rw [if_neg q, if_neg q, if_neg q]
  exact Hist_push H hO (fun k hk => cpy_in f fb hk) (fun k hk => cpy_in g gp hk)
end
