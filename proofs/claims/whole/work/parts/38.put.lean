/-! ===== lN n to 2^64: shifts, and, or, masks, one bit ===== -/
theorem wb_tb (n : Nat) : (lN n).toBitVec = BitVec.ofNat 64 n := rfl
theorem wb_inj {a b : Int64} (h : a.toBitVec = b.toBitVec) : a = b := Int64.toBitVec_inj.mp h
theorem wb_tn {n : Nat} (h : n < 2 ^ 64) : (lN n).toBitVec.toNat = n := by rw [wb_tb, BitVec.toNat_ofNat, Nat.mod_eq_of_lt h]
theorem wb_of (x : Int64) : ∃ n, n < 2 ^ 64 ∧ x = lN n := ⟨x.toBitVec.toNat, x.toBitVec.isLt, wb_inj (by rw [wb_tb]; simp)⟩
theorem wb_of32 (x : Int32) : ∃ n, n < 2 ^ 32 ∧ x = nI n := ⟨x.toBitVec.toNat, x.toBitVec.isLt, Int32.toBitVec_inj.mp (by show _ = BitVec.ofNat 32 _; simp)⟩
theorem wb_c : ∀ k, k < 64 → ((nI k).toInt64 &&& 63) = lN k := by decide +kernel
theorem wb_cu : ∀ k, k < 64 → ((nI k).toInt64.toUInt64 &&& Int64.toUInt64 63) = UInt64.ofNat k := by decide +kernel
theorem wb_sm : ∀ k, k < 64 → (BitVec.ofNat 64 k).smod 64 = BitVec.ofNat 64 k := by decide +kernel
theorem wb_pw {a b : Nat} (h : a ≤ b) : 2 ^ b = 2 ^ a * 2 ^ (b - a) := by rw [← Nat.pow_add]; congr 1; omega
theorem wb_lt2 {a b : Nat} (h : a < b) : 2 ^ a < 2 ^ b := Nat.pow_lt_pow_right (by decide) h
theorem wb_mod (n : Nat) : lN n = lN (n % 2 ^ 64) := wb_inj (by rw [wb_tb, wb_tb]; apply BitVec.eq_of_toNat_eq; rw [BitVec.toNat_ofNat, BitVec.toNat_ofNat, Nat.mod_mod])
theorem wb_shr {n k : Nat} (hn : n < 2 ^ 64) (hk : k < 64) : ((lN n).toUInt64 >>> ((nI k).toInt64.toUInt64 &&& Int64.toUInt64 63)).toInt64 = lN (n / 2 ^ k) := by
  rw [wb_cu k hk]
  apply wb_inj
  apply BitVec.eq_of_toNat_eq
  show ((lN n).toUInt64 >>> UInt64.ofNat k).toNat = (BitVec.ofNat 64 _).toNat
  have h1 : (UInt64.ofNat k).toNat = k := by
    show (BitVec.ofNat 64 k).toNat = k
    rw [BitVec.toNat_ofNat, Nat.mod_eq_of_lt (by omega)]
  have h2 : (lN n).toUInt64.toNat = n := wb_tn hn
  rw [UInt64.toNat_shiftRight, h1, h2, Nat.mod_eq_of_lt hk, Nat.shiftRight_eq_div_pow, BitVec.toNat_ofNat, Nat.mod_eq_of_lt (Nat.lt_of_le_of_lt (Nat.div_le_self _ _) hn)]
theorem wb_shl (n : Nat) {k : Nat} (hk : k < 64) : lN n <<< ((nI k).toInt64 &&& 63) = lN (n * 2 ^ k) := by
  rw [wb_c k hk]
  apply wb_inj
  rw [Int64.toBitVec_shiftLeft, wb_tb, wb_tb, wb_tb, wb_sm k hk]
  apply BitVec.eq_of_toNat_eq
  rw [BitVec.shiftLeft_eq', BitVec.toNat_shiftLeft, BitVec.toNat_ofNat, BitVec.toNat_ofNat, BitVec.toNat_ofNat, Nat.mod_eq_of_lt (show k < 2 ^ 64 by omega), Nat.shiftLeft_eq, Nat.mul_mod, Nat.mod_mod, ← Nat.mul_mod]
theorem wb_and {a b : Nat} (ha : a < 2 ^ 64) (hb : b < 2 ^ 64) : lN a &&& lN b = lN (a &&& b) := by
  apply wb_inj
  rw [Int64.toBitVec_and, wb_tb, wb_tb, wb_tb]
  apply BitVec.eq_of_toNat_eq
  rw [BitVec.toNat_and, BitVec.toNat_ofNat, BitVec.toNat_ofNat, BitVec.toNat_ofNat, Nat.mod_eq_of_lt ha, Nat.mod_eq_of_lt hb, Nat.mod_eq_of_lt (Nat.and_lt_two_pow _ hb)]
theorem wb_or {a b : Nat} (ha : a < 2 ^ 64) (hb : b < 2 ^ 64) : lN a ||| lN b = lN (a ||| b) := by
  apply wb_inj
  rw [Int64.toBitVec_or, wb_tb, wb_tb, wb_tb]
  apply BitVec.eq_of_toNat_eq
  rw [BitVec.toNat_or, BitVec.toNat_ofNat, BitVec.toNat_ofNat, BitVec.toNat_ofNat, Nat.mod_eq_of_lt ha, Nat.mod_eq_of_lt hb, Nat.mod_eq_of_lt (Nat.or_lt_two_pow ha hb)]
theorem wb_mask {n k : Nat} (hn : n < 2 ^ 64) (hk : k < 64) : lN n &&& lN (2 ^ k - 1) = lN (n % 2 ^ k) := by
  rw [wb_and hn (by have := wb_lt2 hk; omega), Nat.and_two_pow_sub_one_eq_mod]
theorem wb_a1 {n : Nat} (hn : n < 2 ^ 64) : lN n &&& 1 = lN (n % 2) := wb_mask (k := 1) hn (by decide)
theorem wb_bit {n k : Nat} (hn : n < 2 ^ 64) (hk : k < 64) : ((lN n).toUInt64 >>> ((nI k).toInt64.toUInt64 &&& Int64.toUInt64 63)).toInt64 &&& 1 = lN (n / 2 ^ k % 2) := by
  rw [wb_shr hn hk, wb_a1 (Nat.lt_of_le_of_lt (Nat.div_le_self _ _) hn)]
/-! put() -/
theorem wb_sar {n k : Nat} (hk : k + 8 ≤ 64) : (lN n >>> ((nI k).toInt64 &&& 63)) &&& 255 = ((lN n).toUInt64 >>> ((nI k).toInt64.toUInt64 &&& Int64.toUInt64 63)).toInt64 &&& 255 := by
  rw [wb_c k (by omega), wb_cu k (by omega)]
  apply wb_inj
  rw [Int64.toBitVec_and, Int64.toBitVec_and]
  apply BitVec.eq_of_getLsbD_eq
  intro i hi
  rw [BitVec.getLsbD_and, BitVec.getLsbD_and]
  have h255 : (255 : Int64).toBitVec = BitVec.ofNat 64 255 := rfl
  by_cases c : i < 8
  · congr 1
    rw [Int64.toBitVec_shiftRight, wb_tb k, wb_sm k (by omega), BitVec.sshiftRight_eq', BitVec.toNat_ofNat, Nat.mod_eq_of_lt (by omega), BitVec.getLsbD_sshiftRight]
    have e : ((lN n).toUInt64 >>> UInt64.ofNat k).toInt64.toBitVec = (lN n).toBitVec >>> k := by
      apply BitVec.eq_of_toNat_eq
      show ((lN n).toUInt64 >>> UInt64.ofNat k).toNat = _
      have h1 : (UInt64.ofNat k).toNat = k := by
        show (BitVec.ofNat 64 k).toNat = k
        rw [BitVec.toNat_ofNat, Nat.mod_eq_of_lt (by omega)]
      rw [UInt64.toNat_shiftRight, h1, Nat.mod_eq_of_lt (by omega), BitVec.toNat_ushiftRight]; rfl
    rw [e, BitVec.getLsbD_ushiftRight]
    simp only [show ¬ 64 ≤ i by omega, decide_false, Bool.not_false, Bool.true_and, if_pos (show k + i < 64 by omega)]
  · have : (255 : Int64).toBitVec.getLsbD i = false := by
      rw [h255, BitVec.getLsbD_ofNat]
      have : Nat.testBit 255 i = false := Nat.testBit_lt_two_pow (Nat.lt_of_lt_of_le (show 255 < 2 ^ 8 by decide) (Nat.pow_le_pow_right (by decide) (by omega)))
      rw [this]; simp
    rw [this]; simp
def byt (N j : Nat) : Nat := N / 2 ^ (8 * j) % 256
theorem l255 : (255 : Int64) = lN (2 ^ 8 - 1) := rfl
theorem pkR_e {N : Nat} (h : N < 2 ^ 64) : ∀ k, pkR (lN N) k = lN (N / 2 ^ (8 * k))
  | 0 => by rw [pkR]; congr 1; simp
  | k + 1 => by
    rw [pkR, pkR_e h k, wb_shr (Nat.lt_of_le_of_lt (Nat.div_le_self _ _) h) (by decide), Nat.div_div_eq_div_mul, ← Nat.pow_add]
    congr 2
theorem low_e {N : Nat} (h : N < 2 ^ 64) (k : Nat) : pkR (lN N) k &&& 255 = lN (byt N k) := by
  rw [pkR_e h, l255, wb_mask (Nat.lt_of_le_of_lt (Nat.div_le_self _ _) h) (by decide)]; rfl
theorem byt_lt (N j : Nat) : byt N j < 256 := Nat.mod_lt _ (by decide)
theorem lg_z {x : Int64} : lg_cmp x 0 = 0 ↔ x = 0 := by
  unfold lg_cmp
  by_cases h1 : x > 0
  · rw [if_pos h1]
    exact ⟨fun z => absurd z (by decide), fun e => absurd h1 (by rw [e]; decide)⟩
  · rw [if_neg h1]
    by_cases h2 : x = 0
    · rw [if_pos h2]; exact ⟨fun _ => h2, fun _ => rfl⟩
    · rw [if_neg h2]; exact ⟨fun z => absurd z (by decide), fun e => absurd e h2⟩
theorem lN_z {n : Nat} (h : n < 2 ^ 63) : lN n = 0 ↔ n = 0 := pk_lEQ (b := 0) h (by decide)
theorem pkB_e {N : Nat} (h : N < 2 ^ 64) (k : Nat) : pkB (lN N) k = isW (nI (byt N k)) (nI 33) (nI 126) := by
  unfold pkB
  rw [low_e h, lN_i]
theorem mSk_e {N : Nat} (h : N < 2 ^ 64) (k : Nat) : mSk (lN N) k = 0 ↔ pkB (lN N) k = 0 := by
  have hb := byt_lt N k
  rw [pkB_e h]
  unfold mSk
  rw [low_e h, lN_i]
  by_cases c : lg_cmp (lN (byt N k)) 0 = 0
  · rw [if_pos c]
    rw [lg_z, lN_z (by omega)] at c
    rw [c]; exact ⟨fun _ => by decide, fun _ => rfl⟩
  · rw [if_neg c]
    by_cases c2 : mIh (nI (byt N k)) = 0
    · rw [if_pos c2]; exact ⟨fun _ => c2, fun _ => rfl⟩
    · rw [if_neg c2]; exact ⟨fun z => absurd z (by decide), fun z => absurd z c2⟩
theorem cIn_e {N : Nat} (h : N < 2 ^ 64) : cInN (lN N) = mCin (lN N) := by
  have eK : cInK (lN N) = mIK (lN N) := (ffz_congr (fun i => mSk_e h i)).symm
  have h8 := mIK_le (lN N)
  unfold cInN mCin
  rw [eK]
  by_cases c : mIK (lN N) = 8
  · rw [if_pos c, c]; rfl
  · rw [if_neg c]
    by_cases c2 : lg_cmp (pkR (lN N) (mIK (lN N)) &&& 255) 0 = 0
    · rw [if_pos c2]; rfl
    · rw [if_neg c2, if_neg]
      intro z
      rw [lg_z] at z
      apply c2
      rw [z, lg_z]; rfl
theorem vc_nI {m : Nat} (h : m < 65536) : vp_nar .char (nI m) = nI m := by
  unfold vp_nar
  rw [(pk_charN h).1]
theorem chrC_e {N : Nat} (h : N < 2 ^ 64) {j : Nat} (hj : j < 8) : vp_nar .char (chrC (lN N) j) = nI (byt N j) := by
  have hb := byt_lt N j
  unfold chrC
  rw [wb_shr h (by omega), l255, wb_mask (Nat.lt_of_le_of_lt (Nat.div_le_self _ _) h) (by decide), lN_i, pk_char, pk_tn (Nat.lt_trans (Nat.mod_lt _ (by decide)) (by decide)), Nat.mod_eq_of_lt (Nat.lt_trans (Nat.mod_lt _ (by decide)) (by decide))]
  exact vc_nI (by show byt N j < 65536; omega)
theorem chrM_e {N : Nat} (h : N < 2 ^ 64) {j : Nat} (hj : j < 8) : chrM (lN N) j = nI (byt N j) := by
  unfold chrM
  rw [wb_sar (by omega), wb_shr h (by omega), l255, wb_mask (Nat.lt_of_le_of_lt (Nat.div_le_self _ _) h) (by decide), lN_i]; rfl
def TX (L : Nat) (t gt : Nat → Int32) : Prop := L ≤ 80 ∧ ∀ k : Nat, k < L → t k = gt k ∧ rng 33 126 (gt k)
theorem byt_ok {N : Nat} (h : N < 2 ^ 64) {j : Nat} (hj : j < cInN (lN N)) : rng 33 126 (nI (byt N j)) := by
  have hlt : j < cInK (lN N) := by
    unfold cInN at hj
    split at hj
    · exact hj
    · exact absurd hj (Nat.not_lt_zero j)
  have := (ffz_spec (pkB (lN N)) 8).1 j hlt
  rw [pkB_e h] at this
  exact rng_mono (isW_rng this) (by decide) (by decide)
theorem TX_ap {L N : Nat} {t gt : Nat → Int32} (hT : ∀ k : Nat, k < L → t k = gt k ∧ rng 33 126 (gt k)) (h : N < 2 ^ 64) : ∀ m, m ≤ cInN (lN N) → ∀ k, k < L + m → apT t L (lN N) (cInN (lN N)) m k = mPt gt L (lN N) (cInN (lN N)) m k ∧ rng 33 126 (mPt gt L (lN N) (cInN (lN N)) m k)
  | 0, _, k, hk => hT k hk
  | m + 1, hm, k, hk => by
    have h8 := cInN_le (lN N)
    rw [apT, mPt]
    by_cases e : k = L + m
    · subst e
      rw [pk_us, pk_us, chrC_e h (by omega), chrM_e h (by omega)]
      exact ⟨rfl, byt_ok h (by omega)⟩
    · rw [pk_un e, pk_un e]
      exact TX_ap hT h m (by omega) k (by omega)
theorem C_pu {L : Nat} {t gt : Nat → Int32} (T : TX L t gt) (z : Int64) : apV L z = mPuV L z ∧ apL L z = mPuL L z ∧ TX (apL L z) (apW t L z) (mPuT gt L z) := by
  obtain ⟨N, hN, rfl⟩ := wb_of z
  unfold apV mPuV apL mPuL apW mPuT
  rw [← cIn_e hN]
  by_cases c : cInN (lN N) = 0
  · simp only [if_pos c]; exact ⟨trivial, trivial, T⟩
  simp only [if_neg c]
  by_cases c2 : L + cInN (lN N) ≤ 80
  · simp only [if_pos c2]
    exact ⟨trivial, trivial, c2, TX_ap T.2 hN _ (Nat.le_refl _)⟩
  · simp only [if_neg c2]; exact ⟨trivial, trivial, T⟩
