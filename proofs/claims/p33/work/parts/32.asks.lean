/-! what the law asks of the class at one moment -/
section
variable {n : Nat} {f vq vf vd vw vl vr : Nat → Int32} {k co : Nat}
theorem isC_n (h : co < 3) : ¬ isC (nI co) = 0 := by
  rcases (by omega : co = 0 ∨ co = 1 ∨ co = 2) with e | e | e <;> subst e <;> decide
theorem isW_n {a lo hi : Nat} (h1 : lo ≤ a) (h2 : a ≤ hi) (h3 : hi < 2 ^ 31) : ¬ isW (nI a) (nI lo) (nI hi) = 0 := by
  unfold isW
  rw [if_neg (nI_nlt h1 (by omega)), if_neg (nI_nlt h2 (by omega))]
  decide
theorem hasS_n (h : n < 2 ^ 31) {j : Nat} (hj : j < 2 ^ 31) (hk : n ≤ j) : hasS n (nI j) = 0 := by
  unfold hasS
  rw [if_neg (nI_pos hj), if_pos (nI_le hk hj)]; exact nI_0
theorem fOf_0 (hn : n ≤ 20) (hk : k < n) : fOf f n (nI k) (nI 0) = f (13 + 14 * k + 0) := by
  unfold fOf
  rw [if_neg (hasS_ne (by omega) hk), ix_nI (by omega), if_pos (show nI 0 = nI 0 from rfl)]
theorem fOf_1 (hn : n ≤ 20) (hk : k < n) : fOf f n (nI k) (nI 1) = cFt f k := by
  unfold fOf
  rw [if_neg (hasS_ne (by omega) hk), ix_nI (by omega), if_neg (show ¬ nI 1 = nI 0 by decide), if_pos (show nI 1 = nI 1 from rfl)]
theorem fOf_2 (hn : n ≤ 20) (hk : k < n) : fOf f n (nI k) (nI 2) = (if cAn f k = 0 then nI 0 else nI 1) := by
  unfold fOf
  rw [if_neg (hasS_ne (by omega) hk), ix_nI (by omega), if_neg (show ¬ nI 2 = nI 0 by decide), if_neg (show ¬ nI 2 = nI 1 by decide), if_pos (show nI 2 = nI 2 from rfl)]
theorem fOf_3 (hn : n ≤ 20) (hk : k < n) : fOf f n (nI k) (nI 3) = (if cBa f k = 0 then nI 0 else nI 1) := by
  unfold fOf
  rw [if_neg (hasS_ne (by omega) hk), ix_nI (by omega), if_neg (show ¬ nI 3 = nI 0 by decide), if_neg (show ¬ nI 3 = nI 1 by decide), if_neg (show ¬ nI 3 = nI 2 by decide), if_pos (show nI 3 = nI 3 from rfl)]
theorem fOf_4 (hn : n ≤ 20) (hk : k < n) : fOf f n (nI k) (nI 4) = (if cJu f n k = 0 then nI 0 else nI 1) := by
  unfold fOf
  rw [if_neg (hasS_ne (by omega) hk), ix_nI (by omega), if_neg (show ¬ nI 4 = nI 0 by decide), if_neg (show ¬ nI 4 = nI 1 by decide), if_neg (show ¬ nI 4 = nI 2 by decide), if_neg (show ¬ nI 4 = nI 3 by decide), if_pos (show nI 4 = nI 4 from rfl)]
theorem fIn_0 (hn : n ≤ 20) (hk : k < n) (hc : co < 3) : fIn f n (nI k) (nI co) (nI 0) = f (13 + 14 * k + (2 + co)) := by
  unfold fIn
  rw [if_neg (hasS_ne (by omega) hk), if_neg (isC_n hc), ix_nI (show k < 2 ^ 31 by omega), ix_nI (show co < 2 ^ 31 by omega), if_pos (show nI 0 = nI 0 from rfl)]
theorem fIn_1 (hn : n ≤ 20) (hk : k < n) (hc : co < 3) : fIn f n (nI k) (nI co) (nI 1) = f (13 + 14 * k + (5 + co)) + (nI 10) := by
  unfold fIn
  rw [if_neg (hasS_ne (by omega) hk), if_neg (isC_n hc), ix_nI (show k < 2 ^ 31 by omega), ix_nI (show co < 2 ^ 31 by omega), if_neg (show ¬ nI 1 = nI 0 by decide), if_pos (show nI 1 = nI 1 from rfl)]
theorem fIn_2 (hn : n ≤ 20) (hk : k < n) (hc : co < 3) : fIn f n (nI k) (nI co) (nI 2) = f (13 + 14 * k + (8 + co)) := by
  unfold fIn
  rw [if_neg (hasS_ne (by omega) hk), if_neg (isC_n hc), ix_nI (show k < 2 ^ 31 by omega), ix_nI (show co < 2 ^ 31 by omega), if_neg (show ¬ nI 2 = nI 0 by decide), if_neg (show ¬ nI 2 = nI 1 by decide), if_pos (show nI 2 = nI 2 from rfl)]
theorem fIn_3 (hn : n ≤ 20) (hk : k < n) (hc : co < 3) : fIn f n (nI k) (nI co) (nI 3) = cPn f k co := by
  unfold fIn
  rw [if_neg (hasS_ne (by omega) hk), if_neg (isC_n hc), ix_nI (show k < 2 ^ 31 by omega), ix_nI (show co < 2 ^ 31 by omega), if_neg (show ¬ nI 3 = nI 0 by decide), if_neg (show ¬ nI 3 = nI 1 by decide), if_neg (show ¬ nI 3 = nI 2 by decide), if_pos (show nI 3 = nI 3 from rfl)]
theorem fIn_4 (hn : n ≤ 20) (hk : k < n) (hc : co < 3) : fIn f n (nI k) (nI co) (nI 4) = cOn f k co + (nI 100) := by
  unfold fIn
  rw [if_neg (hasS_ne (by omega) hk), if_neg (isC_n hc), ix_nI (show k < 2 ^ 31 by omega), ix_nI (show co < 2 ^ 31 by omega), if_neg (show ¬ nI 4 = nI 0 by decide), if_neg (show ¬ nI 4 = nI 1 by decide), if_neg (show ¬ nI 4 = nI 2 by decide), if_neg (show ¬ nI 4 = nI 3 by decide), if_pos (show nI 4 = nI 4 from rfl)]
theorem fIn_5 (hn : n ≤ 20) (hk : k < n) (hc : co < 3) : fIn f n (nI k) (nI co) (nI 5) = (if cAn f k = 0 then (-6) else f (13 + 14 * k + (11 + co)) + (nI 100)) := by
  unfold fIn
  rw [if_neg (hasS_ne (by omega) hk), if_neg (isC_n hc), ix_nI (show k < 2 ^ 31 by omega), ix_nI (show co < 2 ^ 31 by omega), if_neg (show ¬ nI 5 = nI 0 by decide), if_neg (show ¬ nI 5 = nI 1 by decide), if_neg (show ¬ nI 5 = nI 2 by decide), if_neg (show ¬ nI 5 = nI 3 by decide), if_neg (show ¬ nI 5 = nI 4 by decide), if_pos (show nI 5 = nI 5 from rfl)]
theorem fLa_0 (hc : co < 3) : fLa f (nI co) (nI 0) = f (4 + co) := by
  unfold fLa
  rw [if_neg (isC_n hc), ix_nI (by omega), if_pos (show nI 0 = nI 0 from rfl)]
theorem fLa_1 (hc : co < 3) : fLa f (nI co) (nI 1) = f (4 + co) * f 3 / nI 100 := by
  unfold fLa
  rw [if_neg (isC_n hc), ix_nI (by omega), if_neg (show ¬ nI 1 = nI 0 by decide), if_pos (show nI 1 = nI 1 from rfl)]
theorem fLa_2 (hc : co < 3) : fLa f (nI co) (nI 2) = f (7 + co) + (nI 20) := by
  unfold fLa
  rw [if_neg (isC_n hc), ix_nI (by omega), if_neg (show ¬ nI 2 = nI 0 by decide), if_neg (show ¬ nI 2 = nI 1 by decide), if_pos (show nI 2 = nI 2 from rfl)]
theorem fCo_k0 (L z : Nat) : fCo f n L z (nI 0) = nI n := by
  unfold fCo
  rw [if_pos (show nI 0 = nI 0 from rfl)]
theorem fCo_k1 (L z : Nat) : fCo f n L z (nI 1) = cFt f n := by
  unfold fCo
  rw [if_neg (show ¬ nI 1 = nI 0 by decide), if_pos (show nI 1 = nI 1 from rfl)]
theorem fCo_k2 (L z : Nat) : fCo f n L z (nI 2) = f 10 := by
  unfold fCo
  rw [if_neg (show ¬ nI 2 = nI 0 by decide), if_neg (show ¬ nI 2 = nI 1 by decide), if_pos (show nI 2 = nI 2 from rfl)]
theorem fCo_k3 (L z : Nat) : fCo f n L z (nI 3) = cSt (fun p => cBa f p) n := by
  unfold fCo
  rw [if_neg (show ¬ nI 3 = nI 0 by decide), if_neg (show ¬ nI 3 = nI 1 by decide), if_neg (show ¬ nI 3 = nI 2 by decide), if_pos (show nI 3 = nI 3 from rfl)]
theorem fCo_k4 (L z : Nat) : fCo f n L z (nI 4) = cSt (fun p => cAn f p) n := by
  unfold fCo
  rw [if_neg (show ¬ nI 4 = nI 0 by decide), if_neg (show ¬ nI 4 = nI 1 by decide), if_neg (show ¬ nI 4 = nI 2 by decide), if_neg (show ¬ nI 4 = nI 3 by decide), if_pos (show nI 4 = nI 4 from rfl)]
theorem fCo_k5 (L z : Nat) : fCo f n L z (nI 5) = cSt (fun p => cJu f n p) n := by
  unfold fCo
  rw [if_neg (show ¬ nI 5 = nI 0 by decide), if_neg (show ¬ nI 5 = nI 1 by decide), if_neg (show ¬ nI 5 = nI 2 by decide), if_neg (show ¬ nI 5 = nI 3 by decide), if_neg (show ¬ nI 5 = nI 4 by decide), if_pos (show nI 5 = nI 5 from rfl)]
theorem fCo_k6 (L z : Nat) : fCo f n L z (nI 6) = f 11 := by
  unfold fCo
  rw [if_neg (show ¬ nI 6 = nI 0 by decide), if_neg (show ¬ nI 6 = nI 1 by decide), if_neg (show ¬ nI 6 = nI 2 by decide), if_neg (show ¬ nI 6 = nI 3 by decide), if_neg (show ¬ nI 6 = nI 4 by decide), if_neg (show ¬ nI 6 = nI 5 by decide), if_pos (show nI 6 = nI 6 from rfl)]
theorem fCo_k7 (L z : Nat) : fCo f n L z (nI 7) = cSt (fun p => cOo f p) n := by
  unfold fCo
  rw [if_neg (show ¬ nI 7 = nI 0 by decide), if_neg (show ¬ nI 7 = nI 1 by decide), if_neg (show ¬ nI 7 = nI 2 by decide), if_neg (show ¬ nI 7 = nI 3 by decide), if_neg (show ¬ nI 7 = nI 4 by decide), if_neg (show ¬ nI 7 = nI 5 by decide), if_neg (show ¬ nI 7 = nI 6 by decide), if_pos (show nI 7 = nI 7 from rfl)]
theorem fCo_k8 (L z : Nat) : fCo f n L z (nI 8) = f 0 := by
  unfold fCo
  rw [if_neg (show ¬ nI 8 = nI 0 by decide), if_neg (show ¬ nI 8 = nI 1 by decide), if_neg (show ¬ nI 8 = nI 2 by decide), if_neg (show ¬ nI 8 = nI 3 by decide), if_neg (show ¬ nI 8 = nI 4 by decide), if_neg (show ¬ nI 8 = nI 5 by decide), if_neg (show ¬ nI 8 = nI 6 by decide), if_neg (show ¬ nI 8 = nI 7 by decide), if_pos (show nI 8 = nI 8 from rfl)]
theorem fCo_k9 (L z : Nat) : fCo f n L z (nI 9) = f 1 := by
  unfold fCo
  rw [if_neg (show ¬ nI 9 = nI 0 by decide), if_neg (show ¬ nI 9 = nI 1 by decide), if_neg (show ¬ nI 9 = nI 2 by decide), if_neg (show ¬ nI 9 = nI 3 by decide), if_neg (show ¬ nI 9 = nI 4 by decide), if_neg (show ¬ nI 9 = nI 5 by decide), if_neg (show ¬ nI 9 = nI 6 by decide), if_neg (show ¬ nI 9 = nI 7 by decide), if_neg (show ¬ nI 9 = nI 8 by decide), if_pos (show nI 9 = nI 9 from rfl)]
theorem fCo_k10 (L z : Nat) : fCo f n L z (nI 10) = f 2 := by
  unfold fCo
  rw [if_neg (show ¬ nI 10 = nI 0 by decide), if_neg (show ¬ nI 10 = nI 1 by decide), if_neg (show ¬ nI 10 = nI 2 by decide), if_neg (show ¬ nI 10 = nI 3 by decide), if_neg (show ¬ nI 10 = nI 4 by decide), if_neg (show ¬ nI 10 = nI 5 by decide), if_neg (show ¬ nI 10 = nI 6 by decide), if_neg (show ¬ nI 10 = nI 7 by decide), if_neg (show ¬ nI 10 = nI 8 by decide), if_neg (show ¬ nI 10 = nI 9 by decide), if_pos (show nI 10 = nI 10 from rfl)]
theorem fCo_k11 (L z : Nat) : fCo f n L z (nI 11) = f 3 := by
  unfold fCo
  rw [if_neg (show ¬ nI 11 = nI 0 by decide), if_neg (show ¬ nI 11 = nI 1 by decide), if_neg (show ¬ nI 11 = nI 2 by decide), if_neg (show ¬ nI 11 = nI 3 by decide), if_neg (show ¬ nI 11 = nI 4 by decide), if_neg (show ¬ nI 11 = nI 5 by decide), if_neg (show ¬ nI 11 = nI 6 by decide), if_neg (show ¬ nI 11 = nI 7 by decide), if_neg (show ¬ nI 11 = nI 8 by decide), if_neg (show ¬ nI 11 = nI 9 by decide), if_neg (show ¬ nI 11 = nI 10 by decide), if_pos (show nI 11 = nI 11 from rfl)]
theorem an_900 (a : Int32) : nI 1000 + a - nI 900 = a + nI 100 := by
  rw [show nI 1000 = nI 100 + nI 900 by decide, Int32.add_assoc, Int32.add_comm (nI 900), ← Int32.add_assoc, Int32.add_sub_cancel, Int32.add_comm]
theorem V_sh (h : Re n f vq vf vd vw vl vr) (hk : k < n) (hc : co < 3) (x : Int32) : shOK f n vq vf vd vw vl vr k co x := by
  have hn := R_n h
  have hh := R_h h
  have hs := R_s h hk
  have hC := S_c hs hc
  have hA := S_a hs
  have hlo := lowN_lt x (m := 51) (by decide)
  refine ⟨(fOf_0 hn hk).trans (S_f hs).symm, (fOf_1 hn hk).trans (V_ft h k (by omega)).symm, (fOf_2 hn hk).trans (if_same (V_an hA hc)).symm, ?_, ?_, (fIn_0 hn hk hc).trans hC.1.symm, ?_, (fIn_2 hn hk hc).trans hC.2.2.1.symm, ?_, ?_, ?_, ?_, ?_⟩
  · rw [fOf_3 hn hk, V_ba hh hA]
  · rw [fOf_4 hn hk, V_ju h hk]
  · rw [fIn_1 hn hk hc, hC.2.1]
  · rw [fIn_3 hn hk hc, V_pn hh hC hc]
  · rw [fIn_4 hn hk hc, V_of hh hC hc]; rfl
  · rw [fIn_5 hn hk hc]
    by_cases c : cAn f k = 0
    · rw [if_pos c, if_pos ((V_an hA hc).mpr c)]
    · rw [if_neg c, if_neg (fun z => c ((V_an hA hc).mp z))]
      rcases hA with ⟨e, ha⟩ | ⟨e, ha⟩
      · exact absurd (by unfold cAn; rw [e, if_pos nI_0]; exact nI_0) c
      · rw [(ha co hc).1, an_900]
  · unfold fNe
    rw [if_neg (hasS_ne (by omega) hk), if_neg (isC_n hc), ix_nI (show k < 2 ^ 31 by omega), ix_nI (show co < 2 ^ 31 by omega)]
    have e : cNd f k co (f (4 + co) * f 3 / nI 100) = vw (3 * k + co) + (vd (3 * k + co)) + (((vq (7 + co)) * (vq 3)) / (nI 100)) - (vq (10 + co)) := by
      unfold cNd
      rw [hC.2.1, hC.1, V_lo hh hc, H_trim hh hc, Int32.add_comm (f (13 + 14 * k + (5 + co)))]
    rw [e]
    generalize vw (3 * k + co) + (vd (3 * k + co)) + (((vq (7 + co)) * (vq 3)) / (nI 100)) - (vq (10 + co)) = X
    unfold isP isW
    rw [nI_0]
    by_cases c1 : X < 0
    · rw [if_pos c1, if_pos c1, if_pos rfl]
    · rw [if_neg c1, if_neg c1]
      by_cases c2 : X ≤ nI 50
      · rw [if_pos c2, if_neg (show ¬ nI 50 < X by rw [i32_lt]; rw [i32_le] at c2; omega), if_neg (show ¬ nI 1 = 0 by decide)]
      · rw [if_neg c2, if_pos (show nI 50 < X by rw [i32_lt]; rw [i32_le] at c2; omega), if_pos rfl]
  · unfold fIf
    rw [if_neg (hasS_ne (by omega) hk), if_neg (isC_n hc), if_neg (show ¬ isP (nI (lowN x 51)) = 0 from isW_n (lo := 0) (hi := 50) (by omega) (by omega) (by omega)), ix_nI (show k < 2 ^ 31 by omega), ix_nI (show co < 2 ^ 31 by omega), V_pr hh hC hc]
theorem V_so (h : Re n f vq vf vd vw vl vr) (L z : Nat) (x : Int32) : soOK f n vq vf vd vw vl vr L z x := by
  have hn := R_n h
  have hh := R_h h
  have hc := lowN_lt x (m := 3) (by decide)
  refine ⟨fCo_k0 L z, (fCo_k1 L z).trans (V_ft h n (Nat.le_refl n)).symm, (fCo_k2 L z).trans hh.2.2.2.2.1.symm, (fCo_k3 L z).trans (V_s1 h n (Nat.le_refl n)).symm, (fCo_k4 L z).trans (V_s2 h n (Nat.le_refl n)).symm, (fCo_k5 L z).trans (V_s3 h n (Nat.le_refl n)).symm, (fCo_k6 L z).trans hh.2.2.2.2.2.symm, (fCo_k7 L z).trans (V_s4 h n (Nat.le_refl n)).symm, (fLa_0 hc).trans (H_age hh hc).symm, (fLa_1 hc).trans (V_lo hh hc).symm, ?_, (fCo_k8 L z).trans (H_set hh (by decide)).symm, (fCo_k9 L z).trans (H_set hh (by decide)).symm, (fCo_k10 L z).trans (H_set hh (by decide)).symm, (fCo_k11 L z).trans (H_set hh (by decide)).symm, ?_⟩
  · rw [fLa_2 hc, H_trim hh hc]
  · unfold fOf
    rw [if_pos (hasS_n (by omega) (by omega) (Nat.le_refl n))]
end
