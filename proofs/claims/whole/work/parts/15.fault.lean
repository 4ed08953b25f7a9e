/-! the fault of the pad; the face of the class -/
def foS (t : Nat → Int32) (L : Nat) (σ : SX) : Nat → SX
  | 0 => σ
  | k + 1 => (nx t L (foS t L σ k).1 (foS t L σ k).2.1 (foS t L σ k).2.2.1 (foS t L σ k).2.2.2.1 (foS t L σ k).2.2.2.2.1 (foS t L σ k).2.2.2.2.2).2
termination_by k => k
/-- order k read: its answer, and what stands then -/
def foX (t : Nat → Int32) (L : Nat) (σ : SX) (k : Nat) : NX := nx t L (foS t L σ k).1 (foS t L σ k).2.1 (foS t L σ k).2.2.1 (foS t L σ k).2.2.2.1 (foS t L σ k).2.2.2.2.1 (foS t L σ k).2.2.2.2.2
theorem foS_0 (t : Nat → Int32) (L : Nat) (σ : SX) : foS t L σ 0 = σ := by rw [foS]
theorem foS_s (t : Nat → Int32) (L : Nat) (σ : SX) (k : Nat) : foS t L σ (k + 1) = (foX t L σ k).2 := by rw [foS]; rfl
/-- 0 where the reading ends with this order -/
def foK (t : Nat → Int32) (L : Nat) (σ : SX) (k : Nat) : Int32 := if (foX t L σ k).1 = 0 then 0 else if (foX t L σ k).2.1 < nI L then 1 else 0
def foN (t : Nat → Int32) (L : Nat) (σ : SX) : Nat := ffz (foK t L σ) 80
def ftV (t : Nat → Int32) (L : Nat) (σ : SX) : Int32 := if foN t L σ < 80 then (if (foX t L σ (foN t L σ)).1 = 0 then (foX t L σ (foN t L σ)).2.1 else -6) else (foS t L σ 80).1
def ftS (t : Nat → Int32) (L : Nat) (σ : SX) : SX := if foN t L σ < 80 then (foX t L σ (foN t L σ)).2 else foS t L σ 80
theorem foK_0 {t : Nat → Int32} {L : Nat} {σ : SX} {k : Nat} (h : (foX t L σ k).1 = 0) : foK t L σ k = 0 := if_pos h
theorem foK_1 {t : Nat → Int32} {L : Nat} {σ : SX} {k : Nat} (h : ¬ (foX t L σ k).1 = 0) (h2 : ¬ (foX t L σ k).2.1 < nI L) : foK t L σ k = 0 := (if_neg h).trans (if_neg h2)
theorem foK_n {t : Nat → Int32} {L : Nat} {σ : SX} {k : Nat} (h : ¬ (foX t L σ k).1 = 0) (h2 : (foX t L σ k).2.1 < nI L) : ¬ foK t L σ k = 0 := by
  rw [foK, if_neg h, if_pos h2]; decide
theorem cd_X2_firstFault : cdV RX2 yX2_firstFault cX2_firstFault 2 (some .int) 0 := ⟨⟨bw_551, bw_61, by decide, by decide, by decide +kernel⟩, bw_549, bw_550⟩
set_option maxHeartbeats 4000000 in
set_option maxRecDepth 100000 in
theorem c_X2_firstFault (l : Launch) (E : EV) (d : Nat) (ch : Nat) (nu : Nat) (L : Nat) (a : Int32) (b : Int32) (le : Int32) (co : Int32) (mi : Int32) (t : Nat → Int32) (u : Nat → Int32) (hL : L ≤ 80) : rcI l E yX2_firstFault cX2_firstFault 2 .int 5 [.ref d] [(d, .inr (1, [.ref ch, .ref nu, .int (nI L), .int a, .int b, .int le, .int co, .int mi])), (ch, .inl (E.2.2.1, 80, .inl t)), (nu, .inl (E.2.1, 4, .inl u))] (ftV t L (nI 0, b, le, co, mi, u)) [(d, .inr (1, [.ref ch, .ref nu, .int (nI L), .int ((ftS t L (nI 0, b, le, co, mi, u)).1), .int ((ftS t L (nI 0, b, le, co, mi, u)).2.1), .int ((ftS t L (nI 0, b, le, co, mi, u)).2.2.1), .int ((ftS t L (nI 0, b, le, co, mi, u)).2.2.2.1), .int ((ftS t L (nI 0, b, le, co, mi, u)).2.2.2.2.1)])), (ch, .inl (E.2.2.1, 80, .inl t)), (nu, .inl (E.2.1, 4, .inl ((ftS t L (nI 0, b, le, co, mi, u)).2.2.2.2.2)))] := by
  refine rcI_of (by decide) (Nat.le_of_ble_eq_true rfl) ?_
  intro pg e s m below meth c Q A ls S hP hD0 hE hA hl hret
  have hx := S.1
  have hb := S.2.1
  have hown := S.2.2.2.1
  have hts := S.2.2.2.2
  have hK := hE.1
  have hS : va_S A s.heap s.heap [] := va_S.rf
  have hDa : va_Da A [d, ch, nu] := ⟨_, hD0, rfl⟩
  have hl : lv_has ls 2 [(0, .ref d)] := hl
  refine lv_aload_n hx hb dX2_firstFault_0 rfl (lv_at hl 0 rfl) ?_
  refine rwVv0 (rest := []) S (c_X2_startReading l E d ch nu L a b le co mi t u) cd_X2_startReading bw_552 ⟨Nat.le_of_ble_eq_true rfl, Nat.le_of_ble_eq_true rfl⟩ ⟨Nat.zero_le _, Nat.zero_le _⟩ hP (hDa.to rfl) hE hA hS [0, 1, 2] rfl rfl [d, ch, nu] rfl rfl (ci := 1) rfl (q0 := 0) rfl (Nat.le_of_ble_eq_true rfl) hl.1 dX2_firstFault_1 (fun H locs hP _ hS => ?_)
  have hP : va_P E.1 vwCl [(d, .inr (1, [.ref ch, .ref nu, .int (nI L), .int (nI 0), .int b, .int le, .int co, .int mi])), (ch, .inl (E.2.2.1, 80, .inl t)), (nu, .inl (E.2.1, 4, .inl u))] H := hP
  refine lv_iconst (v := nI 0) hx hb dX2_firstFault_4 (by decide) ?_
  refine lv_istore_n (lv' := [(1, .int (nI 0)), (0, .ref d)]) hx hb dX2_firstFault_5 rfl hl (by decide) rfl (fun ls hl => ?_)
  have loop6 : ∀ (fuel : Nat) (k : Nat), 80 - k < fuel → (k ≤ 80) → (∀ j, j < k → ¬ foK t L (nI 0, b, le, co, mi, u) j = 0) → ∀ (H : Heap) (locs : List Loc), va_P E.1 vwCl [(d, .inr (1, [.ref ch, .ref nu, .int (nI L), .int ((foS t L (nI 0, b, le, co, mi, u) k).1), .int ((foS t L (nI 0, b, le, co, mi, u) k).2.1), .int ((foS t L (nI 0, b, le, co, mi, u) k).2.2.1), .int ((foS t L (nI 0, b, le, co, mi, u) k).2.2.2.1), .int ((foS t L (nI 0, b, le, co, mi, u) k).2.2.2.2.1)])), (ch, .inl (E.2.2.1, 80, .inl t)), (nu, .inl (E.2.1, 4, .inl ((foS t L (nI 0, b, le, co, mi, u) k).2.2.2.2.2)))] H → va_S A s.heap H locs → ∀ ls : Array Slot, lv_has ls 2 [(1, .int (nI k)), (0, .ref d)] → W pg l e (rq 5) s m ([.ref d] : List Value).toArray below meth c H locs 0 0 Q (F0 m 6 ls []) := by
    intro fuel
    induction fuel with
    | zero => intro k h9; exact absurd h9 (Nat.not_lt_zero _)
    | succ fuel ih6 =>
      intro k hfu6 hk hall H locs hP hS ls hl
      refine lv_iload_n hx hb dX2_firstFault_6 rfl (lv_at hl 0 rfl) ?_
      refine lv_bipush (v := nI 80) hx hb dX2_firstFault_7 (by decide) ?_
      refine rn_icmp_ge (a := k) (b := 80) (tgt := 44) hx hb (by omega) (by omega) dX2_firstFault_9 (by decide) (fun c_1 => ?_) (fun c_1 => ?_)
      · have hex : 80 = k := by omega
        subst hex
        refine lv_aload_n hx hb dX2_firstFault_44 rfl (lv_at hl 1 rfl) ?_
        refine va_get (D := E.1) (ci := 1) (v := .int ((foS t L (nI 0, b, le, co, mi, u) 80).1)) (C := RX2) (T := TX2) (N := 8) hx hb hts inb_X2 hown hK hP 0 rfl rfl 3 (by decide) (hts _ bw_106) (fun _ h9 => h9) rfl dX2_firstFault_45 ?_
        exact hret _ _ _ _ _ _ (by rw [ftV, foN, ffz_no hall, if_neg (by omega)]) (by rw [ftS, foN, ffz_no hall, if_neg (by omega)]) rfl hP hS dX2_firstFault_48
      · refine lv_aload_n hx hb dX2_firstFault_12 rfl (lv_at hl 1 rfl) ?_
        refine rwV0 (rest := []) S (c_X2_nextOrder l E d ch nu L ((foS t L (nI 0, b, le, co, mi, u) k).1) ((foS t L (nI 0, b, le, co, mi, u) k).2.1) ((foS t L (nI 0, b, le, co, mi, u) k).2.2.1) ((foS t L (nI 0, b, le, co, mi, u) k).2.2.2.1) ((foS t L (nI 0, b, le, co, mi, u) k).2.2.2.2.1) t ((foS t L (nI 0, b, le, co, mi, u) k).2.2.2.2.2) hL) cd_X2_nextOrder bw_556 ⟨Nat.le_of_ble_eq_true rfl, Nat.le_of_ble_eq_true rfl⟩ ⟨Nat.zero_le _, Nat.zero_le _⟩ hP (hDa.to rfl) hE hA hS [0, 1, 2] rfl rfl [d, ch, nu] rfl rfl (ci := 1) rfl (q0 := 0) rfl (Nat.le_of_ble_eq_true rfl) hl.1 dX2_firstFault_13 (fun H locs hP _ hS => ?_)
        have hP : va_P E.1 vwCl [(d, .inr (1, [.ref ch, .ref nu, .int (nI L), .int ((nx t L ((foS t L (nI 0, b, le, co, mi, u) k).1) ((foS t L (nI 0, b, le, co, mi, u) k).2.1) ((foS t L (nI 0, b, le, co, mi, u) k).2.2.1) ((foS t L (nI 0, b, le, co, mi, u) k).2.2.2.1) ((foS t L (nI 0, b, le, co, mi, u) k).2.2.2.2.1) ((foS t L (nI 0, b, le, co, mi, u) k).2.2.2.2.2)).2.1), .int ((nx t L ((foS t L (nI 0, b, le, co, mi, u) k).1) ((foS t L (nI 0, b, le, co, mi, u) k).2.1) ((foS t L (nI 0, b, le, co, mi, u) k).2.2.1) ((foS t L (nI 0, b, le, co, mi, u) k).2.2.2.1) ((foS t L (nI 0, b, le, co, mi, u) k).2.2.2.2.1) ((foS t L (nI 0, b, le, co, mi, u) k).2.2.2.2.2)).2.2.1), .int ((nx t L ((foS t L (nI 0, b, le, co, mi, u) k).1) ((foS t L (nI 0, b, le, co, mi, u) k).2.1) ((foS t L (nI 0, b, le, co, mi, u) k).2.2.1) ((foS t L (nI 0, b, le, co, mi, u) k).2.2.2.1) ((foS t L (nI 0, b, le, co, mi, u) k).2.2.2.2.1) ((foS t L (nI 0, b, le, co, mi, u) k).2.2.2.2.2)).2.2.2.1), .int ((nx t L ((foS t L (nI 0, b, le, co, mi, u) k).1) ((foS t L (nI 0, b, le, co, mi, u) k).2.1) ((foS t L (nI 0, b, le, co, mi, u) k).2.2.1) ((foS t L (nI 0, b, le, co, mi, u) k).2.2.2.1) ((foS t L (nI 0, b, le, co, mi, u) k).2.2.2.2.1) ((foS t L (nI 0, b, le, co, mi, u) k).2.2.2.2.2)).2.2.2.2.1), .int ((nx t L ((foS t L (nI 0, b, le, co, mi, u) k).1) ((foS t L (nI 0, b, le, co, mi, u) k).2.1) ((foS t L (nI 0, b, le, co, mi, u) k).2.2.1) ((foS t L (nI 0, b, le, co, mi, u) k).2.2.2.1) ((foS t L (nI 0, b, le, co, mi, u) k).2.2.2.2.1) ((foS t L (nI 0, b, le, co, mi, u) k).2.2.2.2.2)).2.2.2.2.2.1)])), (ch, .inl (E.2.2.1, 80, .inl t)), (nu, .inl (E.2.1, 4, .inl ((nx t L ((foS t L (nI 0, b, le, co, mi, u) k).1) ((foS t L (nI 0, b, le, co, mi, u) k).2.1) ((foS t L (nI 0, b, le, co, mi, u) k).2.2.1) ((foS t L (nI 0, b, le, co, mi, u) k).2.2.2.1) ((foS t L (nI 0, b, le, co, mi, u) k).2.2.2.2.1) ((foS t L (nI 0, b, le, co, mi, u) k).2.2.2.2.2)).2.2.2.2.2.2)))] H := hP
        refine lv_if_ne (tgt := 24) hx hb dX2_firstFault_16 (by decide) (fun c_2 => ?_) (fun c_2 => ?_)
        · refine lv_aload_n hx hb dX2_firstFault_24 rfl (lv_at hl 1 rfl) ?_
          refine va_get (D := E.1) (ci := 1) (v := .int ((nx t L ((foS t L (nI 0, b, le, co, mi, u) k).1) ((foS t L (nI 0, b, le, co, mi, u) k).2.1) ((foS t L (nI 0, b, le, co, mi, u) k).2.2.1) ((foS t L (nI 0, b, le, co, mi, u) k).2.2.2.1) ((foS t L (nI 0, b, le, co, mi, u) k).2.2.2.2.1) ((foS t L (nI 0, b, le, co, mi, u) k).2.2.2.2.2)).2.1)) (C := RX2) (T := TX2) (N := 8) hx hb hts inb_X2 hown hK hP 0 rfl rfl 3 (by decide) (hts _ bw_106) (fun _ h9 => h9) rfl dX2_firstFault_25 ?_
          refine lv_aload_n hx hb dX2_firstFault_28 rfl (lv_at hl 1 rfl) ?_
          refine va_get (D := E.1) (ci := 1) (v := .int (nI L)) (C := RX2) (T := TX2) (N := 8) hx hb hts inb_X2 hown hK hP 0 rfl rfl 2 (by decide) (hts _ bw_105) (fun _ h9 => h9) rfl dX2_firstFault_29 ?_
          refine lv_icmp_lt (tgt := 38) hx hb dX2_firstFault_32 (by decide) (fun c_3 => ?_) (fun c_3 => ?_)
          · refine rn_inc (a := k) (d := 1) (lv' := [(1, .int (nI (k + 1))), (0, .ref d)]) hx hb dX2_firstFault_38 hl (k := 0) rfl (by decide) (by decide) rfl (fun ls hl => ?_)
            refine lv_goto (tgt := 6) hx hb dX2_firstFault_41 (by decide) ?_
            have hP : va_P E.1 vwCl [(d, .inr (1, [.ref ch, .ref nu, .int (nI L), .int ((foS t L (nI 0, b, le, co, mi, u) (k + 1)).1), .int ((foS t L (nI 0, b, le, co, mi, u) (k + 1)).2.1), .int ((foS t L (nI 0, b, le, co, mi, u) (k + 1)).2.2.1), .int ((foS t L (nI 0, b, le, co, mi, u) (k + 1)).2.2.2.1), .int ((foS t L (nI 0, b, le, co, mi, u) (k + 1)).2.2.2.2.1)])), (ch, .inl (E.2.2.1, 80, .inl t)), (nu, .inl (E.2.1, 4, .inl ((foS t L (nI 0, b, le, co, mi, u) (k + 1)).2.2.2.2.2)))] H := by rw [foS_s]; exact hP
            have hl : lv_has ls 2 [(1, .int (nI (k + 1))), (0, .ref d)] := lv_sub hl [0, 1] rfl
            exact ih6 (k + 1) (by omega) (by omega) (lt_s hall (foK_n c_2 c_3)) _ _ hP hS _ hl
          · refine lv_bipush (v := (-6)) hx hb dX2_firstFault_35 (by decide) ?_
            exact hret _ _ _ _ _ _ (by rw [ftV, foN, ffz_at hall (foK_1 c_2 c_3) (by omega), if_pos (by omega), if_neg (show ¬ (foX t L (nI 0, b, le, co, mi, u) k).1 = 0 from c_2)]) (by rw [ftS, foN, ffz_at hall (foK_1 c_2 c_3) (by omega), if_pos (by omega)]; rfl) rfl hP hS dX2_firstFault_37
        · refine lv_aload_n hx hb dX2_firstFault_19 rfl (lv_at hl 1 rfl) ?_
          refine va_get (D := E.1) (ci := 1) (v := .int ((nx t L ((foS t L (nI 0, b, le, co, mi, u) k).1) ((foS t L (nI 0, b, le, co, mi, u) k).2.1) ((foS t L (nI 0, b, le, co, mi, u) k).2.2.1) ((foS t L (nI 0, b, le, co, mi, u) k).2.2.2.1) ((foS t L (nI 0, b, le, co, mi, u) k).2.2.2.2.1) ((foS t L (nI 0, b, le, co, mi, u) k).2.2.2.2.2)).2.1)) (C := RX2) (T := TX2) (N := 8) hx hb hts inb_X2 hown hK hP 0 rfl rfl 3 (by decide) (hts _ bw_106) (fun _ h9 => h9) rfl dX2_firstFault_20 ?_
          exact hret _ _ _ _ _ _ (by rw [ftV, foN, ffz_at hall (foK_0 c_2) (by omega), if_pos (by omega), if_pos (show (foX t L (nI 0, b, le, co, mi, u) k).1 = 0 from c_2)]; rfl) (by rw [ftS, foN, ffz_at hall (foK_0 c_2) (by omega), if_pos (by omega)]; rfl) rfl hP hS dX2_firstFault_23
  have hP : va_P E.1 vwCl [(d, .inr (1, [.ref ch, .ref nu, .int (nI L), .int ((foS t L (nI 0, b, le, co, mi, u) 0).1), .int ((foS t L (nI 0, b, le, co, mi, u) 0).2.1), .int ((foS t L (nI 0, b, le, co, mi, u) 0).2.2.1), .int ((foS t L (nI 0, b, le, co, mi, u) 0).2.2.2.1), .int ((foS t L (nI 0, b, le, co, mi, u) 0).2.2.2.2.1)])), (ch, .inl (E.2.2.1, 80, .inl t)), (nu, .inl (E.2.1, 4, .inl ((foS t L (nI 0, b, le, co, mi, u) 0).2.2.2.2.2)))] H := by rw [foS_0]; exact hP
  have hl : lv_has ls 2 [(1, .int (nI 0)), (0, .ref d)] := lv_sub hl [0, 1] rfl
  exact loop6 _ 0 (Nat.lt_succ_self _) (by omega) (fun i h9 => absurd h9 (Nat.not_lt_zero i)) _ _ hP hS _ hl

