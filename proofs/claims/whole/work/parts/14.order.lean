/-! the pad: an order, the fault -/
/-- what the reading changes: at, numbersRead, colour, minus, numbers -/
abbrev PS : Type := Int32 × Int32 × Int32 × Int32 × (Nat → Int32)
/-- an answer; at, numbersRead, letter, colour, minus, numbers -/
abbrev SX : Type := Int32 × Int32 × Int32 × Int32 × Int32 × (Nat → Int32)
abbrev NX : Type := Int32 × SX
def rpS (t : Nat → Int32) (L : Nat) (σ : PS) (x : Int32) : PS := (rpA t L σ.1 σ.2.1 σ.2.2.1 σ.2.2.2.1 σ.2.2.2.2 x, rpB t L σ.1 σ.2.1 σ.2.2.1 σ.2.2.2.1 σ.2.2.2.2 x, rpC t L σ.1 σ.2.1 σ.2.2.1 σ.2.2.2.1 σ.2.2.2.2 x, rpM t L σ.1 σ.2.1 σ.2.2.1 σ.2.2.2.1 σ.2.2.2.2 x, rpU t L σ.1 σ.2.1 σ.2.2.1 σ.2.2.2.1 σ.2.2.2.2 x)
def noS (t : Nat → Int32) (L i : Nat) (σ : PS) : Nat → PS
  | 0 => σ
  | k + 1 => rpS t L (noS t L i σ k) (sCh i k)
theorem noS1 (t : Nat → Int32) (L i : Nat) (σ : PS) (k : Nat) : (noS t L i σ (k + 1)).1 = rpA t L (noS t L i σ k).1 (noS t L i σ k).2.1 (noS t L i σ k).2.2.1 (noS t L i σ k).2.2.2.1 (noS t L i σ k).2.2.2.2 (sCh i k) := rfl
theorem noS2 (t : Nat → Int32) (L i : Nat) (σ : PS) (k : Nat) : (noS t L i σ (k + 1)).2.1 = rpB t L (noS t L i σ k).1 (noS t L i σ k).2.1 (noS t L i σ k).2.2.1 (noS t L i σ k).2.2.2.1 (noS t L i σ k).2.2.2.2 (sCh i k) := rfl
theorem noS3 (t : Nat → Int32) (L i : Nat) (σ : PS) (k : Nat) : (noS t L i σ (k + 1)).2.2.1 = rpC t L (noS t L i σ k).1 (noS t L i σ k).2.1 (noS t L i σ k).2.2.1 (noS t L i σ k).2.2.2.1 (noS t L i σ k).2.2.2.2 (sCh i k) := rfl
theorem noS4 (t : Nat → Int32) (L i : Nat) (σ : PS) (k : Nat) : (noS t L i σ (k + 1)).2.2.2.1 = rpM t L (noS t L i σ k).1 (noS t L i σ k).2.1 (noS t L i σ k).2.2.1 (noS t L i σ k).2.2.2.1 (noS t L i σ k).2.2.2.2 (sCh i k) := rfl
theorem noS5 (t : Nat → Int32) (L i : Nat) (σ : PS) (k : Nat) : (noS t L i σ (k + 1)).2.2.2.2 = rpU t L (noS t L i σ k).1 (noS t L i σ k).2.1 (noS t L i σ k).2.2.1 (noS t L i σ k).2.2.2.1 (noS t L i σ k).2.2.2.2 (sCh i k) := rfl
def noK (t : Nat → Int32) (L i : Nat) (σ : PS) (k : Nat) : Int32 := rpV t L (noS t L i σ k).1 (noS t L i σ k).2.1 (noS t L i σ k).2.2.1 (noS t L i σ k).2.2.2.1 (noS t L i σ k).2.2.2.2 (sCh i k)
def noN (t : Nat → Int32) (L i : Nat) (σ : PS) : Nat := ffz (noK t L i σ) (lenS.getD i 0)
def nxT (t : Nat → Int32) (L i : Nat) (le : Int32) (σ : PS) (v : Int32) (k : Nat) : NX := (v, (noS t L i σ k).1, (noS t L i σ k).2.1, le, (noS t L i σ k).2.2.1, (noS t L i σ k).2.2.2.1, (noS t L i σ k).2.2.2.2)
def nx2 (t : Nat → Int32) (L i : Nat) (le : Int32) (σ : PS) : NX := if noN t L i σ < lenS.getD i 0 then nxT t L i le σ (nI 0) (noN t L i σ + 1) else nxT t L i le σ (if jEm i = 0 then nI 1 else nI 0) (lenS.getD i 0)
def nx1 (t : Nat → Int32) (L : Nat) (a co mi : Int32) (u : Nat → Int32) : NX := nx2 t L (fIx (cHe t L a)) (cHe t L a) (a, nI 0, co, mi, u)
def nx (t : Nat → Int32) (L : Nat) (a b le co mi : Int32) (u : Nat → Int32) : NX := if a ≤ 0 then nx1 t L a co mi u else if cSg t L a (nI 59) = 0 then (nI 0, a, b, le, co, mi, u) else nx1 t L (cSgA t L a (nI 59)) co mi u
theorem cSgA_0 {t : Nat → Int32} {L : Nat} {a x : Int32} (h : cSg t L a x = 0) : cSgA t L a x = a := by
  unfold cSg at h
  unfold cSgA
  by_cases c : cHe t L a = x
  · rw [if_pos c] at h; exact absurd h (by decide)
  · rw [if_neg c]
theorem cd_X2_nextOrder : cdV RX2 yX2_nextOrder cX2_nextOrder 3 (some .boolean) 0 := ⟨⟨bw_559, bw_61, by decide, by decide, by decide +kernel⟩, bw_557, bw_558⟩
set_option maxHeartbeats 4000000 in
set_option maxRecDepth 100000 in
theorem c_X2_nextOrder (l : Launch) (E : EV) (d : Nat) (ch : Nat) (nu : Nat) (L : Nat) (a : Int32) (b : Int32) (le : Int32) (co : Int32) (mi : Int32) (t : Nat → Int32) (u : Nat → Int32) (hL : L ≤ 80) : rcI l E yX2_nextOrder cX2_nextOrder 3 .boolean 4 [.ref d] [(d, .inr (1, [.ref ch, .ref nu, .int (nI L), .int a, .int b, .int le, .int co, .int mi])), (ch, .inl (E.2.2.1, 80, .inl t)), (nu, .inl (E.2.1, 4, .inl u))] ((nx t L a b le co mi u).1) [(d, .inr (1, [.ref ch, .ref nu, .int (nI L), .int ((nx t L a b le co mi u).2.1), .int ((nx t L a b le co mi u).2.2.1), .int ((nx t L a b le co mi u).2.2.2.1), .int ((nx t L a b le co mi u).2.2.2.2.1), .int ((nx t L a b le co mi u).2.2.2.2.2.1)])), (ch, .inl (E.2.2.1, 80, .inl t)), (nu, .inl (E.2.1, 4, .inl ((nx t L a b le co mi u).2.2.2.2.2.2)))] := by
  refine rcI_of (by decide) (Nat.le_of_ble_eq_true rfl) ?_
  intro pg e s m below meth c Q A ls S hP hD0 hE hA hl hret
  have hx := S.1
  have hb := S.2.1
  have hown := S.2.2.2.1
  have hts := S.2.2.2.2
  have hK := hE.1
  have hS : va_S A s.heap s.heap [] := va_S.rf
  have hDa : va_Da A [d, ch, nu] := ⟨_, hD0, rfl⟩
  have hl : lv_has ls 3 [(0, .ref d)] := hl
  refine lv_aload_n hx hb dX2_nextOrder_0 rfl (lv_at hl 0 rfl) ?_
  refine va_get (D := E.1) (ci := 1) (v := .int a) (C := RX2) (T := TX2) (N := 8) hx hb hts inb_X2 hown hK hP 0 rfl rfl 3 (by decide) (hts _ bw_106) (fun _ h9 => h9) rfl dX2_nextOrder_1 ?_
  refine lv_if_le (tgt := 18) hx hb dX2_nextOrder_4 (by decide) (fun c_1 => ?_) (fun c_1 => ?_)
  · refine lv_aload_n hx hb dX2_nextOrder_18 rfl (lv_at hl 0 rfl) ?_
    refine lv_iconst (v := nI 0) hx hb dX2_nextOrder_19 (by decide) ?_
    refine va_put (D := E.1) (ci := 1) (v := .int (nI 0)) (ty := .int) (C := RX2) (T := TX2) (N := 8) hx hb hts inb_X2 tyX2 tyX2_ok nmX2 hown hK hP (hDa.to rfl) hS 0 rfl rfl 4 (by decide) (hts _ bw_107) (fun _ h9 => h9) rfl (by decide +kernel) rfl rfl (Nat.le_of_ble_eq_true rfl) dX2_nextOrder_20 (fun H locs hP _ hS => ?_)
    have hP : va_P E.1 vwCl [(d, .inr (1, [.ref ch, .ref nu, .int (nI L), .int a, .int (nI 0), .int le, .int co, .int mi])), (ch, .inl (E.2.2.1, 80, .inl t)), (nu, .inl (E.2.1, 4, .inl u))] H := hP
    refine lv_aload_n hx hb dX2_nextOrder_23 rfl (lv_at hl 0 rfl) ?_
    refine lv_aload_n hx hb dX2_nextOrder_24 rfl (lv_at hl 0 rfl) ?_
    refine rwV0 (rest := [.ref d]) S (c_X2_here l E d ch nu L a (nI 0) le co mi t u hL) cd_X2_here bw_564 ⟨Nat.le_of_ble_eq_true rfl, Nat.le_of_ble_eq_true rfl⟩ ⟨Nat.zero_le _, Nat.zero_le _⟩ hP (hDa.to rfl) hE hA hS [0, 1, 2] rfl rfl [d, ch, nu] rfl rfl (ci := 1) rfl (q0 := 0) rfl (Nat.le_of_ble_eq_true rfl) hl.1 dX2_nextOrder_25 (fun H locs hP _ hS => ?_)
    have hP : va_P E.1 vwCl [(d, .inr (1, [.ref ch, .ref nu, .int (nI L), .int a, .int (nI 0), .int le, .int co, .int mi])), (ch, .inl (E.2.2.1, 80, .inl t)), (nu, .inl (E.2.1, 4, .inl u))] H := hP
    refine va_put (D := E.1) (ci := 1) (v := .int (cHe t L a)) (ty := .int) (C := RX2) (T := TX2) (N := 8) hx hb hts inb_X2 tyX2 tyX2_ok nmX2 hown hK hP (hDa.to rfl) hS 0 rfl rfl 5 (by decide) (hts _ bw_108) (fun _ h9 => h9) rfl (by decide +kernel) rfl rfl (Nat.le_of_ble_eq_true rfl) dX2_nextOrder_28 (fun H locs hP _ hS => ?_)
    have hP : va_P E.1 vwCl [(d, .inr (1, [.ref ch, .ref nu, .int (nI L), .int a, .int (nI 0), .int (cHe t L a), .int co, .int mi])), (ch, .inl (E.2.2.1, 80, .inl t)), (nu, .inl (E.2.1, 4, .inl u))] H := hP
    refine lv_aload_n hx hb dX2_nextOrder_31 rfl (lv_at hl 0 rfl) ?_
    refine va_get (D := E.1) (ci := 1) (v := .int (cHe t L a)) (C := RX2) (T := TX2) (N := 8) hx hb hts inb_X2 hown hK hP 0 rfl rfl 5 (by decide) (hts _ bw_108) (fun _ h9 => h9) rfl dX2_nextOrder_32 ?_
    refine rwSr1 (rest := []) S (c_X2_formOf l E (cHe t L a)) cd_X2_formOf bw_568 ⟨Nat.le_of_ble_eq_true rfl, Nat.le_of_ble_eq_true rfl⟩ ⟨Nat.zero_le _, Nat.zero_le _⟩ hP (hDa.to rfl) hE hA hS [] rfl rfl [] rfl rfl (Nat.le_of_ble_eq_true rfl) hl.1 dX2_nextOrder_35 (fun H locs hP _ hS => ?_)
    have hP : va_P E.1 vwCl [(d, .inr (1, [.ref ch, .ref nu, .int (nI L), .int a, .int (nI 0), .int (cHe t L a), .int co, .int mi])), (ch, .inl (E.2.2.1, 80, .inl t)), (nu, .inl (E.2.1, 4, .inl u))] H := hP
    have hi9 := fIx_lt (cHe t L a)
    generalize hfi : fIx (cHe t L a) = i9 at hi9 ⊢
    have hlen9 := lenS_le i9 hi9
    refine lv_astore_n (lv' := [(1, .ref (E.2.2.2.1 i9)), (0, .ref d)]) hx hb dX2_nextOrder_38 rfl hl (by decide) rfl (fun ls hl => ?_)
    refine lv_iconst (v := nI 0) hx hb dX2_nextOrder_39 (by decide) ?_
    refine lv_istore_n (lv' := [(2, .int (nI 0)), (1, .ref (E.2.2.2.1 i9)), (0, .ref d)]) hx hb dX2_nextOrder_40 rfl hl (by decide) rfl (fun ls hl => ?_)
    have loop41 : ∀ (fuel : Nat) (k : Nat), lenS.getD i9 0 - k < fuel → (k ≤ lenS.getD i9 0) → (∀ j, j < k → ¬ noK t L i9 (a, nI 0, co, mi, u) j = 0) → ∀ (H : Heap) (locs : List Loc), va_P E.1 vwCl [(d, .inr (1, [.ref ch, .ref nu, .int (nI L), .int ((noS t L i9 (a, nI 0, co, mi, u) k).1), .int ((noS t L i9 (a, nI 0, co, mi, u) k).2.1), .int (cHe t L a), .int ((noS t L i9 (a, nI 0, co, mi, u) k).2.2.1), .int ((noS t L i9 (a, nI 0, co, mi, u) k).2.2.2.1)])), (ch, .inl (E.2.2.1, 80, .inl t)), (nu, .inl (E.2.1, 4, .inl ((noS t L i9 (a, nI 0, co, mi, u) k).2.2.2.2)))] H → va_S A s.heap H locs → ∀ ls : Array Slot, lv_has ls 3 [(2, .int (nI k)), (1, .ref (E.2.2.2.1 i9)), (0, .ref d)] → W pg l e (rq 4) s m ([.ref d] : List Value).toArray below meth c H locs 0 0 Q (F0 m 41 ls []) := by
      intro fuel
      induction fuel with
      | zero => intro k h9; exact absurd h9 (Nat.not_lt_zero _)
      | succ fuel ih41 =>
        intro k hfu41 hk hall H locs hP hS ls hl
        refine lv_iload_n hx hb dX2_nextOrder_41 rfl (lv_at hl 0 rfl) ?_
        refine lv_aload_n hx hb dX2_nextOrder_42 rfl (lv_at hl 1 rfl) ?_
        refine rwK0 (rest := [.int (nI k)]) S (c_J0_length_8abf5 l E i9 (by omega)) cd_J0_length_8abf5 bw_580 ⟨Nat.le_of_ble_eq_true rfl, Nat.le_of_ble_eq_true rfl⟩ ⟨Nat.zero_le _, Nat.zero_le _⟩ hP (hDa.to rfl) hE hA hS [] rfl rfl [] rfl rfl (vk_recv hE.2.2.2.2.2.2.1 (i := i9) (by omega) hS) (Nat.le_of_ble_eq_true rfl) hl.1 dX2_nextOrder_43 (fun H locs hP _ hS => ?_)
        have hP : va_P E.1 vwCl [(d, .inr (1, [.ref ch, .ref nu, .int (nI L), .int ((noS t L i9 (a, nI 0, co, mi, u) k).1), .int ((noS t L i9 (a, nI 0, co, mi, u) k).2.1), .int (cHe t L a), .int ((noS t L i9 (a, nI 0, co, mi, u) k).2.2.1), .int ((noS t L i9 (a, nI 0, co, mi, u) k).2.2.2.1)])), (ch, .inl (E.2.2.1, 80, .inl t)), (nu, .inl (E.2.1, 4, .inl ((noS t L i9 (a, nI 0, co, mi, u) k).2.2.2.2)))] H := hP
        refine rn_icmp_ge (a := k) (b := lenS.getD i9 0) (tgt := 69) hx hb (by omega) (by omega) dX2_nextOrder_46 (by decide) (fun c_2 => ?_) (fun c_2 => ?_)
        · have hex : lenS.getD i9 0 = k := by omega
          subst hex
          refine lv_aload_n hx hb dX2_nextOrder_69 rfl (lv_at hl 1 rfl) ?_
          refine rwK0 (rest := []) S (c_J0_isEmpty_aae02 l E i9 (by omega)) cd_J0_isEmpty_aae02 bw_644 ⟨Nat.le_of_ble_eq_true rfl, Nat.le_of_ble_eq_true rfl⟩ ⟨Nat.zero_le _, Nat.zero_le _⟩ hP (hDa.to rfl) hE hA hS [] rfl rfl [] rfl rfl (vk_recv hE.2.2.2.2.2.2.1 (i := i9) (by omega) hS) (Nat.le_of_ble_eq_true rfl) hl.1 dX2_nextOrder_70 (fun H locs hP _ hS => ?_)
          have hP : va_P E.1 vwCl [(d, .inr (1, [.ref ch, .ref nu, .int (nI L), .int ((noS t L i9 (a, nI 0, co, mi, u) (lenS.getD i9 0)).1), .int ((noS t L i9 (a, nI 0, co, mi, u) (lenS.getD i9 0)).2.1), .int (cHe t L a), .int ((noS t L i9 (a, nI 0, co, mi, u) (lenS.getD i9 0)).2.2.1), .int ((noS t L i9 (a, nI 0, co, mi, u) (lenS.getD i9 0)).2.2.2.1)])), (ch, .inl (E.2.2.1, 80, .inl t)), (nu, .inl (E.2.1, 4, .inl ((noS t L i9 (a, nI 0, co, mi, u) (lenS.getD i9 0)).2.2.2.2)))] H := hP
          refine lv_if_ne (tgt := 80) hx hb dX2_nextOrder_73 (by decide) (fun c_3 => ?_) (fun c_3 => ?_)
          · refine lv_iconst (v := nI 0) hx hb dX2_nextOrder_80 (by decide) ?_
            exact hret _ _ _ _ _ _ (by rw [show nx t L a b le co mi u = nxT t L i9 (cHe t L a) (a, nI 0, co, mi, u) (nI 0) (lenS.getD i9 0) from by rw [nx, if_pos c_1, nx1, hfi, nx2, noN, ffz_no hall, if_neg (by omega), if_neg c_3]]; rfl) (by rw [show nx t L a b le co mi u = nxT t L i9 (cHe t L a) (a, nI 0, co, mi, u) (nI 0) (lenS.getD i9 0) from by rw [nx, if_pos c_1, nx1, hfi, nx2, noN, ffz_no hall, if_neg (by omega), if_neg c_3]]; rfl) (by decide) hP hS dX2_nextOrder_81
          · refine lv_iconst (v := nI 1) hx hb dX2_nextOrder_76 (by decide) ?_
            refine lv_goto (tgt := 81) hx hb dX2_nextOrder_77 (by decide) ?_
            exact hret _ _ _ _ _ _ (by rw [show nx t L a b le co mi u = nxT t L i9 (cHe t L a) (a, nI 0, co, mi, u) (nI 1) (lenS.getD i9 0) from by rw [nx, if_pos c_1, nx1, hfi, nx2, noN, ffz_no hall, if_neg (by omega), if_pos c_3]]; rfl) (by rw [show nx t L a b le co mi u = nxT t L i9 (cHe t L a) (a, nI 0, co, mi, u) (nI 1) (lenS.getD i9 0) from by rw [nx, if_pos c_1, nx1, hfi, nx2, noN, ffz_no hall, if_neg (by omega), if_pos c_3]]; rfl) (by decide) hP hS dX2_nextOrder_81
        · refine lv_aload_n hx hb dX2_nextOrder_49 rfl (lv_at hl 2 rfl) ?_
          refine lv_aload_n hx hb dX2_nextOrder_50 rfl (lv_at hl 1 rfl) ?_
          refine lv_iload_n hx hb dX2_nextOrder_51 rfl (lv_at hl 0 rfl) ?_
          refine rwK1 (rest := [.ref d]) S (c_J0_charAt_5068e l E i9 k (by omega) (by omega)) cd_J0_charAt_5068e bw_590 ⟨Nat.le_of_ble_eq_true rfl, Nat.le_of_ble_eq_true rfl⟩ ⟨Nat.zero_le _, Nat.zero_le _⟩ hP (hDa.to rfl) hE hA hS [] rfl rfl [] rfl rfl (vk_recv hE.2.2.2.2.2.2.1 (i := i9) (by omega) hS) (Nat.le_of_ble_eq_true rfl) hl.1 dX2_nextOrder_52 (fun H locs hP _ hS => ?_)
          have hP : va_P E.1 vwCl [(d, .inr (1, [.ref ch, .ref nu, .int (nI L), .int ((noS t L i9 (a, nI 0, co, mi, u) k).1), .int ((noS t L i9 (a, nI 0, co, mi, u) k).2.1), .int (cHe t L a), .int ((noS t L i9 (a, nI 0, co, mi, u) k).2.2.1), .int ((noS t L i9 (a, nI 0, co, mi, u) k).2.2.2.1)])), (ch, .inl (E.2.2.1, 80, .inl t)), (nu, .inl (E.2.1, 4, .inl ((noS t L i9 (a, nI 0, co, mi, u) k).2.2.2.2)))] H := hP
          refine rwV1 (rest := []) S (c_X2_readPart l E d ch nu L ((noS t L i9 (a, nI 0, co, mi, u) k).1) ((noS t L i9 (a, nI 0, co, mi, u) k).2.1) (cHe t L a) ((noS t L i9 (a, nI 0, co, mi, u) k).2.2.1) ((noS t L i9 (a, nI 0, co, mi, u) k).2.2.2.1) t ((noS t L i9 (a, nI 0, co, mi, u) k).2.2.2.2) (sCh i9 k) hL) cd_X2_readPart bw_628 ⟨Nat.le_of_ble_eq_true rfl, Nat.le_of_ble_eq_true rfl⟩ ⟨Nat.zero_le _, Nat.zero_le _⟩ hP (hDa.to rfl) hE hA hS [0, 1, 2] rfl rfl [d, ch, nu] rfl rfl (ci := 1) rfl (q0 := 0) rfl (Nat.le_of_ble_eq_true rfl) hl.1 dX2_nextOrder_55 (fun H locs hP _ hS => ?_)
          have hP : va_P E.1 vwCl [(d, .inr (1, [.ref ch, .ref nu, .int (nI L), .int (rpA t L ((noS t L i9 (a, nI 0, co, mi, u) k).1) ((noS t L i9 (a, nI 0, co, mi, u) k).2.1) ((noS t L i9 (a, nI 0, co, mi, u) k).2.2.1) ((noS t L i9 (a, nI 0, co, mi, u) k).2.2.2.1) ((noS t L i9 (a, nI 0, co, mi, u) k).2.2.2.2) (sCh i9 k)), .int (rpB t L ((noS t L i9 (a, nI 0, co, mi, u) k).1) ((noS t L i9 (a, nI 0, co, mi, u) k).2.1) ((noS t L i9 (a, nI 0, co, mi, u) k).2.2.1) ((noS t L i9 (a, nI 0, co, mi, u) k).2.2.2.1) ((noS t L i9 (a, nI 0, co, mi, u) k).2.2.2.2) (sCh i9 k)), .int (cHe t L a), .int (rpC t L ((noS t L i9 (a, nI 0, co, mi, u) k).1) ((noS t L i9 (a, nI 0, co, mi, u) k).2.1) ((noS t L i9 (a, nI 0, co, mi, u) k).2.2.1) ((noS t L i9 (a, nI 0, co, mi, u) k).2.2.2.1) ((noS t L i9 (a, nI 0, co, mi, u) k).2.2.2.2) (sCh i9 k)), .int (rpM t L ((noS t L i9 (a, nI 0, co, mi, u) k).1) ((noS t L i9 (a, nI 0, co, mi, u) k).2.1) ((noS t L i9 (a, nI 0, co, mi, u) k).2.2.1) ((noS t L i9 (a, nI 0, co, mi, u) k).2.2.2.1) ((noS t L i9 (a, nI 0, co, mi, u) k).2.2.2.2) (sCh i9 k))])), (ch, .inl (E.2.2.1, 80, .inl t)), (nu, .inl (E.2.1, 4, .inl (rpU t L ((noS t L i9 (a, nI 0, co, mi, u) k).1) ((noS t L i9 (a, nI 0, co, mi, u) k).2.1) ((noS t L i9 (a, nI 0, co, mi, u) k).2.2.1) ((noS t L i9 (a, nI 0, co, mi, u) k).2.2.2.1) ((noS t L i9 (a, nI 0, co, mi, u) k).2.2.2.2) (sCh i9 k))))] H := hP
          refine lv_if_ne (tgt := 63) hx hb dX2_nextOrder_58 (by decide) (fun c_4 => ?_) (fun c_4 => ?_)
          · refine rn_inc (a := k) (d := 1) (lv' := [(2, .int (nI (k + 1))), (1, .ref (E.2.2.2.1 i9)), (0, .ref d)]) hx hb dX2_nextOrder_63 hl (k := 0) rfl (by decide) (by decide) rfl (fun ls hl => ?_)
            refine lv_goto (tgt := 41) hx hb dX2_nextOrder_66 (by decide) ?_
            have hP : va_P E.1 vwCl [(d, .inr (1, [.ref ch, .ref nu, .int (nI L), .int ((noS t L i9 (a, nI 0, co, mi, u) (k + 1)).1), .int ((noS t L i9 (a, nI 0, co, mi, u) (k + 1)).2.1), .int (cHe t L a), .int ((noS t L i9 (a, nI 0, co, mi, u) (k + 1)).2.2.1), .int ((noS t L i9 (a, nI 0, co, mi, u) (k + 1)).2.2.2.1)])), (ch, .inl (E.2.2.1, 80, .inl t)), (nu, .inl (E.2.1, 4, .inl ((noS t L i9 (a, nI 0, co, mi, u) (k + 1)).2.2.2.2)))] H := by rw [noS1, noS2, noS3, noS4, noS5]; exact hP
            have hl : lv_has ls 3 [(2, .int (nI (k + 1))), (1, .ref (E.2.2.2.1 i9)), (0, .ref d)] := lv_sub hl [0, 1, 2] rfl
            exact ih41 (k + 1) (by omega) (by omega) (lt_s hall c_4) _ _ hP hS _ hl
          · refine lv_iconst (v := nI 0) hx hb dX2_nextOrder_61 (by decide) ?_
            exact hret _ _ _ _ _ _ (by rw [show nx t L a b le co mi u = nxT t L i9 (cHe t L a) (a, nI 0, co, mi, u) (nI 0) (k + 1) from by rw [nx, if_pos c_1, nx1, hfi, nx2, noN, ffz_at hall c_4 (by omega), if_pos (by omega)]]; rfl) (by rw [show nx t L a b le co mi u = nxT t L i9 (cHe t L a) (a, nI 0, co, mi, u) (nI 0) (k + 1) from by rw [nx, if_pos c_1, nx1, hfi, nx2, noN, ffz_at hall c_4 (by omega), if_pos (by omega)]]; simp only [nxT, noS1, noS2, noS3, noS4, noS5]) (by decide) hP hS dX2_nextOrder_62
    have hP : va_P E.1 vwCl [(d, .inr (1, [.ref ch, .ref nu, .int (nI L), .int ((noS t L i9 (a, nI 0, co, mi, u) 0).1), .int ((noS t L i9 (a, nI 0, co, mi, u) 0).2.1), .int (cHe t L a), .int ((noS t L i9 (a, nI 0, co, mi, u) 0).2.2.1), .int ((noS t L i9 (a, nI 0, co, mi, u) 0).2.2.2.1)])), (ch, .inl (E.2.2.1, 80, .inl t)), (nu, .inl (E.2.1, 4, .inl ((noS t L i9 (a, nI 0, co, mi, u) 0).2.2.2.2)))] H := by exact hP
    have hl : lv_has ls 3 [(2, .int (nI 0)), (1, .ref (E.2.2.2.1 i9)), (0, .ref d)] := lv_sub hl [0, 1, 2] rfl
    exact loop41 _ 0 (Nat.lt_succ_self _) (by omega) (fun i h9 => absurd h9 (Nat.not_lt_zero i)) _ _ hP hS _ hl
  · refine lv_aload_n hx hb dX2_nextOrder_7 rfl (lv_at hl 0 rfl) ?_
    refine lv_bipush (v := nI 59) hx hb dX2_nextOrder_8 (by decide) ?_
    refine rwV1 (rest := []) S (c_X2_readSign l E d ch nu L a b le co mi t u (nI 59) hL) cd_X2_readSign bw_560 ⟨Nat.le_of_ble_eq_true rfl, Nat.le_of_ble_eq_true rfl⟩ ⟨Nat.zero_le _, Nat.zero_le _⟩ hP (hDa.to rfl) hE hA hS [0, 1, 2] rfl rfl [d, ch, nu] rfl rfl (ci := 1) rfl (q0 := 0) rfl (Nat.le_of_ble_eq_true rfl) hl.1 dX2_nextOrder_10 (fun H locs hP _ hS => ?_)
    have hP : va_P E.1 vwCl [(d, .inr (1, [.ref ch, .ref nu, .int (nI L), .int (cSgA t L a (nI 59)), .int b, .int le, .int co, .int mi])), (ch, .inl (E.2.2.1, 80, .inl t)), (nu, .inl (E.2.1, 4, .inl u))] H := hP
    refine lv_if_ne (tgt := 18) hx hb dX2_nextOrder_13 (by decide) (fun c_5 => ?_) (fun c_5 => ?_)
    · refine lv_aload_n hx hb dX2_nextOrder_18 rfl (lv_at hl 0 rfl) ?_
      refine lv_iconst (v := nI 0) hx hb dX2_nextOrder_19 (by decide) ?_
      refine va_put (D := E.1) (ci := 1) (v := .int (nI 0)) (ty := .int) (C := RX2) (T := TX2) (N := 8) hx hb hts inb_X2 tyX2 tyX2_ok nmX2 hown hK hP (hDa.to rfl) hS 0 rfl rfl 4 (by decide) (hts _ bw_107) (fun _ h9 => h9) rfl (by decide +kernel) rfl rfl (Nat.le_of_ble_eq_true rfl) dX2_nextOrder_20 (fun H locs hP _ hS => ?_)
      have hP : va_P E.1 vwCl [(d, .inr (1, [.ref ch, .ref nu, .int (nI L), .int (cSgA t L a (nI 59)), .int (nI 0), .int le, .int co, .int mi])), (ch, .inl (E.2.2.1, 80, .inl t)), (nu, .inl (E.2.1, 4, .inl u))] H := hP
      refine lv_aload_n hx hb dX2_nextOrder_23 rfl (lv_at hl 0 rfl) ?_
      refine lv_aload_n hx hb dX2_nextOrder_24 rfl (lv_at hl 0 rfl) ?_
      refine rwV0 (rest := [.ref d]) S (c_X2_here l E d ch nu L (cSgA t L a (nI 59)) (nI 0) le co mi t u hL) cd_X2_here bw_564 ⟨Nat.le_of_ble_eq_true rfl, Nat.le_of_ble_eq_true rfl⟩ ⟨Nat.zero_le _, Nat.zero_le _⟩ hP (hDa.to rfl) hE hA hS [0, 1, 2] rfl rfl [d, ch, nu] rfl rfl (ci := 1) rfl (q0 := 0) rfl (Nat.le_of_ble_eq_true rfl) hl.1 dX2_nextOrder_25 (fun H locs hP _ hS => ?_)
      have hP : va_P E.1 vwCl [(d, .inr (1, [.ref ch, .ref nu, .int (nI L), .int (cSgA t L a (nI 59)), .int (nI 0), .int le, .int co, .int mi])), (ch, .inl (E.2.2.1, 80, .inl t)), (nu, .inl (E.2.1, 4, .inl u))] H := hP
      refine va_put (D := E.1) (ci := 1) (v := .int (cHe t L (cSgA t L a (nI 59)))) (ty := .int) (C := RX2) (T := TX2) (N := 8) hx hb hts inb_X2 tyX2 tyX2_ok nmX2 hown hK hP (hDa.to rfl) hS 0 rfl rfl 5 (by decide) (hts _ bw_108) (fun _ h9 => h9) rfl (by decide +kernel) rfl rfl (Nat.le_of_ble_eq_true rfl) dX2_nextOrder_28 (fun H locs hP _ hS => ?_)
      have hP : va_P E.1 vwCl [(d, .inr (1, [.ref ch, .ref nu, .int (nI L), .int (cSgA t L a (nI 59)), .int (nI 0), .int (cHe t L (cSgA t L a (nI 59))), .int co, .int mi])), (ch, .inl (E.2.2.1, 80, .inl t)), (nu, .inl (E.2.1, 4, .inl u))] H := hP
      refine lv_aload_n hx hb dX2_nextOrder_31 rfl (lv_at hl 0 rfl) ?_
      refine va_get (D := E.1) (ci := 1) (v := .int (cHe t L (cSgA t L a (nI 59)))) (C := RX2) (T := TX2) (N := 8) hx hb hts inb_X2 hown hK hP 0 rfl rfl 5 (by decide) (hts _ bw_108) (fun _ h9 => h9) rfl dX2_nextOrder_32 ?_
      refine rwSr1 (rest := []) S (c_X2_formOf l E (cHe t L (cSgA t L a (nI 59)))) cd_X2_formOf bw_568 ⟨Nat.le_of_ble_eq_true rfl, Nat.le_of_ble_eq_true rfl⟩ ⟨Nat.zero_le _, Nat.zero_le _⟩ hP (hDa.to rfl) hE hA hS [] rfl rfl [] rfl rfl (Nat.le_of_ble_eq_true rfl) hl.1 dX2_nextOrder_35 (fun H locs hP _ hS => ?_)
      have hP : va_P E.1 vwCl [(d, .inr (1, [.ref ch, .ref nu, .int (nI L), .int (cSgA t L a (nI 59)), .int (nI 0), .int (cHe t L (cSgA t L a (nI 59))), .int co, .int mi])), (ch, .inl (E.2.2.1, 80, .inl t)), (nu, .inl (E.2.1, 4, .inl u))] H := hP
      have hi9 := fIx_lt (cHe t L (cSgA t L a (nI 59)))
      generalize hfi : fIx (cHe t L (cSgA t L a (nI 59))) = i9 at hi9 ⊢
      have hlen9 := lenS_le i9 hi9
      refine lv_astore_n (lv' := [(1, .ref (E.2.2.2.1 i9)), (0, .ref d)]) hx hb dX2_nextOrder_38 rfl hl (by decide) rfl (fun ls hl => ?_)
      refine lv_iconst (v := nI 0) hx hb dX2_nextOrder_39 (by decide) ?_
      refine lv_istore_n (lv' := [(2, .int (nI 0)), (1, .ref (E.2.2.2.1 i9)), (0, .ref d)]) hx hb dX2_nextOrder_40 rfl hl (by decide) rfl (fun ls hl => ?_)
      have loop41 : ∀ (fuel : Nat) (k : Nat), lenS.getD i9 0 - k < fuel → (k ≤ lenS.getD i9 0) → (∀ j, j < k → ¬ noK t L i9 ((cSgA t L a (nI 59)), nI 0, co, mi, u) j = 0) → ∀ (H : Heap) (locs : List Loc), va_P E.1 vwCl [(d, .inr (1, [.ref ch, .ref nu, .int (nI L), .int ((noS t L i9 ((cSgA t L a (nI 59)), nI 0, co, mi, u) k).1), .int ((noS t L i9 ((cSgA t L a (nI 59)), nI 0, co, mi, u) k).2.1), .int (cHe t L (cSgA t L a (nI 59))), .int ((noS t L i9 ((cSgA t L a (nI 59)), nI 0, co, mi, u) k).2.2.1), .int ((noS t L i9 ((cSgA t L a (nI 59)), nI 0, co, mi, u) k).2.2.2.1)])), (ch, .inl (E.2.2.1, 80, .inl t)), (nu, .inl (E.2.1, 4, .inl ((noS t L i9 ((cSgA t L a (nI 59)), nI 0, co, mi, u) k).2.2.2.2)))] H → va_S A s.heap H locs → ∀ ls : Array Slot, lv_has ls 3 [(2, .int (nI k)), (1, .ref (E.2.2.2.1 i9)), (0, .ref d)] → W pg l e (rq 4) s m ([.ref d] : List Value).toArray below meth c H locs 0 0 Q (F0 m 41 ls []) := by
        intro fuel
        induction fuel with
        | zero => intro k h9; exact absurd h9 (Nat.not_lt_zero _)
        | succ fuel ih41 =>
          intro k hfu41 hk hall H locs hP hS ls hl
          refine lv_iload_n hx hb dX2_nextOrder_41 rfl (lv_at hl 0 rfl) ?_
          refine lv_aload_n hx hb dX2_nextOrder_42 rfl (lv_at hl 1 rfl) ?_
          refine rwK0 (rest := [.int (nI k)]) S (c_J0_length_8abf5 l E i9 (by omega)) cd_J0_length_8abf5 bw_580 ⟨Nat.le_of_ble_eq_true rfl, Nat.le_of_ble_eq_true rfl⟩ ⟨Nat.zero_le _, Nat.zero_le _⟩ hP (hDa.to rfl) hE hA hS [] rfl rfl [] rfl rfl (vk_recv hE.2.2.2.2.2.2.1 (i := i9) (by omega) hS) (Nat.le_of_ble_eq_true rfl) hl.1 dX2_nextOrder_43 (fun H locs hP _ hS => ?_)
          have hP : va_P E.1 vwCl [(d, .inr (1, [.ref ch, .ref nu, .int (nI L), .int ((noS t L i9 ((cSgA t L a (nI 59)), nI 0, co, mi, u) k).1), .int ((noS t L i9 ((cSgA t L a (nI 59)), nI 0, co, mi, u) k).2.1), .int (cHe t L (cSgA t L a (nI 59))), .int ((noS t L i9 ((cSgA t L a (nI 59)), nI 0, co, mi, u) k).2.2.1), .int ((noS t L i9 ((cSgA t L a (nI 59)), nI 0, co, mi, u) k).2.2.2.1)])), (ch, .inl (E.2.2.1, 80, .inl t)), (nu, .inl (E.2.1, 4, .inl ((noS t L i9 ((cSgA t L a (nI 59)), nI 0, co, mi, u) k).2.2.2.2)))] H := hP
          refine rn_icmp_ge (a := k) (b := lenS.getD i9 0) (tgt := 69) hx hb (by omega) (by omega) dX2_nextOrder_46 (by decide) (fun c_6 => ?_) (fun c_6 => ?_)
          · have hex : lenS.getD i9 0 = k := by omega
            subst hex
            refine lv_aload_n hx hb dX2_nextOrder_69 rfl (lv_at hl 1 rfl) ?_
            refine rwK0 (rest := []) S (c_J0_isEmpty_aae02 l E i9 (by omega)) cd_J0_isEmpty_aae02 bw_644 ⟨Nat.le_of_ble_eq_true rfl, Nat.le_of_ble_eq_true rfl⟩ ⟨Nat.zero_le _, Nat.zero_le _⟩ hP (hDa.to rfl) hE hA hS [] rfl rfl [] rfl rfl (vk_recv hE.2.2.2.2.2.2.1 (i := i9) (by omega) hS) (Nat.le_of_ble_eq_true rfl) hl.1 dX2_nextOrder_70 (fun H locs hP _ hS => ?_)
            have hP : va_P E.1 vwCl [(d, .inr (1, [.ref ch, .ref nu, .int (nI L), .int ((noS t L i9 ((cSgA t L a (nI 59)), nI 0, co, mi, u) (lenS.getD i9 0)).1), .int ((noS t L i9 ((cSgA t L a (nI 59)), nI 0, co, mi, u) (lenS.getD i9 0)).2.1), .int (cHe t L (cSgA t L a (nI 59))), .int ((noS t L i9 ((cSgA t L a (nI 59)), nI 0, co, mi, u) (lenS.getD i9 0)).2.2.1), .int ((noS t L i9 ((cSgA t L a (nI 59)), nI 0, co, mi, u) (lenS.getD i9 0)).2.2.2.1)])), (ch, .inl (E.2.2.1, 80, .inl t)), (nu, .inl (E.2.1, 4, .inl ((noS t L i9 ((cSgA t L a (nI 59)), nI 0, co, mi, u) (lenS.getD i9 0)).2.2.2.2)))] H := hP
            refine lv_if_ne (tgt := 80) hx hb dX2_nextOrder_73 (by decide) (fun c_7 => ?_) (fun c_7 => ?_)
            · refine lv_iconst (v := nI 0) hx hb dX2_nextOrder_80 (by decide) ?_
              exact hret _ _ _ _ _ _ (by rw [show nx t L a b le co mi u = nxT t L i9 (cHe t L (cSgA t L a (nI 59))) ((cSgA t L a (nI 59)), nI 0, co, mi, u) (nI 0) (lenS.getD i9 0) from by rw [nx, if_neg c_1, if_neg c_5, nx1, hfi, nx2, noN, ffz_no hall, if_neg (by omega), if_neg c_7]]; rfl) (by rw [show nx t L a b le co mi u = nxT t L i9 (cHe t L (cSgA t L a (nI 59))) ((cSgA t L a (nI 59)), nI 0, co, mi, u) (nI 0) (lenS.getD i9 0) from by rw [nx, if_neg c_1, if_neg c_5, nx1, hfi, nx2, noN, ffz_no hall, if_neg (by omega), if_neg c_7]]; rfl) (by decide) hP hS dX2_nextOrder_81
            · refine lv_iconst (v := nI 1) hx hb dX2_nextOrder_76 (by decide) ?_
              refine lv_goto (tgt := 81) hx hb dX2_nextOrder_77 (by decide) ?_
              exact hret _ _ _ _ _ _ (by rw [show nx t L a b le co mi u = nxT t L i9 (cHe t L (cSgA t L a (nI 59))) ((cSgA t L a (nI 59)), nI 0, co, mi, u) (nI 1) (lenS.getD i9 0) from by rw [nx, if_neg c_1, if_neg c_5, nx1, hfi, nx2, noN, ffz_no hall, if_neg (by omega), if_pos c_7]]; rfl) (by rw [show nx t L a b le co mi u = nxT t L i9 (cHe t L (cSgA t L a (nI 59))) ((cSgA t L a (nI 59)), nI 0, co, mi, u) (nI 1) (lenS.getD i9 0) from by rw [nx, if_neg c_1, if_neg c_5, nx1, hfi, nx2, noN, ffz_no hall, if_neg (by omega), if_pos c_7]]; rfl) (by decide) hP hS dX2_nextOrder_81
          · refine lv_aload_n hx hb dX2_nextOrder_49 rfl (lv_at hl 2 rfl) ?_
            refine lv_aload_n hx hb dX2_nextOrder_50 rfl (lv_at hl 1 rfl) ?_
            refine lv_iload_n hx hb dX2_nextOrder_51 rfl (lv_at hl 0 rfl) ?_
            refine rwK1 (rest := [.ref d]) S (c_J0_charAt_5068e l E i9 k (by omega) (by omega)) cd_J0_charAt_5068e bw_590 ⟨Nat.le_of_ble_eq_true rfl, Nat.le_of_ble_eq_true rfl⟩ ⟨Nat.zero_le _, Nat.zero_le _⟩ hP (hDa.to rfl) hE hA hS [] rfl rfl [] rfl rfl (vk_recv hE.2.2.2.2.2.2.1 (i := i9) (by omega) hS) (Nat.le_of_ble_eq_true rfl) hl.1 dX2_nextOrder_52 (fun H locs hP _ hS => ?_)
            have hP : va_P E.1 vwCl [(d, .inr (1, [.ref ch, .ref nu, .int (nI L), .int ((noS t L i9 ((cSgA t L a (nI 59)), nI 0, co, mi, u) k).1), .int ((noS t L i9 ((cSgA t L a (nI 59)), nI 0, co, mi, u) k).2.1), .int (cHe t L (cSgA t L a (nI 59))), .int ((noS t L i9 ((cSgA t L a (nI 59)), nI 0, co, mi, u) k).2.2.1), .int ((noS t L i9 ((cSgA t L a (nI 59)), nI 0, co, mi, u) k).2.2.2.1)])), (ch, .inl (E.2.2.1, 80, .inl t)), (nu, .inl (E.2.1, 4, .inl ((noS t L i9 ((cSgA t L a (nI 59)), nI 0, co, mi, u) k).2.2.2.2)))] H := hP
            refine rwV1 (rest := []) S (c_X2_readPart l E d ch nu L ((noS t L i9 ((cSgA t L a (nI 59)), nI 0, co, mi, u) k).1) ((noS t L i9 ((cSgA t L a (nI 59)), nI 0, co, mi, u) k).2.1) (cHe t L (cSgA t L a (nI 59))) ((noS t L i9 ((cSgA t L a (nI 59)), nI 0, co, mi, u) k).2.2.1) ((noS t L i9 ((cSgA t L a (nI 59)), nI 0, co, mi, u) k).2.2.2.1) t ((noS t L i9 ((cSgA t L a (nI 59)), nI 0, co, mi, u) k).2.2.2.2) (sCh i9 k) hL) cd_X2_readPart bw_628 ⟨Nat.le_of_ble_eq_true rfl, Nat.le_of_ble_eq_true rfl⟩ ⟨Nat.zero_le _, Nat.zero_le _⟩ hP (hDa.to rfl) hE hA hS [0, 1, 2] rfl rfl [d, ch, nu] rfl rfl (ci := 1) rfl (q0 := 0) rfl (Nat.le_of_ble_eq_true rfl) hl.1 dX2_nextOrder_55 (fun H locs hP _ hS => ?_)
            have hP : va_P E.1 vwCl [(d, .inr (1, [.ref ch, .ref nu, .int (nI L), .int (rpA t L ((noS t L i9 ((cSgA t L a (nI 59)), nI 0, co, mi, u) k).1) ((noS t L i9 ((cSgA t L a (nI 59)), nI 0, co, mi, u) k).2.1) ((noS t L i9 ((cSgA t L a (nI 59)), nI 0, co, mi, u) k).2.2.1) ((noS t L i9 ((cSgA t L a (nI 59)), nI 0, co, mi, u) k).2.2.2.1) ((noS t L i9 ((cSgA t L a (nI 59)), nI 0, co, mi, u) k).2.2.2.2) (sCh i9 k)), .int (rpB t L ((noS t L i9 ((cSgA t L a (nI 59)), nI 0, co, mi, u) k).1) ((noS t L i9 ((cSgA t L a (nI 59)), nI 0, co, mi, u) k).2.1) ((noS t L i9 ((cSgA t L a (nI 59)), nI 0, co, mi, u) k).2.2.1) ((noS t L i9 ((cSgA t L a (nI 59)), nI 0, co, mi, u) k).2.2.2.1) ((noS t L i9 ((cSgA t L a (nI 59)), nI 0, co, mi, u) k).2.2.2.2) (sCh i9 k)), .int (cHe t L (cSgA t L a (nI 59))), .int (rpC t L ((noS t L i9 ((cSgA t L a (nI 59)), nI 0, co, mi, u) k).1) ((noS t L i9 ((cSgA t L a (nI 59)), nI 0, co, mi, u) k).2.1) ((noS t L i9 ((cSgA t L a (nI 59)), nI 0, co, mi, u) k).2.2.1) ((noS t L i9 ((cSgA t L a (nI 59)), nI 0, co, mi, u) k).2.2.2.1) ((noS t L i9 ((cSgA t L a (nI 59)), nI 0, co, mi, u) k).2.2.2.2) (sCh i9 k)), .int (rpM t L ((noS t L i9 ((cSgA t L a (nI 59)), nI 0, co, mi, u) k).1) ((noS t L i9 ((cSgA t L a (nI 59)), nI 0, co, mi, u) k).2.1) ((noS t L i9 ((cSgA t L a (nI 59)), nI 0, co, mi, u) k).2.2.1) ((noS t L i9 ((cSgA t L a (nI 59)), nI 0, co, mi, u) k).2.2.2.1) ((noS t L i9 ((cSgA t L a (nI 59)), nI 0, co, mi, u) k).2.2.2.2) (sCh i9 k))])), (ch, .inl (E.2.2.1, 80, .inl t)), (nu, .inl (E.2.1, 4, .inl (rpU t L ((noS t L i9 ((cSgA t L a (nI 59)), nI 0, co, mi, u) k).1) ((noS t L i9 ((cSgA t L a (nI 59)), nI 0, co, mi, u) k).2.1) ((noS t L i9 ((cSgA t L a (nI 59)), nI 0, co, mi, u) k).2.2.1) ((noS t L i9 ((cSgA t L a (nI 59)), nI 0, co, mi, u) k).2.2.2.1) ((noS t L i9 ((cSgA t L a (nI 59)), nI 0, co, mi, u) k).2.2.2.2) (sCh i9 k))))] H := hP
            refine lv_if_ne (tgt := 63) hx hb dX2_nextOrder_58 (by decide) (fun c_8 => ?_) (fun c_8 => ?_)
            · refine rn_inc (a := k) (d := 1) (lv' := [(2, .int (nI (k + 1))), (1, .ref (E.2.2.2.1 i9)), (0, .ref d)]) hx hb dX2_nextOrder_63 hl (k := 0) rfl (by decide) (by decide) rfl (fun ls hl => ?_)
              refine lv_goto (tgt := 41) hx hb dX2_nextOrder_66 (by decide) ?_
              have hP : va_P E.1 vwCl [(d, .inr (1, [.ref ch, .ref nu, .int (nI L), .int ((noS t L i9 ((cSgA t L a (nI 59)), nI 0, co, mi, u) (k + 1)).1), .int ((noS t L i9 ((cSgA t L a (nI 59)), nI 0, co, mi, u) (k + 1)).2.1), .int (cHe t L (cSgA t L a (nI 59))), .int ((noS t L i9 ((cSgA t L a (nI 59)), nI 0, co, mi, u) (k + 1)).2.2.1), .int ((noS t L i9 ((cSgA t L a (nI 59)), nI 0, co, mi, u) (k + 1)).2.2.2.1)])), (ch, .inl (E.2.2.1, 80, .inl t)), (nu, .inl (E.2.1, 4, .inl ((noS t L i9 ((cSgA t L a (nI 59)), nI 0, co, mi, u) (k + 1)).2.2.2.2)))] H := by rw [noS1, noS2, noS3, noS4, noS5]; exact hP
              have hl : lv_has ls 3 [(2, .int (nI (k + 1))), (1, .ref (E.2.2.2.1 i9)), (0, .ref d)] := lv_sub hl [0, 1, 2] rfl
              exact ih41 (k + 1) (by omega) (by omega) (lt_s hall c_8) _ _ hP hS _ hl
            · refine lv_iconst (v := nI 0) hx hb dX2_nextOrder_61 (by decide) ?_
              exact hret _ _ _ _ _ _ (by rw [show nx t L a b le co mi u = nxT t L i9 (cHe t L (cSgA t L a (nI 59))) ((cSgA t L a (nI 59)), nI 0, co, mi, u) (nI 0) (k + 1) from by rw [nx, if_neg c_1, if_neg c_5, nx1, hfi, nx2, noN, ffz_at hall c_8 (by omega), if_pos (by omega)]]; rfl) (by rw [show nx t L a b le co mi u = nxT t L i9 (cHe t L (cSgA t L a (nI 59))) ((cSgA t L a (nI 59)), nI 0, co, mi, u) (nI 0) (k + 1) from by rw [nx, if_neg c_1, if_neg c_5, nx1, hfi, nx2, noN, ffz_at hall c_8 (by omega), if_pos (by omega)]]; simp only [nxT, noS1, noS2, noS3, noS4, noS5]) (by decide) hP hS dX2_nextOrder_62
      have hP : va_P E.1 vwCl [(d, .inr (1, [.ref ch, .ref nu, .int (nI L), .int ((noS t L i9 ((cSgA t L a (nI 59)), nI 0, co, mi, u) 0).1), .int ((noS t L i9 ((cSgA t L a (nI 59)), nI 0, co, mi, u) 0).2.1), .int (cHe t L (cSgA t L a (nI 59))), .int ((noS t L i9 ((cSgA t L a (nI 59)), nI 0, co, mi, u) 0).2.2.1), .int ((noS t L i9 ((cSgA t L a (nI 59)), nI 0, co, mi, u) 0).2.2.2.1)])), (ch, .inl (E.2.2.1, 80, .inl t)), (nu, .inl (E.2.1, 4, .inl ((noS t L i9 ((cSgA t L a (nI 59)), nI 0, co, mi, u) 0).2.2.2.2)))] H := by exact hP
      have hl : lv_has ls 3 [(2, .int (nI 0)), (1, .ref (E.2.2.2.1 i9)), (0, .ref d)] := lv_sub hl [0, 1, 2] rfl
      exact loop41 _ 0 (Nat.lt_succ_self _) (by omega) (fun i h9 => absurd h9 (Nat.not_lt_zero i)) _ _ hP hS _ hl
    · refine lv_iconst (v := nI 0) hx hb dX2_nextOrder_16 (by decide) ?_
      exact hret _ _ _ _ _ _ (by rw [nx, if_neg c_1, if_pos c_5]) (by rw [nx, if_neg c_1, if_pos c_5, cSgA_0 c_5]) (by decide) hP hS dX2_nextOrder_17

