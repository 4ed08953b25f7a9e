/-! what the law is told of the class -/
theorem fCo_e (f : Nat → Int32) (n L z : Nat) {k : Nat} (hk : k < 12) : fCo f n L z (nI k) = fCo f n 0 0 (nI k) := by
  rcases (by omega : k = 0 ∨ k = 1 ∨ k = 2 ∨ k = 3 ∨ k = 4 ∨ k = 5 ∨ k = 6 ∨ k = 7 ∨ k = 8 ∨ k = 9 ∨ k = 10 ∨ k = 11) with e | e | e | e | e | e | e | e | e | e | e | e <;> subst e <;> unfold fCo <;> (repeat' (first | rw [if_pos rfl] | rw [if_neg (by decide)])) <;> rfl
theorem fCo_0 (f : Nat → Int32) (n L z : Nat) : fCo f n L z (nI 0) = nI n := by rw [fCo, if_pos rfl]
def toA (f : Nat → Int32) (n : Nat) : Nat → Int64
  | 0 => 181
  | k + 1 => (31 * toA f n k) + (fCo f n 0 0 (nI k)).toInt64
def toB (f : Nat → Int32) (n : Nat) : Nat → Int64
  | 0 => toA f n 12
  | k + 1 => (31 * toB f n k) + (fLa f (nI (k / 3)) (nI (k % 3))).toInt64
def toD (f : Nat → Int32) (n k : Nat) (v : Int64) : Nat → Int64
  | 0 => v
  | j + 1 => (31 * toD f n k v j) + (fIn f n (nI (k / 3)) (nI (k % 3)) (nI j)).toInt64
def toC (f : Nat → Int32) (n : Nat) : Nat → Int64
  | 0 => toB f n 9
  | k + 1 => (31 * toD f n k (toC f n k) 6) + (fOf f n (nI (k / 3)) (nI (k % 3))).toInt64
theorem cd_L_told : cdS yL_told cL_told 5 (some .long) 1 := ⟨⟨bw_509, bw_1, by decide, by decide, by decide +kernel⟩, bw_508⟩
set_option maxHeartbeats 4000000 in
set_option maxRecDepth 100000 in
theorem c_L_told (l : Launch) (E : EV) (xo : Nat) (r : Nat) (r2 : Nat) (r3 : Nat) (d : Nat) (y : Nat) (q2 : Nat) (sf : Int32) (rc : Nat) (f : Nat → Int32) (ch : Nat) (nu : Nat) (L : Nat) (a : Int32) (b : Int32) (le : Int32) (co : Int32) (mi : Int32) (t : Nat → Int32) (u : Nat → Int32) (q : Nat) (w : Nat) (o : Nat) (z : Nat) (h : Nat → Int32) (n : Nat) (hf : f 12 = nI n) (hn : n ≤ 20) : rcL l E yL_told cL_told 5 7 [.ref xo] [(xo, .inr (4, [.ref r, .ref r2, .ref r3, .ref d, .ref y, .ref q2, .int sf])), (r, .inr (2, [.ref rc])), (rc, .inl (E.2.1, 293, .inl f)), (d, .inr (1, [.ref ch, .ref nu, .int (nI L), .int a, .int b, .int le, .int co, .int mi])), (ch, .inl (E.2.2.1, 80, .inl t)), (nu, .inl (E.2.1, 4, .inl u)), (y, .inr (0, [.ref q, .int (nI o), .int (nI z)])), (q, .inr (3, [.ref w])), (w, .inl (E.2.1, 1758, .inl h))] (toC f n (3 * n)) [(xo, .inr (4, [.ref r, .ref r2, .ref r3, .ref d, .ref y, .ref q2, .int sf])), (r, .inr (2, [.ref rc])), (rc, .inl (E.2.1, 293, .inl f)), (d, .inr (1, [.ref ch, .ref nu, .int (nI L), .int a, .int b, .int le, .int co, .int mi])), (ch, .inl (E.2.2.1, 80, .inl t)), (nu, .inl (E.2.1, 4, .inl u)), (y, .inr (0, [.ref q, .int (nI o), .int (nI z)])), (q, .inr (3, [.ref w])), (w, .inl (E.2.1, 1758, .inl h))] := by
  refine rcL_of (by decide) (Nat.le_of_ble_eq_true rfl) ?_
  intro pg e s m below meth c Q A ls S hP hD0 hE hA hl hret
  have hx := S.1
  have hb := S.2.1
  have hown := S.2.2.2.1
  have hts := S.2.2.2.2
  have hK := hE.1
  have hS : va_S A s.heap s.heap [] := va_S.rf
  have hDa : va_Da A [xo, r, rc, d, ch, nu, y, q, w] := ⟨_, hD0, rfl⟩
  have hl : lv_has ls 5 [(0, .ref xo)] := hl
  refine lv_ldc2 (own := RL) (v := 181) hx hb hown (hts _ bw_510) dL_told_0 ?_
  refine lv_lstore_n (lv' := [(1, .long 181), (0, .ref xo)]) hx hb dL_told_3 rfl hl (by decide) rfl (fun ls hl => ?_)
  refine lv_iconst (v := nI 0) hx hb dL_told_4 (by decide) ?_
  refine lv_istore_n (lv' := [(3, .int (nI 0)), (1, .long 181), (0, .ref xo)]) hx hb dL_told_5 rfl hl (by decide) rfl (fun ls hl => ?_)
  have loop6 : ∀ (fuel : Nat) (k : Nat), 12 - k < fuel → (k ≤ 12) → ∀ (H : Heap) (locs : List Loc), va_P E.1 vwCl [(xo, .inr (4, [.ref r, .ref r2, .ref r3, .ref d, .ref y, .ref q2, .int sf])), (r, .inr (2, [.ref rc])), (rc, .inl (E.2.1, 293, .inl f)), (d, .inr (1, [.ref ch, .ref nu, .int (nI L), .int a, .int b, .int le, .int co, .int mi])), (ch, .inl (E.2.2.1, 80, .inl t)), (nu, .inl (E.2.1, 4, .inl u)), (y, .inr (0, [.ref q, .int (nI o), .int (nI z)])), (q, .inr (3, [.ref w])), (w, .inl (E.2.1, 1758, .inl h))] H → va_S A s.heap H locs → ∀ ls : Array Slot, lv_has ls 5 [(3, .int (nI k)), (1, .long (toA f n k)), (0, .ref xo)] → W pg l e (rq 7) s m ([.ref xo] : List Value).toArray below meth c H locs 0 0 Q (F0 m 6 ls []) := by
    intro fuel
    induction fuel with
    | zero => intro k h9; exact absurd h9 (Nat.not_lt_zero _)
    | succ fuel ih6 =>
      intro k hfu6 hk H locs hP hS ls hl
      refine lv_iload_n hx hb dL_told_6 rfl (lv_at hl 0 rfl) ?_
      refine lv_bipush (v := nI 12) hx hb dL_told_7 (by decide) ?_
      refine rn_icmp_ge (a := k) (b := 12) (tgt := 31) hx hb (by omega) (by omega) dL_told_9 (by decide) (fun c_1 => ?_) (fun c_1 => ?_)
      · have hex : 12 = k := by omega
        subst hex
        refine lv_iconst (v := nI 0) hx hb dL_told_31 (by decide) ?_
        refine lv_istore_n (lv' := [(3, .int (nI 0)), (1, .long (toA f n 12)), (0, .ref xo)]) hx hb dL_told_32 rfl hl (by decide) rfl (fun ls hl => ?_)
        have loop33 : ∀ (fuel : Nat) (k : Nat), 9 - k < fuel → (k ≤ 9) → ∀ (H : Heap) (locs : List Loc), va_P E.1 vwCl [(xo, .inr (4, [.ref r, .ref r2, .ref r3, .ref d, .ref y, .ref q2, .int sf])), (r, .inr (2, [.ref rc])), (rc, .inl (E.2.1, 293, .inl f)), (d, .inr (1, [.ref ch, .ref nu, .int (nI L), .int a, .int b, .int le, .int co, .int mi])), (ch, .inl (E.2.2.1, 80, .inl t)), (nu, .inl (E.2.1, 4, .inl u)), (y, .inr (0, [.ref q, .int (nI o), .int (nI z)])), (q, .inr (3, [.ref w])), (w, .inl (E.2.1, 1758, .inl h))] H → va_S A s.heap H locs → ∀ ls : Array Slot, lv_has ls 5 [(3, .int (nI k)), (1, .long (toB f n k)), (0, .ref xo)] → W pg l e (rq 7) s m ([.ref xo] : List Value).toArray below meth c H locs 0 0 Q (F0 m 33 ls []) := by
          intro fuel
          induction fuel with
          | zero => intro k h9; exact absurd h9 (Nat.not_lt_zero _)
          | succ fuel ih33 =>
            intro k hfu33 hk H locs hP hS ls hl
            refine lv_iload_n hx hb dL_told_33 rfl (lv_at hl 0 rfl) ?_
            refine lv_bipush (v := nI 9) hx hb dL_told_34 (by decide) ?_
            refine rn_icmp_ge (a := k) (b := 9) (tgt := 63) hx hb (by omega) (by omega) dL_told_36 (by decide) (fun c_2 => ?_) (fun c_2 => ?_)
            · have hex : 9 = k := by omega
              subst hex
              refine lv_iconst (v := nI 0) hx hb dL_told_63 (by decide) ?_
              refine lv_istore_n (lv' := [(3, .int (nI 0)), (1, .long (toB f n 9)), (0, .ref xo)]) hx hb dL_told_64 rfl hl (by decide) rfl (fun ls hl => ?_)
              have loop65 : ∀ (fuel : Nat) (k : Nat), 3 * n - k < fuel → (k ≤ 3 * n) → ∀ (H : Heap) (locs : List Loc), va_P E.1 vwCl [(xo, .inr (4, [.ref r, .ref r2, .ref r3, .ref d, .ref y, .ref q2, .int sf])), (r, .inr (2, [.ref rc])), (rc, .inl (E.2.1, 293, .inl f)), (d, .inr (1, [.ref ch, .ref nu, .int (nI L), .int a, .int b, .int le, .int co, .int mi])), (ch, .inl (E.2.2.1, 80, .inl t)), (nu, .inl (E.2.1, 4, .inl u)), (y, .inr (0, [.ref q, .int (nI o), .int (nI z)])), (q, .inr (3, [.ref w])), (w, .inl (E.2.1, 1758, .inl h))] H → va_S A s.heap H locs → ∀ ls : Array Slot, lv_has ls 5 [(3, .int (nI k)), (1, .long (toC f n k)), (0, .ref xo)] → W pg l e (rq 7) s m ([.ref xo] : List Value).toArray below meth c H locs 0 0 Q (F0 m 65 ls []) := by
                intro fuel
                induction fuel with
                | zero => intro k h9; exact absurd h9 (Nat.not_lt_zero _)
                | succ fuel ih65 =>
                  intro k hfu65 hk H locs hP hS ls hl
                  refine lv_iload_n hx hb dL_told_65 rfl (lv_at hl 0 rfl) ?_
                  refine lv_iconst (v := nI 3) hx hb dL_told_66 (by decide) ?_
                  refine lv_aload_n hx hb dL_told_67 rfl (lv_at hl 2 rfl) ?_
                  refine lv_iconst (v := nI 0) hx hb dL_told_68 (by decide) ?_
                  refine rwV1 (rest := [.int (nI 3), .int (nI k)]) S (c_X7_count l E xo r r2 r3 d y q2 sf rc f ch nu L a b le co mi t u q w o z h n (nI 0) hf hn) cd_X7_count bw_419 ⟨Nat.le_of_ble_eq_true rfl, Nat.le_of_ble_eq_true rfl⟩ ⟨Nat.zero_le _, Nat.zero_le _⟩ hP (hDa.to rfl) hE hA hS [0, 1, 2, 3, 4, 5, 6, 7, 8] rfl rfl [xo, r, rc, d, ch, nu, y, q, w] rfl rfl (ci := 4) rfl (q0 := 0) rfl (Nat.le_of_ble_eq_true rfl) hl.1 dL_told_69 (fun H locs hP _ hS => ?_)
                  have hP : va_P E.1 vwCl [(xo, .inr (4, [.ref r, .ref r2, .ref r3, .ref d, .ref y, .ref q2, .int sf])), (r, .inr (2, [.ref rc])), (rc, .inl (E.2.1, 293, .inl f)), (d, .inr (1, [.ref ch, .ref nu, .int (nI L), .int a, .int b, .int le, .int co, .int mi])), (ch, .inl (E.2.2.1, 80, .inl t)), (nu, .inl (E.2.1, 4, .inl u)), (y, .inr (0, [.ref q, .int (nI o), .int (nI z)])), (q, .inr (3, [.ref w])), (w, .inl (E.2.1, 1758, .inl h))] H := hP
                  refine W.eq (congrArg (fun z9 => F0 m 72 ls (.int z9 :: [.int (nI 3), .int (nI k)])) (show fCo f n L z (nI 0) = nI n from (fCo_0 f n L z))) ?_
                  refine rn_mul (a := 3) (b := n) hx hb dL_told_72 ?_
                  refine rn_icmp_ge (a := k) (b := 3 * n) (tgt := 136) hx hb (by omega) (by omega) dL_told_73 (by decide) (fun c_3 => ?_) (fun c_3 => ?_)
                  · have hex : 3 * n = k := by omega
                    subst hex
                    refine lv_lload_n hx hb dL_told_136 rfl (lv_at hl 1 rfl) ?_
                    exact hret _ _ _ _ _ _ rfl rfl hP hS dL_told_137
                  · refine lv_iconst (v := nI 0) hx hb dL_told_76 (by decide) ?_
                    refine lv_istore (lv' := [(4, .int (nI 0)), (3, .int (nI k)), (1, .long (toC f n k)), (0, .ref xo)]) hx hb dL_told_77 hl (by decide) rfl (fun ls hl => ?_)
                    have loop79 : ∀ (fuel : Nat) (j : Nat), 6 - j < fuel → (j ≤ 6) → ∀ (H : Heap) (locs : List Loc), va_P E.1 vwCl [(xo, .inr (4, [.ref r, .ref r2, .ref r3, .ref d, .ref y, .ref q2, .int sf])), (r, .inr (2, [.ref rc])), (rc, .inl (E.2.1, 293, .inl f)), (d, .inr (1, [.ref ch, .ref nu, .int (nI L), .int a, .int b, .int le, .int co, .int mi])), (ch, .inl (E.2.2.1, 80, .inl t)), (nu, .inl (E.2.1, 4, .inl u)), (y, .inr (0, [.ref q, .int (nI o), .int (nI z)])), (q, .inr (3, [.ref w])), (w, .inl (E.2.1, 1758, .inl h))] H → va_S A s.heap H locs → ∀ ls : Array Slot, lv_has ls 5 [(4, .int (nI j)), (3, .int (nI k)), (1, .long (toD f n k (toC f n k) j)), (0, .ref xo)] → W pg l e (rq 7) s m ([.ref xo] : List Value).toArray below meth c H locs 0 0 Q (F0 m 79 ls []) := by
                      intro fuel
                      induction fuel with
                      | zero => intro j h9; exact absurd h9 (Nat.not_lt_zero _)
                      | succ fuel ih79 =>
                        intro j hfu79 hj H locs hP hS ls hl
                        refine lv_iload hx hb dL_told_79 (lv_at hl 0 rfl) ?_
                        refine lv_bipush (v := nI 6) hx hb dL_told_81 (by decide) ?_
                        refine rn_icmp_ge (a := j) (b := 6) (tgt := 112) hx hb (by omega) (by omega) dL_told_83 (by decide) (fun c_4 => ?_) (fun c_4 => ?_)
                        · have hex : 6 = j := by omega
                          subst hex
                          refine lv_ldc2 (own := RL) (v := 31) hx hb hown (hts _ bw_511) dL_told_112 ?_
                          refine lv_lload_n hx hb dL_told_115 rfl (lv_at hl 2 rfl) ?_
                          refine lv_lmul hx hb dL_told_116 ?_
                          refine lv_aload_n hx hb dL_told_117 rfl (lv_at hl 3 rfl) ?_
                          refine lv_iload_n hx hb dL_told_118 rfl (lv_at hl 1 rfl) ?_
                          refine lv_iconst (v := nI 3) hx hb dL_told_119 (by decide) ?_
                          refine rn_div (a := k) (b := 3) hx hb dL_told_120 (by omega) (by omega) (by omega) ?_
                          refine lv_iload_n hx hb dL_told_121 rfl (lv_at hl 1 rfl) ?_
                          refine lv_iconst (v := nI 3) hx hb dL_told_122 (by decide) ?_
                          refine rn_rem (a := k) (b := 3) hx hb dL_told_123 (by omega) (by omega) (by omega) ?_
                          refine rwV2 (rest := [.long (31 * (toD f n k (toC f n k) 6))]) S (c_X7_of l E xo r r2 r3 d y q2 sf rc f n (nI (k / 3)) (nI (k % 3)) hf hn) cd_X7_of bw_455 ⟨Nat.le_of_ble_eq_true rfl, Nat.le_of_ble_eq_true rfl⟩ ⟨Nat.zero_le _, Nat.zero_le _⟩ hP (hDa.to rfl) hE hA hS [0, 1, 2] rfl rfl [xo, r, rc] rfl rfl (ci := 4) rfl (q0 := 0) rfl (Nat.le_of_ble_eq_true rfl) hl.1 dL_told_124 (fun H locs hP _ hS => ?_)
                          have hP : va_P E.1 vwCl [(xo, .inr (4, [.ref r, .ref r2, .ref r3, .ref d, .ref y, .ref q2, .int sf])), (r, .inr (2, [.ref rc])), (rc, .inl (E.2.1, 293, .inl f)), (d, .inr (1, [.ref ch, .ref nu, .int (nI L), .int a, .int b, .int le, .int co, .int mi])), (ch, .inl (E.2.2.1, 80, .inl t)), (nu, .inl (E.2.1, 4, .inl u)), (y, .inr (0, [.ref q, .int (nI o), .int (nI z)])), (q, .inr (3, [.ref w])), (w, .inl (E.2.1, 1758, .inl h))] H := hP
                          refine lv_i2l hx hb dL_told_127 rfl ?_
                          refine lv_ladd hx hb dL_told_128 ?_
                          refine lv_lstore_n (lv' := [(1, .long ((31 * (toD f n k (toC f n k) 6)) + ((fOf f n (nI (k / 3)) (nI (k % 3))).toInt64))), (4, .int (nI 6)), (3, .int (nI k)), (0, .ref xo)]) hx hb dL_told_129 rfl hl (by decide) rfl (fun ls hl => ?_)
                          refine rn_inc (a := k) (d := 1) (lv' := [(3, .int (nI (k + 1))), (1, .long ((31 * (toD f n k (toC f n k) 6)) + ((fOf f n (nI (k / 3)) (nI (k % 3))).toInt64))), (4, .int (nI 6)), (0, .ref xo)]) hx hb dL_told_130 hl (k := 2) rfl (by decide) (by decide) rfl (fun ls hl => ?_)
                          refine lv_goto (tgt := 65) hx hb dL_told_133 (by decide) ?_
                          have hl : lv_has ls 5 [(3, .int (nI (k + 1))), (1, .long (toC f n (k + 1))), (0, .ref xo)] := lv_sub hl [0, 1, 3] rfl
                          exact ih65 (k + 1) (by omega) (by omega) _ _ hP hS _ hl
                        · refine lv_ldc2 (own := RL) (v := 31) hx hb hown (hts _ bw_511) dL_told_86 ?_
                          refine lv_lload_n hx hb dL_told_89 rfl (lv_at hl 2 rfl) ?_
                          refine lv_lmul hx hb dL_told_90 ?_
                          refine lv_aload_n hx hb dL_told_91 rfl (lv_at hl 3 rfl) ?_
                          refine lv_iload_n hx hb dL_told_92 rfl (lv_at hl 1 rfl) ?_
                          refine lv_iconst (v := nI 3) hx hb dL_told_93 (by decide) ?_
                          refine rn_div (a := k) (b := 3) hx hb dL_told_94 (by omega) (by omega) (by omega) ?_
                          refine lv_iload_n hx hb dL_told_95 rfl (lv_at hl 1 rfl) ?_
                          refine lv_iconst (v := nI 3) hx hb dL_told_96 (by decide) ?_
                          refine rn_rem (a := k) (b := 3) hx hb dL_told_97 (by omega) (by omega) (by omega) ?_
                          refine lv_iload hx hb dL_told_98 (lv_at hl 0 rfl) ?_
                          refine rwV3 (rest := [.long (31 * (toD f n k (toC f n k) j))]) S (c_X7_inColour l E xo r r2 r3 d y q2 sf rc f n (nI (k / 3)) (nI (k % 3)) (nI j) hf hn) cd_X7_inColour bw_484 ⟨Nat.le_of_ble_eq_true rfl, Nat.le_of_ble_eq_true rfl⟩ ⟨Nat.zero_le _, Nat.zero_le _⟩ hP (hDa.to rfl) hE hA hS [0, 1, 2] rfl rfl [xo, r, rc] rfl rfl (ci := 4) rfl (q0 := 0) rfl (Nat.le_of_ble_eq_true rfl) hl.1 dL_told_100 (fun H locs hP _ hS => ?_)
                          have hP : va_P E.1 vwCl [(xo, .inr (4, [.ref r, .ref r2, .ref r3, .ref d, .ref y, .ref q2, .int sf])), (r, .inr (2, [.ref rc])), (rc, .inl (E.2.1, 293, .inl f)), (d, .inr (1, [.ref ch, .ref nu, .int (nI L), .int a, .int b, .int le, .int co, .int mi])), (ch, .inl (E.2.2.1, 80, .inl t)), (nu, .inl (E.2.1, 4, .inl u)), (y, .inr (0, [.ref q, .int (nI o), .int (nI z)])), (q, .inr (3, [.ref w])), (w, .inl (E.2.1, 1758, .inl h))] H := hP
                          refine lv_i2l hx hb dL_told_103 rfl ?_
                          refine lv_ladd hx hb dL_told_104 ?_
                          refine lv_lstore_n (lv' := [(1, .long ((31 * (toD f n k (toC f n k) j)) + ((fIn f n (nI (k / 3)) (nI (k % 3)) (nI j)).toInt64))), (4, .int (nI j)), (3, .int (nI k)), (0, .ref xo)]) hx hb dL_told_105 rfl hl (by decide) rfl (fun ls hl => ?_)
                          refine rn_inc (a := j) (d := 1) (lv' := [(4, .int (nI (j + 1))), (1, .long ((31 * (toD f n k (toC f n k) j)) + ((fIn f n (nI (k / 3)) (nI (k % 3)) (nI j)).toInt64))), (3, .int (nI k)), (0, .ref xo)]) hx hb dL_told_106 hl (k := 1) rfl (by decide) (by decide) rfl (fun ls hl => ?_)
                          refine lv_goto (tgt := 79) hx hb dL_told_109 (by decide) ?_
                          have hl : lv_has ls 5 [(4, .int (nI (j + 1))), (3, .int (nI k)), (1, .long (toD f n k (toC f n k) (j + 1))), (0, .ref xo)] := lv_sub hl [0, 2, 1, 3] rfl
                          exact ih79 (j + 1) (by omega) (by omega) _ _ hP hS _ hl
                    have hl : lv_has ls 5 [(4, .int (nI 0)), (3, .int (nI k)), (1, .long (toD f n k (toC f n k) 0)), (0, .ref xo)] := lv_sub hl [0, 1, 2, 3] rfl
                    exact loop79 _ 0 (Nat.lt_succ_self _) (by omega) _ _ hP hS _ hl
              have hl : lv_has ls 5 [(3, .int (nI 0)), (1, .long (toC f n 0)), (0, .ref xo)] := lv_sub hl [0, 1, 2] rfl
              exact loop65 _ 0 (Nat.lt_succ_self _) (by omega) _ _ hP hS _ hl
            · refine lv_ldc2 (own := RL) (v := 31) hx hb hown (hts _ bw_511) dL_told_39 ?_
              refine lv_lload_n hx hb dL_told_42 rfl (lv_at hl 1 rfl) ?_
              refine lv_lmul hx hb dL_told_43 ?_
              refine lv_aload_n hx hb dL_told_44 rfl (lv_at hl 2 rfl) ?_
              refine lv_iload_n hx hb dL_told_45 rfl (lv_at hl 0 rfl) ?_
              refine lv_iconst (v := nI 3) hx hb dL_told_46 (by decide) ?_
              refine rn_div (a := k) (b := 3) hx hb dL_told_47 (by omega) (by omega) (by omega) ?_
              refine lv_iload_n hx hb dL_told_48 rfl (lv_at hl 0 rfl) ?_
              refine lv_iconst (v := nI 3) hx hb dL_told_49 (by decide) ?_
              refine rn_rem (a := k) (b := 3) hx hb dL_told_50 (by omega) (by omega) (by omega) ?_
              refine rwV2 (rest := [.long (31 * (toB f n k))]) S (c_X7_ofLamp l E xo r r2 r3 d y q2 sf rc f (nI (k / 3)) (nI (k % 3))) cd_X7_ofLamp bw_449 ⟨Nat.le_of_ble_eq_true rfl, Nat.le_of_ble_eq_true rfl⟩ ⟨Nat.zero_le _, Nat.zero_le _⟩ hP (hDa.to rfl) hE hA hS [0, 1, 2] rfl rfl [xo, r, rc] rfl rfl (ci := 4) rfl (q0 := 0) rfl (Nat.le_of_ble_eq_true rfl) hl.1 dL_told_51 (fun H locs hP _ hS => ?_)
              have hP : va_P E.1 vwCl [(xo, .inr (4, [.ref r, .ref r2, .ref r3, .ref d, .ref y, .ref q2, .int sf])), (r, .inr (2, [.ref rc])), (rc, .inl (E.2.1, 293, .inl f)), (d, .inr (1, [.ref ch, .ref nu, .int (nI L), .int a, .int b, .int le, .int co, .int mi])), (ch, .inl (E.2.2.1, 80, .inl t)), (nu, .inl (E.2.1, 4, .inl u)), (y, .inr (0, [.ref q, .int (nI o), .int (nI z)])), (q, .inr (3, [.ref w])), (w, .inl (E.2.1, 1758, .inl h))] H := hP
              refine lv_i2l hx hb dL_told_54 rfl ?_
              refine lv_ladd hx hb dL_told_55 ?_
              refine lv_lstore_n (lv' := [(1, .long ((31 * (toB f n k)) + ((fLa f (nI (k / 3)) (nI (k % 3))).toInt64))), (3, .int (nI k)), (0, .ref xo)]) hx hb dL_told_56 rfl hl (by decide) rfl (fun ls hl => ?_)
              refine rn_inc (a := k) (d := 1) (lv' := [(3, .int (nI (k + 1))), (1, .long ((31 * (toB f n k)) + ((fLa f (nI (k / 3)) (nI (k % 3))).toInt64))), (0, .ref xo)]) hx hb dL_told_57 hl (k := 1) rfl (by decide) (by decide) rfl (fun ls hl => ?_)
              refine lv_goto (tgt := 33) hx hb dL_told_60 (by decide) ?_
              have hl : lv_has ls 5 [(3, .int (nI (k + 1))), (1, .long (toB f n (k + 1))), (0, .ref xo)] := lv_sub hl [0, 1, 2] rfl
              exact ih33 (k + 1) (by omega) (by omega) _ _ hP hS _ hl
        have hl : lv_has ls 5 [(3, .int (nI 0)), (1, .long (toB f n 0)), (0, .ref xo)] := lv_sub hl [0, 1, 2] rfl
        exact loop33 _ 0 (Nat.lt_succ_self _) (by omega) _ _ hP hS _ hl
      · refine lv_ldc2 (own := RL) (v := 31) hx hb hown (hts _ bw_511) dL_told_12 ?_
        refine lv_lload_n hx hb dL_told_15 rfl (lv_at hl 1 rfl) ?_
        refine lv_lmul hx hb dL_told_16 ?_
        refine lv_aload_n hx hb dL_told_17 rfl (lv_at hl 2 rfl) ?_
        refine lv_iload_n hx hb dL_told_18 rfl (lv_at hl 0 rfl) ?_
        refine rwV1 (rest := [.long (31 * (toA f n k))]) S (c_X7_count l E xo r r2 r3 d y q2 sf rc f ch nu L a b le co mi t u q w o z h n (nI k) hf hn) cd_X7_count bw_419 ⟨Nat.le_of_ble_eq_true rfl, Nat.le_of_ble_eq_true rfl⟩ ⟨Nat.zero_le _, Nat.zero_le _⟩ hP (hDa.to rfl) hE hA hS [0, 1, 2, 3, 4, 5, 6, 7, 8] rfl rfl [xo, r, rc, d, ch, nu, y, q, w] rfl rfl (ci := 4) rfl (q0 := 0) rfl (Nat.le_of_ble_eq_true rfl) hl.1 dL_told_19 (fun H locs hP _ hS => ?_)
        have hP : va_P E.1 vwCl [(xo, .inr (4, [.ref r, .ref r2, .ref r3, .ref d, .ref y, .ref q2, .int sf])), (r, .inr (2, [.ref rc])), (rc, .inl (E.2.1, 293, .inl f)), (d, .inr (1, [.ref ch, .ref nu, .int (nI L), .int a, .int b, .int le, .int co, .int mi])), (ch, .inl (E.2.2.1, 80, .inl t)), (nu, .inl (E.2.1, 4, .inl u)), (y, .inr (0, [.ref q, .int (nI o), .int (nI z)])), (q, .inr (3, [.ref w])), (w, .inl (E.2.1, 1758, .inl h))] H := hP
        refine W.eq (congrArg (fun z9 => F0 m 22 ls (.int z9 :: [.long (31 * (toA f n k))])) (show fCo f n L z (nI k) = fCo f n 0 0 (nI k) from (fCo_e f n L z (by omega)))) ?_
        refine lv_i2l hx hb dL_told_22 rfl ?_
        refine lv_ladd hx hb dL_told_23 ?_
        refine lv_lstore_n (lv' := [(1, .long ((31 * (toA f n k)) + ((fCo f n 0 0 (nI k)).toInt64))), (3, .int (nI k)), (0, .ref xo)]) hx hb dL_told_24 rfl hl (by decide) rfl (fun ls hl => ?_)
        refine rn_inc (a := k) (d := 1) (lv' := [(3, .int (nI (k + 1))), (1, .long ((31 * (toA f n k)) + ((fCo f n 0 0 (nI k)).toInt64))), (0, .ref xo)]) hx hb dL_told_25 hl (k := 1) rfl (by decide) (by decide) rfl (fun ls hl => ?_)
        refine lv_goto (tgt := 6) hx hb dL_told_28 (by decide) ?_
        have hl : lv_has ls 5 [(3, .int (nI (k + 1))), (1, .long (toA f n (k + 1))), (0, .ref xo)] := lv_sub hl [0, 1, 2] rfl
        exact ih6 (k + 1) (by omega) (by omega) _ _ hP hS _ hl
  have hl : lv_has ls 5 [(3, .int (nI 0)), (1, .long (toA f n 0)), (0, .ref xo)] := lv_sub hl [0, 1, 2] rfl
  exact loop6 _ 0 (Nat.lt_succ_self _) (by omega) _ _ hP hS _ hl

