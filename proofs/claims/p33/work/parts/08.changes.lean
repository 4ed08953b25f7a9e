/-- a print, place by place: one answer; the answers of one shot; of the first k shots; how many of them are bad -/
def cR1 (g : Nat → Int32) (k co : Nat) : Nat → Int32 := upd g (13 + 14 * k + (11 + co)) (cOf g k co (g (7 + co)))
def cRs (g : Nat → Int32) (k : Nat) : Nat → Int32 := upd (cR1 (cR1 (cR1 g k 0) k 1) k 2) (13 + 14 * k + 1) (nI 1)
def cRp (f : Nat → Int32) : Nat → Nat → Int32
  | 0 => f
  | k + 1 => cRs (cRp f k) k
theorem cRp_s (f : Nat → Int32) (k : Nat) : cRp f (k + 1) = cRs (cRp f k) k := rfl
theorem cRs_12 (g : Nat → Int32) (k : Nat) : cRs g k 12 = g 12 := (pk_un (by omega)).trans ((pk_un (by omega)).trans ((pk_un (by omega)).trans (pk_un (by omega))))
theorem cRp_12 (f : Nat → Int32) : ∀ k : Nat, cRp f k 12 = f 12
  | 0 => rfl
  | k + 1 => (congrFun (cRp_s f k) 12).trans ((cRs_12 _ _).trans (cRp_12 f k))
def cRb (f : Nat → Int32) : Nat → Int32
  | 0 => nI 0
  | k + 1 => cRb f k + (if cBa (cRs (cRp f k) k) k = 0 then nI 0 else nI 1)
theorem cRb_p {f : Nat → Int32} {k : Nat} (h : cBa (cRs (cRp f k) k) k = 0) : cRb f (k + 1) = cRb f k + nI 0 := by rw [cRb, if_pos h]
theorem cRb_n {f : Nat → Int32} {k : Nat} (h : ¬ cBa (cRs (cRp f k) k) k = 0) : cRb f (k + 1) = cRb f k + nI 1 := by rw [cRb, if_neg h]
theorem cd_X0_runPrinter : cdS yX0_runPrinter cX0_runPrinter 5 (some .int) 1 := ⟨⟨bw_288, bw_10, by decide, by decide, by decide +kernel⟩, bw_287⟩
def cRv (f : Nat → Int32) (n : Nat) : Int32 := cRb f n
def cRw (f : Nat → Int32) (n : Nat) : Nat → Int32 := upd (upd (upd (upd (cRp f n) 4 ((cRp f n) 4 + (cHo (cRp f n) n))) 5 ((upd (cRp f n) 4 ((cRp f n) 4 + (cHo (cRp f n) n))) 5 + (cHo (cRp f n) n))) 6 ((upd (upd (cRp f n) 4 ((cRp f n) 4 + (cHo (cRp f n) n))) 5 ((upd (cRp f n) 4 ((cRp f n) 4 + (cHo (cRp f n) n))) 5 + (cHo (cRp f n) n))) 6 + (cHo (cRp f n) n))) 10 ((upd (upd (upd (cRp f n) 4 ((cRp f n) 4 + (cHo (cRp f n) n))) 5 ((upd (cRp f n) 4 ((cRp f n) 4 + (cHo (cRp f n) n))) 5 + (cHo (cRp f n) n))) 6 ((upd (upd (cRp f n) 4 ((cRp f n) 4 + (cHo (cRp f n) n))) 5 ((upd (cRp f n) 4 ((cRp f n) 4 + (cHo (cRp f n) n))) 5 + (cHo (cRp f n) n))) 6 + (cHo (cRp f n) n))) 10 + (nI 1))
set_option maxHeartbeats 4000000 in
set_option maxRecDepth 100000 in
theorem c_X0_runPrinter (l : Launch) (E : EV) (r : Nat) (rc : Nat) (f : Nat → Int32) (n : Nat) (hf : f 12 = nI n) (hn : n ≤ 20) : rcI l E yX0_runPrinter cX0_runPrinter 5 .int 5 [.ref r] [(r, .inr (2, [.ref rc])), (rc, .inl (E.2.1, 293, .inl f))] (cRv f n) [(r, .inr (2, [.ref rc])), (rc, .inl (E.2.1, 293, .inl (cRw f n)))] := by
  refine rcI_of (by decide) (Nat.le_of_ble_eq_true rfl) ?_
  intro pg e s m below meth c Q A ls S hP hD0 hE hA hl hret
  have hx := S.1
  have hb := S.2.1
  have hown := S.2.2.2.1
  have hts := S.2.2.2.2
  have hK := hE.1
  have hS : va_S A s.heap s.heap [] := va_S.rf
  have hDa : va_Da A [r, rc] := ⟨_, hD0, rfl⟩
  have hl : lv_has ls 5 [(0, .ref r)] := hl
  refine lv_iconst (v := nI 0) hx hb dX0_runPrinter_0 (by decide) ?_
  refine lv_istore_n (lv' := [(1, .int (nI 0)), (0, .ref r)]) hx hb dX0_runPrinter_1 rfl hl (by decide) rfl (fun ls hl => ?_)
  refine lv_iconst (v := nI 0) hx hb dX0_runPrinter_2 (by decide) ?_
  refine lv_istore_n (lv' := [(2, .int (nI 0)), (1, .int (nI 0)), (0, .ref r)]) hx hb dX0_runPrinter_3 rfl hl (by decide) rfl (fun ls hl => ?_)
  have loop4 : ∀ (fuel : Nat) (k : Nat), n - k < fuel → (k ≤ n) → ∀ (H : Heap) (locs : List Loc), va_P E.1 vwCl [(r, .inr (2, [.ref rc])), (rc, .inl (E.2.1, 293, .inl (cRp f k)))] H → va_S A s.heap H locs → ∀ ls : Array Slot, lv_has ls 5 [(2, .int (nI k)), (1, .int (cRb f k)), (0, .ref r)] → W pg l e (rq 5) s m ([.ref r] : List Value).toArray below meth c H locs 0 0 Q (F0 m 4 ls []) := by
    intro fuel
    induction fuel with
    | zero => intro k h9; exact absurd h9 (Nat.not_lt_zero _)
    | succ fuel ih4 =>
      intro k hfu4 hk H locs hP hS ls hl
      refine lv_iload_n hx hb dX0_runPrinter_4 rfl (lv_at hl 0 rfl) ?_
      refine lv_aload_n hx hb dX0_runPrinter_5 rfl (lv_at hl 2 rfl) ?_
      refine rwV0 (rest := [.int (nI k)]) S (c_X3_shots l E r rc (cRp f k) n ((cRp_12 f k).trans hf)) cd_X3_shots bw_158 ⟨Nat.le_of_ble_eq_true rfl, Nat.le_of_ble_eq_true rfl⟩ ⟨Nat.zero_le _, Nat.zero_le _⟩ hP (hDa.to rfl) hE hA hS [0, 1] rfl rfl [r, rc] rfl rfl (ci := 2) rfl (q0 := 0) rfl (Nat.le_of_ble_eq_true rfl) hl.1 dX0_runPrinter_6 (fun H locs hP _ hS => ?_)
      have hP : va_P E.1 vwCl [(r, .inr (2, [.ref rc])), (rc, .inl (E.2.1, 293, .inl (cRp f k)))] H := hP
      refine rn_icmp_ge (a := k) (b := n) (tgt := 87) hx hb (by omega) (by omega) dX0_runPrinter_9 (by decide) (fun c_1 => ?_) (fun c_1 => ?_)
      · have hex : n = k := by omega
        subst hex
        refine lv_aload_n hx hb dX0_runPrinter_87 rfl (lv_at hl 2 rfl) ?_
        refine rwS1 (rest := []) S (c_X0_hoursOfPrint l E r rc (cRp f n) n ((cRp_12 f n).trans hf) hn) cd_X0_hoursOfPrint bw_278 ⟨Nat.le_of_ble_eq_true rfl, Nat.le_of_ble_eq_true rfl⟩ ⟨Nat.zero_le _, Nat.zero_le _⟩ hP (hDa.to rfl) hE hA hS [0, 1] rfl rfl [r, rc] rfl rfl (Nat.le_of_ble_eq_true rfl) hl.1 dX0_runPrinter_88 (fun H locs hP _ hS => ?_)
        have hP : va_P E.1 vwCl [(r, .inr (2, [.ref rc])), (rc, .inl (E.2.1, 293, .inl (cRp f n)))] H := hP
        refine lv_istore_n (lv' := [(2, .int (cHo (cRp f n) n)), (1, .int (cRb f n)), (0, .ref r)]) hx hb dX0_runPrinter_91 rfl hl (by decide) rfl (fun ls hl => ?_)
        refine lv_iconst (v := nI 0) hx hb dX0_runPrinter_92 (by decide) ?_
        refine lv_istore_n (lv' := [(3, .int (nI 0)), (2, .int (cHo (cRp f n) n)), (1, .int (cRb f n)), (0, .ref r)]) hx hb dX0_runPrinter_93 rfl hl (by decide) rfl (fun ls hl => ?_)
        refine lv_iload_n hx hb dX0_runPrinter_94 rfl (lv_at hl 0 rfl) ?_
        refine lv_iconst (v := nI 3) hx hb dX0_runPrinter_95 (by decide) ?_
        refine rn_icmp_ge (a := 0) (b := 3) (tgt := 121) hx hb (by omega) (by omega) dX0_runPrinter_96 (by decide) (fun c_2 => absurd c_2 (by omega)) (fun c_2 => ?_)
        refine lv_aload_n hx hb dX0_runPrinter_99 rfl (lv_at hl 3 rfl) ?_
        refine lv_iconst (v := nI 4) hx hb dX0_runPrinter_100 (by decide) ?_
        refine lv_iload_n hx hb dX0_runPrinter_101 rfl (lv_at hl 0 rfl) ?_
        refine rn_add (a := 4) (b := 0) hx hb dX0_runPrinter_102 ?_
        refine lv_aload_n hx hb dX0_runPrinter_103 rfl (lv_at hl 3 rfl) ?_
        refine lv_iconst (v := nI 4) hx hb dX0_runPrinter_104 (by decide) ?_
        refine lv_iload_n hx hb dX0_runPrinter_105 rfl (lv_at hl 0 rfl) ?_
        refine rn_add (a := 4) (b := 0) hx hb dX0_runPrinter_106 ?_
        refine rwV1 (rest := [.int (nI 4), .ref r]) S (c_X3_read l E r rc (cRp f n) 4 (by omega)) cd_X3_read bw_285 ⟨Nat.le_of_ble_eq_true rfl, Nat.le_of_ble_eq_true rfl⟩ ⟨Nat.zero_le _, Nat.zero_le _⟩ hP (hDa.to rfl) hE hA hS [0, 1] rfl rfl [r, rc] rfl rfl (ci := 2) rfl (q0 := 0) rfl (Nat.le_of_ble_eq_true rfl) hl.1 dX0_runPrinter_107 (fun H locs hP _ hS => ?_)
        have hP : va_P E.1 vwCl [(r, .inr (2, [.ref rc])), (rc, .inl (E.2.1, 293, .inl (cRp f n)))] H := hP
        refine lv_iload_n hx hb dX0_runPrinter_110 rfl (lv_at hl 1 rfl) ?_
        refine lv_iadd hx hb dX0_runPrinter_111 ?_
        refine rwVv2 (rest := []) S (c_X3_write l E r rc (cRp f n) 4 ((cRp f n) 4 + (cHo (cRp f n) n)) (by omega)) cd_X3_write bw_311 ⟨Nat.le_of_ble_eq_true rfl, Nat.le_of_ble_eq_true rfl⟩ ⟨Nat.zero_le _, Nat.zero_le _⟩ hP (hDa.to rfl) hE hA hS [0, 1] rfl rfl [r, rc] rfl rfl (ci := 2) rfl (q0 := 0) rfl (Nat.le_of_ble_eq_true rfl) hl.1 dX0_runPrinter_112 (fun H locs hP _ hS => ?_)
        have hP : va_P E.1 vwCl [(r, .inr (2, [.ref rc])), (rc, .inl (E.2.1, 293, .inl (upd (cRp f n) 4 ((cRp f n) 4 + (cHo (cRp f n) n)))))] H := hP
        refine rn_inc (a := 0) (d := 1) (lv' := [(3, .int (nI 1)), (2, .int (cHo (cRp f n) n)), (1, .int (cRb f n)), (0, .ref r)]) hx hb dX0_runPrinter_115 hl (k := 0) rfl (by decide) (by decide) rfl (fun ls hl => ?_)
        refine lv_goto (tgt := 94) hx hb dX0_runPrinter_118 (by decide) ?_
        refine lv_iload_n hx hb dX0_runPrinter_94 rfl (lv_at hl 0 rfl) ?_
        refine lv_iconst (v := nI 3) hx hb dX0_runPrinter_95 (by decide) ?_
        refine rn_icmp_ge (a := 1) (b := 3) (tgt := 121) hx hb (by omega) (by omega) dX0_runPrinter_96 (by decide) (fun c_3 => absurd c_3 (by omega)) (fun c_3 => ?_)
        refine lv_aload_n hx hb dX0_runPrinter_99 rfl (lv_at hl 3 rfl) ?_
        refine lv_iconst (v := nI 4) hx hb dX0_runPrinter_100 (by decide) ?_
        refine lv_iload_n hx hb dX0_runPrinter_101 rfl (lv_at hl 0 rfl) ?_
        refine rn_add (a := 4) (b := 1) hx hb dX0_runPrinter_102 ?_
        refine lv_aload_n hx hb dX0_runPrinter_103 rfl (lv_at hl 3 rfl) ?_
        refine lv_iconst (v := nI 4) hx hb dX0_runPrinter_104 (by decide) ?_
        refine lv_iload_n hx hb dX0_runPrinter_105 rfl (lv_at hl 0 rfl) ?_
        refine rn_add (a := 4) (b := 1) hx hb dX0_runPrinter_106 ?_
        refine rwV1 (rest := [.int (nI 5), .ref r]) S (c_X3_read l E r rc (upd (cRp f n) 4 ((cRp f n) 4 + (cHo (cRp f n) n))) 5 (by omega)) cd_X3_read bw_285 ⟨Nat.le_of_ble_eq_true rfl, Nat.le_of_ble_eq_true rfl⟩ ⟨Nat.zero_le _, Nat.zero_le _⟩ hP (hDa.to rfl) hE hA hS [0, 1] rfl rfl [r, rc] rfl rfl (ci := 2) rfl (q0 := 0) rfl (Nat.le_of_ble_eq_true rfl) hl.1 dX0_runPrinter_107 (fun H locs hP _ hS => ?_)
        have hP : va_P E.1 vwCl [(r, .inr (2, [.ref rc])), (rc, .inl (E.2.1, 293, .inl (upd (cRp f n) 4 ((cRp f n) 4 + (cHo (cRp f n) n)))))] H := hP
        refine lv_iload_n hx hb dX0_runPrinter_110 rfl (lv_at hl 1 rfl) ?_
        refine lv_iadd hx hb dX0_runPrinter_111 ?_
        refine rwVv2 (rest := []) S (c_X3_write l E r rc (upd (cRp f n) 4 ((cRp f n) 4 + (cHo (cRp f n) n))) 5 ((upd (cRp f n) 4 ((cRp f n) 4 + (cHo (cRp f n) n))) 5 + (cHo (cRp f n) n)) (by omega)) cd_X3_write bw_311 ⟨Nat.le_of_ble_eq_true rfl, Nat.le_of_ble_eq_true rfl⟩ ⟨Nat.zero_le _, Nat.zero_le _⟩ hP (hDa.to rfl) hE hA hS [0, 1] rfl rfl [r, rc] rfl rfl (ci := 2) rfl (q0 := 0) rfl (Nat.le_of_ble_eq_true rfl) hl.1 dX0_runPrinter_112 (fun H locs hP _ hS => ?_)
        have hP : va_P E.1 vwCl [(r, .inr (2, [.ref rc])), (rc, .inl (E.2.1, 293, .inl (upd (upd (cRp f n) 4 ((cRp f n) 4 + (cHo (cRp f n) n))) 5 ((upd (cRp f n) 4 ((cRp f n) 4 + (cHo (cRp f n) n))) 5 + (cHo (cRp f n) n)))))] H := hP
        refine rn_inc (a := 1) (d := 1) (lv' := [(3, .int (nI 2)), (2, .int (cHo (cRp f n) n)), (1, .int (cRb f n)), (0, .ref r)]) hx hb dX0_runPrinter_115 hl (k := 0) rfl (by decide) (by decide) rfl (fun ls hl => ?_)
        refine lv_goto (tgt := 94) hx hb dX0_runPrinter_118 (by decide) ?_
        refine lv_iload_n hx hb dX0_runPrinter_94 rfl (lv_at hl 0 rfl) ?_
        refine lv_iconst (v := nI 3) hx hb dX0_runPrinter_95 (by decide) ?_
        refine rn_icmp_ge (a := 2) (b := 3) (tgt := 121) hx hb (by omega) (by omega) dX0_runPrinter_96 (by decide) (fun c_4 => absurd c_4 (by omega)) (fun c_4 => ?_)
        refine lv_aload_n hx hb dX0_runPrinter_99 rfl (lv_at hl 3 rfl) ?_
        refine lv_iconst (v := nI 4) hx hb dX0_runPrinter_100 (by decide) ?_
        refine lv_iload_n hx hb dX0_runPrinter_101 rfl (lv_at hl 0 rfl) ?_
        refine rn_add (a := 4) (b := 2) hx hb dX0_runPrinter_102 ?_
        refine lv_aload_n hx hb dX0_runPrinter_103 rfl (lv_at hl 3 rfl) ?_
        refine lv_iconst (v := nI 4) hx hb dX0_runPrinter_104 (by decide) ?_
        refine lv_iload_n hx hb dX0_runPrinter_105 rfl (lv_at hl 0 rfl) ?_
        refine rn_add (a := 4) (b := 2) hx hb dX0_runPrinter_106 ?_
        refine rwV1 (rest := [.int (nI 6), .ref r]) S (c_X3_read l E r rc (upd (upd (cRp f n) 4 ((cRp f n) 4 + (cHo (cRp f n) n))) 5 ((upd (cRp f n) 4 ((cRp f n) 4 + (cHo (cRp f n) n))) 5 + (cHo (cRp f n) n))) 6 (by omega)) cd_X3_read bw_285 ⟨Nat.le_of_ble_eq_true rfl, Nat.le_of_ble_eq_true rfl⟩ ⟨Nat.zero_le _, Nat.zero_le _⟩ hP (hDa.to rfl) hE hA hS [0, 1] rfl rfl [r, rc] rfl rfl (ci := 2) rfl (q0 := 0) rfl (Nat.le_of_ble_eq_true rfl) hl.1 dX0_runPrinter_107 (fun H locs hP _ hS => ?_)
        have hP : va_P E.1 vwCl [(r, .inr (2, [.ref rc])), (rc, .inl (E.2.1, 293, .inl (upd (upd (cRp f n) 4 ((cRp f n) 4 + (cHo (cRp f n) n))) 5 ((upd (cRp f n) 4 ((cRp f n) 4 + (cHo (cRp f n) n))) 5 + (cHo (cRp f n) n)))))] H := hP
        refine lv_iload_n hx hb dX0_runPrinter_110 rfl (lv_at hl 1 rfl) ?_
        refine lv_iadd hx hb dX0_runPrinter_111 ?_
        refine rwVv2 (rest := []) S (c_X3_write l E r rc (upd (upd (cRp f n) 4 ((cRp f n) 4 + (cHo (cRp f n) n))) 5 ((upd (cRp f n) 4 ((cRp f n) 4 + (cHo (cRp f n) n))) 5 + (cHo (cRp f n) n))) 6 ((upd (upd (cRp f n) 4 ((cRp f n) 4 + (cHo (cRp f n) n))) 5 ((upd (cRp f n) 4 ((cRp f n) 4 + (cHo (cRp f n) n))) 5 + (cHo (cRp f n) n))) 6 + (cHo (cRp f n) n)) (by omega)) cd_X3_write bw_311 ⟨Nat.le_of_ble_eq_true rfl, Nat.le_of_ble_eq_true rfl⟩ ⟨Nat.zero_le _, Nat.zero_le _⟩ hP (hDa.to rfl) hE hA hS [0, 1] rfl rfl [r, rc] rfl rfl (ci := 2) rfl (q0 := 0) rfl (Nat.le_of_ble_eq_true rfl) hl.1 dX0_runPrinter_112 (fun H locs hP _ hS => ?_)
        have hP : va_P E.1 vwCl [(r, .inr (2, [.ref rc])), (rc, .inl (E.2.1, 293, .inl (upd (upd (upd (cRp f n) 4 ((cRp f n) 4 + (cHo (cRp f n) n))) 5 ((upd (cRp f n) 4 ((cRp f n) 4 + (cHo (cRp f n) n))) 5 + (cHo (cRp f n) n))) 6 ((upd (upd (cRp f n) 4 ((cRp f n) 4 + (cHo (cRp f n) n))) 5 ((upd (cRp f n) 4 ((cRp f n) 4 + (cHo (cRp f n) n))) 5 + (cHo (cRp f n) n))) 6 + (cHo (cRp f n) n)))))] H := hP
        refine rn_inc (a := 2) (d := 1) (lv' := [(3, .int (nI 3)), (2, .int (cHo (cRp f n) n)), (1, .int (cRb f n)), (0, .ref r)]) hx hb dX0_runPrinter_115 hl (k := 0) rfl (by decide) (by decide) rfl (fun ls hl => ?_)
        refine lv_goto (tgt := 94) hx hb dX0_runPrinter_118 (by decide) ?_
        refine lv_iload_n hx hb dX0_runPrinter_94 rfl (lv_at hl 0 rfl) ?_
        refine lv_iconst (v := nI 3) hx hb dX0_runPrinter_95 (by decide) ?_
        refine rn_icmp_ge (a := 3) (b := 3) (tgt := 121) hx hb (by omega) (by omega) dX0_runPrinter_96 (by decide) (fun c_5 => ?_) (fun c_5 => absurd c_5 (by omega))
        refine lv_aload_n hx hb dX0_runPrinter_121 rfl (lv_at hl 3 rfl) ?_
        refine lv_bipush (v := nI 10) hx hb dX0_runPrinter_122 (by decide) ?_
        refine lv_aload_n hx hb dX0_runPrinter_124 rfl (lv_at hl 3 rfl) ?_
        refine lv_bipush (v := nI 10) hx hb dX0_runPrinter_125 (by decide) ?_
        refine rwV1 (rest := [.int (nI 10), .ref r]) S (c_X3_read l E r rc (upd (upd (upd (cRp f n) 4 ((cRp f n) 4 + (cHo (cRp f n) n))) 5 ((upd (cRp f n) 4 ((cRp f n) 4 + (cHo (cRp f n) n))) 5 + (cHo (cRp f n) n))) 6 ((upd (upd (cRp f n) 4 ((cRp f n) 4 + (cHo (cRp f n) n))) 5 ((upd (cRp f n) 4 ((cRp f n) 4 + (cHo (cRp f n) n))) 5 + (cHo (cRp f n) n))) 6 + (cHo (cRp f n) n))) 10 (by omega)) cd_X3_read bw_285 ⟨Nat.le_of_ble_eq_true rfl, Nat.le_of_ble_eq_true rfl⟩ ⟨Nat.zero_le _, Nat.zero_le _⟩ hP (hDa.to rfl) hE hA hS [0, 1] rfl rfl [r, rc] rfl rfl (ci := 2) rfl (q0 := 0) rfl (Nat.le_of_ble_eq_true rfl) hl.1 dX0_runPrinter_127 (fun H locs hP _ hS => ?_)
        have hP : va_P E.1 vwCl [(r, .inr (2, [.ref rc])), (rc, .inl (E.2.1, 293, .inl (upd (upd (upd (cRp f n) 4 ((cRp f n) 4 + (cHo (cRp f n) n))) 5 ((upd (cRp f n) 4 ((cRp f n) 4 + (cHo (cRp f n) n))) 5 + (cHo (cRp f n) n))) 6 ((upd (upd (cRp f n) 4 ((cRp f n) 4 + (cHo (cRp f n) n))) 5 ((upd (cRp f n) 4 ((cRp f n) 4 + (cHo (cRp f n) n))) 5 + (cHo (cRp f n) n))) 6 + (cHo (cRp f n) n)))))] H := hP
        refine lv_iconst (v := nI 1) hx hb dX0_runPrinter_130 (by decide) ?_
        refine lv_iadd hx hb dX0_runPrinter_131 ?_
        refine rwVv2 (rest := []) S (c_X3_write l E r rc (upd (upd (upd (cRp f n) 4 ((cRp f n) 4 + (cHo (cRp f n) n))) 5 ((upd (cRp f n) 4 ((cRp f n) 4 + (cHo (cRp f n) n))) 5 + (cHo (cRp f n) n))) 6 ((upd (upd (cRp f n) 4 ((cRp f n) 4 + (cHo (cRp f n) n))) 5 ((upd (cRp f n) 4 ((cRp f n) 4 + (cHo (cRp f n) n))) 5 + (cHo (cRp f n) n))) 6 + (cHo (cRp f n) n))) 10 ((upd (upd (upd (cRp f n) 4 ((cRp f n) 4 + (cHo (cRp f n) n))) 5 ((upd (cRp f n) 4 ((cRp f n) 4 + (cHo (cRp f n) n))) 5 + (cHo (cRp f n) n))) 6 ((upd (upd (cRp f n) 4 ((cRp f n) 4 + (cHo (cRp f n) n))) 5 ((upd (cRp f n) 4 ((cRp f n) 4 + (cHo (cRp f n) n))) 5 + (cHo (cRp f n) n))) 6 + (cHo (cRp f n) n))) 10 + (nI 1)) (by omega)) cd_X3_write bw_311 ⟨Nat.le_of_ble_eq_true rfl, Nat.le_of_ble_eq_true rfl⟩ ⟨Nat.zero_le _, Nat.zero_le _⟩ hP (hDa.to rfl) hE hA hS [0, 1] rfl rfl [r, rc] rfl rfl (ci := 2) rfl (q0 := 0) rfl (Nat.le_of_ble_eq_true rfl) hl.1 dX0_runPrinter_132 (fun H locs hP _ hS => ?_)
        have hP : va_P E.1 vwCl [(r, .inr (2, [.ref rc])), (rc, .inl (E.2.1, 293, .inl (upd (upd (upd (upd (cRp f n) 4 ((cRp f n) 4 + (cHo (cRp f n) n))) 5 ((upd (cRp f n) 4 ((cRp f n) 4 + (cHo (cRp f n) n))) 5 + (cHo (cRp f n) n))) 6 ((upd (upd (cRp f n) 4 ((cRp f n) 4 + (cHo (cRp f n) n))) 5 ((upd (cRp f n) 4 ((cRp f n) 4 + (cHo (cRp f n) n))) 5 + (cHo (cRp f n) n))) 6 + (cHo (cRp f n) n))) 10 ((upd (upd (upd (cRp f n) 4 ((cRp f n) 4 + (cHo (cRp f n) n))) 5 ((upd (cRp f n) 4 ((cRp f n) 4 + (cHo (cRp f n) n))) 5 + (cHo (cRp f n) n))) 6 ((upd (upd (cRp f n) 4 ((cRp f n) 4 + (cHo (cRp f n) n))) 5 ((upd (cRp f n) 4 ((cRp f n) 4 + (cHo (cRp f n) n))) 5 + (cHo (cRp f n) n))) 6 + (cHo (cRp f n) n))) 10 + (nI 1)))))] H := hP
        refine lv_iload_n hx hb dX0_runPrinter_135 rfl (lv_at hl 2 rfl) ?_
        exact hret _ _ _ _ _ _ (by rw [cRv]) (by rw [cRw]) rfl hP hS dX0_runPrinter_136
      · refine lv_iload_n hx hb dX0_runPrinter_12 rfl (lv_at hl 0 rfl) ?_
        refine lv_bipush (v := nI 20) hx hb dX0_runPrinter_13 (by decide) ?_
        refine rn_icmp_ge (a := k) (b := 20) (tgt := 87) hx hb (by omega) (by omega) dX0_runPrinter_15 (by decide) (fun c_6 => absurd c_6 (by omega)) (fun c_6 => ?_)
        refine lv_iconst (v := nI 0) hx hb dX0_runPrinter_18 (by decide) ?_
        refine lv_istore_n (lv' := [(3, .int (nI 0)), (2, .int (nI k)), (1, .int (cRb f k)), (0, .ref r)]) hx hb dX0_runPrinter_19 rfl hl (by decide) rfl (fun ls hl => ?_)
        refine lv_iload_n hx hb dX0_runPrinter_20 rfl (lv_at hl 0 rfl) ?_
        refine lv_iconst (v := nI 3) hx hb dX0_runPrinter_21 (by decide) ?_
        refine rn_icmp_ge (a := 0) (b := 3) (tgt := 58) hx hb (by omega) (by omega) dX0_runPrinter_22 (by decide) (fun c_7 => absurd c_7 (by omega)) (fun c_7 => ?_)
        refine lv_aload_n hx hb dX0_runPrinter_25 rfl (lv_at hl 3 rfl) ?_
        refine lv_iload_n hx hb dX0_runPrinter_26 rfl (lv_at hl 1 rfl) ?_
        refine lv_iload_n hx hb dX0_runPrinter_27 rfl (lv_at hl 0 rfl) ?_
        refine lv_aload_n hx hb dX0_runPrinter_28 rfl (lv_at hl 3 rfl) ?_
        refine lv_bipush (v := nI 7) hx hb dX0_runPrinter_29 (by decide) ?_
        refine lv_iload_n hx hb dX0_runPrinter_31 rfl (lv_at hl 0 rfl) ?_
        refine rn_add (a := 7) (b := 0) hx hb dX0_runPrinter_32 ?_
        refine rwV1 (rest := [.int (nI 0), .int (nI k), .ref r]) S (c_X3_read l E r rc (cRp f k) 7 (by omega)) cd_X3_read bw_285 ⟨Nat.le_of_ble_eq_true rfl, Nat.le_of_ble_eq_true rfl⟩ ⟨Nat.zero_le _, Nat.zero_le _⟩ hP (hDa.to rfl) hE hA hS [0, 1] rfl rfl [r, rc] rfl rfl (ci := 2) rfl (q0 := 0) rfl (Nat.le_of_ble_eq_true rfl) hl.1 dX0_runPrinter_33 (fun H locs hP _ hS => ?_)
        have hP : va_P E.1 vwCl [(r, .inr (2, [.ref rc])), (rc, .inl (E.2.1, 293, .inl (cRp f k)))] H := hP
        refine rwS4 (rest := []) S (c_X5_offWith l E r rc (cRp f k) k 0 ((cRp f k) 7) (by omega) (by omega)) cd_X5_offWith bw_289 ⟨Nat.le_of_ble_eq_true rfl, Nat.le_of_ble_eq_true rfl⟩ ⟨Nat.zero_le _, Nat.zero_le _⟩ hP (hDa.to rfl) hE hA hS [0, 1] rfl rfl [r, rc] rfl rfl (Nat.le_of_ble_eq_true rfl) hl.1 dX0_runPrinter_36 (fun H locs hP _ hS => ?_)
        have hP : va_P E.1 vwCl [(r, .inr (2, [.ref rc])), (rc, .inl (E.2.1, 293, .inl (cRp f k)))] H := hP
        refine lv_istore (lv' := [(4, .int (cOf (cRp f k) k 0 ((cRp f k) 7))), (3, .int (nI 0)), (2, .int (nI k)), (1, .int (cRb f k)), (0, .ref r)]) hx hb dX0_runPrinter_39 hl (by decide) rfl (fun ls hl => ?_)
        refine lv_aload_n hx hb dX0_runPrinter_41 rfl (lv_at hl 4 rfl) ?_
        refine lv_iload_n hx hb dX0_runPrinter_42 rfl (lv_at hl 2 rfl) ?_
        refine lv_bipush (v := nI 11) hx hb dX0_runPrinter_43 (by decide) ?_
        refine lv_iload_n hx hb dX0_runPrinter_45 rfl (lv_at hl 1 rfl) ?_
        refine rn_add (a := 11) (b := 0) hx hb dX0_runPrinter_46 ?_
        refine lv_iload hx hb dX0_runPrinter_47 (lv_at hl 0 rfl) ?_
        refine rwVv3 (rest := []) S (c_X3_writeShot l E r rc (cRp f k) k 11 (cOf (cRp f k) k 0 ((cRp f k) 7)) (by omega) (by omega)) cd_X3_writeShot bw_197 ⟨Nat.le_of_ble_eq_true rfl, Nat.le_of_ble_eq_true rfl⟩ ⟨Nat.zero_le _, Nat.zero_le _⟩ hP (hDa.to rfl) hE hA hS [0, 1] rfl rfl [r, rc] rfl rfl (ci := 2) rfl (q0 := 0) rfl (Nat.le_of_ble_eq_true rfl) hl.1 dX0_runPrinter_49 (fun H locs hP _ hS => ?_)
        have hP : va_P E.1 vwCl [(r, .inr (2, [.ref rc])), (rc, .inl (E.2.1, 293, .inl (upd (cRp f k) (13 + 14 * k + 11) (cOf (cRp f k) k 0 ((cRp f k) 7)))))] H := hP
        have hP : va_P E.1 vwCl [(r, .inr (2, [.ref rc])), (rc, .inl (E.2.1, 293, .inl (cR1 (cRp f k) k 0)))] H := hP
        refine rn_inc (a := 0) (d := 1) (lv' := [(3, .int (nI 1)), (4, .int (cOf (cRp f k) k 0 ((cRp f k) 7))), (2, .int (nI k)), (1, .int (cRb f k)), (0, .ref r)]) hx hb dX0_runPrinter_52 hl (k := 1) rfl (by decide) (by decide) rfl (fun ls hl => ?_)
        refine lv_goto (tgt := 20) hx hb dX0_runPrinter_55 (by decide) ?_
        refine lv_iload_n hx hb dX0_runPrinter_20 rfl (lv_at hl 0 rfl) ?_
        refine lv_iconst (v := nI 3) hx hb dX0_runPrinter_21 (by decide) ?_
        refine rn_icmp_ge (a := 1) (b := 3) (tgt := 58) hx hb (by omega) (by omega) dX0_runPrinter_22 (by decide) (fun c_8 => absurd c_8 (by omega)) (fun c_8 => ?_)
        refine lv_aload_n hx hb dX0_runPrinter_25 rfl (lv_at hl 4 rfl) ?_
        refine lv_iload_n hx hb dX0_runPrinter_26 rfl (lv_at hl 2 rfl) ?_
        refine lv_iload_n hx hb dX0_runPrinter_27 rfl (lv_at hl 0 rfl) ?_
        refine lv_aload_n hx hb dX0_runPrinter_28 rfl (lv_at hl 4 rfl) ?_
        refine lv_bipush (v := nI 7) hx hb dX0_runPrinter_29 (by decide) ?_
        refine lv_iload_n hx hb dX0_runPrinter_31 rfl (lv_at hl 0 rfl) ?_
        refine rn_add (a := 7) (b := 1) hx hb dX0_runPrinter_32 ?_
        refine rwV1 (rest := [.int (nI 1), .int (nI k), .ref r]) S (c_X3_read l E r rc (cR1 (cRp f k) k 0) 8 (by omega)) cd_X3_read bw_285 ⟨Nat.le_of_ble_eq_true rfl, Nat.le_of_ble_eq_true rfl⟩ ⟨Nat.zero_le _, Nat.zero_le _⟩ hP (hDa.to rfl) hE hA hS [0, 1] rfl rfl [r, rc] rfl rfl (ci := 2) rfl (q0 := 0) rfl (Nat.le_of_ble_eq_true rfl) hl.1 dX0_runPrinter_33 (fun H locs hP _ hS => ?_)
        have hP : va_P E.1 vwCl [(r, .inr (2, [.ref rc])), (rc, .inl (E.2.1, 293, .inl (cR1 (cRp f k) k 0)))] H := hP
        refine rwS4 (rest := []) S (c_X5_offWith l E r rc (cR1 (cRp f k) k 0) k 1 ((cR1 (cRp f k) k 0) 8) (by omega) (by omega)) cd_X5_offWith bw_289 ⟨Nat.le_of_ble_eq_true rfl, Nat.le_of_ble_eq_true rfl⟩ ⟨Nat.zero_le _, Nat.zero_le _⟩ hP (hDa.to rfl) hE hA hS [0, 1] rfl rfl [r, rc] rfl rfl (Nat.le_of_ble_eq_true rfl) hl.1 dX0_runPrinter_36 (fun H locs hP _ hS => ?_)
        have hP : va_P E.1 vwCl [(r, .inr (2, [.ref rc])), (rc, .inl (E.2.1, 293, .inl (cR1 (cRp f k) k 0)))] H := hP
        refine lv_istore (lv' := [(4, .int (cOf (cR1 (cRp f k) k 0) k 1 ((cR1 (cRp f k) k 0) 8))), (3, .int (nI 1)), (2, .int (nI k)), (1, .int (cRb f k)), (0, .ref r)]) hx hb dX0_runPrinter_39 hl (by decide) rfl (fun ls hl => ?_)
        refine lv_aload_n hx hb dX0_runPrinter_41 rfl (lv_at hl 4 rfl) ?_
        refine lv_iload_n hx hb dX0_runPrinter_42 rfl (lv_at hl 2 rfl) ?_
        refine lv_bipush (v := nI 11) hx hb dX0_runPrinter_43 (by decide) ?_
        refine lv_iload_n hx hb dX0_runPrinter_45 rfl (lv_at hl 1 rfl) ?_
        refine rn_add (a := 11) (b := 1) hx hb dX0_runPrinter_46 ?_
        refine lv_iload hx hb dX0_runPrinter_47 (lv_at hl 0 rfl) ?_
        refine rwVv3 (rest := []) S (c_X3_writeShot l E r rc (cR1 (cRp f k) k 0) k 12 (cOf (cR1 (cRp f k) k 0) k 1 ((cR1 (cRp f k) k 0) 8)) (by omega) (by omega)) cd_X3_writeShot bw_197 ⟨Nat.le_of_ble_eq_true rfl, Nat.le_of_ble_eq_true rfl⟩ ⟨Nat.zero_le _, Nat.zero_le _⟩ hP (hDa.to rfl) hE hA hS [0, 1] rfl rfl [r, rc] rfl rfl (ci := 2) rfl (q0 := 0) rfl (Nat.le_of_ble_eq_true rfl) hl.1 dX0_runPrinter_49 (fun H locs hP _ hS => ?_)
        have hP : va_P E.1 vwCl [(r, .inr (2, [.ref rc])), (rc, .inl (E.2.1, 293, .inl (upd (cR1 (cRp f k) k 0) (13 + 14 * k + 12) (cOf (cR1 (cRp f k) k 0) k 1 ((cR1 (cRp f k) k 0) 8)))))] H := hP
        have hP : va_P E.1 vwCl [(r, .inr (2, [.ref rc])), (rc, .inl (E.2.1, 293, .inl (cR1 (cR1 (cRp f k) k 0) k 1)))] H := hP
        refine rn_inc (a := 1) (d := 1) (lv' := [(3, .int (nI 2)), (4, .int (cOf (cR1 (cRp f k) k 0) k 1 ((cR1 (cRp f k) k 0) 8))), (2, .int (nI k)), (1, .int (cRb f k)), (0, .ref r)]) hx hb dX0_runPrinter_52 hl (k := 1) rfl (by decide) (by decide) rfl (fun ls hl => ?_)
        refine lv_goto (tgt := 20) hx hb dX0_runPrinter_55 (by decide) ?_
        refine lv_iload_n hx hb dX0_runPrinter_20 rfl (lv_at hl 0 rfl) ?_
        refine lv_iconst (v := nI 3) hx hb dX0_runPrinter_21 (by decide) ?_
        refine rn_icmp_ge (a := 2) (b := 3) (tgt := 58) hx hb (by omega) (by omega) dX0_runPrinter_22 (by decide) (fun c_9 => absurd c_9 (by omega)) (fun c_9 => ?_)
        refine lv_aload_n hx hb dX0_runPrinter_25 rfl (lv_at hl 4 rfl) ?_
        refine lv_iload_n hx hb dX0_runPrinter_26 rfl (lv_at hl 2 rfl) ?_
        refine lv_iload_n hx hb dX0_runPrinter_27 rfl (lv_at hl 0 rfl) ?_
        refine lv_aload_n hx hb dX0_runPrinter_28 rfl (lv_at hl 4 rfl) ?_
        refine lv_bipush (v := nI 7) hx hb dX0_runPrinter_29 (by decide) ?_
        refine lv_iload_n hx hb dX0_runPrinter_31 rfl (lv_at hl 0 rfl) ?_
        refine rn_add (a := 7) (b := 2) hx hb dX0_runPrinter_32 ?_
        refine rwV1 (rest := [.int (nI 2), .int (nI k), .ref r]) S (c_X3_read l E r rc (cR1 (cR1 (cRp f k) k 0) k 1) 9 (by omega)) cd_X3_read bw_285 ⟨Nat.le_of_ble_eq_true rfl, Nat.le_of_ble_eq_true rfl⟩ ⟨Nat.zero_le _, Nat.zero_le _⟩ hP (hDa.to rfl) hE hA hS [0, 1] rfl rfl [r, rc] rfl rfl (ci := 2) rfl (q0 := 0) rfl (Nat.le_of_ble_eq_true rfl) hl.1 dX0_runPrinter_33 (fun H locs hP _ hS => ?_)
        have hP : va_P E.1 vwCl [(r, .inr (2, [.ref rc])), (rc, .inl (E.2.1, 293, .inl (cR1 (cR1 (cRp f k) k 0) k 1)))] H := hP
        refine rwS4 (rest := []) S (c_X5_offWith l E r rc (cR1 (cR1 (cRp f k) k 0) k 1) k 2 ((cR1 (cR1 (cRp f k) k 0) k 1) 9) (by omega) (by omega)) cd_X5_offWith bw_289 ⟨Nat.le_of_ble_eq_true rfl, Nat.le_of_ble_eq_true rfl⟩ ⟨Nat.zero_le _, Nat.zero_le _⟩ hP (hDa.to rfl) hE hA hS [0, 1] rfl rfl [r, rc] rfl rfl (Nat.le_of_ble_eq_true rfl) hl.1 dX0_runPrinter_36 (fun H locs hP _ hS => ?_)
        have hP : va_P E.1 vwCl [(r, .inr (2, [.ref rc])), (rc, .inl (E.2.1, 293, .inl (cR1 (cR1 (cRp f k) k 0) k 1)))] H := hP
        refine lv_istore (lv' := [(4, .int (cOf (cR1 (cR1 (cRp f k) k 0) k 1) k 2 ((cR1 (cR1 (cRp f k) k 0) k 1) 9))), (3, .int (nI 2)), (2, .int (nI k)), (1, .int (cRb f k)), (0, .ref r)]) hx hb dX0_runPrinter_39 hl (by decide) rfl (fun ls hl => ?_)
        refine lv_aload_n hx hb dX0_runPrinter_41 rfl (lv_at hl 4 rfl) ?_
        refine lv_iload_n hx hb dX0_runPrinter_42 rfl (lv_at hl 2 rfl) ?_
        refine lv_bipush (v := nI 11) hx hb dX0_runPrinter_43 (by decide) ?_
        refine lv_iload_n hx hb dX0_runPrinter_45 rfl (lv_at hl 1 rfl) ?_
        refine rn_add (a := 11) (b := 2) hx hb dX0_runPrinter_46 ?_
        refine lv_iload hx hb dX0_runPrinter_47 (lv_at hl 0 rfl) ?_
        refine rwVv3 (rest := []) S (c_X3_writeShot l E r rc (cR1 (cR1 (cRp f k) k 0) k 1) k 13 (cOf (cR1 (cR1 (cRp f k) k 0) k 1) k 2 ((cR1 (cR1 (cRp f k) k 0) k 1) 9)) (by omega) (by omega)) cd_X3_writeShot bw_197 ⟨Nat.le_of_ble_eq_true rfl, Nat.le_of_ble_eq_true rfl⟩ ⟨Nat.zero_le _, Nat.zero_le _⟩ hP (hDa.to rfl) hE hA hS [0, 1] rfl rfl [r, rc] rfl rfl (ci := 2) rfl (q0 := 0) rfl (Nat.le_of_ble_eq_true rfl) hl.1 dX0_runPrinter_49 (fun H locs hP _ hS => ?_)
        have hP : va_P E.1 vwCl [(r, .inr (2, [.ref rc])), (rc, .inl (E.2.1, 293, .inl (upd (cR1 (cR1 (cRp f k) k 0) k 1) (13 + 14 * k + 13) (cOf (cR1 (cR1 (cRp f k) k 0) k 1) k 2 ((cR1 (cR1 (cRp f k) k 0) k 1) 9)))))] H := hP
        have hP : va_P E.1 vwCl [(r, .inr (2, [.ref rc])), (rc, .inl (E.2.1, 293, .inl (cR1 (cR1 (cR1 (cRp f k) k 0) k 1) k 2)))] H := hP
        refine rn_inc (a := 2) (d := 1) (lv' := [(3, .int (nI 3)), (4, .int (cOf (cR1 (cR1 (cRp f k) k 0) k 1) k 2 ((cR1 (cR1 (cRp f k) k 0) k 1) 9))), (2, .int (nI k)), (1, .int (cRb f k)), (0, .ref r)]) hx hb dX0_runPrinter_52 hl (k := 1) rfl (by decide) (by decide) rfl (fun ls hl => ?_)
        refine lv_goto (tgt := 20) hx hb dX0_runPrinter_55 (by decide) ?_
        refine lv_iload_n hx hb dX0_runPrinter_20 rfl (lv_at hl 0 rfl) ?_
        refine lv_iconst (v := nI 3) hx hb dX0_runPrinter_21 (by decide) ?_
        refine rn_icmp_ge (a := 3) (b := 3) (tgt := 58) hx hb (by omega) (by omega) dX0_runPrinter_22 (by decide) (fun c_10 => ?_) (fun c_10 => absurd c_10 (by omega))
        refine lv_aload_n hx hb dX0_runPrinter_58 rfl (lv_at hl 4 rfl) ?_
        refine lv_iload_n hx hb dX0_runPrinter_59 rfl (lv_at hl 2 rfl) ?_
        refine lv_iconst (v := nI 1) hx hb dX0_runPrinter_60 (by decide) ?_
        refine lv_iconst (v := nI 1) hx hb dX0_runPrinter_61 (by decide) ?_
        refine rwVv3 (rest := []) S (c_X3_writeShot l E r rc (cR1 (cR1 (cR1 (cRp f k) k 0) k 1) k 2) k 1 (nI 1) (by omega) (by omega)) cd_X3_writeShot bw_197 ⟨Nat.le_of_ble_eq_true rfl, Nat.le_of_ble_eq_true rfl⟩ ⟨Nat.zero_le _, Nat.zero_le _⟩ hP (hDa.to rfl) hE hA hS [0, 1] rfl rfl [r, rc] rfl rfl (ci := 2) rfl (q0 := 0) rfl (Nat.le_of_ble_eq_true rfl) hl.1 dX0_runPrinter_62 (fun H locs hP _ hS => ?_)
        have hP : va_P E.1 vwCl [(r, .inr (2, [.ref rc])), (rc, .inl (E.2.1, 293, .inl (upd (cR1 (cR1 (cR1 (cRp f k) k 0) k 1) k 2) (13 + 14 * k + 1) (nI 1))))] H := hP
        have hP : va_P E.1 vwCl [(r, .inr (2, [.ref rc])), (rc, .inl (E.2.1, 293, .inl (cRs (cRp f k) k)))] H := hP
        refine lv_iload_n hx hb dX0_runPrinter_65 rfl (lv_at hl 3 rfl) ?_
        refine lv_aload_n hx hb dX0_runPrinter_66 rfl (lv_at hl 4 rfl) ?_
        refine lv_iload_n hx hb dX0_runPrinter_67 rfl (lv_at hl 2 rfl) ?_
        refine rwS2 (rest := [.int (cRb f k)]) S (c_X5_isBad l E r rc (cRs (cRp f k) k) k (by omega)) cd_X5_isBad bw_302 ⟨Nat.le_of_ble_eq_true rfl, Nat.le_of_ble_eq_true rfl⟩ ⟨Nat.zero_le _, Nat.zero_le _⟩ hP (hDa.to rfl) hE hA hS [0, 1] rfl rfl [r, rc] rfl rfl (Nat.le_of_ble_eq_true rfl) hl.1 dX0_runPrinter_68 (fun H locs hP _ hS => ?_)
        have hP : va_P E.1 vwCl [(r, .inr (2, [.ref rc])), (rc, .inl (E.2.1, 293, .inl (cRs (cRp f k) k)))] H := hP
        refine lv_if_eq (tgt := 78) hx hb dX0_runPrinter_71 (by decide) (fun c_11 => ?_) (fun c_11 => ?_)
        · refine lv_iconst (v := nI 0) hx hb dX0_runPrinter_78 (by decide) ?_
          refine lv_iadd hx hb dX0_runPrinter_79 ?_
          refine lv_istore_n (lv' := [(1, .int (cRb f k + (nI 0))), (3, .int (nI 3)), (4, .int (cOf (cR1 (cR1 (cRp f k) k 0) k 1) k 2 ((cR1 (cR1 (cRp f k) k 0) k 1) 9))), (2, .int (nI k)), (0, .ref r)]) hx hb dX0_runPrinter_80 rfl hl (by decide) rfl (fun ls hl => ?_)
          refine rn_inc (a := k) (d := 1) (lv' := [(2, .int (nI (k + 1))), (1, .int (cRb f k + (nI 0))), (3, .int (nI 3)), (4, .int (cOf (cR1 (cR1 (cRp f k) k 0) k 1) k 2 ((cR1 (cR1 (cRp f k) k 0) k 1) 9))), (0, .ref r)]) hx hb dX0_runPrinter_81 hl (k := 3) rfl (by decide) (by decide) rfl (fun ls hl => ?_)
          refine lv_goto (tgt := 4) hx hb dX0_runPrinter_84 (by decide) ?_
          have hP : va_P E.1 vwCl [(r, .inr (2, [.ref rc])), (rc, .inl (E.2.1, 293, .inl (cRp f (k + 1))))] H := by rw [cRp_s]; exact hP
          have hl : lv_has ls 5 [(2, .int (nI (k + 1))), (1, .int (cRb f k + (nI 0))), (0, .ref r)] := lv_sub hl [0, 1, 4] rfl
          have hl : lv_has ls 5 [(2, .int (nI (k + 1))), (1, .int (cRb f (k + 1))), (0, .ref r)] := by first | (rw [cRb_p (f := f) (k := k) c_11]; exact hl) | (rw [cRb_n (f := f) (k := k) c_11]; exact hl)
          exact ih4 (k + 1) (by omega) (by omega) _ _ hP hS _ hl
        · refine lv_iconst (v := nI 1) hx hb dX0_runPrinter_74 (by decide) ?_
          refine lv_goto (tgt := 79) hx hb dX0_runPrinter_75 (by decide) ?_
          refine lv_iadd hx hb dX0_runPrinter_79 ?_
          refine lv_istore_n (lv' := [(1, .int (cRb f k + (nI 1))), (3, .int (nI 3)), (4, .int (cOf (cR1 (cR1 (cRp f k) k 0) k 1) k 2 ((cR1 (cR1 (cRp f k) k 0) k 1) 9))), (2, .int (nI k)), (0, .ref r)]) hx hb dX0_runPrinter_80 rfl hl (by decide) rfl (fun ls hl => ?_)
          refine rn_inc (a := k) (d := 1) (lv' := [(2, .int (nI (k + 1))), (1, .int (cRb f k + (nI 1))), (3, .int (nI 3)), (4, .int (cOf (cR1 (cR1 (cRp f k) k 0) k 1) k 2 ((cR1 (cR1 (cRp f k) k 0) k 1) 9))), (0, .ref r)]) hx hb dX0_runPrinter_81 hl (k := 3) rfl (by decide) (by decide) rfl (fun ls hl => ?_)
          refine lv_goto (tgt := 4) hx hb dX0_runPrinter_84 (by decide) ?_
          have hP : va_P E.1 vwCl [(r, .inr (2, [.ref rc])), (rc, .inl (E.2.1, 293, .inl (cRp f (k + 1))))] H := by rw [cRp_s]; exact hP
          have hl : lv_has ls 5 [(2, .int (nI (k + 1))), (1, .int (cRb f k + (nI 1))), (0, .ref r)] := lv_sub hl [0, 1, 4] rfl
          have hl : lv_has ls 5 [(2, .int (nI (k + 1))), (1, .int (cRb f (k + 1))), (0, .ref r)] := by first | (rw [cRb_p (f := f) (k := k) c_11]; exact hl) | (rw [cRb_n (f := f) (k := k) c_11]; exact hl)
          exact ih4 (k + 1) (by omega) (by omega) _ _ hP hS _ hl
  have hP : va_P E.1 vwCl [(r, .inr (2, [.ref rc])), (rc, .inl (E.2.1, 293, .inl (cRp f 0)))] s.heap := by exact hP
  have hl : lv_has ls 5 [(2, .int (nI 0)), (1, .int (cRb f 0)), (0, .ref r)] := lv_sub hl [0, 1, 2] rfl
  exact loop4 _ 0 (Nat.lt_succ_self _) (by omega) _ _ hP hS _ hl

theorem cd_X0_makePrint : cdS yX0_makePrint cX0_makePrint 3 (some .int) 1 := ⟨⟨bw_277, bw_10, by decide, by decide, by decide +kernel⟩, bw_276⟩
def cKv (f : Nat → Int32) (n : Nat) : Int32 := if f 4 + (cHo f n) ≤ nI 999 then if f 5 + (cHo f n) ≤ nI 999 then if f 6 + (cHo f n) ≤ nI 999 then if n = 0 then (-5) else cRv f n else (-5) else (-5) else (-5)
def cKw (f : Nat → Int32) (n : Nat) : Nat → Int32 := if f 4 + (cHo f n) ≤ nI 999 then if f 5 + (cHo f n) ≤ nI 999 then if f 6 + (cHo f n) ≤ nI 999 then if n = 0 then f else cRw f n else f else f else f
set_option maxHeartbeats 4000000 in
set_option maxRecDepth 100000 in
theorem c_X0_makePrint (l : Launch) (E : EV) (r : Nat) (rc : Nat) (f : Nat → Int32) (n : Nat) (hf : f 12 = nI n) (hn : n ≤ 20) : rcI l E yX0_makePrint cX0_makePrint 3 .int 6 [.ref r] [(r, .inr (2, [.ref rc])), (rc, .inl (E.2.1, 293, .inl f))] (cKv f n) [(r, .inr (2, [.ref rc])), (rc, .inl (E.2.1, 293, .inl (cKw f n)))] := by
  refine rcI_of (by decide) (Nat.le_of_ble_eq_true rfl) ?_
  intro pg e s m below meth c Q A ls S hP hD0 hE hA hl hret
  have hx := S.1
  have hb := S.2.1
  have hown := S.2.2.2.1
  have hts := S.2.2.2.2
  have hK := hE.1
  have hS : va_S A s.heap s.heap [] := va_S.rf
  have hDa : va_Da A [r, rc] := ⟨_, hD0, rfl⟩
  have hl : lv_has ls 3 [(0, .ref r)] := hl
  refine lv_aload_n hx hb dX0_makePrint_0 rfl (lv_at hl 0 rfl) ?_
  refine rwS1 (rest := []) S (c_X0_hoursOfPrint l E r rc f n hf hn) cd_X0_hoursOfPrint bw_278 ⟨Nat.le_of_ble_eq_true rfl, Nat.le_of_ble_eq_true rfl⟩ ⟨Nat.zero_le _, Nat.zero_le _⟩ hP (hDa.to rfl) hE hA hS [0, 1] rfl rfl [r, rc] rfl rfl (Nat.le_of_ble_eq_true rfl) hl.1 dX0_makePrint_1 (fun H locs hP _ hS => ?_)
  have hP : va_P E.1 vwCl [(r, .inr (2, [.ref rc])), (rc, .inl (E.2.1, 293, .inl f))] H := hP
  refine lv_istore_n (lv' := [(1, .int (cHo f n)), (0, .ref r)]) hx hb dX0_makePrint_4 rfl hl (by decide) rfl (fun ls hl => ?_)
  refine lv_iconst (v := nI 0) hx hb dX0_makePrint_5 (by decide) ?_
  refine lv_istore_n (lv' := [(2, .int (nI 0)), (1, .int (cHo f n)), (0, .ref r)]) hx hb dX0_makePrint_6 rfl hl (by decide) rfl (fun ls hl => ?_)
  refine lv_iload_n hx hb dX0_makePrint_7 rfl (lv_at hl 0 rfl) ?_
  refine lv_iconst (v := nI 3) hx hb dX0_makePrint_8 (by decide) ?_
  refine rn_icmp_ge (a := 0) (b := 3) (tgt := 36) hx hb (by omega) (by omega) dX0_makePrint_9 (by decide) (fun c_1 => absurd c_1 (by omega)) (fun c_1 => ?_)
  refine lv_aload_n hx hb dX0_makePrint_12 rfl (lv_at hl 2 rfl) ?_
  refine lv_iconst (v := nI 4) hx hb dX0_makePrint_13 (by decide) ?_
  refine lv_iload_n hx hb dX0_makePrint_14 rfl (lv_at hl 0 rfl) ?_
  refine rn_add (a := 4) (b := 0) hx hb dX0_makePrint_15 ?_
  refine rwV1 (rest := []) S (c_X3_read l E r rc f 4 (by omega)) cd_X3_read bw_285 ⟨Nat.le_of_ble_eq_true rfl, Nat.le_of_ble_eq_true rfl⟩ ⟨Nat.zero_le _, Nat.zero_le _⟩ hP (hDa.to rfl) hE hA hS [0, 1] rfl rfl [r, rc] rfl rfl (ci := 2) rfl (q0 := 0) rfl (Nat.le_of_ble_eq_true rfl) hl.1 dX0_makePrint_16 (fun H locs hP _ hS => ?_)
  have hP : va_P E.1 vwCl [(r, .inr (2, [.ref rc])), (rc, .inl (E.2.1, 293, .inl f))] H := hP
  refine lv_iload_n hx hb dX0_makePrint_19 rfl (lv_at hl 1 rfl) ?_
  refine lv_iadd hx hb dX0_makePrint_20 ?_
  refine lv_sipush (v := nI 999) hx hb dX0_makePrint_21 (by decide) ?_
  refine lv_icmp_le (tgt := 30) hx hb dX0_makePrint_24 (by decide) (fun c_2 => ?_) (fun c_2 => ?_)
  · refine rn_inc (a := 0) (d := 1) (lv' := [(2, .int (nI 1)), (1, .int (cHo f n)), (0, .ref r)]) hx hb dX0_makePrint_30 hl (k := 0) rfl (by decide) (by decide) rfl (fun ls hl => ?_)
    refine lv_goto (tgt := 7) hx hb dX0_makePrint_33 (by decide) ?_
    refine lv_iload_n hx hb dX0_makePrint_7 rfl (lv_at hl 0 rfl) ?_
    refine lv_iconst (v := nI 3) hx hb dX0_makePrint_8 (by decide) ?_
    refine rn_icmp_ge (a := 1) (b := 3) (tgt := 36) hx hb (by omega) (by omega) dX0_makePrint_9 (by decide) (fun c_3 => absurd c_3 (by omega)) (fun c_3 => ?_)
    refine lv_aload_n hx hb dX0_makePrint_12 rfl (lv_at hl 2 rfl) ?_
    refine lv_iconst (v := nI 4) hx hb dX0_makePrint_13 (by decide) ?_
    refine lv_iload_n hx hb dX0_makePrint_14 rfl (lv_at hl 0 rfl) ?_
    refine rn_add (a := 4) (b := 1) hx hb dX0_makePrint_15 ?_
    refine rwV1 (rest := []) S (c_X3_read l E r rc f 5 (by omega)) cd_X3_read bw_285 ⟨Nat.le_of_ble_eq_true rfl, Nat.le_of_ble_eq_true rfl⟩ ⟨Nat.zero_le _, Nat.zero_le _⟩ hP (hDa.to rfl) hE hA hS [0, 1] rfl rfl [r, rc] rfl rfl (ci := 2) rfl (q0 := 0) rfl (Nat.le_of_ble_eq_true rfl) hl.1 dX0_makePrint_16 (fun H locs hP _ hS => ?_)
    have hP : va_P E.1 vwCl [(r, .inr (2, [.ref rc])), (rc, .inl (E.2.1, 293, .inl f))] H := hP
    refine lv_iload_n hx hb dX0_makePrint_19 rfl (lv_at hl 1 rfl) ?_
    refine lv_iadd hx hb dX0_makePrint_20 ?_
    refine lv_sipush (v := nI 999) hx hb dX0_makePrint_21 (by decide) ?_
    refine lv_icmp_le (tgt := 30) hx hb dX0_makePrint_24 (by decide) (fun c_4 => ?_) (fun c_4 => ?_)
    · refine rn_inc (a := 1) (d := 1) (lv' := [(2, .int (nI 2)), (1, .int (cHo f n)), (0, .ref r)]) hx hb dX0_makePrint_30 hl (k := 0) rfl (by decide) (by decide) rfl (fun ls hl => ?_)
      refine lv_goto (tgt := 7) hx hb dX0_makePrint_33 (by decide) ?_
      refine lv_iload_n hx hb dX0_makePrint_7 rfl (lv_at hl 0 rfl) ?_
      refine lv_iconst (v := nI 3) hx hb dX0_makePrint_8 (by decide) ?_
      refine rn_icmp_ge (a := 2) (b := 3) (tgt := 36) hx hb (by omega) (by omega) dX0_makePrint_9 (by decide) (fun c_5 => absurd c_5 (by omega)) (fun c_5 => ?_)
      refine lv_aload_n hx hb dX0_makePrint_12 rfl (lv_at hl 2 rfl) ?_
      refine lv_iconst (v := nI 4) hx hb dX0_makePrint_13 (by decide) ?_
      refine lv_iload_n hx hb dX0_makePrint_14 rfl (lv_at hl 0 rfl) ?_
      refine rn_add (a := 4) (b := 2) hx hb dX0_makePrint_15 ?_
      refine rwV1 (rest := []) S (c_X3_read l E r rc f 6 (by omega)) cd_X3_read bw_285 ⟨Nat.le_of_ble_eq_true rfl, Nat.le_of_ble_eq_true rfl⟩ ⟨Nat.zero_le _, Nat.zero_le _⟩ hP (hDa.to rfl) hE hA hS [0, 1] rfl rfl [r, rc] rfl rfl (ci := 2) rfl (q0 := 0) rfl (Nat.le_of_ble_eq_true rfl) hl.1 dX0_makePrint_16 (fun H locs hP _ hS => ?_)
      have hP : va_P E.1 vwCl [(r, .inr (2, [.ref rc])), (rc, .inl (E.2.1, 293, .inl f))] H := hP
      refine lv_iload_n hx hb dX0_makePrint_19 rfl (lv_at hl 1 rfl) ?_
      refine lv_iadd hx hb dX0_makePrint_20 ?_
      refine lv_sipush (v := nI 999) hx hb dX0_makePrint_21 (by decide) ?_
      refine lv_icmp_le (tgt := 30) hx hb dX0_makePrint_24 (by decide) (fun c_6 => ?_) (fun c_6 => ?_)
      · refine rn_inc (a := 2) (d := 1) (lv' := [(2, .int (nI 3)), (1, .int (cHo f n)), (0, .ref r)]) hx hb dX0_makePrint_30 hl (k := 0) rfl (by decide) (by decide) rfl (fun ls hl => ?_)
        refine lv_goto (tgt := 7) hx hb dX0_makePrint_33 (by decide) ?_
        refine lv_iload_n hx hb dX0_makePrint_7 rfl (lv_at hl 0 rfl) ?_
        refine lv_iconst (v := nI 3) hx hb dX0_makePrint_8 (by decide) ?_
        refine rn_icmp_ge (a := 3) (b := 3) (tgt := 36) hx hb (by omega) (by omega) dX0_makePrint_9 (by decide) (fun c_7 => ?_) (fun c_7 => absurd c_7 (by omega))
        refine lv_aload_n hx hb dX0_makePrint_36 rfl (lv_at hl 2 rfl) ?_
        refine rwV0 (rest := []) S (c_X3_shots l E r rc f n hf) cd_X3_shots bw_158 ⟨Nat.le_of_ble_eq_true rfl, Nat.le_of_ble_eq_true rfl⟩ ⟨Nat.zero_le _, Nat.zero_le _⟩ hP (hDa.to rfl) hE hA hS [0, 1] rfl rfl [r, rc] rfl rfl (ci := 2) rfl (q0 := 0) rfl (Nat.le_of_ble_eq_true rfl) hl.1 dX0_makePrint_37 (fun H locs hP _ hS => ?_)
        have hP : va_P E.1 vwCl [(r, .inr (2, [.ref rc])), (rc, .inl (E.2.1, 293, .inl f))] H := hP
        refine rn_if_ne (a := n) (tgt := 48) hx hb (by omega) dX0_makePrint_40 (by decide) (fun c_8 => ?_) (fun c_8 => ?_)
        · refine lv_aload_n hx hb dX0_makePrint_48 rfl (lv_at hl 2 rfl) ?_
          refine rwS1 (rest := []) S (c_X0_runPrinter l E r rc f n hf hn) cd_X0_runPrinter bw_286 ⟨Nat.le_of_ble_eq_true rfl, Nat.le_of_ble_eq_true rfl⟩ ⟨Nat.zero_le _, Nat.zero_le _⟩ hP (hDa.to rfl) hE hA hS [0, 1] rfl rfl [r, rc] rfl rfl (Nat.le_of_ble_eq_true rfl) hl.1 dX0_makePrint_49 (fun H locs hP _ hS => ?_)
          have hP : va_P E.1 vwCl [(r, .inr (2, [.ref rc])), (rc, .inl (E.2.1, 293, .inl (cRw f n)))] H := hP
          exact hret _ _ _ _ _ _ (by rw [cKv, if_pos c_2, if_pos c_4, if_pos c_6, if_neg c_8]) (by rw [cKw, if_pos c_2, if_pos c_4, if_pos c_6, if_neg c_8]) rfl hP hS dX0_makePrint_52
        · refine lv_bipush (v := (-5)) hx hb dX0_makePrint_43 (by decide) ?_
          refine lv_goto (tgt := 52) hx hb dX0_makePrint_45 (by decide) ?_
          exact hret _ _ _ _ _ _ (by rw [cKv, if_pos c_2, if_pos c_4, if_pos c_6, if_pos c_8]) (by rw [cKw, if_pos c_2, if_pos c_4, if_pos c_6, if_pos c_8]) rfl hP hS dX0_makePrint_52
      · refine lv_bipush (v := (-5)) hx hb dX0_makePrint_27 (by decide) ?_
        exact hret _ _ _ _ _ _ (by rw [cKv, if_pos c_2, if_pos c_4, if_neg c_6]) (by rw [cKw, if_pos c_2, if_pos c_4, if_neg c_6]) rfl hP hS dX0_makePrint_29
    · refine lv_bipush (v := (-5)) hx hb dX0_makePrint_27 (by decide) ?_
      exact hret _ _ _ _ _ _ (by rw [cKv, if_pos c_2, if_neg c_4]) (by rw [cKw, if_pos c_2, if_neg c_4]) rfl hP hS dX0_makePrint_29
  · refine lv_bipush (v := (-5)) hx hb dX0_makePrint_27 (by decide) ?_
    exact hret _ _ _ _ _ _ (by rw [cKv, if_neg c_2]) (by rw [cKw, if_neg c_2]) rfl hP hS dX0_makePrint_29

