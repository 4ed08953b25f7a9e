/-! the pad -/
theorem cd_X2_length : cdV RX2 yX2_length cX2_length 1 (some .int) 0 := ⟨⟨bw_464, bw_61, by decide, by decide, by decide +kernel⟩, bw_462, bw_463⟩
set_option maxHeartbeats 4000000 in
set_option maxRecDepth 100000 in
theorem c_X2_length (l : Launch) (E : EV) (d : Nat) (ch : Nat) (nu : Nat) (L : Nat) (a : Int32) (b : Int32) (le : Int32) (co : Int32) (mi : Int32) (t : Nat → Int32) (u : Nat → Int32)  : rcI l E yX2_length cX2_length 1 .int 0 [.ref d] [(d, .inr (1, [.ref ch, .ref nu, .int (nI L), .int a, .int b, .int le, .int co, .int mi])), (ch, .inl (E.2.2.1, 80, .inl t)), (nu, .inl (E.2.1, 4, .inl u))] (nI L) [(d, .inr (1, [.ref ch, .ref nu, .int (nI L), .int a, .int b, .int le, .int co, .int mi])), (ch, .inl (E.2.2.1, 80, .inl t)), (nu, .inl (E.2.1, 4, .inl u))] := by
  refine rcI_of (by decide) (Nat.le_of_ble_eq_true rfl) ?_
  intro pg e s m below meth c Q A ls S hP hD0 hE hA hl hret
  have hx := S.1
  have hb := S.2.1
  have hown := S.2.2.2.1
  have hts := S.2.2.2.2
  have hK := hE.1
  have hS : va_S A s.heap s.heap [] := va_S.rf
  have hDa : va_Da A [d, ch, nu] := ⟨_, hD0, rfl⟩
  have hl : lv_has ls 1 [(0, .ref d)] := hl
  refine lv_aload_n hx hb dX2_length_0 rfl (lv_at hl 0 rfl) ?_
  refine va_get (D := E.1) (ci := 1) (v := .int (nI L)) (C := RX2) (T := TX2) (N := 8) hx hb hts inb_X2 hown hK hP 0 rfl rfl 2 (by decide) (hts _ bw_105) (fun _ h9 => h9) rfl dX2_length_1 ?_
  exact hret _ _ _ _ _ _ rfl rfl rfl hP hS dX2_length_4

theorem cd_X2_letter : cdV RX2 yX2_letter cX2_letter 1 (some .int) 0 := ⟨⟨bw_666, bw_61, by decide, by decide, by decide +kernel⟩, bw_664, bw_665⟩
set_option maxHeartbeats 4000000 in
set_option maxRecDepth 100000 in
theorem c_X2_letter (l : Launch) (E : EV) (d : Nat) (ch : Nat) (nu : Nat) (L : Nat) (a : Int32) (b : Int32) (le : Int32) (co : Int32) (mi : Int32) (t : Nat → Int32) (u : Nat → Int32)  : rcI l E yX2_letter cX2_letter 1 .int 0 [.ref d] [(d, .inr (1, [.ref ch, .ref nu, .int (nI L), .int a, .int b, .int le, .int co, .int mi])), (ch, .inl (E.2.2.1, 80, .inl t)), (nu, .inl (E.2.1, 4, .inl u))] le [(d, .inr (1, [.ref ch, .ref nu, .int (nI L), .int a, .int b, .int le, .int co, .int mi])), (ch, .inl (E.2.2.1, 80, .inl t)), (nu, .inl (E.2.1, 4, .inl u))] := by
  refine rcI_of (by decide) (Nat.le_of_ble_eq_true rfl) ?_
  intro pg e s m below meth c Q A ls S hP hD0 hE hA hl hret
  have hx := S.1
  have hb := S.2.1
  have hown := S.2.2.2.1
  have hts := S.2.2.2.2
  have hK := hE.1
  have hS : va_S A s.heap s.heap [] := va_S.rf
  have hDa : va_Da A [d, ch, nu] := ⟨_, hD0, rfl⟩
  have hl : lv_has ls 1 [(0, .ref d)] := hl
  refine lv_aload_n hx hb dX2_letter_0 rfl (lv_at hl 0 rfl) ?_
  refine va_get (D := E.1) (ci := 1) (v := .int le) (C := RX2) (T := TX2) (N := 8) hx hb hts inb_X2 hown hK hP 0 rfl rfl 5 (by decide) (hts _ bw_108) (fun _ h9 => h9) rfl dX2_letter_1 ?_
  exact hret _ _ _ _ _ _ rfl rfl rfl hP hS dX2_letter_4

theorem cd_X2_colour : cdV RX2 yX2_colour cX2_colour 1 (some .int) 0 := ⟨⟨bw_670, bw_61, by decide, by decide, by decide +kernel⟩, bw_668, bw_669⟩
set_option maxHeartbeats 4000000 in
set_option maxRecDepth 100000 in
theorem c_X2_colour (l : Launch) (E : EV) (d : Nat) (ch : Nat) (nu : Nat) (L : Nat) (a : Int32) (b : Int32) (le : Int32) (co : Int32) (mi : Int32) (t : Nat → Int32) (u : Nat → Int32)  : rcI l E yX2_colour cX2_colour 1 .int 0 [.ref d] [(d, .inr (1, [.ref ch, .ref nu, .int (nI L), .int a, .int b, .int le, .int co, .int mi])), (ch, .inl (E.2.2.1, 80, .inl t)), (nu, .inl (E.2.1, 4, .inl u))] co [(d, .inr (1, [.ref ch, .ref nu, .int (nI L), .int a, .int b, .int le, .int co, .int mi])), (ch, .inl (E.2.2.1, 80, .inl t)), (nu, .inl (E.2.1, 4, .inl u))] := by
  refine rcI_of (by decide) (Nat.le_of_ble_eq_true rfl) ?_
  intro pg e s m below meth c Q A ls S hP hD0 hE hA hl hret
  have hx := S.1
  have hb := S.2.1
  have hown := S.2.2.2.1
  have hts := S.2.2.2.2
  have hK := hE.1
  have hS : va_S A s.heap s.heap [] := va_S.rf
  have hDa : va_Da A [d, ch, nu] := ⟨_, hD0, rfl⟩
  have hl : lv_has ls 1 [(0, .ref d)] := hl
  refine lv_aload_n hx hb dX2_colour_0 rfl (lv_at hl 0 rfl) ?_
  refine va_get (D := E.1) (ci := 1) (v := .int co) (C := RX2) (T := TX2) (N := 8) hx hb hts inb_X2 hown hK hP 0 rfl rfl 6 (by decide) (hts _ bw_109) (fun _ h9 => h9) rfl dX2_colour_1 ?_
  exact hret _ _ _ _ _ _ rfl rfl rfl hP hS dX2_colour_4

theorem cd_X2_isMinus : cdV RX2 yX2_isMinus cX2_isMinus 1 (some .boolean) 0 := ⟨⟨bw_674, bw_61, by decide, by decide, by decide +kernel⟩, bw_672, bw_673⟩
set_option maxHeartbeats 4000000 in
set_option maxRecDepth 100000 in
theorem c_X2_isMinus (l : Launch) (E : EV) (d : Nat) (ch : Nat) (nu : Nat) (L : Nat) (a : Int32) (b : Int32) (le : Int32) (co : Int32) (mi : Int32) (t : Nat → Int32) (u : Nat → Int32) (hmi : narrow .boolean (.int mi) = .int mi) : rcI l E yX2_isMinus cX2_isMinus 1 .boolean 0 [.ref d] [(d, .inr (1, [.ref ch, .ref nu, .int (nI L), .int a, .int b, .int le, .int co, .int mi])), (ch, .inl (E.2.2.1, 80, .inl t)), (nu, .inl (E.2.1, 4, .inl u))] mi [(d, .inr (1, [.ref ch, .ref nu, .int (nI L), .int a, .int b, .int le, .int co, .int mi])), (ch, .inl (E.2.2.1, 80, .inl t)), (nu, .inl (E.2.1, 4, .inl u))] := by
  refine rcI_of (by decide) (Nat.le_of_ble_eq_true rfl) ?_
  intro pg e s m below meth c Q A ls S hP hD0 hE hA hl hret
  have hx := S.1
  have hb := S.2.1
  have hown := S.2.2.2.1
  have hts := S.2.2.2.2
  have hK := hE.1
  have hS : va_S A s.heap s.heap [] := va_S.rf
  have hDa : va_Da A [d, ch, nu] := ⟨_, hD0, rfl⟩
  have hl : lv_has ls 1 [(0, .ref d)] := hl
  refine lv_aload_n hx hb dX2_isMinus_0 rfl (lv_at hl 0 rfl) ?_
  refine va_get (D := E.1) (ci := 1) (v := .int mi) (C := RX2) (T := TX2) (N := 8) hx hb hts inb_X2 hown hK hP 0 rfl rfl 7 (by decide) (hts _ bw_110) (fun _ h9 => h9) rfl dX2_isMinus_1 ?_
  exact hret _ _ _ _ _ _ rfl rfl (by first | (with_reducible exact hmi) | assumption) hP hS dX2_isMinus_4

theorem cd_X2_number : cdV RX2 yX2_number cX2_number 2 (some .int) 1 := ⟨⟨bw_662, bw_61, by decide, by decide, by decide +kernel⟩, bw_660, bw_661⟩
set_option maxHeartbeats 4000000 in
set_option maxRecDepth 100000 in
theorem c_X2_number (l : Launch) (E : EV) (d : Nat) (ch : Nat) (nu : Nat) (L : Nat) (a : Int32) (b : Int32) (le : Int32) (co : Int32) (mi : Int32) (t : Nat → Int32) (u : Nat → Int32) (x : Nat) (hxx : x < 4) : rcI l E yX2_number cX2_number 2 .int 0 [.ref d, .int (nI x)] [(d, .inr (1, [.ref ch, .ref nu, .int (nI L), .int a, .int b, .int le, .int co, .int mi])), (ch, .inl (E.2.2.1, 80, .inl t)), (nu, .inl (E.2.1, 4, .inl u))] (u x) [(d, .inr (1, [.ref ch, .ref nu, .int (nI L), .int a, .int b, .int le, .int co, .int mi])), (ch, .inl (E.2.2.1, 80, .inl t)), (nu, .inl (E.2.1, 4, .inl u))] := by
  refine rcI_of (by decide) (Nat.le_of_ble_eq_true rfl) ?_
  intro pg e s m below meth c Q A ls S hP hD0 hE hA hl hret
  have hx := S.1
  have hb := S.2.1
  have hown := S.2.2.2.1
  have hts := S.2.2.2.2
  have hK := hE.1
  have hS : va_S A s.heap s.heap [] := va_S.rf
  have hDa : va_Da A [d, ch, nu] := ⟨_, hD0, rfl⟩
  have hl : lv_has ls 2 [(0, .ref d), (1, .int (nI x))] := hl
  refine lv_iload_n hx hb dX2_number_0 rfl (lv_at hl 1 rfl) ?_
  refine lv_if_lt (tgt := 22) hx hb dX2_number_1 (by decide) (fun c9 => absurd c9 (nI_pos (by omega))) (fun _ => ?_)
  refine lv_iload_n hx hb dX2_number_4 rfl (lv_at hl 1 rfl) ?_
  refine lv_aload_n hx hb dX2_number_5 rfl (lv_at hl 0 rfl) ?_
  refine va_get (D := E.1) (ci := 1) (v := .ref nu) (C := RX2) (T := TX2) (N := 8) hx hb hts inb_X2 hown hK hP 0 rfl rfl 1 (by decide) (hts _ bw_104) (fun _ h9 => h9) rfl dX2_number_6 ?_
  refine va_alen (v := nI 4) hx hb hK hP 2 0 rfl rfl rfl dX2_number_9 ?_
  refine rn_icmp_ge (a := x) (b := 4) (tgt := 22) hx hb (by omega) (by omega) dX2_number_10 (by decide) (fun c_1 => absurd c_1 (by omega)) (fun c_1 => ?_)
  refine lv_aload_n hx hb dX2_number_13 rfl (lv_at hl 0 rfl) ?_
  refine va_get (D := E.1) (ci := 1) (v := .ref nu) (C := RX2) (T := TX2) (N := 8) hx hb hts inb_X2 hown hK hP 0 rfl rfl 1 (by decide) (hts _ bw_104) (fun _ h9 => h9) rfl dX2_number_14 ?_
  refine lv_iload_n hx hb dX2_number_17 rfl (lv_at hl 1 rfl) ?_
  refine rn_iald (i := x) hx hb hK hP 2 0 rfl rfl (by omega) (by omega) dX2_number_18 ?_
  refine lv_goto (tgt := 23) hx hb dX2_number_19 (by decide) ?_
  exact hret _ _ _ _ _ _ rfl rfl rfl hP hS dX2_number_23

theorem cd_X2_clear : cdV RX2 yX2_clear cX2_clear 2 (some .int) 0 := ⟨⟨bw_543, bw_61, by decide, by decide, by decide +kernel⟩, bw_541, bw_542⟩
set_option maxHeartbeats 4000000 in
set_option maxRecDepth 100000 in
theorem c_X2_clear (l : Launch) (E : EV) (d : Nat) (ch : Nat) (nu : Nat) (L : Nat) (a : Int32) (b : Int32) (le : Int32) (co : Int32) (mi : Int32) (t : Nat → Int32) (u : Nat → Int32)  : rcI l E yX2_clear cX2_clear 2 .int 0 [.ref d] [(d, .inr (1, [.ref ch, .ref nu, .int (nI L), .int a, .int b, .int le, .int co, .int mi])), (ch, .inl (E.2.2.1, 80, .inl t)), (nu, .inl (E.2.1, 4, .inl u))] (nI L) [(d, .inr (1, [.ref ch, .ref nu, .int (nI 0), .int a, .int b, .int le, .int co, .int mi])), (ch, .inl (E.2.2.1, 80, .inl t)), (nu, .inl (E.2.1, 4, .inl u))] := by
  refine rcI_of (by decide) (Nat.le_of_ble_eq_true rfl) ?_
  intro pg e s m below meth c Q A ls S hP hD0 hE hA hl hret
  have hx := S.1
  have hb := S.2.1
  have hown := S.2.2.2.1
  have hts := S.2.2.2.2
  have hK := hE.1
  have hS : va_S A s.heap s.heap [] := va_S.rf
  have hDa : va_Da A [d, ch, nu] := ⟨_, hD0, rfl⟩
  have hl : lv_has ls 2 [(0, .ref d)] := hl
  refine lv_aload_n hx hb dX2_clear_0 rfl (lv_at hl 0 rfl) ?_
  refine va_get (D := E.1) (ci := 1) (v := .int (nI L)) (C := RX2) (T := TX2) (N := 8) hx hb hts inb_X2 hown hK hP 0 rfl rfl 2 (by decide) (hts _ bw_105) (fun _ h9 => h9) rfl dX2_clear_1 ?_
  refine lv_istore_n (lv' := [(1, .int (nI L)), (0, .ref d)]) hx hb dX2_clear_4 rfl hl (by decide) rfl (fun ls hl => ?_)
  refine lv_aload_n hx hb dX2_clear_5 rfl (lv_at hl 1 rfl) ?_
  refine lv_iconst (v := nI 0) hx hb dX2_clear_6 (by decide) ?_
  refine va_put (D := E.1) (ci := 1) (v := .int (nI 0)) (ty := .int) (C := RX2) (T := TX2) (N := 8) hx hb hts inb_X2 tyX2 tyX2_ok nmX2 hown hK hP (hDa.to rfl) hS 0 rfl rfl 2 (by decide) (hts _ bw_105) (fun _ h9 => h9) rfl (by decide +kernel) rfl rfl (Nat.le_of_ble_eq_true rfl) dX2_clear_7 (fun H locs hP _ hS => ?_)
  have hP : va_P E.1 vwCl [(d, .inr (1, [.ref ch, .ref nu, .int (nI 0), .int a, .int b, .int le, .int co, .int mi])), (ch, .inl (E.2.2.1, 80, .inl t)), (nu, .inl (E.2.1, 4, .inl u))] H := hP
  refine lv_iload_n hx hb dX2_clear_10 rfl (lv_at hl 0 rfl) ?_
  exact hret _ _ _ _ _ _ rfl rfl rfl hP hS dX2_clear_11

theorem cd_X2_startReading : cdV RX2 yX2_startReading cX2_startReading 1 none 0 := ⟨⟨bw_555, bw_61, by decide, by decide, by decide +kernel⟩, bw_553, bw_554⟩
set_option maxHeartbeats 4000000 in
set_option maxRecDepth 100000 in
theorem c_X2_startReading (l : Launch) (E : EV) (d : Nat) (ch : Nat) (nu : Nat) (L : Nat) (a : Int32) (b : Int32) (le : Int32) (co : Int32) (mi : Int32) (t : Nat → Int32) (u : Nat → Int32)  : rcV l E yX2_startReading cX2_startReading 1 0 [.ref d] [(d, .inr (1, [.ref ch, .ref nu, .int (nI L), .int a, .int b, .int le, .int co, .int mi])), (ch, .inl (E.2.2.1, 80, .inl t)), (nu, .inl (E.2.1, 4, .inl u))] [(d, .inr (1, [.ref ch, .ref nu, .int (nI L), .int (nI 0), .int b, .int le, .int co, .int mi])), (ch, .inl (E.2.2.1, 80, .inl t)), (nu, .inl (E.2.1, 4, .inl u))] := by
  refine rcV_of (by decide) (Nat.le_of_ble_eq_true rfl) ?_
  intro pg e s m below meth c Q A ls S hP hD0 hE hA hl hret
  have hx := S.1
  have hb := S.2.1
  have hown := S.2.2.2.1
  have hts := S.2.2.2.2
  have hK := hE.1
  have hS : va_S A s.heap s.heap [] := va_S.rf
  have hDa : va_Da A [d, ch, nu] := ⟨_, hD0, rfl⟩
  have hl : lv_has ls 1 [(0, .ref d)] := hl
  refine lv_aload_n hx hb dX2_startReading_0 rfl (lv_at hl 0 rfl) ?_
  refine lv_iconst (v := nI 0) hx hb dX2_startReading_1 (by decide) ?_
  refine va_put (D := E.1) (ci := 1) (v := .int (nI 0)) (ty := .int) (C := RX2) (T := TX2) (N := 8) hx hb hts inb_X2 tyX2 tyX2_ok nmX2 hown hK hP (hDa.to rfl) hS 0 rfl rfl 3 (by decide) (hts _ bw_106) (fun _ h9 => h9) rfl (by decide +kernel) rfl rfl (Nat.le_of_ble_eq_true rfl) dX2_startReading_2 (fun H locs hP _ hS => ?_)
  have hP : va_P E.1 vwCl [(d, .inr (1, [.ref ch, .ref nu, .int (nI L), .int (nI 0), .int b, .int le, .int co, .int mi])), (ch, .inl (E.2.2.1, 80, .inl t)), (nu, .inl (E.2.1, 4, .inl u))] H := hP
  exact hret _ _ _ _ _ rfl hP hS dX2_startReading_5

theorem nat_of {x : Int32} {n : Nat} (hn : n < 2 ^ 31) (h0 : ¬ x < 0) (h1 : ¬ nI n ≤ x) : ∃ i : Nat, i < n ∧ x = nI i := by
  obtain ⟨i, hi, rfl⟩ := nI_of h0
  refine ⟨i, ?_, rfl⟩
  rcases Nat.lt_or_ge i n with e | e
  · exact e
  · exact absurd (nI_le e hi) h1
theorem cd_X2_here : cdV RX2 yX2_here cX2_here 1 (some .int) 0 := ⟨⟨bw_567, bw_61, by decide, by decide, by decide +kernel⟩, bw_566, bw_3⟩
def cHe (t : Nat → Int32) (L : Nat) (a : Int32) : Int32 := if a < 0 then nI 0 else if nI L ≤ a then nI 0 else t (ix a)
set_option maxHeartbeats 4000000 in
set_option maxRecDepth 100000 in
theorem c_X2_here (l : Launch) (E : EV) (d : Nat) (ch : Nat) (nu : Nat) (L : Nat) (a : Int32) (b : Int32) (le : Int32) (co : Int32) (mi : Int32) (t : Nat → Int32) (u : Nat → Int32) (hL : L ≤ 80) : rcI l E yX2_here cX2_here 1 .int 0 [.ref d] [(d, .inr (1, [.ref ch, .ref nu, .int (nI L), .int a, .int b, .int le, .int co, .int mi])), (ch, .inl (E.2.2.1, 80, .inl t)), (nu, .inl (E.2.1, 4, .inl u))] (cHe t L a) [(d, .inr (1, [.ref ch, .ref nu, .int (nI L), .int a, .int b, .int le, .int co, .int mi])), (ch, .inl (E.2.2.1, 80, .inl t)), (nu, .inl (E.2.1, 4, .inl u))] := by
  refine rcI_of (by decide) (Nat.le_of_ble_eq_true rfl) ?_
  intro pg e s m below meth c Q A ls S hP hD0 hE hA hl hret
  have hx := S.1
  have hb := S.2.1
  have hown := S.2.2.2.1
  have hts := S.2.2.2.2
  have hK := hE.1
  have hS : va_S A s.heap s.heap [] := va_S.rf
  have hDa : va_Da A [d, ch, nu] := ⟨_, hD0, rfl⟩
  have hl : lv_has ls 1 [(0, .ref d)] := hl
  refine lv_aload_n hx hb dX2_here_0 rfl (lv_at hl 0 rfl) ?_
  refine va_get (D := E.1) (ci := 1) (v := .int a) (C := RX2) (T := TX2) (N := 8) hx hb hts inb_X2 hown hK hP 0 rfl rfl 3 (by decide) (hts _ bw_106) (fun _ h9 => h9) rfl dX2_here_1 ?_
  refine lv_if_lt (tgt := 42) hx hb dX2_here_4 (by decide) (fun c_1 => ?_) (fun c_1 => ?_)
  · refine lv_iconst (v := nI 0) hx hb dX2_here_42 (by decide) ?_
    exact hret _ _ _ _ _ _ (by rw [cHe, if_pos c_1]) rfl rfl hP hS dX2_here_43
  · refine lv_aload_n hx hb dX2_here_7 rfl (lv_at hl 0 rfl) ?_
    refine va_get (D := E.1) (ci := 1) (v := .int a) (C := RX2) (T := TX2) (N := 8) hx hb hts inb_X2 hown hK hP 0 rfl rfl 3 (by decide) (hts _ bw_106) (fun _ h9 => h9) rfl dX2_here_8 ?_
    refine lv_aload_n hx hb dX2_here_11 rfl (lv_at hl 0 rfl) ?_
    refine va_get (D := E.1) (ci := 1) (v := .int (nI L)) (C := RX2) (T := TX2) (N := 8) hx hb hts inb_X2 hown hK hP 0 rfl rfl 2 (by decide) (hts _ bw_105) (fun _ h9 => h9) rfl dX2_here_12 ?_
    refine lv_icmp_ge (tgt := 42) hx hb dX2_here_15 (by decide) (fun c_2 => ?_) (fun c_2 => ?_)
    · refine lv_iconst (v := nI 0) hx hb dX2_here_42 (by decide) ?_
      exact hret _ _ _ _ _ _ (by rw [cHe, if_neg c_1, if_pos c_2]) rfl rfl hP hS dX2_here_43
    · obtain ⟨x, h9_x, rfl⟩ : ∃ x : Nat, x < L ∧ a = nI x := (nat_of (by omega) c_1 c_2)
      refine lv_aload_n hx hb dX2_here_18 rfl (lv_at hl 0 rfl) ?_
      refine va_get (D := E.1) (ci := 1) (v := .int (nI x)) (C := RX2) (T := TX2) (N := 8) hx hb hts inb_X2 hown hK hP 0 rfl rfl 3 (by decide) (hts _ bw_106) (fun _ h9 => h9) rfl dX2_here_19 ?_
      refine lv_aload_n hx hb dX2_here_22 rfl (lv_at hl 0 rfl) ?_
      refine va_get (D := E.1) (ci := 1) (v := .ref ch) (C := RX2) (T := TX2) (N := 8) hx hb hts inb_X2 hown hK hP 0 rfl rfl 0 (by decide) (hts _ bw_103) (fun _ h9 => h9) rfl dX2_here_23 ?_
      refine va_alen (v := nI 80) hx hb hK hP 1 1 rfl rfl rfl dX2_here_26 ?_
      refine rn_icmp_ge (a := x) (b := 80) (tgt := 42) hx hb (by omega) (by omega) dX2_here_27 (by decide) (fun c_3 => absurd c_3 (by omega)) (fun c_3 => ?_)
      refine lv_aload_n hx hb dX2_here_30 rfl (lv_at hl 0 rfl) ?_
      refine va_get (D := E.1) (ci := 1) (v := .ref ch) (C := RX2) (T := TX2) (N := 8) hx hb hts inb_X2 hown hK hP 0 rfl rfl 0 (by decide) (hts _ bw_103) (fun _ h9 => h9) rfl dX2_here_31 ?_
      refine lv_aload_n hx hb dX2_here_34 rfl (lv_at hl 0 rfl) ?_
      refine va_get (D := E.1) (ci := 1) (v := .int (nI x)) (C := RX2) (T := TX2) (N := 8) hx hb hts inb_X2 hown hK hP 0 rfl rfl 3 (by decide) (hts _ bw_106) (fun _ h9 => h9) rfl dX2_here_35 ?_
      refine rn_cald (i := x) hx hb hK hP 1 1 rfl rfl (by omega) (by omega) dX2_here_38 ?_
      refine lv_goto (tgt := 43) hx hb dX2_here_39 (by decide) ?_
      exact hret _ _ _ _ _ _ (by first | rw [cHe, ix_nI (show x < 2 ^ 31 by omega), if_neg c_1, if_neg c_2] | rw [cHe, if_neg c_1, if_neg c_2] | simp only [cHe, ix_nI (show x < 2 ^ 31 by omega), if_neg c_1, if_neg c_2]) rfl rfl hP hS dX2_here_43

theorem cd_X2_isDigitHere : cdV RX2 yX2_isDigitHere cX2_isDigitHere 1 (some .boolean) 0 := ⟨⟨bw_639, bw_61, by decide, by decide, by decide +kernel⟩, bw_638, bw_6⟩
def cDi (t : Nat → Int32) (L : Nat) (a : Int32) : Int32 := isW (cHe t L a) (nI 48) (nI 57)
theorem cDi_z (t : Nat → Int32) (L : Nat) (a : Int32) : narrow .boolean (.int (cDi t L a)) = .int (cDi t L a) := by
  unfold cDi
  repeat' split
  all_goals first | (with_reducible exact isW_z _ _ _) | decide | rfl
set_option maxHeartbeats 4000000 in
set_option maxRecDepth 100000 in
theorem c_X2_isDigitHere (l : Launch) (E : EV) (d : Nat) (ch : Nat) (nu : Nat) (L : Nat) (a : Int32) (b : Int32) (le : Int32) (co : Int32) (mi : Int32) (t : Nat → Int32) (u : Nat → Int32) (hL : L ≤ 80) : rcI l E yX2_isDigitHere cX2_isDigitHere 1 .boolean 1 [.ref d] [(d, .inr (1, [.ref ch, .ref nu, .int (nI L), .int a, .int b, .int le, .int co, .int mi])), (ch, .inl (E.2.2.1, 80, .inl t)), (nu, .inl (E.2.1, 4, .inl u))] (cDi t L a) [(d, .inr (1, [.ref ch, .ref nu, .int (nI L), .int a, .int b, .int le, .int co, .int mi])), (ch, .inl (E.2.2.1, 80, .inl t)), (nu, .inl (E.2.1, 4, .inl u))] := by
  refine rcI_of (by decide) (Nat.le_of_ble_eq_true rfl) ?_
  intro pg e s m below meth c Q A ls S hP hD0 hE hA hl hret
  have hx := S.1
  have hb := S.2.1
  have hown := S.2.2.2.1
  have hts := S.2.2.2.2
  have hK := hE.1
  have hS : va_S A s.heap s.heap [] := va_S.rf
  have hDa : va_Da A [d, ch, nu] := ⟨_, hD0, rfl⟩
  have hl : lv_has ls 1 [(0, .ref d)] := hl
  refine lv_aload_n hx hb dX2_isDigitHere_0 rfl (lv_at hl 0 rfl) ?_
  refine rwV0 (rest := []) S (c_X2_here l E d ch nu L a b le co mi t u hL) cd_X2_here bw_564 ⟨Nat.le_of_ble_eq_true rfl, Nat.le_of_ble_eq_true rfl⟩ ⟨Nat.zero_le _, Nat.zero_le _⟩ hP (hDa.to rfl) hE hA hS [0, 1, 2] rfl rfl [d, ch, nu] rfl rfl (ci := 1) rfl (q0 := 0) rfl (Nat.le_of_ble_eq_true rfl) hl.1 dX2_isDigitHere_1 (fun H locs hP _ hS => ?_)
  have hP : va_P E.1 vwCl [(d, .inr (1, [.ref ch, .ref nu, .int (nI L), .int a, .int b, .int le, .int co, .int mi])), (ch, .inl (E.2.2.1, 80, .inl t)), (nu, .inl (E.2.1, 4, .inl u))] H := hP
  refine lv_bipush (v := nI 48) hx hb dX2_isDigitHere_4 (by decide) ?_
  refine lv_bipush (v := nI 57) hx hb dX2_isDigitHere_6 (by decide) ?_
  refine rwN3 (rest := []) S (c_X7_isWithin l E (cHe t L a) (nI 48) (nI 57)) cd_X7_isWithin hE.2.1.2.2.2.2.2.2.1 ⟨Nat.le_of_ble_eq_true rfl, Nat.le_of_ble_eq_true rfl⟩ ⟨Nat.zero_le _, Nat.zero_le _⟩ hP (hDa.to rfl) hE hA hS [] rfl rfl [] rfl rfl (Nat.le_of_ble_eq_true rfl) hl.1 dX2_isDigitHere_8 (fun H locs hP _ hS => ?_)
  have hP : va_P E.1 vwCl [(d, .inr (1, [.ref ch, .ref nu, .int (nI L), .int a, .int b, .int le, .int co, .int mi])), (ch, .inl (E.2.2.1, 80, .inl t)), (nu, .inl (E.2.1, 4, .inl u))] H := hP
  exact hret _ _ _ _ _ _ (by rw [cDi]) rfl (by first | (with_reducible exact isW_z _ _ _) | assumption) hP hS dX2_isDigitHere_11

theorem cd_X2_readSign : cdV RX2 yX2_readSign cX2_readSign 2 (some .boolean) 1 := ⟨⟨bw_563, bw_61, by decide, by decide, by decide +kernel⟩, bw_562, bw_2⟩
def cSg (t : Nat → Int32) (L : Nat) (a : Int32) (sg : Int32) : Int32 := if cHe t L a = sg then nI 1 else nI 0
theorem cSg_z (t : Nat → Int32) (L : Nat) (a : Int32) (sg : Int32) : narrow .boolean (.int (cSg t L a sg)) = .int (cSg t L a sg) := by
  unfold cSg
  repeat' split
  all_goals first | decide | rfl
def cSgA (t : Nat → Int32) (L : Nat) (a : Int32) (sg : Int32) : Int32 := if cHe t L a = sg then a + (nI 1) else a
set_option maxHeartbeats 4000000 in
set_option maxRecDepth 100000 in
theorem c_X2_readSign (l : Launch) (E : EV) (d : Nat) (ch : Nat) (nu : Nat) (L : Nat) (a : Int32) (b : Int32) (le : Int32) (co : Int32) (mi : Int32) (t : Nat → Int32) (u : Nat → Int32) (sg : Int32) (hL : L ≤ 80) : rcI l E yX2_readSign cX2_readSign 2 .boolean 1 [.ref d, .int sg] [(d, .inr (1, [.ref ch, .ref nu, .int (nI L), .int a, .int b, .int le, .int co, .int mi])), (ch, .inl (E.2.2.1, 80, .inl t)), (nu, .inl (E.2.1, 4, .inl u))] (cSg t L a sg) [(d, .inr (1, [.ref ch, .ref nu, .int (nI L), .int (cSgA t L a sg), .int b, .int le, .int co, .int mi])), (ch, .inl (E.2.2.1, 80, .inl t)), (nu, .inl (E.2.1, 4, .inl u))] := by
  refine rcI_of (by decide) (Nat.le_of_ble_eq_true rfl) ?_
  intro pg e s m below meth c Q A ls S hP hD0 hE hA hl hret
  have hx := S.1
  have hb := S.2.1
  have hown := S.2.2.2.1
  have hts := S.2.2.2.2
  have hK := hE.1
  have hS : va_S A s.heap s.heap [] := va_S.rf
  have hDa : va_Da A [d, ch, nu] := ⟨_, hD0, rfl⟩
  have hl : lv_has ls 2 [(0, .ref d), (1, .int sg)] := hl
  refine lv_aload_n hx hb dX2_readSign_0 rfl (lv_at hl 0 rfl) ?_
  refine rwV0 (rest := []) S (c_X2_here l E d ch nu L a b le co mi t u hL) cd_X2_here bw_564 ⟨Nat.le_of_ble_eq_true rfl, Nat.le_of_ble_eq_true rfl⟩ ⟨Nat.zero_le _, Nat.zero_le _⟩ hP (hDa.to rfl) hE hA hS [0, 1, 2] rfl rfl [d, ch, nu] rfl rfl (ci := 1) rfl (q0 := 0) rfl (Nat.le_of_ble_eq_true rfl) hl.1 dX2_readSign_1 (fun H locs hP _ hS => ?_)
  have hP : va_P E.1 vwCl [(d, .inr (1, [.ref ch, .ref nu, .int (nI L), .int a, .int b, .int le, .int co, .int mi])), (ch, .inl (E.2.2.1, 80, .inl t)), (nu, .inl (E.2.1, 4, .inl u))] H := hP
  refine lv_iload_n hx hb dX2_readSign_4 rfl (lv_at hl 1 rfl) ?_
  refine lv_icmp_eq (tgt := 10) hx hb dX2_readSign_5 (by decide) (fun c_1 => ?_) (fun c_1 => ?_)
  · refine lv_aload_n hx hb dX2_readSign_10 rfl (lv_at hl 0 rfl) ?_
    refine lv_dup hx hb dX2_readSign_11 rfl ?_
    refine va_get (D := E.1) (ci := 1) (v := .int a) (C := RX2) (T := TX2) (N := 8) hx hb hts inb_X2 hown hK hP 0 rfl rfl 3 (by decide) (hts _ bw_106) (fun _ h9 => h9) rfl dX2_readSign_12 ?_
    refine lv_iconst (v := nI 1) hx hb dX2_readSign_15 (by decide) ?_
    refine lv_iadd hx hb dX2_readSign_16 ?_
    refine va_put (D := E.1) (ci := 1) (v := .int (a + (nI 1))) (ty := .int) (C := RX2) (T := TX2) (N := 8) hx hb hts inb_X2 tyX2 tyX2_ok nmX2 hown hK hP (hDa.to rfl) hS 0 rfl rfl 3 (by decide) (hts _ bw_106) (fun _ h9 => h9) rfl (by decide +kernel) rfl rfl (Nat.le_of_ble_eq_true rfl) dX2_readSign_17 (fun H locs hP _ hS => ?_)
    have hP : va_P E.1 vwCl [(d, .inr (1, [.ref ch, .ref nu, .int (nI L), .int (a + (nI 1)), .int b, .int le, .int co, .int mi])), (ch, .inl (E.2.2.1, 80, .inl t)), (nu, .inl (E.2.1, 4, .inl u))] H := hP
    refine lv_iconst (v := nI 1) hx hb dX2_readSign_20 (by decide) ?_
    exact hret _ _ _ _ _ _ (by rw [cSg, if_pos c_1]) (by rw [cSgA, if_pos c_1]) (by decide) hP hS dX2_readSign_21
  · refine lv_iconst (v := nI 0) hx hb dX2_readSign_8 (by decide) ?_
    exact hret _ _ _ _ _ _ (by rw [cSg, if_neg c_1]) (by rw [cSgA, if_neg c_1]) (by decide) hP hS dX2_readSign_9

theorem cd_X2_readNumber : cdV RX2 yX2_readNumber cX2_readNumber 2 (some .boolean) 0 := ⟨⟨bw_635, bw_61, by decide, by decide, by decide +kernel⟩, bw_634, bw_5⟩
def cNm (t : Nat → Int32) (L : Nat) (a : Int32) (b : Int32) (u : Nat → Int32) : Int32 := if cDi t L a = 0 then nI 0 else nI 1
theorem cNm_z (t : Nat → Int32) (L : Nat) (a : Int32) (b : Int32) (u : Nat → Int32) : narrow .boolean (.int (cNm t L a b u)) = .int (cNm t L a b u) := by
  unfold cNm
  repeat' split
  all_goals first | decide | rfl
def cNmA (t : Nat → Int32) (L : Nat) (a : Int32) (b : Int32) (u : Nat → Int32) : Int32 := if cDi t L a = 0 then a else if cHe t L a - (nI 48) ≤ 0 then a + (nI 1) else if cDi t L (a + (nI 1)) = 0 then (a + (nI 1)) else (a + (nI 1)) + (nI 1)
def cNmB (t : Nat → Int32) (L : Nat) (a : Int32) (b : Int32) (u : Nat → Int32) : Int32 := if cDi t L a = 0 then b else if cHe t L a - (nI 48) ≤ 0 then if b < 0 then b else if nI 4 ≤ b then b else nI ((ix b) + 1) else if cDi t L (a + (nI 1)) = 0 then if b < 0 then b else if nI 4 ≤ b then b else nI ((ix b) + 1) else if b < 0 then b else if nI 4 ≤ b then b else nI ((ix b) + 1)
def cNmU (t : Nat → Int32) (L : Nat) (a : Int32) (b : Int32) (u : Nat → Int32) : Nat → Int32 := if cDi t L a = 0 then u else if cHe t L a - (nI 48) ≤ 0 then if b < 0 then u else if nI 4 ≤ b then u else upd u (ix b) (cHe t L a - (nI 48)) else if cDi t L (a + (nI 1)) = 0 then if b < 0 then u else if nI 4 ≤ b then u else upd u (ix b) (cHe t L a - (nI 48)) else if b < 0 then u else if nI 4 ≤ b then u else upd u (ix b) ((cHe t L a - (nI 48)) * (nI 10) + (cHe t L (a + (nI 1))) - (nI 48))
set_option maxHeartbeats 4000000 in
set_option maxRecDepth 100000 in
theorem c_X2_readNumber (l : Launch) (E : EV) (d : Nat) (ch : Nat) (nu : Nat) (L : Nat) (a : Int32) (b : Int32) (le : Int32) (co : Int32) (mi : Int32) (t : Nat → Int32) (u : Nat → Int32) (hL : L ≤ 80) : rcI l E yX2_readNumber cX2_readNumber 2 .boolean 2 [.ref d] [(d, .inr (1, [.ref ch, .ref nu, .int (nI L), .int a, .int b, .int le, .int co, .int mi])), (ch, .inl (E.2.2.1, 80, .inl t)), (nu, .inl (E.2.1, 4, .inl u))] (cNm t L a b u) [(d, .inr (1, [.ref ch, .ref nu, .int (nI L), .int (cNmA t L a b u), .int (cNmB t L a b u), .int le, .int co, .int mi])), (ch, .inl (E.2.2.1, 80, .inl t)), (nu, .inl (E.2.1, 4, .inl (cNmU t L a b u)))] := by
  refine rcI_of (by decide) (Nat.le_of_ble_eq_true rfl) ?_
  intro pg e s m below meth c Q A ls S hP hD0 hE hA hl hret
  have hx := S.1
  have hb := S.2.1
  have hown := S.2.2.2.1
  have hts := S.2.2.2.2
  have hK := hE.1
  have hS : va_S A s.heap s.heap [] := va_S.rf
  have hDa : va_Da A [d, ch, nu] := ⟨_, hD0, rfl⟩
  have hl : lv_has ls 2 [(0, .ref d)] := hl
  refine lv_aload_n hx hb dX2_readNumber_0 rfl (lv_at hl 0 rfl) ?_
  refine rwV0 (rest := []) S (c_X2_isDigitHere l E d ch nu L a b le co mi t u hL) cd_X2_isDigitHere bw_636 ⟨Nat.le_of_ble_eq_true rfl, Nat.le_of_ble_eq_true rfl⟩ ⟨Nat.zero_le _, Nat.zero_le _⟩ hP (hDa.to rfl) hE hA hS [0, 1, 2] rfl rfl [d, ch, nu] rfl rfl (ci := 1) rfl (q0 := 0) rfl (Nat.le_of_ble_eq_true rfl) hl.1 dX2_readNumber_1 (fun H locs hP _ hS => ?_)
  have hP : va_P E.1 vwCl [(d, .inr (1, [.ref ch, .ref nu, .int (nI L), .int a, .int b, .int le, .int co, .int mi])), (ch, .inl (E.2.2.1, 80, .inl t)), (nu, .inl (E.2.1, 4, .inl u))] H := hP
  refine lv_if_ne (tgt := 9) hx hb dX2_readNumber_4 (by decide) (fun c_1 => ?_) (fun c_1 => ?_)
  · refine lv_aload_n hx hb dX2_readNumber_9 rfl (lv_at hl 0 rfl) ?_
    refine rwV0 (rest := []) S (c_X2_here l E d ch nu L a b le co mi t u hL) cd_X2_here bw_564 ⟨Nat.le_of_ble_eq_true rfl, Nat.le_of_ble_eq_true rfl⟩ ⟨Nat.zero_le _, Nat.zero_le _⟩ hP (hDa.to rfl) hE hA hS [0, 1, 2] rfl rfl [d, ch, nu] rfl rfl (ci := 1) rfl (q0 := 0) rfl (Nat.le_of_ble_eq_true rfl) hl.1 dX2_readNumber_10 (fun H locs hP _ hS => ?_)
    have hP : va_P E.1 vwCl [(d, .inr (1, [.ref ch, .ref nu, .int (nI L), .int a, .int b, .int le, .int co, .int mi])), (ch, .inl (E.2.2.1, 80, .inl t)), (nu, .inl (E.2.1, 4, .inl u))] H := hP
    refine lv_bipush (v := nI 48) hx hb dX2_readNumber_13 (by decide) ?_
    refine lv_isub hx hb dX2_readNumber_15 ?_
    refine lv_istore_n (lv' := [(1, .int (cHe t L a - (nI 48))), (0, .ref d)]) hx hb dX2_readNumber_16 rfl hl (by decide) rfl (fun ls hl => ?_)
    refine lv_aload_n hx hb dX2_readNumber_17 rfl (lv_at hl 1 rfl) ?_
    refine lv_dup hx hb dX2_readNumber_18 rfl ?_
    refine va_get (D := E.1) (ci := 1) (v := .int a) (C := RX2) (T := TX2) (N := 8) hx hb hts inb_X2 hown hK hP 0 rfl rfl 3 (by decide) (hts _ bw_106) (fun _ h9 => h9) rfl dX2_readNumber_19 ?_
    refine lv_iconst (v := nI 1) hx hb dX2_readNumber_22 (by decide) ?_
    refine lv_iadd hx hb dX2_readNumber_23 ?_
    refine va_put (D := E.1) (ci := 1) (v := .int (a + (nI 1))) (ty := .int) (C := RX2) (T := TX2) (N := 8) hx hb hts inb_X2 tyX2 tyX2_ok nmX2 hown hK hP (hDa.to rfl) hS 0 rfl rfl 3 (by decide) (hts _ bw_106) (fun _ h9 => h9) rfl (by decide +kernel) rfl rfl (Nat.le_of_ble_eq_true rfl) dX2_readNumber_24 (fun H locs hP _ hS => ?_)
    have hP : va_P E.1 vwCl [(d, .inr (1, [.ref ch, .ref nu, .int (nI L), .int (a + (nI 1)), .int b, .int le, .int co, .int mi])), (ch, .inl (E.2.2.1, 80, .inl t)), (nu, .inl (E.2.1, 4, .inl u))] H := hP
    refine lv_iload_n hx hb dX2_readNumber_27 rfl (lv_at hl 0 rfl) ?_
    refine lv_if_le (tgt := 61) hx hb dX2_readNumber_28 (by decide) (fun c_2 => ?_) (fun c_2 => ?_)
    · refine lv_aload_n hx hb dX2_readNumber_61 rfl (lv_at hl 1 rfl) ?_
      refine va_get (D := E.1) (ci := 1) (v := .int b) (C := RX2) (T := TX2) (N := 8) hx hb hts inb_X2 hown hK hP 0 rfl rfl 4 (by decide) (hts _ bw_107) (fun _ h9 => h9) rfl dX2_readNumber_62 ?_
      refine lv_if_lt (tgt := 100) hx hb dX2_readNumber_65 (by decide) (fun c_3 => ?_) (fun c_3 => ?_)
      · refine lv_iconst (v := nI 1) hx hb dX2_readNumber_100 (by decide) ?_
        exact hret _ _ _ _ _ _ (by rw [cNm, if_neg c_1]) (by rw [show cNmA t L a b u = a + (nI 1) from by rw [cNmA, if_neg c_1, if_pos c_2], show cNmB t L a b u = b from by rw [cNmB, if_neg c_1, if_pos c_2, if_pos c_3], show cNmU t L a b u = u from by rw [cNmU, if_neg c_1, if_pos c_2, if_pos c_3]]) (by decide) hP hS dX2_readNumber_101
      · refine lv_aload_n hx hb dX2_readNumber_68 rfl (lv_at hl 1 rfl) ?_
        refine va_get (D := E.1) (ci := 1) (v := .int b) (C := RX2) (T := TX2) (N := 8) hx hb hts inb_X2 hown hK hP 0 rfl rfl 4 (by decide) (hts _ bw_107) (fun _ h9 => h9) rfl dX2_readNumber_69 ?_
        refine lv_aload_n hx hb dX2_readNumber_72 rfl (lv_at hl 1 rfl) ?_
        refine va_get (D := E.1) (ci := 1) (v := .ref nu) (C := RX2) (T := TX2) (N := 8) hx hb hts inb_X2 hown hK hP 0 rfl rfl 1 (by decide) (hts _ bw_104) (fun _ h9 => h9) rfl dX2_readNumber_73 ?_
        refine va_alen (v := nI 4) hx hb hK hP 2 0 rfl rfl rfl dX2_readNumber_76 ?_
        refine lv_icmp_ge (tgt := 100) hx hb dX2_readNumber_77 (by decide) (fun c_4 => ?_) (fun c_4 => ?_)
        · refine lv_iconst (v := nI 1) hx hb dX2_readNumber_100 (by decide) ?_
          exact hret _ _ _ _ _ _ (by rw [cNm, if_neg c_1]) (by rw [show cNmA t L a b u = a + (nI 1) from by rw [cNmA, if_neg c_1, if_pos c_2], show cNmB t L a b u = b from by rw [cNmB, if_neg c_1, if_pos c_2, if_neg c_3, if_pos c_4], show cNmU t L a b u = u from by rw [cNmU, if_neg c_1, if_pos c_2, if_neg c_3, if_pos c_4]]) (by decide) hP hS dX2_readNumber_101
        · obtain ⟨x, h9_x, rfl⟩ : ∃ x : Nat, x < 4 ∧ b = nI x := (nat_of (by omega) c_3 c_4)
          refine lv_aload_n hx hb dX2_readNumber_80 rfl (lv_at hl 1 rfl) ?_
          refine va_get (D := E.1) (ci := 1) (v := .ref nu) (C := RX2) (T := TX2) (N := 8) hx hb hts inb_X2 hown hK hP 0 rfl rfl 1 (by decide) (hts _ bw_104) (fun _ h9 => h9) rfl dX2_readNumber_81 ?_
          refine lv_aload_n hx hb dX2_readNumber_84 rfl (lv_at hl 1 rfl) ?_
          refine va_get (D := E.1) (ci := 1) (v := .int (nI x)) (C := RX2) (T := TX2) (N := 8) hx hb hts inb_X2 hown hK hP 0 rfl rfl 4 (by decide) (hts _ bw_107) (fun _ h9 => h9) rfl dX2_readNumber_85 ?_
          refine lv_iload_n hx hb dX2_readNumber_88 rfl (lv_at hl 0 rfl) ?_
          refine rn_iast (i := x) hx hb hK hP (hDa.to rfl) hS 2 0 rfl rfl (by omega) (by omega) dX2_readNumber_89 (fun H locs hP _ hS => ?_)
          have hP : va_P E.1 vwCl [(d, .inr (1, [.ref ch, .ref nu, .int (nI L), .int (a + (nI 1)), .int (nI x), .int le, .int co, .int mi])), (ch, .inl (E.2.2.1, 80, .inl t)), (nu, .inl (E.2.1, 4, .inl (upd u x (cHe t L a - (nI 48)))))] H := hP
          refine lv_aload_n hx hb dX2_readNumber_90 rfl (lv_at hl 1 rfl) ?_
          refine lv_dup hx hb dX2_readNumber_91 rfl ?_
          refine va_get (D := E.1) (ci := 1) (v := .int (nI x)) (C := RX2) (T := TX2) (N := 8) hx hb hts inb_X2 hown hK hP 0 rfl rfl 4 (by decide) (hts _ bw_107) (fun _ h9 => h9) rfl dX2_readNumber_92 ?_
          refine lv_iconst (v := nI 1) hx hb dX2_readNumber_95 (by decide) ?_
          refine rn_add (a := x) (b := 1) hx hb dX2_readNumber_96 ?_
          refine va_put (D := E.1) (ci := 1) (v := .int (nI (x + 1))) (ty := .int) (C := RX2) (T := TX2) (N := 8) hx hb hts inb_X2 tyX2 tyX2_ok nmX2 hown hK hP (hDa.to rfl) hS 0 rfl rfl 4 (by decide) (hts _ bw_107) (fun _ h9 => h9) rfl (by decide +kernel) rfl rfl (Nat.le_of_ble_eq_true rfl) dX2_readNumber_97 (fun H locs hP _ hS => ?_)
          have hP : va_P E.1 vwCl [(d, .inr (1, [.ref ch, .ref nu, .int (nI L), .int (a + (nI 1)), .int (nI (x + 1)), .int le, .int co, .int mi])), (ch, .inl (E.2.2.1, 80, .inl t)), (nu, .inl (E.2.1, 4, .inl (upd u x (cHe t L a - (nI 48)))))] H := hP
          refine lv_iconst (v := nI 1) hx hb dX2_readNumber_100 (by decide) ?_
          exact hret _ _ _ _ _ _ (by first | rw [cNm, ix_nI (show x < 2 ^ 31 by omega), if_neg c_1] | rw [cNm, if_neg c_1] | simp only [cNm, ix_nI (show x < 2 ^ 31 by omega), if_neg c_1]) (by rw [show cNmA t L a (nI x) u = a + (nI 1) from by first | rw [cNmA, ix_nI (show x < 2 ^ 31 by omega), if_neg c_1, if_pos c_2] | rw [cNmA, if_neg c_1, if_pos c_2] | simp only [cNmA, ix_nI (show x < 2 ^ 31 by omega), if_neg c_1, if_pos c_2], show cNmB t L a (nI x) u = nI (x + 1) from by first | rw [cNmB, ix_nI (show x < 2 ^ 31 by omega), if_neg c_1, if_pos c_2, if_neg c_3, if_neg c_4] | rw [cNmB, if_neg c_1, if_pos c_2, if_neg c_3, if_neg c_4] | simp only [cNmB, ix_nI (show x < 2 ^ 31 by omega), if_neg c_1, if_pos c_2, if_neg c_3, if_neg c_4], show cNmU t L a (nI x) u = upd u x (cHe t L a - (nI 48)) from by first | rw [cNmU, ix_nI (show x < 2 ^ 31 by omega), if_neg c_1, if_pos c_2, if_neg c_3, if_neg c_4] | rw [cNmU, if_neg c_1, if_pos c_2, if_neg c_3, if_neg c_4] | simp only [cNmU, ix_nI (show x < 2 ^ 31 by omega), if_neg c_1, if_pos c_2, if_neg c_3, if_neg c_4]]) (by decide) hP hS dX2_readNumber_101
    · refine lv_aload_n hx hb dX2_readNumber_31 rfl (lv_at hl 1 rfl) ?_
      refine rwV0 (rest := []) S (c_X2_isDigitHere l E d ch nu L (a + (nI 1)) b le co mi t u hL) cd_X2_isDigitHere bw_636 ⟨Nat.le_of_ble_eq_true rfl, Nat.le_of_ble_eq_true rfl⟩ ⟨Nat.zero_le _, Nat.zero_le _⟩ hP (hDa.to rfl) hE hA hS [0, 1, 2] rfl rfl [d, ch, nu] rfl rfl (ci := 1) rfl (q0 := 0) rfl (Nat.le_of_ble_eq_true rfl) hl.1 dX2_readNumber_32 (fun H locs hP _ hS => ?_)
      have hP : va_P E.1 vwCl [(d, .inr (1, [.ref ch, .ref nu, .int (nI L), .int (a + (nI 1)), .int b, .int le, .int co, .int mi])), (ch, .inl (E.2.2.1, 80, .inl t)), (nu, .inl (E.2.1, 4, .inl u))] H := hP
      refine lv_if_eq (tgt := 61) hx hb dX2_readNumber_35 (by decide) (fun c_5 => ?_) (fun c_5 => ?_)
      · refine lv_aload_n hx hb dX2_readNumber_61 rfl (lv_at hl 1 rfl) ?_
        refine va_get (D := E.1) (ci := 1) (v := .int b) (C := RX2) (T := TX2) (N := 8) hx hb hts inb_X2 hown hK hP 0 rfl rfl 4 (by decide) (hts _ bw_107) (fun _ h9 => h9) rfl dX2_readNumber_62 ?_
        refine lv_if_lt (tgt := 100) hx hb dX2_readNumber_65 (by decide) (fun c_6 => ?_) (fun c_6 => ?_)
        · refine lv_iconst (v := nI 1) hx hb dX2_readNumber_100 (by decide) ?_
          exact hret _ _ _ _ _ _ (by rw [cNm, if_neg c_1]) (by rw [show cNmA t L a b u = (a + (nI 1)) from by rw [cNmA, if_neg c_1, if_neg c_2, if_pos c_5], show cNmB t L a b u = b from by rw [cNmB, if_neg c_1, if_neg c_2, if_pos c_5, if_pos c_6], show cNmU t L a b u = u from by rw [cNmU, if_neg c_1, if_neg c_2, if_pos c_5, if_pos c_6]]) (by decide) hP hS dX2_readNumber_101
        · refine lv_aload_n hx hb dX2_readNumber_68 rfl (lv_at hl 1 rfl) ?_
          refine va_get (D := E.1) (ci := 1) (v := .int b) (C := RX2) (T := TX2) (N := 8) hx hb hts inb_X2 hown hK hP 0 rfl rfl 4 (by decide) (hts _ bw_107) (fun _ h9 => h9) rfl dX2_readNumber_69 ?_
          refine lv_aload_n hx hb dX2_readNumber_72 rfl (lv_at hl 1 rfl) ?_
          refine va_get (D := E.1) (ci := 1) (v := .ref nu) (C := RX2) (T := TX2) (N := 8) hx hb hts inb_X2 hown hK hP 0 rfl rfl 1 (by decide) (hts _ bw_104) (fun _ h9 => h9) rfl dX2_readNumber_73 ?_
          refine va_alen (v := nI 4) hx hb hK hP 2 0 rfl rfl rfl dX2_readNumber_76 ?_
          refine lv_icmp_ge (tgt := 100) hx hb dX2_readNumber_77 (by decide) (fun c_7 => ?_) (fun c_7 => ?_)
          · refine lv_iconst (v := nI 1) hx hb dX2_readNumber_100 (by decide) ?_
            exact hret _ _ _ _ _ _ (by rw [cNm, if_neg c_1]) (by rw [show cNmA t L a b u = (a + (nI 1)) from by rw [cNmA, if_neg c_1, if_neg c_2, if_pos c_5], show cNmB t L a b u = b from by rw [cNmB, if_neg c_1, if_neg c_2, if_pos c_5, if_neg c_6, if_pos c_7], show cNmU t L a b u = u from by rw [cNmU, if_neg c_1, if_neg c_2, if_pos c_5, if_neg c_6, if_pos c_7]]) (by decide) hP hS dX2_readNumber_101
          · obtain ⟨x, h9_x, rfl⟩ : ∃ x : Nat, x < 4 ∧ b = nI x := (nat_of (by omega) c_6 c_7)
            refine lv_aload_n hx hb dX2_readNumber_80 rfl (lv_at hl 1 rfl) ?_
            refine va_get (D := E.1) (ci := 1) (v := .ref nu) (C := RX2) (T := TX2) (N := 8) hx hb hts inb_X2 hown hK hP 0 rfl rfl 1 (by decide) (hts _ bw_104) (fun _ h9 => h9) rfl dX2_readNumber_81 ?_
            refine lv_aload_n hx hb dX2_readNumber_84 rfl (lv_at hl 1 rfl) ?_
            refine va_get (D := E.1) (ci := 1) (v := .int (nI x)) (C := RX2) (T := TX2) (N := 8) hx hb hts inb_X2 hown hK hP 0 rfl rfl 4 (by decide) (hts _ bw_107) (fun _ h9 => h9) rfl dX2_readNumber_85 ?_
            refine lv_iload_n hx hb dX2_readNumber_88 rfl (lv_at hl 0 rfl) ?_
            refine rn_iast (i := x) hx hb hK hP (hDa.to rfl) hS 2 0 rfl rfl (by omega) (by omega) dX2_readNumber_89 (fun H locs hP _ hS => ?_)
            have hP : va_P E.1 vwCl [(d, .inr (1, [.ref ch, .ref nu, .int (nI L), .int (a + (nI 1)), .int (nI x), .int le, .int co, .int mi])), (ch, .inl (E.2.2.1, 80, .inl t)), (nu, .inl (E.2.1, 4, .inl (upd u x (cHe t L a - (nI 48)))))] H := hP
            refine lv_aload_n hx hb dX2_readNumber_90 rfl (lv_at hl 1 rfl) ?_
            refine lv_dup hx hb dX2_readNumber_91 rfl ?_
            refine va_get (D := E.1) (ci := 1) (v := .int (nI x)) (C := RX2) (T := TX2) (N := 8) hx hb hts inb_X2 hown hK hP 0 rfl rfl 4 (by decide) (hts _ bw_107) (fun _ h9 => h9) rfl dX2_readNumber_92 ?_
            refine lv_iconst (v := nI 1) hx hb dX2_readNumber_95 (by decide) ?_
            refine rn_add (a := x) (b := 1) hx hb dX2_readNumber_96 ?_
            refine va_put (D := E.1) (ci := 1) (v := .int (nI (x + 1))) (ty := .int) (C := RX2) (T := TX2) (N := 8) hx hb hts inb_X2 tyX2 tyX2_ok nmX2 hown hK hP (hDa.to rfl) hS 0 rfl rfl 4 (by decide) (hts _ bw_107) (fun _ h9 => h9) rfl (by decide +kernel) rfl rfl (Nat.le_of_ble_eq_true rfl) dX2_readNumber_97 (fun H locs hP _ hS => ?_)
            have hP : va_P E.1 vwCl [(d, .inr (1, [.ref ch, .ref nu, .int (nI L), .int (a + (nI 1)), .int (nI (x + 1)), .int le, .int co, .int mi])), (ch, .inl (E.2.2.1, 80, .inl t)), (nu, .inl (E.2.1, 4, .inl (upd u x (cHe t L a - (nI 48)))))] H := hP
            refine lv_iconst (v := nI 1) hx hb dX2_readNumber_100 (by decide) ?_
            exact hret _ _ _ _ _ _ (by first | rw [cNm, ix_nI (show x < 2 ^ 31 by omega), if_neg c_1] | rw [cNm, if_neg c_1] | simp only [cNm, ix_nI (show x < 2 ^ 31 by omega), if_neg c_1]) (by rw [show cNmA t L a (nI x) u = (a + (nI 1)) from by first | rw [cNmA, ix_nI (show x < 2 ^ 31 by omega), if_neg c_1, if_neg c_2, if_pos c_5] | rw [cNmA, if_neg c_1, if_neg c_2, if_pos c_5] | simp only [cNmA, ix_nI (show x < 2 ^ 31 by omega), if_neg c_1, if_neg c_2, if_pos c_5], show cNmB t L a (nI x) u = nI (x + 1) from by first | rw [cNmB, ix_nI (show x < 2 ^ 31 by omega), if_neg c_1, if_neg c_2, if_pos c_5, if_neg c_6, if_neg c_7] | rw [cNmB, if_neg c_1, if_neg c_2, if_pos c_5, if_neg c_6, if_neg c_7] | simp only [cNmB, ix_nI (show x < 2 ^ 31 by omega), if_neg c_1, if_neg c_2, if_pos c_5, if_neg c_6, if_neg c_7], show cNmU t L a (nI x) u = upd u x (cHe t L a - (nI 48)) from by first | rw [cNmU, ix_nI (show x < 2 ^ 31 by omega), if_neg c_1, if_neg c_2, if_pos c_5, if_neg c_6, if_neg c_7] | rw [cNmU, if_neg c_1, if_neg c_2, if_pos c_5, if_neg c_6, if_neg c_7] | simp only [cNmU, ix_nI (show x < 2 ^ 31 by omega), if_neg c_1, if_neg c_2, if_pos c_5, if_neg c_6, if_neg c_7]]) (by decide) hP hS dX2_readNumber_101
      · refine lv_iload_n hx hb dX2_readNumber_38 rfl (lv_at hl 0 rfl) ?_
        refine lv_bipush (v := nI 10) hx hb dX2_readNumber_39 (by decide) ?_
        refine lv_imul hx hb dX2_readNumber_41 ?_
        refine lv_aload_n hx hb dX2_readNumber_42 rfl (lv_at hl 1 rfl) ?_
        refine rwV0 (rest := [.int ((cHe t L a - (nI 48)) * (nI 10))]) S (c_X2_here l E d ch nu L (a + (nI 1)) b le co mi t u hL) cd_X2_here bw_564 ⟨Nat.le_of_ble_eq_true rfl, Nat.le_of_ble_eq_true rfl⟩ ⟨Nat.zero_le _, Nat.zero_le _⟩ hP (hDa.to rfl) hE hA hS [0, 1, 2] rfl rfl [d, ch, nu] rfl rfl (ci := 1) rfl (q0 := 0) rfl (Nat.le_of_ble_eq_true rfl) hl.1 dX2_readNumber_43 (fun H locs hP _ hS => ?_)
        have hP : va_P E.1 vwCl [(d, .inr (1, [.ref ch, .ref nu, .int (nI L), .int (a + (nI 1)), .int b, .int le, .int co, .int mi])), (ch, .inl (E.2.2.1, 80, .inl t)), (nu, .inl (E.2.1, 4, .inl u))] H := hP
        refine lv_iadd hx hb dX2_readNumber_46 ?_
        refine lv_bipush (v := nI 48) hx hb dX2_readNumber_47 (by decide) ?_
        refine lv_isub hx hb dX2_readNumber_49 ?_
        refine lv_istore_n (lv' := [(1, .int ((cHe t L a - (nI 48)) * (nI 10) + (cHe t L (a + (nI 1))) - (nI 48))), (0, .ref d)]) hx hb dX2_readNumber_50 rfl hl (by decide) rfl (fun ls hl => ?_)
        refine lv_aload_n hx hb dX2_readNumber_51 rfl (lv_at hl 1 rfl) ?_
        refine lv_dup hx hb dX2_readNumber_52 rfl ?_
        refine va_get (D := E.1) (ci := 1) (v := .int (a + (nI 1))) (C := RX2) (T := TX2) (N := 8) hx hb hts inb_X2 hown hK hP 0 rfl rfl 3 (by decide) (hts _ bw_106) (fun _ h9 => h9) rfl dX2_readNumber_53 ?_
        refine lv_iconst (v := nI 1) hx hb dX2_readNumber_56 (by decide) ?_
        refine lv_iadd hx hb dX2_readNumber_57 ?_
        refine va_put (D := E.1) (ci := 1) (v := .int ((a + (nI 1)) + (nI 1))) (ty := .int) (C := RX2) (T := TX2) (N := 8) hx hb hts inb_X2 tyX2 tyX2_ok nmX2 hown hK hP (hDa.to rfl) hS 0 rfl rfl 3 (by decide) (hts _ bw_106) (fun _ h9 => h9) rfl (by decide +kernel) rfl rfl (Nat.le_of_ble_eq_true rfl) dX2_readNumber_58 (fun H locs hP _ hS => ?_)
        have hP : va_P E.1 vwCl [(d, .inr (1, [.ref ch, .ref nu, .int (nI L), .int ((a + (nI 1)) + (nI 1)), .int b, .int le, .int co, .int mi])), (ch, .inl (E.2.2.1, 80, .inl t)), (nu, .inl (E.2.1, 4, .inl u))] H := hP
        refine lv_aload_n hx hb dX2_readNumber_61 rfl (lv_at hl 1 rfl) ?_
        refine va_get (D := E.1) (ci := 1) (v := .int b) (C := RX2) (T := TX2) (N := 8) hx hb hts inb_X2 hown hK hP 0 rfl rfl 4 (by decide) (hts _ bw_107) (fun _ h9 => h9) rfl dX2_readNumber_62 ?_
        refine lv_if_lt (tgt := 100) hx hb dX2_readNumber_65 (by decide) (fun c_8 => ?_) (fun c_8 => ?_)
        · refine lv_iconst (v := nI 1) hx hb dX2_readNumber_100 (by decide) ?_
          exact hret _ _ _ _ _ _ (by rw [cNm, if_neg c_1]) (by rw [show cNmA t L a b u = (a + (nI 1)) + (nI 1) from by rw [cNmA, if_neg c_1, if_neg c_2, if_neg c_5], show cNmB t L a b u = b from by rw [cNmB, if_neg c_1, if_neg c_2, if_neg c_5, if_pos c_8], show cNmU t L a b u = u from by rw [cNmU, if_neg c_1, if_neg c_2, if_neg c_5, if_pos c_8]]) (by decide) hP hS dX2_readNumber_101
        · refine lv_aload_n hx hb dX2_readNumber_68 rfl (lv_at hl 1 rfl) ?_
          refine va_get (D := E.1) (ci := 1) (v := .int b) (C := RX2) (T := TX2) (N := 8) hx hb hts inb_X2 hown hK hP 0 rfl rfl 4 (by decide) (hts _ bw_107) (fun _ h9 => h9) rfl dX2_readNumber_69 ?_
          refine lv_aload_n hx hb dX2_readNumber_72 rfl (lv_at hl 1 rfl) ?_
          refine va_get (D := E.1) (ci := 1) (v := .ref nu) (C := RX2) (T := TX2) (N := 8) hx hb hts inb_X2 hown hK hP 0 rfl rfl 1 (by decide) (hts _ bw_104) (fun _ h9 => h9) rfl dX2_readNumber_73 ?_
          refine va_alen (v := nI 4) hx hb hK hP 2 0 rfl rfl rfl dX2_readNumber_76 ?_
          refine lv_icmp_ge (tgt := 100) hx hb dX2_readNumber_77 (by decide) (fun c_9 => ?_) (fun c_9 => ?_)
          · refine lv_iconst (v := nI 1) hx hb dX2_readNumber_100 (by decide) ?_
            exact hret _ _ _ _ _ _ (by rw [cNm, if_neg c_1]) (by rw [show cNmA t L a b u = (a + (nI 1)) + (nI 1) from by rw [cNmA, if_neg c_1, if_neg c_2, if_neg c_5], show cNmB t L a b u = b from by rw [cNmB, if_neg c_1, if_neg c_2, if_neg c_5, if_neg c_8, if_pos c_9], show cNmU t L a b u = u from by rw [cNmU, if_neg c_1, if_neg c_2, if_neg c_5, if_neg c_8, if_pos c_9]]) (by decide) hP hS dX2_readNumber_101
          · obtain ⟨x, h9_x, rfl⟩ : ∃ x : Nat, x < 4 ∧ b = nI x := (nat_of (by omega) c_8 c_9)
            refine lv_aload_n hx hb dX2_readNumber_80 rfl (lv_at hl 1 rfl) ?_
            refine va_get (D := E.1) (ci := 1) (v := .ref nu) (C := RX2) (T := TX2) (N := 8) hx hb hts inb_X2 hown hK hP 0 rfl rfl 1 (by decide) (hts _ bw_104) (fun _ h9 => h9) rfl dX2_readNumber_81 ?_
            refine lv_aload_n hx hb dX2_readNumber_84 rfl (lv_at hl 1 rfl) ?_
            refine va_get (D := E.1) (ci := 1) (v := .int (nI x)) (C := RX2) (T := TX2) (N := 8) hx hb hts inb_X2 hown hK hP 0 rfl rfl 4 (by decide) (hts _ bw_107) (fun _ h9 => h9) rfl dX2_readNumber_85 ?_
            refine lv_iload_n hx hb dX2_readNumber_88 rfl (lv_at hl 0 rfl) ?_
            refine rn_iast (i := x) hx hb hK hP (hDa.to rfl) hS 2 0 rfl rfl (by omega) (by omega) dX2_readNumber_89 (fun H locs hP _ hS => ?_)
            have hP : va_P E.1 vwCl [(d, .inr (1, [.ref ch, .ref nu, .int (nI L), .int ((a + (nI 1)) + (nI 1)), .int (nI x), .int le, .int co, .int mi])), (ch, .inl (E.2.2.1, 80, .inl t)), (nu, .inl (E.2.1, 4, .inl (upd u x ((cHe t L a - (nI 48)) * (nI 10) + (cHe t L (a + (nI 1))) - (nI 48)))))] H := hP
            refine lv_aload_n hx hb dX2_readNumber_90 rfl (lv_at hl 1 rfl) ?_
            refine lv_dup hx hb dX2_readNumber_91 rfl ?_
            refine va_get (D := E.1) (ci := 1) (v := .int (nI x)) (C := RX2) (T := TX2) (N := 8) hx hb hts inb_X2 hown hK hP 0 rfl rfl 4 (by decide) (hts _ bw_107) (fun _ h9 => h9) rfl dX2_readNumber_92 ?_
            refine lv_iconst (v := nI 1) hx hb dX2_readNumber_95 (by decide) ?_
            refine rn_add (a := x) (b := 1) hx hb dX2_readNumber_96 ?_
            refine va_put (D := E.1) (ci := 1) (v := .int (nI (x + 1))) (ty := .int) (C := RX2) (T := TX2) (N := 8) hx hb hts inb_X2 tyX2 tyX2_ok nmX2 hown hK hP (hDa.to rfl) hS 0 rfl rfl 4 (by decide) (hts _ bw_107) (fun _ h9 => h9) rfl (by decide +kernel) rfl rfl (Nat.le_of_ble_eq_true rfl) dX2_readNumber_97 (fun H locs hP _ hS => ?_)
            have hP : va_P E.1 vwCl [(d, .inr (1, [.ref ch, .ref nu, .int (nI L), .int ((a + (nI 1)) + (nI 1)), .int (nI (x + 1)), .int le, .int co, .int mi])), (ch, .inl (E.2.2.1, 80, .inl t)), (nu, .inl (E.2.1, 4, .inl (upd u x ((cHe t L a - (nI 48)) * (nI 10) + (cHe t L (a + (nI 1))) - (nI 48)))))] H := hP
            refine lv_iconst (v := nI 1) hx hb dX2_readNumber_100 (by decide) ?_
            exact hret _ _ _ _ _ _ (by first | rw [cNm, ix_nI (show x < 2 ^ 31 by omega), if_neg c_1] | rw [cNm, if_neg c_1] | simp only [cNm, ix_nI (show x < 2 ^ 31 by omega), if_neg c_1]) (by rw [show cNmA t L a (nI x) u = (a + (nI 1)) + (nI 1) from by first | rw [cNmA, ix_nI (show x < 2 ^ 31 by omega), if_neg c_1, if_neg c_2, if_neg c_5] | rw [cNmA, if_neg c_1, if_neg c_2, if_neg c_5] | simp only [cNmA, ix_nI (show x < 2 ^ 31 by omega), if_neg c_1, if_neg c_2, if_neg c_5], show cNmB t L a (nI x) u = nI (x + 1) from by first | rw [cNmB, ix_nI (show x < 2 ^ 31 by omega), if_neg c_1, if_neg c_2, if_neg c_5, if_neg c_8, if_neg c_9] | rw [cNmB, if_neg c_1, if_neg c_2, if_neg c_5, if_neg c_8, if_neg c_9] | simp only [cNmB, ix_nI (show x < 2 ^ 31 by omega), if_neg c_1, if_neg c_2, if_neg c_5, if_neg c_8, if_neg c_9], show cNmU t L a (nI x) u = upd u x ((cHe t L a - (nI 48)) * (nI 10) + (cHe t L (a + (nI 1))) - (nI 48)) from by first | rw [cNmU, ix_nI (show x < 2 ^ 31 by omega), if_neg c_1, if_neg c_2, if_neg c_5, if_neg c_8, if_neg c_9] | rw [cNmU, if_neg c_1, if_neg c_2, if_neg c_5, if_neg c_8, if_neg c_9] | simp only [cNmU, ix_nI (show x < 2 ^ 31 by omega), if_neg c_1, if_neg c_2, if_neg c_5, if_neg c_8, if_neg c_9]]) (by decide) hP hS dX2_readNumber_101
  · refine lv_iconst (v := nI 0) hx hb dX2_readNumber_7 (by decide) ?_
    exact hret _ _ _ _ _ _ (by rw [cNm, if_pos c_1]) (by rw [show cNmA t L a b u = a from by rw [cNmA, if_pos c_1], show cNmB t L a b u = b from by rw [cNmB, if_pos c_1], show cNmU t L a b u = u from by rw [cNmU, if_pos c_1]]) (by decide) hP hS dX2_readNumber_8

theorem cd_X2_readColour : cdV RX2 yX2_readColour cX2_readColour 2 (some .boolean) 0 := ⟨⟨bw_643, bw_61, by decide, by decide, by decide +kernel⟩, bw_642, bw_7⟩
def cCo (t : Nat → Int32) (L : Nat) (a : Int32) : Int32 := if cHe t L a = nI 114 then if cSg t L a (nI 114) = 0 then if cSg t L (cSgA t L a (nI 114)) (nI 103) = 0 then if cSg t L (cSgA t L (cSgA t L a (nI 114)) (nI 103)) (nI 98) = 0 then nI 0 else nI 1 else nI 1 else nI 1 else if cHe t L a = nI 103 then if cSg t L a (nI 114) = 0 then if cSg t L (cSgA t L a (nI 114)) (nI 103) = 0 then if cSg t L (cSgA t L (cSgA t L a (nI 114)) (nI 103)) (nI 98) = 0 then nI 0 else nI 1 else nI 1 else nI 1 else if cSg t L a (nI 114) = 0 then if cSg t L (cSgA t L a (nI 114)) (nI 103) = 0 then if cSg t L (cSgA t L (cSgA t L a (nI 114)) (nI 103)) (nI 98) = 0 then nI 0 else nI 1 else nI 1 else nI 1
theorem cCo_z (t : Nat → Int32) (L : Nat) (a : Int32) : narrow .boolean (.int (cCo t L a)) = .int (cCo t L a) := by
  unfold cCo
  repeat' split
  all_goals first | decide | rfl
def cCoA (t : Nat → Int32) (L : Nat) (a : Int32) : Int32 := if cHe t L a = nI 114 then if cSg t L a (nI 114) = 0 then if cSg t L (cSgA t L a (nI 114)) (nI 103) = 0 then cSgA t L (cSgA t L (cSgA t L a (nI 114)) (nI 103)) (nI 98) else cSgA t L (cSgA t L a (nI 114)) (nI 103) else cSgA t L a (nI 114) else if cHe t L a = nI 103 then if cSg t L a (nI 114) = 0 then if cSg t L (cSgA t L a (nI 114)) (nI 103) = 0 then cSgA t L (cSgA t L (cSgA t L a (nI 114)) (nI 103)) (nI 98) else cSgA t L (cSgA t L a (nI 114)) (nI 103) else cSgA t L a (nI 114) else if cSg t L a (nI 114) = 0 then if cSg t L (cSgA t L a (nI 114)) (nI 103) = 0 then cSgA t L (cSgA t L (cSgA t L a (nI 114)) (nI 103)) (nI 98) else cSgA t L (cSgA t L a (nI 114)) (nI 103) else cSgA t L a (nI 114)
def cCoC (t : Nat → Int32) (L : Nat) (a : Int32) : Int32 := if cHe t L a = nI 114 then (nI 0) else if cHe t L a = nI 103 then (nI 1) else (nI 2)
set_option maxHeartbeats 4000000 in
set_option maxRecDepth 100000 in
theorem c_X2_readColour (l : Launch) (E : EV) (d : Nat) (ch : Nat) (nu : Nat) (L : Nat) (a : Int32) (b : Int32) (le : Int32) (co : Int32) (mi : Int32) (t : Nat → Int32) (u : Nat → Int32) (hL : L ≤ 80) : rcI l E yX2_readColour cX2_readColour 2 .boolean 2 [.ref d] [(d, .inr (1, [.ref ch, .ref nu, .int (nI L), .int a, .int b, .int le, .int co, .int mi])), (ch, .inl (E.2.2.1, 80, .inl t)), (nu, .inl (E.2.1, 4, .inl u))] (cCo t L a) [(d, .inr (1, [.ref ch, .ref nu, .int (nI L), .int (cCoA t L a), .int b, .int le, .int (cCoC t L a), .int mi])), (ch, .inl (E.2.2.1, 80, .inl t)), (nu, .inl (E.2.1, 4, .inl u))] := by
  refine rcI_of (by decide) (Nat.le_of_ble_eq_true rfl) ?_
  intro pg e s m below meth c Q A ls S hP hD0 hE hA hl hret
  have hx := S.1
  have hb := S.2.1
  have hown := S.2.2.2.1
  have hts := S.2.2.2.2
  have hK := hE.1
  have hS : va_S A s.heap s.heap [] := va_S.rf
  have hDa : va_Da A [d, ch, nu] := ⟨_, hD0, rfl⟩
  have hl : lv_has ls 2 [(0, .ref d)] := hl
  refine lv_aload_n hx hb dX2_readColour_0 rfl (lv_at hl 0 rfl) ?_
  refine rwV0 (rest := []) S (c_X2_here l E d ch nu L a b le co mi t u hL) cd_X2_here bw_564 ⟨Nat.le_of_ble_eq_true rfl, Nat.le_of_ble_eq_true rfl⟩ ⟨Nat.zero_le _, Nat.zero_le _⟩ hP (hDa.to rfl) hE hA hS [0, 1, 2] rfl rfl [d, ch, nu] rfl rfl (ci := 1) rfl (q0 := 0) rfl (Nat.le_of_ble_eq_true rfl) hl.1 dX2_readColour_1 (fun H locs hP _ hS => ?_)
  have hP : va_P E.1 vwCl [(d, .inr (1, [.ref ch, .ref nu, .int (nI L), .int a, .int b, .int le, .int co, .int mi])), (ch, .inl (E.2.2.1, 80, .inl t)), (nu, .inl (E.2.1, 4, .inl u))] H := hP
  refine lv_istore_n (lv' := [(1, .int (cHe t L a)), (0, .ref d)]) hx hb dX2_readColour_4 rfl hl (by decide) rfl (fun ls hl => ?_)
  refine lv_aload_n hx hb dX2_readColour_5 rfl (lv_at hl 1 rfl) ?_
  refine lv_iload_n hx hb dX2_readColour_6 rfl (lv_at hl 0 rfl) ?_
  refine lv_bipush (v := nI 114) hx hb dX2_readColour_7 (by decide) ?_
  refine lv_icmp_ne (tgt := 16) hx hb dX2_readColour_9 (by decide) (fun c_1 => ?_) (fun c_1 => ?_)
  · refine lv_iload_n hx hb dX2_readColour_16 rfl (lv_at hl 0 rfl) ?_
    refine lv_bipush (v := nI 103) hx hb dX2_readColour_17 (by decide) ?_
    refine lv_icmp_ne (tgt := 26) hx hb dX2_readColour_19 (by decide) (fun c_2 => ?_) (fun c_2 => ?_)
    · refine lv_iconst (v := nI 2) hx hb dX2_readColour_26 (by decide) ?_
      refine va_put (D := E.1) (ci := 1) (v := .int (nI 2)) (ty := .int) (C := RX2) (T := TX2) (N := 8) hx hb hts inb_X2 tyX2 tyX2_ok nmX2 hown hK hP (hDa.to rfl) hS 0 rfl rfl 6 (by decide) (hts _ bw_109) (fun _ h9 => h9) rfl (by decide +kernel) rfl rfl (Nat.le_of_ble_eq_true rfl) dX2_readColour_27 (fun H locs hP _ hS => ?_)
      have hP : va_P E.1 vwCl [(d, .inr (1, [.ref ch, .ref nu, .int (nI L), .int a, .int b, .int le, .int (nI 2), .int mi])), (ch, .inl (E.2.2.1, 80, .inl t)), (nu, .inl (E.2.1, 4, .inl u))] H := hP
      refine lv_aload_n hx hb dX2_readColour_30 rfl (lv_at hl 1 rfl) ?_
      refine lv_bipush (v := nI 114) hx hb dX2_readColour_31 (by decide) ?_
      refine rwV1 (rest := []) S (c_X2_readSign l E d ch nu L a b le (nI 2) mi t u (nI 114) hL) cd_X2_readSign bw_560 ⟨Nat.le_of_ble_eq_true rfl, Nat.le_of_ble_eq_true rfl⟩ ⟨Nat.zero_le _, Nat.zero_le _⟩ hP (hDa.to rfl) hE hA hS [0, 1, 2] rfl rfl [d, ch, nu] rfl rfl (ci := 1) rfl (q0 := 0) rfl (Nat.le_of_ble_eq_true rfl) hl.1 dX2_readColour_33 (fun H locs hP _ hS => ?_)
      have hP : va_P E.1 vwCl [(d, .inr (1, [.ref ch, .ref nu, .int (nI L), .int (cSgA t L a (nI 114)), .int b, .int le, .int (nI 2), .int mi])), (ch, .inl (E.2.2.1, 80, .inl t)), (nu, .inl (E.2.1, 4, .inl u))] H := hP
      refine lv_if_ne (tgt := 57) hx hb dX2_readColour_36 (by decide) (fun c_3 => ?_) (fun c_3 => ?_)
      · refine lv_iconst (v := nI 1) hx hb dX2_readColour_57 (by decide) ?_
        refine lv_goto (tgt := 62) hx hb dX2_readColour_58 (by decide) ?_
        exact hret _ _ _ _ _ _ (by rw [cCo, if_neg c_1, if_neg c_2, if_neg c_3]) (by rw [show cCoA t L a = cSgA t L a (nI 114) from by rw [cCoA, if_neg c_1, if_neg c_2, if_neg c_3], show cCoC t L a = (nI 2) from by rw [cCoC, if_neg c_1, if_neg c_2]]) (by decide) hP hS dX2_readColour_62
      · refine lv_aload_n hx hb dX2_readColour_39 rfl (lv_at hl 1 rfl) ?_
        refine lv_bipush (v := nI 103) hx hb dX2_readColour_40 (by decide) ?_
        refine rwV1 (rest := []) S (c_X2_readSign l E d ch nu L (cSgA t L a (nI 114)) b le (nI 2) mi t u (nI 103) hL) cd_X2_readSign bw_560 ⟨Nat.le_of_ble_eq_true rfl, Nat.le_of_ble_eq_true rfl⟩ ⟨Nat.zero_le _, Nat.zero_le _⟩ hP (hDa.to rfl) hE hA hS [0, 1, 2] rfl rfl [d, ch, nu] rfl rfl (ci := 1) rfl (q0 := 0) rfl (Nat.le_of_ble_eq_true rfl) hl.1 dX2_readColour_42 (fun H locs hP _ hS => ?_)
        have hP : va_P E.1 vwCl [(d, .inr (1, [.ref ch, .ref nu, .int (nI L), .int (cSgA t L (cSgA t L a (nI 114)) (nI 103)), .int b, .int le, .int (nI 2), .int mi])), (ch, .inl (E.2.2.1, 80, .inl t)), (nu, .inl (E.2.1, 4, .inl u))] H := hP
        refine lv_if_ne (tgt := 57) hx hb dX2_readColour_45 (by decide) (fun c_4 => ?_) (fun c_4 => ?_)
        · refine lv_iconst (v := nI 1) hx hb dX2_readColour_57 (by decide) ?_
          refine lv_goto (tgt := 62) hx hb dX2_readColour_58 (by decide) ?_
          exact hret _ _ _ _ _ _ (by rw [cCo, if_neg c_1, if_neg c_2, if_pos c_3, if_neg c_4]) (by rw [show cCoA t L a = cSgA t L (cSgA t L a (nI 114)) (nI 103) from by rw [cCoA, if_neg c_1, if_neg c_2, if_pos c_3, if_neg c_4], show cCoC t L a = (nI 2) from by rw [cCoC, if_neg c_1, if_neg c_2]]) (by decide) hP hS dX2_readColour_62
        · refine lv_aload_n hx hb dX2_readColour_48 rfl (lv_at hl 1 rfl) ?_
          refine lv_bipush (v := nI 98) hx hb dX2_readColour_49 (by decide) ?_
          refine rwV1 (rest := []) S (c_X2_readSign l E d ch nu L (cSgA t L (cSgA t L a (nI 114)) (nI 103)) b le (nI 2) mi t u (nI 98) hL) cd_X2_readSign bw_560 ⟨Nat.le_of_ble_eq_true rfl, Nat.le_of_ble_eq_true rfl⟩ ⟨Nat.zero_le _, Nat.zero_le _⟩ hP (hDa.to rfl) hE hA hS [0, 1, 2] rfl rfl [d, ch, nu] rfl rfl (ci := 1) rfl (q0 := 0) rfl (Nat.le_of_ble_eq_true rfl) hl.1 dX2_readColour_51 (fun H locs hP _ hS => ?_)
          have hP : va_P E.1 vwCl [(d, .inr (1, [.ref ch, .ref nu, .int (nI L), .int (cSgA t L (cSgA t L (cSgA t L a (nI 114)) (nI 103)) (nI 98)), .int b, .int le, .int (nI 2), .int mi])), (ch, .inl (E.2.2.1, 80, .inl t)), (nu, .inl (E.2.1, 4, .inl u))] H := hP
          refine lv_if_eq (tgt := 61) hx hb dX2_readColour_54 (by decide) (fun c_5 => ?_) (fun c_5 => ?_)
          · refine lv_iconst (v := nI 0) hx hb dX2_readColour_61 (by decide) ?_
            exact hret _ _ _ _ _ _ (by rw [cCo, if_neg c_1, if_neg c_2, if_pos c_3, if_pos c_4, if_pos c_5]) (by rw [show cCoA t L a = cSgA t L (cSgA t L (cSgA t L a (nI 114)) (nI 103)) (nI 98) from by rw [cCoA, if_neg c_1, if_neg c_2, if_pos c_3, if_pos c_4], show cCoC t L a = (nI 2) from by rw [cCoC, if_neg c_1, if_neg c_2]]) (by decide) hP hS dX2_readColour_62
          · refine lv_iconst (v := nI 1) hx hb dX2_readColour_57 (by decide) ?_
            refine lv_goto (tgt := 62) hx hb dX2_readColour_58 (by decide) ?_
            exact hret _ _ _ _ _ _ (by rw [cCo, if_neg c_1, if_neg c_2, if_pos c_3, if_pos c_4, if_neg c_5]) (by rw [show cCoA t L a = cSgA t L (cSgA t L (cSgA t L a (nI 114)) (nI 103)) (nI 98) from by rw [cCoA, if_neg c_1, if_neg c_2, if_pos c_3, if_pos c_4], show cCoC t L a = (nI 2) from by rw [cCoC, if_neg c_1, if_neg c_2]]) (by decide) hP hS dX2_readColour_62
    · refine lv_iconst (v := nI 1) hx hb dX2_readColour_22 (by decide) ?_
      refine lv_goto (tgt := 27) hx hb dX2_readColour_23 (by decide) ?_
      refine va_put (D := E.1) (ci := 1) (v := .int (nI 1)) (ty := .int) (C := RX2) (T := TX2) (N := 8) hx hb hts inb_X2 tyX2 tyX2_ok nmX2 hown hK hP (hDa.to rfl) hS 0 rfl rfl 6 (by decide) (hts _ bw_109) (fun _ h9 => h9) rfl (by decide +kernel) rfl rfl (Nat.le_of_ble_eq_true rfl) dX2_readColour_27 (fun H locs hP _ hS => ?_)
      have hP : va_P E.1 vwCl [(d, .inr (1, [.ref ch, .ref nu, .int (nI L), .int a, .int b, .int le, .int (nI 1), .int mi])), (ch, .inl (E.2.2.1, 80, .inl t)), (nu, .inl (E.2.1, 4, .inl u))] H := hP
      refine lv_aload_n hx hb dX2_readColour_30 rfl (lv_at hl 1 rfl) ?_
      refine lv_bipush (v := nI 114) hx hb dX2_readColour_31 (by decide) ?_
      refine rwV1 (rest := []) S (c_X2_readSign l E d ch nu L a b le (nI 1) mi t u (nI 114) hL) cd_X2_readSign bw_560 ⟨Nat.le_of_ble_eq_true rfl, Nat.le_of_ble_eq_true rfl⟩ ⟨Nat.zero_le _, Nat.zero_le _⟩ hP (hDa.to rfl) hE hA hS [0, 1, 2] rfl rfl [d, ch, nu] rfl rfl (ci := 1) rfl (q0 := 0) rfl (Nat.le_of_ble_eq_true rfl) hl.1 dX2_readColour_33 (fun H locs hP _ hS => ?_)
      have hP : va_P E.1 vwCl [(d, .inr (1, [.ref ch, .ref nu, .int (nI L), .int (cSgA t L a (nI 114)), .int b, .int le, .int (nI 1), .int mi])), (ch, .inl (E.2.2.1, 80, .inl t)), (nu, .inl (E.2.1, 4, .inl u))] H := hP
      refine lv_if_ne (tgt := 57) hx hb dX2_readColour_36 (by decide) (fun c_6 => ?_) (fun c_6 => ?_)
      · refine lv_iconst (v := nI 1) hx hb dX2_readColour_57 (by decide) ?_
        refine lv_goto (tgt := 62) hx hb dX2_readColour_58 (by decide) ?_
        exact hret _ _ _ _ _ _ (by rw [cCo, if_neg c_1, if_pos c_2, if_neg c_6]) (by rw [show cCoA t L a = cSgA t L a (nI 114) from by rw [cCoA, if_neg c_1, if_pos c_2, if_neg c_6], show cCoC t L a = (nI 1) from by rw [cCoC, if_neg c_1, if_pos c_2]]) (by decide) hP hS dX2_readColour_62
      · refine lv_aload_n hx hb dX2_readColour_39 rfl (lv_at hl 1 rfl) ?_
        refine lv_bipush (v := nI 103) hx hb dX2_readColour_40 (by decide) ?_
        refine rwV1 (rest := []) S (c_X2_readSign l E d ch nu L (cSgA t L a (nI 114)) b le (nI 1) mi t u (nI 103) hL) cd_X2_readSign bw_560 ⟨Nat.le_of_ble_eq_true rfl, Nat.le_of_ble_eq_true rfl⟩ ⟨Nat.zero_le _, Nat.zero_le _⟩ hP (hDa.to rfl) hE hA hS [0, 1, 2] rfl rfl [d, ch, nu] rfl rfl (ci := 1) rfl (q0 := 0) rfl (Nat.le_of_ble_eq_true rfl) hl.1 dX2_readColour_42 (fun H locs hP _ hS => ?_)
        have hP : va_P E.1 vwCl [(d, .inr (1, [.ref ch, .ref nu, .int (nI L), .int (cSgA t L (cSgA t L a (nI 114)) (nI 103)), .int b, .int le, .int (nI 1), .int mi])), (ch, .inl (E.2.2.1, 80, .inl t)), (nu, .inl (E.2.1, 4, .inl u))] H := hP
        refine lv_if_ne (tgt := 57) hx hb dX2_readColour_45 (by decide) (fun c_7 => ?_) (fun c_7 => ?_)
        · refine lv_iconst (v := nI 1) hx hb dX2_readColour_57 (by decide) ?_
          refine lv_goto (tgt := 62) hx hb dX2_readColour_58 (by decide) ?_
          exact hret _ _ _ _ _ _ (by rw [cCo, if_neg c_1, if_pos c_2, if_pos c_6, if_neg c_7]) (by rw [show cCoA t L a = cSgA t L (cSgA t L a (nI 114)) (nI 103) from by rw [cCoA, if_neg c_1, if_pos c_2, if_pos c_6, if_neg c_7], show cCoC t L a = (nI 1) from by rw [cCoC, if_neg c_1, if_pos c_2]]) (by decide) hP hS dX2_readColour_62
        · refine lv_aload_n hx hb dX2_readColour_48 rfl (lv_at hl 1 rfl) ?_
          refine lv_bipush (v := nI 98) hx hb dX2_readColour_49 (by decide) ?_
          refine rwV1 (rest := []) S (c_X2_readSign l E d ch nu L (cSgA t L (cSgA t L a (nI 114)) (nI 103)) b le (nI 1) mi t u (nI 98) hL) cd_X2_readSign bw_560 ⟨Nat.le_of_ble_eq_true rfl, Nat.le_of_ble_eq_true rfl⟩ ⟨Nat.zero_le _, Nat.zero_le _⟩ hP (hDa.to rfl) hE hA hS [0, 1, 2] rfl rfl [d, ch, nu] rfl rfl (ci := 1) rfl (q0 := 0) rfl (Nat.le_of_ble_eq_true rfl) hl.1 dX2_readColour_51 (fun H locs hP _ hS => ?_)
          have hP : va_P E.1 vwCl [(d, .inr (1, [.ref ch, .ref nu, .int (nI L), .int (cSgA t L (cSgA t L (cSgA t L a (nI 114)) (nI 103)) (nI 98)), .int b, .int le, .int (nI 1), .int mi])), (ch, .inl (E.2.2.1, 80, .inl t)), (nu, .inl (E.2.1, 4, .inl u))] H := hP
          refine lv_if_eq (tgt := 61) hx hb dX2_readColour_54 (by decide) (fun c_8 => ?_) (fun c_8 => ?_)
          · refine lv_iconst (v := nI 0) hx hb dX2_readColour_61 (by decide) ?_
            exact hret _ _ _ _ _ _ (by rw [cCo, if_neg c_1, if_pos c_2, if_pos c_6, if_pos c_7, if_pos c_8]) (by rw [show cCoA t L a = cSgA t L (cSgA t L (cSgA t L a (nI 114)) (nI 103)) (nI 98) from by rw [cCoA, if_neg c_1, if_pos c_2, if_pos c_6, if_pos c_7], show cCoC t L a = (nI 1) from by rw [cCoC, if_neg c_1, if_pos c_2]]) (by decide) hP hS dX2_readColour_62
          · refine lv_iconst (v := nI 1) hx hb dX2_readColour_57 (by decide) ?_
            refine lv_goto (tgt := 62) hx hb dX2_readColour_58 (by decide) ?_
            exact hret _ _ _ _ _ _ (by rw [cCo, if_neg c_1, if_pos c_2, if_pos c_6, if_pos c_7, if_neg c_8]) (by rw [show cCoA t L a = cSgA t L (cSgA t L (cSgA t L a (nI 114)) (nI 103)) (nI 98) from by rw [cCoA, if_neg c_1, if_pos c_2, if_pos c_6, if_pos c_7], show cCoC t L a = (nI 1) from by rw [cCoC, if_neg c_1, if_pos c_2]]) (by decide) hP hS dX2_readColour_62
  · refine lv_iconst (v := nI 0) hx hb dX2_readColour_12 (by decide) ?_
    refine lv_goto (tgt := 27) hx hb dX2_readColour_13 (by decide) ?_
    refine va_put (D := E.1) (ci := 1) (v := .int (nI 0)) (ty := .int) (C := RX2) (T := TX2) (N := 8) hx hb hts inb_X2 tyX2 tyX2_ok nmX2 hown hK hP (hDa.to rfl) hS 0 rfl rfl 6 (by decide) (hts _ bw_109) (fun _ h9 => h9) rfl (by decide +kernel) rfl rfl (Nat.le_of_ble_eq_true rfl) dX2_readColour_27 (fun H locs hP _ hS => ?_)
    have hP : va_P E.1 vwCl [(d, .inr (1, [.ref ch, .ref nu, .int (nI L), .int a, .int b, .int le, .int (nI 0), .int mi])), (ch, .inl (E.2.2.1, 80, .inl t)), (nu, .inl (E.2.1, 4, .inl u))] H := hP
    refine lv_aload_n hx hb dX2_readColour_30 rfl (lv_at hl 1 rfl) ?_
    refine lv_bipush (v := nI 114) hx hb dX2_readColour_31 (by decide) ?_
    refine rwV1 (rest := []) S (c_X2_readSign l E d ch nu L a b le (nI 0) mi t u (nI 114) hL) cd_X2_readSign bw_560 ⟨Nat.le_of_ble_eq_true rfl, Nat.le_of_ble_eq_true rfl⟩ ⟨Nat.zero_le _, Nat.zero_le _⟩ hP (hDa.to rfl) hE hA hS [0, 1, 2] rfl rfl [d, ch, nu] rfl rfl (ci := 1) rfl (q0 := 0) rfl (Nat.le_of_ble_eq_true rfl) hl.1 dX2_readColour_33 (fun H locs hP _ hS => ?_)
    have hP : va_P E.1 vwCl [(d, .inr (1, [.ref ch, .ref nu, .int (nI L), .int (cSgA t L a (nI 114)), .int b, .int le, .int (nI 0), .int mi])), (ch, .inl (E.2.2.1, 80, .inl t)), (nu, .inl (E.2.1, 4, .inl u))] H := hP
    refine lv_if_ne (tgt := 57) hx hb dX2_readColour_36 (by decide) (fun c_9 => ?_) (fun c_9 => ?_)
    · refine lv_iconst (v := nI 1) hx hb dX2_readColour_57 (by decide) ?_
      refine lv_goto (tgt := 62) hx hb dX2_readColour_58 (by decide) ?_
      exact hret _ _ _ _ _ _ (by rw [cCo, if_pos c_1, if_neg c_9]) (by rw [show cCoA t L a = cSgA t L a (nI 114) from by rw [cCoA, if_pos c_1, if_neg c_9], show cCoC t L a = (nI 0) from by rw [cCoC, if_pos c_1]]) (by decide) hP hS dX2_readColour_62
    · refine lv_aload_n hx hb dX2_readColour_39 rfl (lv_at hl 1 rfl) ?_
      refine lv_bipush (v := nI 103) hx hb dX2_readColour_40 (by decide) ?_
      refine rwV1 (rest := []) S (c_X2_readSign l E d ch nu L (cSgA t L a (nI 114)) b le (nI 0) mi t u (nI 103) hL) cd_X2_readSign bw_560 ⟨Nat.le_of_ble_eq_true rfl, Nat.le_of_ble_eq_true rfl⟩ ⟨Nat.zero_le _, Nat.zero_le _⟩ hP (hDa.to rfl) hE hA hS [0, 1, 2] rfl rfl [d, ch, nu] rfl rfl (ci := 1) rfl (q0 := 0) rfl (Nat.le_of_ble_eq_true rfl) hl.1 dX2_readColour_42 (fun H locs hP _ hS => ?_)
      have hP : va_P E.1 vwCl [(d, .inr (1, [.ref ch, .ref nu, .int (nI L), .int (cSgA t L (cSgA t L a (nI 114)) (nI 103)), .int b, .int le, .int (nI 0), .int mi])), (ch, .inl (E.2.2.1, 80, .inl t)), (nu, .inl (E.2.1, 4, .inl u))] H := hP
      refine lv_if_ne (tgt := 57) hx hb dX2_readColour_45 (by decide) (fun c_10 => ?_) (fun c_10 => ?_)
      · refine lv_iconst (v := nI 1) hx hb dX2_readColour_57 (by decide) ?_
        refine lv_goto (tgt := 62) hx hb dX2_readColour_58 (by decide) ?_
        exact hret _ _ _ _ _ _ (by rw [cCo, if_pos c_1, if_pos c_9, if_neg c_10]) (by rw [show cCoA t L a = cSgA t L (cSgA t L a (nI 114)) (nI 103) from by rw [cCoA, if_pos c_1, if_pos c_9, if_neg c_10], show cCoC t L a = (nI 0) from by rw [cCoC, if_pos c_1]]) (by decide) hP hS dX2_readColour_62
      · refine lv_aload_n hx hb dX2_readColour_48 rfl (lv_at hl 1 rfl) ?_
        refine lv_bipush (v := nI 98) hx hb dX2_readColour_49 (by decide) ?_
        refine rwV1 (rest := []) S (c_X2_readSign l E d ch nu L (cSgA t L (cSgA t L a (nI 114)) (nI 103)) b le (nI 0) mi t u (nI 98) hL) cd_X2_readSign bw_560 ⟨Nat.le_of_ble_eq_true rfl, Nat.le_of_ble_eq_true rfl⟩ ⟨Nat.zero_le _, Nat.zero_le _⟩ hP (hDa.to rfl) hE hA hS [0, 1, 2] rfl rfl [d, ch, nu] rfl rfl (ci := 1) rfl (q0 := 0) rfl (Nat.le_of_ble_eq_true rfl) hl.1 dX2_readColour_51 (fun H locs hP _ hS => ?_)
        have hP : va_P E.1 vwCl [(d, .inr (1, [.ref ch, .ref nu, .int (nI L), .int (cSgA t L (cSgA t L (cSgA t L a (nI 114)) (nI 103)) (nI 98)), .int b, .int le, .int (nI 0), .int mi])), (ch, .inl (E.2.2.1, 80, .inl t)), (nu, .inl (E.2.1, 4, .inl u))] H := hP
        refine lv_if_eq (tgt := 61) hx hb dX2_readColour_54 (by decide) (fun c_11 => ?_) (fun c_11 => ?_)
        · refine lv_iconst (v := nI 0) hx hb dX2_readColour_61 (by decide) ?_
          exact hret _ _ _ _ _ _ (by rw [cCo, if_pos c_1, if_pos c_9, if_pos c_10, if_pos c_11]) (by rw [show cCoA t L a = cSgA t L (cSgA t L (cSgA t L a (nI 114)) (nI 103)) (nI 98) from by rw [cCoA, if_pos c_1, if_pos c_9, if_pos c_10], show cCoC t L a = (nI 0) from by rw [cCoC, if_pos c_1]]) (by decide) hP hS dX2_readColour_62
        · refine lv_iconst (v := nI 1) hx hb dX2_readColour_57 (by decide) ?_
          refine lv_goto (tgt := 62) hx hb dX2_readColour_58 (by decide) ?_
          exact hret _ _ _ _ _ _ (by rw [cCo, if_pos c_1, if_pos c_9, if_pos c_10, if_neg c_11]) (by rw [show cCoA t L a = cSgA t L (cSgA t L (cSgA t L a (nI 114)) (nI 103)) (nI 98) from by rw [cCoA, if_pos c_1, if_pos c_9, if_pos c_10], show cCoC t L a = (nI 0) from by rw [cCoC, if_pos c_1]]) (by decide) hP hS dX2_readColour_62

theorem cd_X2_readPart : cdV RX2 yX2_readPart cX2_readPart 2 (some .boolean) 1 := ⟨⟨bw_631, bw_61, by decide, by decide, by decide +kernel⟩, bw_630, bw_4⟩
def rpV (t : Nat → Int32) (L : Nat) (a : Int32) (b : Int32) (co : Int32) (mi : Int32) (u : Nat → Int32) (sg : Int32) : Int32 := if sg = nI 67 then cCo t L a else if sg = nI 78 then cNm t L a b u else if sg = nI 83 then if cHe t L a = nI 45 then if cSg t L a (nI 45) = 0 then if cSg t L (cSgA t L a (nI 45)) (nI 43) = 0 then nI 0 else nI 1 else nI 1 else if cSg t L a (nI 45) = 0 then if cSg t L (cSgA t L a (nI 45)) (nI 43) = 0 then nI 0 else nI 1 else nI 1 else cSg t L a sg
theorem rpV_z (t : Nat → Int32) (L : Nat) (a : Int32) (b : Int32) (co : Int32) (mi : Int32) (u : Nat → Int32) (sg : Int32) : narrow .boolean (.int (rpV t L a b co mi u sg)) = .int (rpV t L a b co mi u sg) := by
  unfold rpV
  repeat' split
  all_goals first | (with_reducible exact cCo_z _ _ _) | (with_reducible exact cNm_z _ _ _ _ _) | (with_reducible exact cSg_z _ _ _ _) | decide | rfl
def rpA (t : Nat → Int32) (L : Nat) (a : Int32) (b : Int32) (co : Int32) (mi : Int32) (u : Nat → Int32) (sg : Int32) : Int32 := if sg = nI 67 then cCoA t L a else if sg = nI 78 then cNmA t L a b u else if sg = nI 83 then if cHe t L a = nI 45 then if cSg t L a (nI 45) = 0 then cSgA t L (cSgA t L a (nI 45)) (nI 43) else cSgA t L a (nI 45) else if cSg t L a (nI 45) = 0 then cSgA t L (cSgA t L a (nI 45)) (nI 43) else cSgA t L a (nI 45) else cSgA t L a sg
def rpB (t : Nat → Int32) (L : Nat) (a : Int32) (b : Int32) (co : Int32) (mi : Int32) (u : Nat → Int32) (sg : Int32) : Int32 := if sg = nI 67 then b else if sg = nI 78 then cNmB t L a b u else b
def rpC (t : Nat → Int32) (L : Nat) (a : Int32) (b : Int32) (co : Int32) (mi : Int32) (u : Nat → Int32) (sg : Int32) : Int32 := if sg = nI 67 then cCoC t L a else co
def rpM (t : Nat → Int32) (L : Nat) (a : Int32) (b : Int32) (co : Int32) (mi : Int32) (u : Nat → Int32) (sg : Int32) : Int32 := if sg = nI 67 then mi else if sg = nI 78 then mi else if sg = nI 83 then if cHe t L a = nI 45 then (nI 1) else (nI 0) else mi
def rpU (t : Nat → Int32) (L : Nat) (a : Int32) (b : Int32) (co : Int32) (mi : Int32) (u : Nat → Int32) (sg : Int32) : Nat → Int32 := if sg = nI 67 then u else if sg = nI 78 then cNmU t L a b u else u
set_option maxHeartbeats 4000000 in
set_option maxRecDepth 100000 in
theorem c_X2_readPart (l : Launch) (E : EV) (d : Nat) (ch : Nat) (nu : Nat) (L : Nat) (a : Int32) (b : Int32) (le : Int32) (co : Int32) (mi : Int32) (t : Nat → Int32) (u : Nat → Int32) (sg : Int32) (hL : L ≤ 80) : rcI l E yX2_readPart cX2_readPart 2 .boolean 3 [.ref d, .int sg] [(d, .inr (1, [.ref ch, .ref nu, .int (nI L), .int a, .int b, .int le, .int co, .int mi])), (ch, .inl (E.2.2.1, 80, .inl t)), (nu, .inl (E.2.1, 4, .inl u))] (rpV t L a b co mi u sg) [(d, .inr (1, [.ref ch, .ref nu, .int (nI L), .int (rpA t L a b co mi u sg), .int (rpB t L a b co mi u sg), .int le, .int (rpC t L a b co mi u sg), .int (rpM t L a b co mi u sg)])), (ch, .inl (E.2.2.1, 80, .inl t)), (nu, .inl (E.2.1, 4, .inl (rpU t L a b co mi u sg)))] := by
  refine rcI_of (by decide) (Nat.le_of_ble_eq_true rfl) ?_
  intro pg e s m below meth c Q A ls S hP hD0 hE hA hl hret
  have hx := S.1
  have hb := S.2.1
  have hown := S.2.2.2.1
  have hts := S.2.2.2.2
  have hK := hE.1
  have hS : va_S A s.heap s.heap [] := va_S.rf
  have hDa : va_Da A [d, ch, nu] := ⟨_, hD0, rfl⟩
  have hl : lv_has ls 2 [(0, .ref d), (1, .int sg)] := hl
  refine lv_iload_n hx hb dX2_readPart_0 rfl (lv_at hl 1 rfl) ?_
  by_cases c_1 : sg = nI 67
  · refine lv_lookup (tgt := 41) hx hb dX2_readPart_1 (by decide) (by rw [c_1]; try rfl) (by decide) ?_
    refine lv_aload_n hx hb dX2_readPart_41 rfl (lv_at hl 0 rfl) ?_
    refine rwV0 (rest := []) S (c_X2_readColour l E d ch nu L a b le co mi t u hL) cd_X2_readColour bw_640 ⟨Nat.le_of_ble_eq_true rfl, Nat.le_of_ble_eq_true rfl⟩ ⟨Nat.zero_le _, Nat.zero_le _⟩ hP (hDa.to rfl) hE hA hS [0, 1, 2] rfl rfl [d, ch, nu] rfl rfl (ci := 1) rfl (q0 := 0) rfl (Nat.le_of_ble_eq_true rfl) hl.1 dX2_readPart_42 (fun H locs hP _ hS => ?_)
    have hP : va_P E.1 vwCl [(d, .inr (1, [.ref ch, .ref nu, .int (nI L), .int (cCoA t L a), .int b, .int le, .int (cCoC t L a), .int mi])), (ch, .inl (E.2.2.1, 80, .inl t)), (nu, .inl (E.2.1, 4, .inl u))] H := hP
    exact hret _ _ _ _ _ _ (by rw [rpV, if_pos c_1]) (by rw [show rpA t L a b co mi u sg = cCoA t L a from by rw [rpA, if_pos c_1], show rpB t L a b co mi u sg = b from by rw [rpB, if_pos c_1], show rpC t L a b co mi u sg = cCoC t L a from by rw [rpC, if_pos c_1], show rpM t L a b co mi u sg = mi from by rw [rpM, if_pos c_1], show rpU t L a b co mi u sg = u from by rw [rpU, if_pos c_1]]) (by first | (with_reducible exact cCo_z _ _ _) | assumption) hP hS dX2_readPart_45
  by_cases c_2 : sg = nI 78
  · refine lv_lookup (tgt := 36) hx hb dX2_readPart_1 (by decide) (by rw [c_2]; try rfl) (by decide) ?_
    refine lv_aload_n hx hb dX2_readPart_36 rfl (lv_at hl 0 rfl) ?_
    refine rwV0 (rest := []) S (c_X2_readNumber l E d ch nu L a b le co mi t u hL) cd_X2_readNumber bw_632 ⟨Nat.le_of_ble_eq_true rfl, Nat.le_of_ble_eq_true rfl⟩ ⟨Nat.zero_le _, Nat.zero_le _⟩ hP (hDa.to rfl) hE hA hS [0, 1, 2] rfl rfl [d, ch, nu] rfl rfl (ci := 1) rfl (q0 := 0) rfl (Nat.le_of_ble_eq_true rfl) hl.1 dX2_readPart_37 (fun H locs hP _ hS => ?_)
    have hP : va_P E.1 vwCl [(d, .inr (1, [.ref ch, .ref nu, .int (nI L), .int (cNmA t L a b u), .int (cNmB t L a b u), .int le, .int co, .int mi])), (ch, .inl (E.2.2.1, 80, .inl t)), (nu, .inl (E.2.1, 4, .inl (cNmU t L a b u)))] H := hP
    exact hret _ _ _ _ _ _ (by rw [rpV, if_neg c_1, if_pos c_2]) (by rw [show rpA t L a b co mi u sg = cNmA t L a b u from by rw [rpA, if_neg c_1, if_pos c_2], show rpB t L a b co mi u sg = cNmB t L a b u from by rw [rpB, if_neg c_1, if_pos c_2], show rpC t L a b co mi u sg = co from by rw [rpC, if_neg c_1], show rpM t L a b co mi u sg = mi from by rw [rpM, if_neg c_1, if_pos c_2], show rpU t L a b co mi u sg = cNmU t L a b u from by rw [rpU, if_neg c_1, if_pos c_2]]) (by first | (with_reducible exact cNm_z _ _ _ _ _) | assumption) hP hS dX2_readPart_40
  by_cases c_3 : sg = nI 83
  · refine lv_lookup (tgt := 46) hx hb dX2_readPart_1 (by decide) (by rw [c_3]; try rfl) (by decide) ?_
    refine lv_aload_n hx hb dX2_readPart_46 rfl (lv_at hl 0 rfl) ?_
    refine lv_aload_n hx hb dX2_readPart_47 rfl (lv_at hl 0 rfl) ?_
    refine rwV0 (rest := [.ref d]) S (c_X2_here l E d ch nu L a b le co mi t u hL) cd_X2_here bw_564 ⟨Nat.le_of_ble_eq_true rfl, Nat.le_of_ble_eq_true rfl⟩ ⟨Nat.zero_le _, Nat.zero_le _⟩ hP (hDa.to rfl) hE hA hS [0, 1, 2] rfl rfl [d, ch, nu] rfl rfl (ci := 1) rfl (q0 := 0) rfl (Nat.le_of_ble_eq_true rfl) hl.1 dX2_readPart_48 (fun H locs hP _ hS => ?_)
    have hP : va_P E.1 vwCl [(d, .inr (1, [.ref ch, .ref nu, .int (nI L), .int a, .int b, .int le, .int co, .int mi])), (ch, .inl (E.2.2.1, 80, .inl t)), (nu, .inl (E.2.1, 4, .inl u))] H := hP
    refine lv_bipush (v := nI 45) hx hb dX2_readPart_51 (by decide) ?_
    refine lv_icmp_ne (tgt := 60) hx hb dX2_readPart_53 (by decide) (fun c_4 => ?_) (fun c_4 => ?_)
    · refine lv_iconst (v := nI 0) hx hb dX2_readPart_60 (by decide) ?_
      refine va_put (D := E.1) (ci := 1) (v := .int (nI 0)) (ty := .boolean) (C := RX2) (T := TX2) (N := 8) hx hb hts inb_X2 tyX2 tyX2_ok nmX2 hown hK hP (hDa.to rfl) hS 0 rfl rfl 7 (by decide) (hts _ bw_110) (fun _ h9 => h9) rfl (by decide +kernel) (by decide) (by first | rfl | decide | exact fits_z (by decide)) (Nat.le_of_ble_eq_true rfl) dX2_readPart_61 (fun H locs hP _ hS => ?_)
      have hP : va_P E.1 vwCl [(d, .inr (1, [.ref ch, .ref nu, .int (nI L), .int a, .int b, .int le, .int co, .int (nI 0)])), (ch, .inl (E.2.2.1, 80, .inl t)), (nu, .inl (E.2.1, 4, .inl u))] H := hP
      refine lv_aload_n hx hb dX2_readPart_64 rfl (lv_at hl 0 rfl) ?_
      refine lv_bipush (v := nI 45) hx hb dX2_readPart_65 (by decide) ?_
      refine rwV1 (rest := []) S (c_X2_readSign l E d ch nu L a b le co (nI 0) t u (nI 45) hL) cd_X2_readSign bw_560 ⟨Nat.le_of_ble_eq_true rfl, Nat.le_of_ble_eq_true rfl⟩ ⟨Nat.zero_le _, Nat.zero_le _⟩ hP (hDa.to rfl) hE hA hS [0, 1, 2] rfl rfl [d, ch, nu] rfl rfl (ci := 1) rfl (q0 := 0) rfl (Nat.le_of_ble_eq_true rfl) hl.1 dX2_readPart_67 (fun H locs hP _ hS => ?_)
      have hP : va_P E.1 vwCl [(d, .inr (1, [.ref ch, .ref nu, .int (nI L), .int (cSgA t L a (nI 45)), .int b, .int le, .int co, .int (nI 0)])), (ch, .inl (E.2.2.1, 80, .inl t)), (nu, .inl (E.2.1, 4, .inl u))] H := hP
      refine lv_if_ne (tgt := 82) hx hb dX2_readPart_70 (by decide) (fun c_5 => ?_) (fun c_5 => ?_)
      · refine lv_iconst (v := nI 1) hx hb dX2_readPart_82 (by decide) ?_
        refine lv_goto (tgt := 87) hx hb dX2_readPart_83 (by decide) ?_
        exact hret _ _ _ _ _ _ (by rw [rpV, if_neg c_1, if_neg c_2, if_pos c_3, if_neg c_4, if_neg c_5]) (by rw [show rpA t L a b co mi u sg = cSgA t L a (nI 45) from by rw [rpA, if_neg c_1, if_neg c_2, if_pos c_3, if_neg c_4, if_neg c_5], show rpB t L a b co mi u sg = b from by rw [rpB, if_neg c_1, if_neg c_2], show rpC t L a b co mi u sg = co from by rw [rpC, if_neg c_1], show rpM t L a b co mi u sg = (nI 0) from by rw [rpM, if_neg c_1, if_neg c_2, if_pos c_3, if_neg c_4], show rpU t L a b co mi u sg = u from by rw [rpU, if_neg c_1, if_neg c_2]]) (by decide) hP hS dX2_readPart_87
      · refine lv_aload_n hx hb dX2_readPart_73 rfl (lv_at hl 0 rfl) ?_
        refine lv_bipush (v := nI 43) hx hb dX2_readPart_74 (by decide) ?_
        refine rwV1 (rest := []) S (c_X2_readSign l E d ch nu L (cSgA t L a (nI 45)) b le co (nI 0) t u (nI 43) hL) cd_X2_readSign bw_560 ⟨Nat.le_of_ble_eq_true rfl, Nat.le_of_ble_eq_true rfl⟩ ⟨Nat.zero_le _, Nat.zero_le _⟩ hP (hDa.to rfl) hE hA hS [0, 1, 2] rfl rfl [d, ch, nu] rfl rfl (ci := 1) rfl (q0 := 0) rfl (Nat.le_of_ble_eq_true rfl) hl.1 dX2_readPart_76 (fun H locs hP _ hS => ?_)
        have hP : va_P E.1 vwCl [(d, .inr (1, [.ref ch, .ref nu, .int (nI L), .int (cSgA t L (cSgA t L a (nI 45)) (nI 43)), .int b, .int le, .int co, .int (nI 0)])), (ch, .inl (E.2.2.1, 80, .inl t)), (nu, .inl (E.2.1, 4, .inl u))] H := hP
        refine lv_if_eq (tgt := 86) hx hb dX2_readPart_79 (by decide) (fun c_6 => ?_) (fun c_6 => ?_)
        · refine lv_iconst (v := nI 0) hx hb dX2_readPart_86 (by decide) ?_
          exact hret _ _ _ _ _ _ (by rw [rpV, if_neg c_1, if_neg c_2, if_pos c_3, if_neg c_4, if_pos c_5, if_pos c_6]) (by rw [show rpA t L a b co mi u sg = cSgA t L (cSgA t L a (nI 45)) (nI 43) from by rw [rpA, if_neg c_1, if_neg c_2, if_pos c_3, if_neg c_4, if_pos c_5], show rpB t L a b co mi u sg = b from by rw [rpB, if_neg c_1, if_neg c_2], show rpC t L a b co mi u sg = co from by rw [rpC, if_neg c_1], show rpM t L a b co mi u sg = (nI 0) from by rw [rpM, if_neg c_1, if_neg c_2, if_pos c_3, if_neg c_4], show rpU t L a b co mi u sg = u from by rw [rpU, if_neg c_1, if_neg c_2]]) (by decide) hP hS dX2_readPart_87
        · refine lv_iconst (v := nI 1) hx hb dX2_readPart_82 (by decide) ?_
          refine lv_goto (tgt := 87) hx hb dX2_readPart_83 (by decide) ?_
          exact hret _ _ _ _ _ _ (by rw [rpV, if_neg c_1, if_neg c_2, if_pos c_3, if_neg c_4, if_pos c_5, if_neg c_6]) (by rw [show rpA t L a b co mi u sg = cSgA t L (cSgA t L a (nI 45)) (nI 43) from by rw [rpA, if_neg c_1, if_neg c_2, if_pos c_3, if_neg c_4, if_pos c_5], show rpB t L a b co mi u sg = b from by rw [rpB, if_neg c_1, if_neg c_2], show rpC t L a b co mi u sg = co from by rw [rpC, if_neg c_1], show rpM t L a b co mi u sg = (nI 0) from by rw [rpM, if_neg c_1, if_neg c_2, if_pos c_3, if_neg c_4], show rpU t L a b co mi u sg = u from by rw [rpU, if_neg c_1, if_neg c_2]]) (by decide) hP hS dX2_readPart_87
    · refine lv_iconst (v := nI 1) hx hb dX2_readPart_56 (by decide) ?_
      refine lv_goto (tgt := 61) hx hb dX2_readPart_57 (by decide) ?_
      refine va_put (D := E.1) (ci := 1) (v := .int (nI 1)) (ty := .boolean) (C := RX2) (T := TX2) (N := 8) hx hb hts inb_X2 tyX2 tyX2_ok nmX2 hown hK hP (hDa.to rfl) hS 0 rfl rfl 7 (by decide) (hts _ bw_110) (fun _ h9 => h9) rfl (by decide +kernel) (by decide) (by first | rfl | decide | exact fits_z (by decide)) (Nat.le_of_ble_eq_true rfl) dX2_readPart_61 (fun H locs hP _ hS => ?_)
      have hP : va_P E.1 vwCl [(d, .inr (1, [.ref ch, .ref nu, .int (nI L), .int a, .int b, .int le, .int co, .int (nI 1)])), (ch, .inl (E.2.2.1, 80, .inl t)), (nu, .inl (E.2.1, 4, .inl u))] H := hP
      refine lv_aload_n hx hb dX2_readPart_64 rfl (lv_at hl 0 rfl) ?_
      refine lv_bipush (v := nI 45) hx hb dX2_readPart_65 (by decide) ?_
      refine rwV1 (rest := []) S (c_X2_readSign l E d ch nu L a b le co (nI 1) t u (nI 45) hL) cd_X2_readSign bw_560 ⟨Nat.le_of_ble_eq_true rfl, Nat.le_of_ble_eq_true rfl⟩ ⟨Nat.zero_le _, Nat.zero_le _⟩ hP (hDa.to rfl) hE hA hS [0, 1, 2] rfl rfl [d, ch, nu] rfl rfl (ci := 1) rfl (q0 := 0) rfl (Nat.le_of_ble_eq_true rfl) hl.1 dX2_readPart_67 (fun H locs hP _ hS => ?_)
      have hP : va_P E.1 vwCl [(d, .inr (1, [.ref ch, .ref nu, .int (nI L), .int (cSgA t L a (nI 45)), .int b, .int le, .int co, .int (nI 1)])), (ch, .inl (E.2.2.1, 80, .inl t)), (nu, .inl (E.2.1, 4, .inl u))] H := hP
      refine lv_if_ne (tgt := 82) hx hb dX2_readPart_70 (by decide) (fun c_7 => ?_) (fun c_7 => ?_)
      · refine lv_iconst (v := nI 1) hx hb dX2_readPart_82 (by decide) ?_
        refine lv_goto (tgt := 87) hx hb dX2_readPart_83 (by decide) ?_
        exact hret _ _ _ _ _ _ (by rw [rpV, if_neg c_1, if_neg c_2, if_pos c_3, if_pos c_4, if_neg c_7]) (by rw [show rpA t L a b co mi u sg = cSgA t L a (nI 45) from by rw [rpA, if_neg c_1, if_neg c_2, if_pos c_3, if_pos c_4, if_neg c_7], show rpB t L a b co mi u sg = b from by rw [rpB, if_neg c_1, if_neg c_2], show rpC t L a b co mi u sg = co from by rw [rpC, if_neg c_1], show rpM t L a b co mi u sg = (nI 1) from by rw [rpM, if_neg c_1, if_neg c_2, if_pos c_3, if_pos c_4], show rpU t L a b co mi u sg = u from by rw [rpU, if_neg c_1, if_neg c_2]]) (by decide) hP hS dX2_readPart_87
      · refine lv_aload_n hx hb dX2_readPart_73 rfl (lv_at hl 0 rfl) ?_
        refine lv_bipush (v := nI 43) hx hb dX2_readPart_74 (by decide) ?_
        refine rwV1 (rest := []) S (c_X2_readSign l E d ch nu L (cSgA t L a (nI 45)) b le co (nI 1) t u (nI 43) hL) cd_X2_readSign bw_560 ⟨Nat.le_of_ble_eq_true rfl, Nat.le_of_ble_eq_true rfl⟩ ⟨Nat.zero_le _, Nat.zero_le _⟩ hP (hDa.to rfl) hE hA hS [0, 1, 2] rfl rfl [d, ch, nu] rfl rfl (ci := 1) rfl (q0 := 0) rfl (Nat.le_of_ble_eq_true rfl) hl.1 dX2_readPart_76 (fun H locs hP _ hS => ?_)
        have hP : va_P E.1 vwCl [(d, .inr (1, [.ref ch, .ref nu, .int (nI L), .int (cSgA t L (cSgA t L a (nI 45)) (nI 43)), .int b, .int le, .int co, .int (nI 1)])), (ch, .inl (E.2.2.1, 80, .inl t)), (nu, .inl (E.2.1, 4, .inl u))] H := hP
        refine lv_if_eq (tgt := 86) hx hb dX2_readPart_79 (by decide) (fun c_8 => ?_) (fun c_8 => ?_)
        · refine lv_iconst (v := nI 0) hx hb dX2_readPart_86 (by decide) ?_
          exact hret _ _ _ _ _ _ (by rw [rpV, if_neg c_1, if_neg c_2, if_pos c_3, if_pos c_4, if_pos c_7, if_pos c_8]) (by rw [show rpA t L a b co mi u sg = cSgA t L (cSgA t L a (nI 45)) (nI 43) from by rw [rpA, if_neg c_1, if_neg c_2, if_pos c_3, if_pos c_4, if_pos c_7], show rpB t L a b co mi u sg = b from by rw [rpB, if_neg c_1, if_neg c_2], show rpC t L a b co mi u sg = co from by rw [rpC, if_neg c_1], show rpM t L a b co mi u sg = (nI 1) from by rw [rpM, if_neg c_1, if_neg c_2, if_pos c_3, if_pos c_4], show rpU t L a b co mi u sg = u from by rw [rpU, if_neg c_1, if_neg c_2]]) (by decide) hP hS dX2_readPart_87
        · refine lv_iconst (v := nI 1) hx hb dX2_readPart_82 (by decide) ?_
          refine lv_goto (tgt := 87) hx hb dX2_readPart_83 (by decide) ?_
          exact hret _ _ _ _ _ _ (by rw [rpV, if_neg c_1, if_neg c_2, if_pos c_3, if_pos c_4, if_pos c_7, if_neg c_8]) (by rw [show rpA t L a b co mi u sg = cSgA t L (cSgA t L a (nI 45)) (nI 43) from by rw [rpA, if_neg c_1, if_neg c_2, if_pos c_3, if_pos c_4, if_pos c_7], show rpB t L a b co mi u sg = b from by rw [rpB, if_neg c_1, if_neg c_2], show rpC t L a b co mi u sg = co from by rw [rpC, if_neg c_1], show rpM t L a b co mi u sg = (nI 1) from by rw [rpM, if_neg c_1, if_neg c_2, if_pos c_3, if_pos c_4], show rpU t L a b co mi u sg = u from by rw [rpU, if_neg c_1, if_neg c_2]]) (by decide) hP hS dX2_readPart_87
  refine lv_lookup (off := 87) (tgt := 88) hx hb dX2_readPart_1 (by decide) ((lv_osw c_1 (by decide)).trans ((lv_osw c_2 (by decide)).trans ((lv_osw c_3 (by decide)).trans (rfl)))) (by decide) ?_
  refine lv_aload_n hx hb dX2_readPart_88 rfl (lv_at hl 0 rfl) ?_
  refine lv_iload_n hx hb dX2_readPart_89 rfl (lv_at hl 1 rfl) ?_
  refine rwV1 (rest := []) S (c_X2_readSign l E d ch nu L a b le co mi t u sg hL) cd_X2_readSign bw_560 ⟨Nat.le_of_ble_eq_true rfl, Nat.le_of_ble_eq_true rfl⟩ ⟨Nat.zero_le _, Nat.zero_le _⟩ hP (hDa.to rfl) hE hA hS [0, 1, 2] rfl rfl [d, ch, nu] rfl rfl (ci := 1) rfl (q0 := 0) rfl (Nat.le_of_ble_eq_true rfl) hl.1 dX2_readPart_90 (fun H locs hP _ hS => ?_)
  have hP : va_P E.1 vwCl [(d, .inr (1, [.ref ch, .ref nu, .int (nI L), .int (cSgA t L a sg), .int b, .int le, .int co, .int mi])), (ch, .inl (E.2.2.1, 80, .inl t)), (nu, .inl (E.2.1, 4, .inl u))] H := hP
  exact hret _ _ _ _ _ _ (by rw [rpV, if_neg c_1, if_neg c_2, if_neg c_3]) (by rw [show rpA t L a b co mi u sg = cSgA t L a sg from by rw [rpA, if_neg c_1, if_neg c_2, if_neg c_3], show rpB t L a b co mi u sg = b from by rw [rpB, if_neg c_1, if_neg c_2], show rpC t L a b co mi u sg = co from by rw [rpC, if_neg c_1], show rpM t L a b co mi u sg = mi from by rw [rpM, if_neg c_1, if_neg c_2, if_neg c_3], show rpU t L a b co mi u sg = u from by rw [rpU, if_neg c_1, if_neg c_2]]) (by first | (with_reducible exact cSg_z _ _ _ _) | assumption) hP hS dX2_readPart_93

