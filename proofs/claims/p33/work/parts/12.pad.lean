/-! the pad -/
theorem cd_X2_length : cdV RX2 yX2_length cX2_length 1 (some .int) 0 := ⟨⟨bw_448, bw_5, by decide, by decide, by decide +kernel⟩, bw_446, bw_447⟩
set_option maxHeartbeats 4000000 in
set_option maxRecDepth 100000 in
theorem c_X2_length (l : Launch) (E : EV) (d : Nat) (ch : Nat) (nu : Nat) (L : Nat) (a : Int32) (b : Int32) (le : Int32) (co : Int32) (mi : Int32) (t : Nat → Int32) (u : Nat → Int32)  : rcI l E yX2_length cX2_length 1 .int 0 [.ref d] [(d, .inr (1, [.ref ch, .ref nu, .int (nI L), .int a, .int b, .int le, .int co, .int mi])), (ch, .inl (E.2.2.1, 80, .inl t)), (nu, .inl (E.2.1, 4, .inl u))] (nI L) [(d, .inr (1, [.ref ch, .ref nu, .int (nI L), .int a, .int b, .int le, .int co, .int mi])), (ch, .inl (E.2.2.1, 80, .inl t)), (nu, .inl (E.2.1, 4, .inl u))] := by
  refine rcI_of (by decide) (Nat.le_of_ble_eq_true rfl) ?_
  intro pg e s m below meth c Q A ls S hP hD0 hE hA hl hret
  have hx := S.1
  have hb := S.2.1
  have hown := S.2.2.2.1
  have hts := S.2.2.2.2
  have hK := hE.1
  have hS : va_S A s.heap s.heap [] := va_S.rf
  have hDa : va_Da A [d, ch, nu] := ⟨_, hD0, rfl⟩
  have hl : lv_has ls 1 [(0, .ref d)] := hl
  refine lv_aload_n hx hb dX2_length_0 rfl (lv_at hl 0 rfl) ?_
  refine va_get (D := E.1) (ci := 1) (v := .int (nI L)) (C := RX2) (T := TX2) (N := 8) hx hb hts inb_X2 hown hK hP 0 rfl rfl 2 (by decide) (hts _ bw_44) (fun _ h9 => h9) rfl dX2_length_1 ?_
  exact hret _ _ _ _ _ _ rfl rfl rfl hP hS dX2_length_4

