/-! the reference: what is put aside, the history -/
theorem cpy_0 (f h : Nat → Int32) (a b : Nat) : va_cpy f h a b 0 = h := by
  funext k; simp only [va_cpy]; split <;> first | rfl | omega
theorem cpy_s (f h : Nat → Int32) (a b k : Nat) : upd (va_cpy f h a b k) (b + k) (f (a + k)) = va_cpy f h a b (k + 1) := by
  funext j; simp only [va_cpy, upd]; (repeat' split) <;> first | rfl | omega | exact congrArg f (by omega)
theorem cpy_s0 (f h : Nat → Int32) (k : Nat) : upd (va_cpy f h 0 0 k) k (f k) = va_cpy f h 0 0 (k + 1) := by
  have e := cpy_s f h 0 0 k
  rw [Nat.zero_add] at e; exact e
theorem cpy_sb (f h : Nat → Int32) (b k : Nat) : upd (va_cpy f h 0 b k) (b + k) (f k) = va_cpy f h 0 b (k + 1) := by
  have e := cpy_s f h 0 b k
  rw [Nat.zero_add] at e; exact e
theorem cpy_sa (f h : Nat → Int32) (a k : Nat) : upd (va_cpy f h a 0 k) k (f (a + k)) = va_cpy f h a 0 (k + 1) := by
  have e := cpy_s f h a 0 k
  rw [Nat.zero_add] at e; exact e
/-- the first k numbers of a history taken from one state further -/
def shT (th : Nat → Int32) (k : Nat) : Nat → Int32 := fun j => if j < k then th (j + 293) else th j
theorem shT_0 (th : Nat → Int32) : shT th 0 = th := by
  funext j; simp only [shT]; split <;> first | rfl | omega
theorem shT_s (th : Nat → Int32) (k : Nat) : upd (shT th k) k (shT th k (k + 293)) = shT th (k + 1) := by
  funext j; simp only [shT, upd]; (repeat' split) <;> first | rfl | omega | exact congrArg th (by omega)
theorem cd_X8_putAside : cdV RX8 yX8_putAside cX8_putAside 2 none 0 := ⟨⟨bw_765, bw_65, by decide, by decide, by decide +kernel⟩, bw_764, bw_9⟩
set_option maxHeartbeats 4000000 in
set_option maxRecDepth 100000 in
theorem c_X8_putAside (l : Launch) (E : EV) (xo : Nat) (st : Nat) (sp : Nat) (th : Nat) (so : Nat) (sv : Nat) (pd : Nat) (nu : Nat) (sn : Nat) (ln : Nat) (ta : Nat) (sg : Int32) (g : Nat → Int32) (gp : Nat → Int32)  : rcV l E yX8_putAside cX8_putAside 2 0 [.ref xo] [(xo, .inr (5, [.ref st, .ref sp, .ref th, .int (nI sn), .ref so, .ref sv, .ref pd, .int (nI ln), .int (nI ta), .int sg, .ref nu])), (st, .inl (E.2.1, 293, .inl g)), (sp, .inl (E.2.1, 293, .inl gp))] [(xo, .inr (5, [.ref st, .ref sp, .ref th, .int (nI sn), .ref so, .ref sv, .ref pd, .int (nI ln), .int (nI ta), .int sg, .ref nu])), (st, .inl (E.2.1, 293, .inl g)), (sp, .inl (E.2.1, 293, .inl (va_cpy g gp 0 0 293)))] := by
  refine rcV_of (by decide) (Nat.le_of_ble_eq_true rfl) ?_
  intro pg e s m below meth c Q A ls S hP hD0 hE hA hl hret
  have hx := S.1
  have hb := S.2.1
  have hown := S.2.2.2.1
  have hts := S.2.2.2.2
  have hK := hE.1
  have hS : va_S A s.heap s.heap [] := va_S.rf
  have hDa : va_Da A [xo, st, sp] := ⟨_, hD0, rfl⟩
  have hl : lv_has ls 2 [(0, .ref xo)] := hl
  refine lv_iconst (v := nI 0) hx hb dX8_putAside_0 (by decide) ?_
  refine lv_istore_n (lv' := [(1, .int (nI 0)), (0, .ref xo)]) hx hb dX8_putAside_1 rfl hl (by decide) rfl (fun ls hl => ?_)
  have loop2 : ∀ (fuel : Nat) (k : Nat), 293 - k < fuel → (k ≤ 293) → ∀ (H : Heap) (locs : List Loc), va_P E.1 vwCl [(xo, .inr (5, [.ref st, .ref sp, .ref th, .int (nI sn), .ref so, .ref sv, .ref pd, .int (nI ln), .int (nI ta), .int sg, .ref nu])), (st, .inl (E.2.1, 293, .inl g)), (sp, .inl (E.2.1, 293, .inl (va_cpy g gp 0 0 k)))] H → va_S A s.heap H locs → ∀ ls : Array Slot, lv_has ls 2 [(1, .int (nI k)), (0, .ref xo)] → W pg l e (rq 0) s m ([.ref xo] : List Value).toArray below meth c H locs 0 0 Q (F0 m 2 ls []) := by
    intro fuel
    induction fuel with
    | zero => intro k h9; exact absurd h9 (Nat.not_lt_zero _)
    | succ fuel ih2 =>
      intro k hfu2 hk H locs hP hS ls hl
      refine lv_iload_n hx hb dX8_putAside_2 rfl (lv_at hl 0 rfl) ?_
      refine lv_sipush (v := nI 293) hx hb dX8_putAside_3 (by decide) ?_
      refine rn_icmp_ge (a := k) (b := 293) (tgt := 27) hx hb (by omega) (by omega) dX8_putAside_6 (by decide) (fun c_1 => ?_) (fun c_1 => ?_)
      · have hex : 293 = k := by omega
        subst hex
        exact hret _ _ _ _ _ rfl hP hS dX8_putAside_27
      · refine lv_aload_n hx hb dX8_putAside_9 rfl (lv_at hl 1 rfl) ?_
        refine va_get (D := E.1) (ci := 5) (v := .ref sp) (C := RX8) (T := TX8) (N := 11) hx hb hts inb_X8 hown hK hP 0 rfl rfl 1 (by decide) (hts _ bw_711) (fun _ h9 => h9) rfl dX8_putAside_10 ?_
        refine lv_iload_n hx hb dX8_putAside_13 rfl (lv_at hl 0 rfl) ?_
        refine lv_aload_n hx hb dX8_putAside_14 rfl (lv_at hl 1 rfl) ?_
        refine va_get (D := E.1) (ci := 5) (v := .ref st) (C := RX8) (T := TX8) (N := 11) hx hb hts inb_X8 hown hK hP 0 rfl rfl 0 (by decide) (hts _ bw_710) (fun _ h9 => h9) rfl dX8_putAside_15 ?_
        refine lv_iload_n hx hb dX8_putAside_18 rfl (lv_at hl 0 rfl) ?_
        refine rn_iald (i := k) hx hb hK hP 1 0 rfl rfl (by omega) (by omega) dX8_putAside_19 ?_
        refine rn_iast (i := k) hx hb hK hP (hDa.to rfl) hS 2 0 rfl rfl (by omega) (by omega) dX8_putAside_20 (fun H locs hP _ hS => ?_)
        have hP : va_P E.1 vwCl [(xo, .inr (5, [.ref st, .ref sp, .ref th, .int (nI sn), .ref so, .ref sv, .ref pd, .int (nI ln), .int (nI ta), .int sg, .ref nu])), (st, .inl (E.2.1, 293, .inl g)), (sp, .inl (E.2.1, 293, .inl (upd (va_cpy g gp 0 0 k) k (g k))))] H := hP
        refine rn_inc (a := k) (d := 1) (lv' := [(1, .int (nI (k + 1))), (0, .ref xo)]) hx hb dX8_putAside_21 hl (k := 0) rfl (by decide) (by decide) rfl (fun ls hl => ?_)
        refine lv_goto (tgt := 2) hx hb dX8_putAside_24 (by decide) ?_
        have hP : va_P E.1 vwCl [(xo, .inr (5, [.ref st, .ref sp, .ref th, .int (nI sn), .ref so, .ref sv, .ref pd, .int (nI ln), .int (nI ta), .int sg, .ref nu])), (st, .inl (E.2.1, 293, .inl g)), (sp, .inl (E.2.1, 293, .inl (va_cpy g gp 0 0 (k + 1))))] H := by rw [cpy_s0] at hP; exact hP
        have hl : lv_has ls 2 [(1, .int (nI (k + 1))), (0, .ref xo)] := lv_sub hl [0, 1] rfl
        exact ih2 (k + 1) (by omega) (by omega) _ _ hP hS _ hl
  have hP : va_P E.1 vwCl [(xo, .inr (5, [.ref st, .ref sp, .ref th, .int (nI sn), .ref so, .ref sv, .ref pd, .int (nI ln), .int (nI ta), .int sg, .ref nu])), (st, .inl (E.2.1, 293, .inl g)), (sp, .inl (E.2.1, 293, .inl (va_cpy g gp 0 0 0)))] s.heap := by rw [cpy_0]; exact hP
  have hl : lv_has ls 2 [(1, .int (nI 0)), (0, .ref xo)] := lv_sub hl [0, 1] rfl
  exact loop2 _ 0 (Nat.lt_succ_self _) (by omega) _ _ hP hS _ hl

theorem cd_X8_takeBack : cdV RX8 yX8_takeBack cX8_takeBack 2 none 0 := ⟨⟨bw_1031, bw_65, by decide, by decide, by decide +kernel⟩, bw_1030, bw_48⟩
set_option maxHeartbeats 4000000 in
set_option maxRecDepth 100000 in
theorem c_X8_takeBack (l : Launch) (E : EV) (xo : Nat) (st : Nat) (sp : Nat) (th : Nat) (so : Nat) (sv : Nat) (pd : Nat) (nu : Nat) (sn : Nat) (ln : Nat) (ta : Nat) (sg : Int32) (g : Nat → Int32) (gp : Nat → Int32)  : rcV l E yX8_takeBack cX8_takeBack 2 0 [.ref xo] [(xo, .inr (5, [.ref st, .ref sp, .ref th, .int (nI sn), .ref so, .ref sv, .ref pd, .int (nI ln), .int (nI ta), .int sg, .ref nu])), (st, .inl (E.2.1, 293, .inl g)), (sp, .inl (E.2.1, 293, .inl gp))] [(xo, .inr (5, [.ref st, .ref sp, .ref th, .int (nI sn), .ref so, .ref sv, .ref pd, .int (nI ln), .int (nI ta), .int sg, .ref nu])), (st, .inl (E.2.1, 293, .inl (va_cpy gp g 0 0 293))), (sp, .inl (E.2.1, 293, .inl gp))] := by
  refine rcV_of (by decide) (Nat.le_of_ble_eq_true rfl) ?_
  intro pg e s m below meth c Q A ls S hP hD0 hE hA hl hret
  have hx := S.1
  have hb := S.2.1
  have hown := S.2.2.2.1
  have hts := S.2.2.2.2
  have hK := hE.1
  have hS : va_S A s.heap s.heap [] := va_S.rf
  have hDa : va_Da A [xo, st, sp] := ⟨_, hD0, rfl⟩
  have hl : lv_has ls 2 [(0, .ref xo)] := hl
  refine lv_iconst (v := nI 0) hx hb dX8_takeBack_0 (by decide) ?_
  refine lv_istore_n (lv' := [(1, .int (nI 0)), (0, .ref xo)]) hx hb dX8_takeBack_1 rfl hl (by decide) rfl (fun ls hl => ?_)
  have loop2 : ∀ (fuel : Nat) (k : Nat), 293 - k < fuel → (k ≤ 293) → ∀ (H : Heap) (locs : List Loc), va_P E.1 vwCl [(xo, .inr (5, [.ref st, .ref sp, .ref th, .int (nI sn), .ref so, .ref sv, .ref pd, .int (nI ln), .int (nI ta), .int sg, .ref nu])), (st, .inl (E.2.1, 293, .inl (va_cpy gp g 0 0 k))), (sp, .inl (E.2.1, 293, .inl gp))] H → va_S A s.heap H locs → ∀ ls : Array Slot, lv_has ls 2 [(1, .int (nI k)), (0, .ref xo)] → W pg l e (rq 0) s m ([.ref xo] : List Value).toArray below meth c H locs 0 0 Q (F0 m 2 ls []) := by
    intro fuel
    induction fuel with
    | zero => intro k h9; exact absurd h9 (Nat.not_lt_zero _)
    | succ fuel ih2 =>
      intro k hfu2 hk H locs hP hS ls hl
      refine lv_iload_n hx hb dX8_takeBack_2 rfl (lv_at hl 0 rfl) ?_
      refine lv_sipush (v := nI 293) hx hb dX8_takeBack_3 (by decide) ?_
      refine rn_icmp_ge (a := k) (b := 293) (tgt := 27) hx hb (by omega) (by omega) dX8_takeBack_6 (by decide) (fun c_1 => ?_) (fun c_1 => ?_)
      · have hex : 293 = k := by omega
        subst hex
        exact hret _ _ _ _ _ rfl hP hS dX8_takeBack_27
      · refine lv_aload_n hx hb dX8_takeBack_9 rfl (lv_at hl 1 rfl) ?_
        refine va_get (D := E.1) (ci := 5) (v := .ref st) (C := RX8) (T := TX8) (N := 11) hx hb hts inb_X8 hown hK hP 0 rfl rfl 0 (by decide) (hts _ bw_710) (fun _ h9 => h9) rfl dX8_takeBack_10 ?_
        refine lv_iload_n hx hb dX8_takeBack_13 rfl (lv_at hl 0 rfl) ?_
        refine lv_aload_n hx hb dX8_takeBack_14 rfl (lv_at hl 1 rfl) ?_
        refine va_get (D := E.1) (ci := 5) (v := .ref sp) (C := RX8) (T := TX8) (N := 11) hx hb hts inb_X8 hown hK hP 0 rfl rfl 1 (by decide) (hts _ bw_711) (fun _ h9 => h9) rfl dX8_takeBack_15 ?_
        refine lv_iload_n hx hb dX8_takeBack_18 rfl (lv_at hl 0 rfl) ?_
        refine rn_iald (i := k) hx hb hK hP 2 0 rfl rfl (by omega) (by omega) dX8_takeBack_19 ?_
        refine rn_iast (i := k) hx hb hK hP (hDa.to rfl) hS 1 0 rfl rfl (by omega) (by omega) dX8_takeBack_20 (fun H locs hP _ hS => ?_)
        have hP : va_P E.1 vwCl [(xo, .inr (5, [.ref st, .ref sp, .ref th, .int (nI sn), .ref so, .ref sv, .ref pd, .int (nI ln), .int (nI ta), .int sg, .ref nu])), (st, .inl (E.2.1, 293, .inl (upd (va_cpy gp g 0 0 k) k (gp k)))), (sp, .inl (E.2.1, 293, .inl gp))] H := hP
        refine rn_inc (a := k) (d := 1) (lv' := [(1, .int (nI (k + 1))), (0, .ref xo)]) hx hb dX8_takeBack_21 hl (k := 0) rfl (by decide) (by decide) rfl (fun ls hl => ?_)
        refine lv_goto (tgt := 2) hx hb dX8_takeBack_24 (by decide) ?_
        have hP : va_P E.1 vwCl [(xo, .inr (5, [.ref st, .ref sp, .ref th, .int (nI sn), .ref so, .ref sv, .ref pd, .int (nI ln), .int (nI ta), .int sg, .ref nu])), (st, .inl (E.2.1, 293, .inl (va_cpy gp g 0 0 (k + 1)))), (sp, .inl (E.2.1, 293, .inl gp))] H := by rw [cpy_s0] at hP; exact hP
        have hl : lv_has ls 2 [(1, .int (nI (k + 1))), (0, .ref xo)] := lv_sub hl [0, 1] rfl
        exact ih2 (k + 1) (by omega) (by omega) _ _ hP hS _ hl
  have hP : va_P E.1 vwCl [(xo, .inr (5, [.ref st, .ref sp, .ref th, .int (nI sn), .ref so, .ref sv, .ref pd, .int (nI ln), .int (nI ta), .int sg, .ref nu])), (st, .inl (E.2.1, 293, .inl (va_cpy gp g 0 0 0))), (sp, .inl (E.2.1, 293, .inl gp))] s.heap := by rw [cpy_0]; exact hP
  have hl : lv_has ls 2 [(1, .int (nI 0)), (0, .ref xo)] := lv_sub hl [0, 1] rfl
  exact loop2 _ 0 (Nat.lt_succ_self _) (by omega) _ _ hP hS _ hl

def puN (sn : Nat) : Nat := if sn = 6 then 6 else sn + 1
def puH (sn : Nat) (gp gh : Nat → Int32) : Nat → Int32 := if sn = 6 then va_cpy gp (shT gh 1465) 0 (5 * 293) 293 else va_cpy gp gh 0 (sn * 293) 293
theorem cd_X8_push : cdV RX8 yX8_push cX8_push 2 none 0 := ⟨⟨bw_769, bw_65, by decide, by decide, by decide +kernel⟩, bw_768, bw_10⟩
set_option maxHeartbeats 4000000 in
set_option maxRecDepth 100000 in
theorem c_X8_push (l : Launch) (E : EV) (xo : Nat) (st : Nat) (sp : Nat) (th : Nat) (so : Nat) (sv : Nat) (pd : Nat) (nu : Nat) (sn : Nat) (ln : Nat) (ta : Nat) (sg : Int32) (gp : Nat → Int32) (gh : Nat → Int32) (hsn : sn ≤ 6) : rcV l E yX8_push cX8_push 2 1 [.ref xo] [(xo, .inr (5, [.ref st, .ref sp, .ref th, .int (nI sn), .ref so, .ref sv, .ref pd, .int (nI ln), .int (nI ta), .int sg, .ref nu])), (sp, .inl (E.2.1, 293, .inl gp)), (th, .inl (E.2.1, 1758, .inl gh))] [(xo, .inr (5, [.ref st, .ref sp, .ref th, .int (nI (puN sn)), .ref so, .ref sv, .ref pd, .int (nI ln), .int (nI ta), .int sg, .ref nu])), (sp, .inl (E.2.1, 293, .inl gp)), (th, .inl (E.2.1, 1758, .inl (puH sn gp gh)))] := by
  refine rcV_of (by decide) (Nat.le_of_ble_eq_true rfl) ?_
  intro pg e s m below meth c Q A ls S hP hD0 hE hA hl hret
  have hx := S.1
  have hb := S.2.1
  have hown := S.2.2.2.1
  have hts := S.2.2.2.2
  have hK := hE.1
  have hS : va_S A s.heap s.heap [] := va_S.rf
  have hDa : va_Da A [xo, sp, th] := ⟨_, hD0, rfl⟩
  have hl : lv_has ls 2 [(0, .ref xo)] := hl
  refine lv_aload_n hx hb dX8_push_0 rfl (lv_at hl 0 rfl) ?_
  refine va_get (D := E.1) (ci := 5) (v := .int (nI sn)) (C := RX8) (T := TX8) (N := 11) hx hb hts inb_X8 hown hK hP 0 rfl rfl 3 (by decide) (hts _ bw_713) (fun _ h9 => h9) rfl dX8_push_1 ?_
  refine lv_bipush (v := nI 6) hx hb dX8_push_4 (by decide) ?_
  refine rn_icmp_ne (a := sn) (b := 6) (tgt := 50) hx hb (by omega) (by omega) dX8_push_6 (by decide) (fun c_1 => ?_) (fun c_1 => ?_)
  · refine lv_iconst (v := nI 0) hx hb dX8_push_50 (by decide) ?_
    refine lv_istore_n (lv' := [(1, .int (nI 0)), (0, .ref xo)]) hx hb dX8_push_51 rfl hl (by decide) rfl (fun ls hl => ?_)
    have loop52_1 : ∀ (fuel : Nat) (k : Nat), 293 - k < fuel → (k ≤ 293) → ∀ (H : Heap) (locs : List Loc), va_P E.1 vwCl [(xo, .inr (5, [.ref st, .ref sp, .ref th, .int (nI sn), .ref so, .ref sv, .ref pd, .int (nI ln), .int (nI ta), .int sg, .ref nu])), (sp, .inl (E.2.1, 293, .inl gp)), (th, .inl (E.2.1, 1758, .inl (va_cpy gp gh 0 (sn * 293) k)))] H → va_S A s.heap H locs → ∀ ls : Array Slot, lv_has ls 2 [(1, .int (nI k)), (0, .ref xo)] → W pg l e (rq 1) s m ([.ref xo] : List Value).toArray below meth c H locs 0 0 Q (F0 m 52 ls []) := by
      intro fuel
      induction fuel with
      | zero => intro k h9; exact absurd h9 (Nat.not_lt_zero _)
      | succ fuel ih52 =>
        intro k hfu52 hk H locs hP hS ls hl
        refine lv_iload_n hx hb dX8_push_52 rfl (lv_at hl 0 rfl) ?_
        refine lv_sipush (v := nI 293) hx hb dX8_push_53 (by decide) ?_
        refine rn_icmp_ge (a := k) (b := 293) (tgt := 86) hx hb (by omega) (by omega) dX8_push_56 (by decide) (fun c_2 => ?_) (fun c_2 => ?_)
        · have hex : 293 = k := by omega
          subst hex
          refine lv_aload_n hx hb dX8_push_86 rfl (lv_at hl 1 rfl) ?_
          refine lv_dup hx hb dX8_push_87 rfl ?_
          refine va_get (D := E.1) (ci := 5) (v := .int (nI sn)) (C := RX8) (T := TX8) (N := 11) hx hb hts inb_X8 hown hK hP 0 rfl rfl 3 (by decide) (hts _ bw_713) (fun _ h9 => h9) rfl dX8_push_88 ?_
          refine lv_iconst (v := nI 1) hx hb dX8_push_91 (by decide) ?_
          refine rn_add (a := sn) (b := 1) hx hb dX8_push_92 ?_
          refine va_put (D := E.1) (ci := 5) (v := .int (nI (sn + 1))) (ty := .int) (C := RX8) (T := TX8) (N := 11) hx hb hts inb_X8 tyX8 tyX8_ok nmX8 hown hK hP (hDa.to rfl) hS 0 rfl rfl 3 (by decide) (hts _ bw_713) (fun _ h9 => h9) rfl (by decide +kernel) rfl rfl (Nat.le_of_ble_eq_true rfl) dX8_push_93 (fun H locs hP _ hS => ?_)
          have hP : va_P E.1 vwCl [(xo, .inr (5, [.ref st, .ref sp, .ref th, .int (nI (sn + 1)), .ref so, .ref sv, .ref pd, .int (nI ln), .int (nI ta), .int sg, .ref nu])), (sp, .inl (E.2.1, 293, .inl gp)), (th, .inl (E.2.1, 1758, .inl (va_cpy gp gh 0 (sn * 293) 293)))] H := hP
          exact hret _ _ _ _ _ (by rw [puN, puH, if_neg c_1, if_neg c_1]) hP hS dX8_push_96
        · refine lv_aload_n hx hb dX8_push_59 rfl (lv_at hl 1 rfl) ?_
          refine va_get (D := E.1) (ci := 5) (v := .ref th) (C := RX8) (T := TX8) (N := 11) hx hb hts inb_X8 hown hK hP 0 rfl rfl 2 (by decide) (hts _ bw_712) (fun _ h9 => h9) rfl dX8_push_60 ?_
          refine lv_aload_n hx hb dX8_push_63 rfl (lv_at hl 1 rfl) ?_
          refine va_get (D := E.1) (ci := 5) (v := .int (nI sn)) (C := RX8) (T := TX8) (N := 11) hx hb hts inb_X8 hown hK hP 0 rfl rfl 3 (by decide) (hts _ bw_713) (fun _ h9 => h9) rfl dX8_push_64 ?_
          refine lv_sipush (v := nI 293) hx hb dX8_push_67 (by decide) ?_
          refine rn_mul (a := sn) (b := 293) hx hb dX8_push_70 ?_
          refine lv_iload_n hx hb dX8_push_71 rfl (lv_at hl 0 rfl) ?_
          refine rn_add (a := sn * 293) (b := k) hx hb dX8_push_72 ?_
          refine lv_aload_n hx hb dX8_push_73 rfl (lv_at hl 1 rfl) ?_
          refine va_get (D := E.1) (ci := 5) (v := .ref sp) (C := RX8) (T := TX8) (N := 11) hx hb hts inb_X8 hown hK hP 0 rfl rfl 1 (by decide) (hts _ bw_711) (fun _ h9 => h9) rfl dX8_push_74 ?_
          refine lv_iload_n hx hb dX8_push_77 rfl (lv_at hl 0 rfl) ?_
          refine rn_iald (i := k) hx hb hK hP 1 0 rfl rfl (by omega) (by omega) dX8_push_78 ?_
          refine rn_iast (i := sn * 293 + k) hx hb hK hP (hDa.to rfl) hS 2 0 rfl rfl (by omega) (by omega) dX8_push_79 (fun H locs hP _ hS => ?_)
          have hP : va_P E.1 vwCl [(xo, .inr (5, [.ref st, .ref sp, .ref th, .int (nI sn), .ref so, .ref sv, .ref pd, .int (nI ln), .int (nI ta), .int sg, .ref nu])), (sp, .inl (E.2.1, 293, .inl gp)), (th, .inl (E.2.1, 1758, .inl (upd (va_cpy gp gh 0 (sn * 293) k) (sn * 293 + k) (gp k))))] H := hP
          refine rn_inc (a := k) (d := 1) (lv' := [(1, .int (nI (k + 1))), (0, .ref xo)]) hx hb dX8_push_80 hl (k := 0) rfl (by decide) (by decide) rfl (fun ls hl => ?_)
          refine lv_goto (tgt := 52) hx hb dX8_push_83 (by decide) ?_
          have hP : va_P E.1 vwCl [(xo, .inr (5, [.ref st, .ref sp, .ref th, .int (nI sn), .ref so, .ref sv, .ref pd, .int (nI ln), .int (nI ta), .int sg, .ref nu])), (sp, .inl (E.2.1, 293, .inl gp)), (th, .inl (E.2.1, 1758, .inl (va_cpy gp gh 0 (sn * 293) (k + 1))))] H := by rw [cpy_sb] at hP; exact hP
          have hl : lv_has ls 2 [(1, .int (nI (k + 1))), (0, .ref xo)] := lv_sub hl [0, 1] rfl
          exact ih52 (k + 1) (by omega) (by omega) _ _ hP hS _ hl
    have hP : va_P E.1 vwCl [(xo, .inr (5, [.ref st, .ref sp, .ref th, .int (nI sn), .ref so, .ref sv, .ref pd, .int (nI ln), .int (nI ta), .int sg, .ref nu])), (sp, .inl (E.2.1, 293, .inl gp)), (th, .inl (E.2.1, 1758, .inl (va_cpy gp gh 0 (sn * 293) 0)))] s.heap := by rw [cpy_0]; exact hP
    have hl : lv_has ls 2 [(1, .int (nI 0)), (0, .ref xo)] := lv_sub hl [0, 1] rfl
    exact loop52_1 _ 0 (Nat.lt_succ_self _) (by omega) _ _ hP hS _ hl
  · refine lv_iconst (v := nI 0) hx hb dX8_push_9 (by decide) ?_
    refine lv_istore_n (lv' := [(1, .int (nI 0)), (0, .ref xo)]) hx hb dX8_push_10 rfl hl (by decide) rfl (fun ls hl => ?_)
    have loop11 : ∀ (fuel : Nat) (k : Nat), 1465 - k < fuel → (k ≤ 1465) → ∀ (H : Heap) (locs : List Loc), va_P E.1 vwCl [(xo, .inr (5, [.ref st, .ref sp, .ref th, .int (nI sn), .ref so, .ref sv, .ref pd, .int (nI ln), .int (nI ta), .int sg, .ref nu])), (sp, .inl (E.2.1, 293, .inl gp)), (th, .inl (E.2.1, 1758, .inl (shT gh k)))] H → va_S A s.heap H locs → ∀ ls : Array Slot, lv_has ls 2 [(1, .int (nI k)), (0, .ref xo)] → W pg l e (rq 1) s m ([.ref xo] : List Value).toArray below meth c H locs 0 0 Q (F0 m 11 ls []) := by
      intro fuel
      induction fuel with
      | zero => intro k h9; exact absurd h9 (Nat.not_lt_zero _)
      | succ fuel ih11 =>
        intro k hfu11 hk H locs hP hS ls hl
        refine lv_iload_n hx hb dX8_push_11 rfl (lv_at hl 0 rfl) ?_
        refine lv_sipush (v := nI 1465) hx hb dX8_push_12 (by decide) ?_
        refine rn_icmp_ge (a := k) (b := 1465) (tgt := 40) hx hb (by omega) (by omega) dX8_push_15 (by decide) (fun c_3 => ?_) (fun c_3 => ?_)
        · have hex : 1465 = k := by omega
          subst hex
          refine lv_aload_n hx hb dX8_push_40 rfl (lv_at hl 1 rfl) ?_
          refine lv_dup hx hb dX8_push_41 rfl ?_
          refine va_get (D := E.1) (ci := 5) (v := .int (nI sn)) (C := RX8) (T := TX8) (N := 11) hx hb hts inb_X8 hown hK hP 0 rfl rfl 3 (by decide) (hts _ bw_713) (fun _ h9 => h9) rfl dX8_push_42 ?_
          refine lv_iconst (v := nI 1) hx hb dX8_push_45 (by decide) ?_
          refine rn_sub (a := sn) (b := 1) hx hb dX8_push_46 (by omega) ?_
          refine va_put (D := E.1) (ci := 5) (v := .int (nI (sn - 1))) (ty := .int) (C := RX8) (T := TX8) (N := 11) hx hb hts inb_X8 tyX8 tyX8_ok nmX8 hown hK hP (hDa.to rfl) hS 0 rfl rfl 3 (by decide) (hts _ bw_713) (fun _ h9 => h9) rfl (by decide +kernel) rfl rfl (Nat.le_of_ble_eq_true rfl) dX8_push_47 (fun H locs hP _ hS => ?_)
          have hP : va_P E.1 vwCl [(xo, .inr (5, [.ref st, .ref sp, .ref th, .int (nI (sn - 1)), .ref so, .ref sv, .ref pd, .int (nI ln), .int (nI ta), .int sg, .ref nu])), (sp, .inl (E.2.1, 293, .inl gp)), (th, .inl (E.2.1, 1758, .inl (shT gh 1465)))] H := hP
          refine lv_iconst (v := nI 0) hx hb dX8_push_50 (by decide) ?_
          refine lv_istore_n (lv' := [(1, .int (nI 0)), (0, .ref xo)]) hx hb dX8_push_51 rfl hl (by decide) rfl (fun ls hl => ?_)
          have loop52_3 : ∀ (fuel : Nat) (k : Nat), 293 - k < fuel → (k ≤ 293) → ∀ (H : Heap) (locs : List Loc), va_P E.1 vwCl [(xo, .inr (5, [.ref st, .ref sp, .ref th, .int (nI (sn - 1)), .ref so, .ref sv, .ref pd, .int (nI ln), .int (nI ta), .int sg, .ref nu])), (sp, .inl (E.2.1, 293, .inl gp)), (th, .inl (E.2.1, 1758, .inl (va_cpy gp (shT gh 1465) 0 ((sn - 1) * 293) k)))] H → va_S A s.heap H locs → ∀ ls : Array Slot, lv_has ls 2 [(1, .int (nI k)), (0, .ref xo)] → W pg l e (rq 1) s m ([.ref xo] : List Value).toArray below meth c H locs 0 0 Q (F0 m 52 ls []) := by
            intro fuel
            induction fuel with
            | zero => intro k h9; exact absurd h9 (Nat.not_lt_zero _)
            | succ fuel ih52 =>
              intro k hfu52 hk H locs hP hS ls hl
              refine lv_iload_n hx hb dX8_push_52 rfl (lv_at hl 0 rfl) ?_
              refine lv_sipush (v := nI 293) hx hb dX8_push_53 (by decide) ?_
              refine rn_icmp_ge (a := k) (b := 293) (tgt := 86) hx hb (by omega) (by omega) dX8_push_56 (by decide) (fun c_4 => ?_) (fun c_4 => ?_)
              · have hex : 293 = k := by omega
                subst hex
                refine lv_aload_n hx hb dX8_push_86 rfl (lv_at hl 1 rfl) ?_
                refine lv_dup hx hb dX8_push_87 rfl ?_
                refine va_get (D := E.1) (ci := 5) (v := .int (nI (sn - 1))) (C := RX8) (T := TX8) (N := 11) hx hb hts inb_X8 hown hK hP 0 rfl rfl 3 (by decide) (hts _ bw_713) (fun _ h9 => h9) rfl dX8_push_88 ?_
                refine lv_iconst (v := nI 1) hx hb dX8_push_91 (by decide) ?_
                refine rn_add (a := sn - 1) (b := 1) hx hb dX8_push_92 ?_
                refine va_put (D := E.1) (ci := 5) (v := .int (nI (sn - 1 + 1))) (ty := .int) (C := RX8) (T := TX8) (N := 11) hx hb hts inb_X8 tyX8 tyX8_ok nmX8 hown hK hP (hDa.to rfl) hS 0 rfl rfl 3 (by decide) (hts _ bw_713) (fun _ h9 => h9) rfl (by decide +kernel) rfl rfl (Nat.le_of_ble_eq_true rfl) dX8_push_93 (fun H locs hP _ hS => ?_)
                have hP : va_P E.1 vwCl [(xo, .inr (5, [.ref st, .ref sp, .ref th, .int (nI (sn - 1 + 1)), .ref so, .ref sv, .ref pd, .int (nI ln), .int (nI ta), .int sg, .ref nu])), (sp, .inl (E.2.1, 293, .inl gp)), (th, .inl (E.2.1, 1758, .inl (va_cpy gp (shT gh 1465) 0 ((sn - 1) * 293) 293)))] H := hP
                exact hret _ _ _ _ _ (by rw [puN, puH, if_pos c_1, if_pos c_1, c_1]) hP hS dX8_push_96
              · refine lv_aload_n hx hb dX8_push_59 rfl (lv_at hl 1 rfl) ?_
                refine va_get (D := E.1) (ci := 5) (v := .ref th) (C := RX8) (T := TX8) (N := 11) hx hb hts inb_X8 hown hK hP 0 rfl rfl 2 (by decide) (hts _ bw_712) (fun _ h9 => h9) rfl dX8_push_60 ?_
                refine lv_aload_n hx hb dX8_push_63 rfl (lv_at hl 1 rfl) ?_
                refine va_get (D := E.1) (ci := 5) (v := .int (nI (sn - 1))) (C := RX8) (T := TX8) (N := 11) hx hb hts inb_X8 hown hK hP 0 rfl rfl 3 (by decide) (hts _ bw_713) (fun _ h9 => h9) rfl dX8_push_64 ?_
                refine lv_sipush (v := nI 293) hx hb dX8_push_67 (by decide) ?_
                refine rn_mul (a := sn - 1) (b := 293) hx hb dX8_push_70 ?_
                refine lv_iload_n hx hb dX8_push_71 rfl (lv_at hl 0 rfl) ?_
                refine rn_add (a := (sn - 1) * 293) (b := k) hx hb dX8_push_72 ?_
                refine lv_aload_n hx hb dX8_push_73 rfl (lv_at hl 1 rfl) ?_
                refine va_get (D := E.1) (ci := 5) (v := .ref sp) (C := RX8) (T := TX8) (N := 11) hx hb hts inb_X8 hown hK hP 0 rfl rfl 1 (by decide) (hts _ bw_711) (fun _ h9 => h9) rfl dX8_push_74 ?_
                refine lv_iload_n hx hb dX8_push_77 rfl (lv_at hl 0 rfl) ?_
                refine rn_iald (i := k) hx hb hK hP 1 0 rfl rfl (by omega) (by omega) dX8_push_78 ?_
                refine rn_iast (i := (sn - 1) * 293 + k) hx hb hK hP (hDa.to rfl) hS 2 0 rfl rfl (by omega) (by omega) dX8_push_79 (fun H locs hP _ hS => ?_)
                have hP : va_P E.1 vwCl [(xo, .inr (5, [.ref st, .ref sp, .ref th, .int (nI (sn - 1)), .ref so, .ref sv, .ref pd, .int (nI ln), .int (nI ta), .int sg, .ref nu])), (sp, .inl (E.2.1, 293, .inl gp)), (th, .inl (E.2.1, 1758, .inl (upd (va_cpy gp (shT gh 1465) 0 ((sn - 1) * 293) k) ((sn - 1) * 293 + k) (gp k))))] H := hP
                refine rn_inc (a := k) (d := 1) (lv' := [(1, .int (nI (k + 1))), (0, .ref xo)]) hx hb dX8_push_80 hl (k := 0) rfl (by decide) (by decide) rfl (fun ls hl => ?_)
                refine lv_goto (tgt := 52) hx hb dX8_push_83 (by decide) ?_
                have hP : va_P E.1 vwCl [(xo, .inr (5, [.ref st, .ref sp, .ref th, .int (nI (sn - 1)), .ref so, .ref sv, .ref pd, .int (nI ln), .int (nI ta), .int sg, .ref nu])), (sp, .inl (E.2.1, 293, .inl gp)), (th, .inl (E.2.1, 1758, .inl (va_cpy gp (shT gh 1465) 0 ((sn - 1) * 293) (k + 1))))] H := by rw [cpy_sb] at hP; exact hP
                have hl : lv_has ls 2 [(1, .int (nI (k + 1))), (0, .ref xo)] := lv_sub hl [0, 1] rfl
                exact ih52 (k + 1) (by omega) (by omega) _ _ hP hS _ hl
          have hP : va_P E.1 vwCl [(xo, .inr (5, [.ref st, .ref sp, .ref th, .int (nI (sn - 1)), .ref so, .ref sv, .ref pd, .int (nI ln), .int (nI ta), .int sg, .ref nu])), (sp, .inl (E.2.1, 293, .inl gp)), (th, .inl (E.2.1, 1758, .inl (va_cpy gp (shT gh 1465) 0 ((sn - 1) * 293) 0)))] H := by rw [cpy_0]; exact hP
          have hl : lv_has ls 2 [(1, .int (nI 0)), (0, .ref xo)] := lv_sub hl [0, 1] rfl
          exact loop52_3 _ 0 (Nat.lt_succ_self _) (by omega) _ _ hP hS _ hl
        · refine lv_aload_n hx hb dX8_push_18 rfl (lv_at hl 1 rfl) ?_
          refine va_get (D := E.1) (ci := 5) (v := .ref th) (C := RX8) (T := TX8) (N := 11) hx hb hts inb_X8 hown hK hP 0 rfl rfl 2 (by decide) (hts _ bw_712) (fun _ h9 => h9) rfl dX8_push_19 ?_
          refine lv_iload_n hx hb dX8_push_22 rfl (lv_at hl 0 rfl) ?_
          refine lv_aload_n hx hb dX8_push_23 rfl (lv_at hl 1 rfl) ?_
          refine va_get (D := E.1) (ci := 5) (v := .ref th) (C := RX8) (T := TX8) (N := 11) hx hb hts inb_X8 hown hK hP 0 rfl rfl 2 (by decide) (hts _ bw_712) (fun _ h9 => h9) rfl dX8_push_24 ?_
          refine lv_iload_n hx hb dX8_push_27 rfl (lv_at hl 0 rfl) ?_
          refine lv_sipush (v := nI 293) hx hb dX8_push_28 (by decide) ?_
          refine rn_add (a := k) (b := 293) hx hb dX8_push_31 ?_
          refine rn_iald (i := k + 293) hx hb hK hP 2 0 rfl rfl (by omega) (by omega) dX8_push_32 ?_
          refine rn_iast (i := k) hx hb hK hP (hDa.to rfl) hS 2 0 rfl rfl (by omega) (by omega) dX8_push_33 (fun H locs hP _ hS => ?_)
          have hP : va_P E.1 vwCl [(xo, .inr (5, [.ref st, .ref sp, .ref th, .int (nI sn), .ref so, .ref sv, .ref pd, .int (nI ln), .int (nI ta), .int sg, .ref nu])), (sp, .inl (E.2.1, 293, .inl gp)), (th, .inl (E.2.1, 1758, .inl (upd (shT gh k) k (shT gh k (k + 293)))))] H := hP
          refine rn_inc (a := k) (d := 1) (lv' := [(1, .int (nI (k + 1))), (0, .ref xo)]) hx hb dX8_push_34 hl (k := 0) rfl (by decide) (by decide) rfl (fun ls hl => ?_)
          refine lv_goto (tgt := 11) hx hb dX8_push_37 (by decide) ?_
          have hP : va_P E.1 vwCl [(xo, .inr (5, [.ref st, .ref sp, .ref th, .int (nI sn), .ref so, .ref sv, .ref pd, .int (nI ln), .int (nI ta), .int sg, .ref nu])), (sp, .inl (E.2.1, 293, .inl gp)), (th, .inl (E.2.1, 1758, .inl (shT gh (k + 1))))] H := by rw [shT_s] at hP; exact hP
          have hl : lv_has ls 2 [(1, .int (nI (k + 1))), (0, .ref xo)] := lv_sub hl [0, 1] rfl
          exact ih11 (k + 1) (by omega) (by omega) _ _ hP hS _ hl
    have hP : va_P E.1 vwCl [(xo, .inr (5, [.ref st, .ref sp, .ref th, .int (nI sn), .ref so, .ref sv, .ref pd, .int (nI ln), .int (nI ta), .int sg, .ref nu])), (sp, .inl (E.2.1, 293, .inl gp)), (th, .inl (E.2.1, 1758, .inl (shT gh 0)))] s.heap := by rw [shT_0]; exact hP
    have hl : lv_has ls 2 [(1, .int (nI 0)), (0, .ref xo)] := lv_sub hl [0, 1] rfl
    exact loop11 _ 0 (Nat.lt_succ_self _) (by omega) _ _ hP hS _ hl

def rcN (v : Int32) (sn : Nat) : Nat := if v < 0 then sn else puN sn
def rcH (v : Int32) (sn : Nat) (gp gh : Nat → Int32) : Nat → Int32 := if v < 0 then gh else puH sn gp gh
theorem cd_X8_recorded : cdV RX8 yX8_recorded cX8_recorded 2 (some .int) 1 := ⟨⟨bw_780, bw_65, by decide, by decide, by decide +kernel⟩, bw_779, bw_11⟩
set_option maxHeartbeats 4000000 in
set_option maxRecDepth 100000 in
theorem c_X8_recorded (l : Launch) (E : EV) (xo : Nat) (st : Nat) (sp : Nat) (th : Nat) (so : Nat) (sv : Nat) (pd : Nat) (nu : Nat) (sn : Nat) (ln : Nat) (ta : Nat) (sg : Int32) (gp : Nat → Int32) (gh : Nat → Int32) (v : Int32) (hsn : sn ≤ 6) : rcI l E yX8_recorded cX8_recorded 2 .int 2 [.ref xo, .int v] [(xo, .inr (5, [.ref st, .ref sp, .ref th, .int (nI sn), .ref so, .ref sv, .ref pd, .int (nI ln), .int (nI ta), .int sg, .ref nu])), (sp, .inl (E.2.1, 293, .inl gp)), (th, .inl (E.2.1, 1758, .inl gh))] v [(xo, .inr (5, [.ref st, .ref sp, .ref th, .int (nI (rcN v sn)), .ref so, .ref sv, .ref pd, .int (nI ln), .int (nI ta), .int sg, .ref nu])), (sp, .inl (E.2.1, 293, .inl gp)), (th, .inl (E.2.1, 1758, .inl (rcH v sn gp gh)))] := by
  refine rcI_of (by decide) (Nat.le_of_ble_eq_true rfl) ?_
  intro pg e s m below meth c Q A ls S hP hD0 hE hA hl hret
  have hx := S.1
  have hb := S.2.1
  have hown := S.2.2.2.1
  have hts := S.2.2.2.2
  have hK := hE.1
  have hS : va_S A s.heap s.heap [] := va_S.rf
  have hDa : va_Da A [xo, sp, th] := ⟨_, hD0, rfl⟩
  have hl : lv_has ls 2 [(0, .ref xo), (1, .int v)] := hl
  refine lv_iload_n hx hb dX8_recorded_0 rfl (lv_at hl 1 rfl) ?_
  refine lv_if_lt (tgt := 8) hx hb dX8_recorded_1 (by decide) (fun c_1 => ?_) (fun c_1 => ?_)
  · refine lv_iload_n hx hb dX8_recorded_8 rfl (lv_at hl 1 rfl) ?_
    exact hret _ _ _ _ _ _ rfl (by first | rw [rcN, rcH, if_pos c_1, if_pos c_1] | rw [rcN, rcH, if_neg c_1, if_neg c_1]) rfl hP hS dX8_recorded_9
  · refine lv_aload_n hx hb dX8_recorded_4 rfl (lv_at hl 0 rfl) ?_
    refine rwVv0 (rest := []) S (c_X8_push l E xo st sp th so sv pd nu sn ln ta sg gp gh hsn) cd_X8_push bw_766 ⟨Nat.le_of_ble_eq_true rfl, Nat.le_of_ble_eq_true rfl⟩ ⟨Nat.zero_le _, Nat.zero_le _⟩ hP (hDa.to rfl) hE hA hS [0, 1, 2] rfl rfl [xo, sp, th] rfl rfl (ci := 5) rfl (q0 := 0) rfl (Nat.le_of_ble_eq_true rfl) hl.1 dX8_recorded_5 (fun H locs hP _ hS => ?_)
    have hP : va_P E.1 vwCl [(xo, .inr (5, [.ref st, .ref sp, .ref th, .int (nI (puN sn)), .ref so, .ref sv, .ref pd, .int (nI ln), .int (nI ta), .int sg, .ref nu])), (sp, .inl (E.2.1, 293, .inl gp)), (th, .inl (E.2.1, 1758, .inl (puH sn gp gh)))] H := hP
    refine lv_iload_n hx hb dX8_recorded_8 rfl (lv_at hl 1 rfl) ?_
    exact hret _ _ _ _ _ _ rfl (by first | rw [rcN, rcH, if_pos c_1, if_pos c_1] | rw [rcN, rcH, if_neg c_1, if_neg c_1]) rfl hP hS dX8_recorded_9

def mUnV (sn : Nat) : Int32 := if sn = 0 then -5 else nI (sn - 1)
def mUnG (sn : Nat) (g gh : Nat → Int32) : Nat → Int32 := if sn = 0 then g else va_cpy gh g ((sn - 1) * 293) 0 293
theorem cd_X8_undo : cdV RX8 yX8_undo cX8_undo 2 (some .int) 0 := ⟨⟨bw_747, bw_65, by decide, by decide, by decide +kernel⟩, bw_745, bw_746⟩
set_option maxHeartbeats 4000000 in
set_option maxRecDepth 100000 in
theorem c_X8_undo (l : Launch) (E : EV) (xo : Nat) (st : Nat) (sp : Nat) (th : Nat) (so : Nat) (sv : Nat) (pd : Nat) (nu : Nat) (sn : Nat) (ln : Nat) (ta : Nat) (sg : Int32) (g : Nat → Int32) (gh : Nat → Int32) (hsn : sn ≤ 6) : rcI l E yX8_undo cX8_undo 2 .int 2 [.ref xo] [(xo, .inr (5, [.ref st, .ref sp, .ref th, .int (nI sn), .ref so, .ref sv, .ref pd, .int (nI ln), .int (nI ta), .int sg, .ref nu])), (st, .inl (E.2.1, 293, .inl g)), (th, .inl (E.2.1, 1758, .inl gh))] (mUnV sn) [(xo, .inr (5, [.ref st, .ref sp, .ref th, .int (nI (sn - 1)), .ref so, .ref sv, .ref pd, .int (nI ln), .int (nI ta), .int sg, .ref nu])), (st, .inl (E.2.1, 293, .inl (mUnG sn g gh))), (th, .inl (E.2.1, 1758, .inl gh))] := by
  refine rcI_of (by decide) (Nat.le_of_ble_eq_true rfl) ?_
  intro pg e s m below meth c Q A ls S hP hD0 hE hA hl hret
  have hx := S.1
  have hb := S.2.1
  have hown := S.2.2.2.1
  have hts := S.2.2.2.2
  have hK := hE.1
  have hS : va_S A s.heap s.heap [] := va_S.rf
  have hDa : va_Da A [xo, st, th] := ⟨_, hD0, rfl⟩
  have hl : lv_has ls 2 [(0, .ref xo)] := hl
  refine lv_aload_n hx hb dX8_undo_0 rfl (lv_at hl 0 rfl) ?_
  refine va_get (D := E.1) (ci := 5) (v := .int (nI sn)) (C := RX8) (T := TX8) (N := 11) hx hb hts inb_X8 hown hK hP 0 rfl rfl 3 (by decide) (hts _ bw_713) (fun _ h9 => h9) rfl dX8_undo_1 ?_
  refine rn_if_ne (a := sn) (tgt := 10) hx hb (by omega) dX8_undo_4 (by decide) (fun c_1 => ?_) (fun c_1 => ?_)
  · refine lv_aload_n hx hb dX8_undo_10 rfl (lv_at hl 0 rfl) ?_
    refine lv_dup hx hb dX8_undo_11 rfl ?_
    refine va_get (D := E.1) (ci := 5) (v := .int (nI sn)) (C := RX8) (T := TX8) (N := 11) hx hb hts inb_X8 hown hK hP 0 rfl rfl 3 (by decide) (hts _ bw_713) (fun _ h9 => h9) rfl dX8_undo_12 ?_
    refine lv_iconst (v := nI 1) hx hb dX8_undo_15 (by decide) ?_
    refine rn_sub (a := sn) (b := 1) hx hb dX8_undo_16 (by omega) ?_
    refine va_put (D := E.1) (ci := 5) (v := .int (nI (sn - 1))) (ty := .int) (C := RX8) (T := TX8) (N := 11) hx hb hts inb_X8 tyX8 tyX8_ok nmX8 hown hK hP (hDa.to rfl) hS 0 rfl rfl 3 (by decide) (hts _ bw_713) (fun _ h9 => h9) rfl (by decide +kernel) rfl rfl (Nat.le_of_ble_eq_true rfl) dX8_undo_17 (fun H locs hP _ hS => ?_)
    have hP : va_P E.1 vwCl [(xo, .inr (5, [.ref st, .ref sp, .ref th, .int (nI (sn - 1)), .ref so, .ref sv, .ref pd, .int (nI ln), .int (nI ta), .int sg, .ref nu])), (st, .inl (E.2.1, 293, .inl g)), (th, .inl (E.2.1, 1758, .inl gh))] H := hP
    refine lv_iconst (v := nI 0) hx hb dX8_undo_20 (by decide) ?_
    refine lv_istore_n (lv' := [(1, .int (nI 0)), (0, .ref xo)]) hx hb dX8_undo_21 rfl hl (by decide) rfl (fun ls hl => ?_)
    have loop22 : ∀ (fuel : Nat) (k : Nat), 293 - k < fuel → (k ≤ 293) → ∀ (H : Heap) (locs : List Loc), va_P E.1 vwCl [(xo, .inr (5, [.ref st, .ref sp, .ref th, .int (nI (sn - 1)), .ref so, .ref sv, .ref pd, .int (nI ln), .int (nI ta), .int sg, .ref nu])), (st, .inl (E.2.1, 293, .inl (va_cpy gh g ((sn - 1) * 293) 0 k))), (th, .inl (E.2.1, 1758, .inl gh))] H → va_S A s.heap H locs → ∀ ls : Array Slot, lv_has ls 2 [(1, .int (nI k)), (0, .ref xo)] → W pg l e (rq 2) s m ([.ref xo] : List Value).toArray below meth c H locs 0 0 Q (F0 m 22 ls []) := by
      intro fuel
      induction fuel with
      | zero => intro k h9; exact absurd h9 (Nat.not_lt_zero _)
      | succ fuel ih22 =>
        intro k hfu22 hk H locs hP hS ls hl
        refine lv_iload_n hx hb dX8_undo_22 rfl (lv_at hl 0 rfl) ?_
        refine lv_sipush (v := nI 293) hx hb dX8_undo_23 (by decide) ?_
        refine rn_icmp_ge (a := k) (b := 293) (tgt := 56) hx hb (by omega) (by omega) dX8_undo_26 (by decide) (fun c_2 => ?_) (fun c_2 => ?_)
        · have hex : 293 = k := by omega
          subst hex
          refine lv_aload_n hx hb dX8_undo_56 rfl (lv_at hl 1 rfl) ?_
          refine va_get (D := E.1) (ci := 5) (v := .int (nI (sn - 1))) (C := RX8) (T := TX8) (N := 11) hx hb hts inb_X8 hown hK hP 0 rfl rfl 3 (by decide) (hts _ bw_713) (fun _ h9 => h9) rfl dX8_undo_57 ?_
          exact hret _ _ _ _ _ _ (by rw [mUnV, if_neg c_1]) (by rw [mUnG, if_neg c_1]) rfl hP hS dX8_undo_60
        · refine lv_aload_n hx hb dX8_undo_29 rfl (lv_at hl 1 rfl) ?_
          refine va_get (D := E.1) (ci := 5) (v := .ref st) (C := RX8) (T := TX8) (N := 11) hx hb hts inb_X8 hown hK hP 0 rfl rfl 0 (by decide) (hts _ bw_710) (fun _ h9 => h9) rfl dX8_undo_30 ?_
          refine lv_iload_n hx hb dX8_undo_33 rfl (lv_at hl 0 rfl) ?_
          refine lv_aload_n hx hb dX8_undo_34 rfl (lv_at hl 1 rfl) ?_
          refine va_get (D := E.1) (ci := 5) (v := .ref th) (C := RX8) (T := TX8) (N := 11) hx hb hts inb_X8 hown hK hP 0 rfl rfl 2 (by decide) (hts _ bw_712) (fun _ h9 => h9) rfl dX8_undo_35 ?_
          refine lv_aload_n hx hb dX8_undo_38 rfl (lv_at hl 1 rfl) ?_
          refine va_get (D := E.1) (ci := 5) (v := .int (nI (sn - 1))) (C := RX8) (T := TX8) (N := 11) hx hb hts inb_X8 hown hK hP 0 rfl rfl 3 (by decide) (hts _ bw_713) (fun _ h9 => h9) rfl dX8_undo_39 ?_
          refine lv_sipush (v := nI 293) hx hb dX8_undo_42 (by decide) ?_
          refine rn_mul (a := sn - 1) (b := 293) hx hb dX8_undo_45 ?_
          refine lv_iload_n hx hb dX8_undo_46 rfl (lv_at hl 0 rfl) ?_
          refine rn_add (a := (sn - 1) * 293) (b := k) hx hb dX8_undo_47 ?_
          refine rn_iald (i := (sn - 1) * 293 + k) hx hb hK hP 2 0 rfl rfl (by omega) (by omega) dX8_undo_48 ?_
          refine rn_iast (i := k) hx hb hK hP (hDa.to rfl) hS 1 0 rfl rfl (by omega) (by omega) dX8_undo_49 (fun H locs hP _ hS => ?_)
          have hP : va_P E.1 vwCl [(xo, .inr (5, [.ref st, .ref sp, .ref th, .int (nI (sn - 1)), .ref so, .ref sv, .ref pd, .int (nI ln), .int (nI ta), .int sg, .ref nu])), (st, .inl (E.2.1, 293, .inl (upd (va_cpy gh g ((sn - 1) * 293) 0 k) k (gh ((sn - 1) * 293 + k))))), (th, .inl (E.2.1, 1758, .inl gh))] H := hP
          refine rn_inc (a := k) (d := 1) (lv' := [(1, .int (nI (k + 1))), (0, .ref xo)]) hx hb dX8_undo_50 hl (k := 0) rfl (by decide) (by decide) rfl (fun ls hl => ?_)
          refine lv_goto (tgt := 22) hx hb dX8_undo_53 (by decide) ?_
          have hP : va_P E.1 vwCl [(xo, .inr (5, [.ref st, .ref sp, .ref th, .int (nI (sn - 1)), .ref so, .ref sv, .ref pd, .int (nI ln), .int (nI ta), .int sg, .ref nu])), (st, .inl (E.2.1, 293, .inl (va_cpy gh g ((sn - 1) * 293) 0 (k + 1)))), (th, .inl (E.2.1, 1758, .inl gh))] H := by rw [cpy_sa] at hP; exact hP
          have hl : lv_has ls 2 [(1, .int (nI (k + 1))), (0, .ref xo)] := lv_sub hl [0, 1] rfl
          exact ih22 (k + 1) (by omega) (by omega) _ _ hP hS _ hl
    have hP : va_P E.1 vwCl [(xo, .inr (5, [.ref st, .ref sp, .ref th, .int (nI (sn - 1)), .ref so, .ref sv, .ref pd, .int (nI ln), .int (nI ta), .int sg, .ref nu])), (st, .inl (E.2.1, 293, .inl (va_cpy gh g ((sn - 1) * 293) 0 0))), (th, .inl (E.2.1, 1758, .inl gh))] H := by rw [cpy_0]; exact hP
    have hl : lv_has ls 2 [(1, .int (nI 0)), (0, .ref xo)] := lv_sub hl [0, 1] rfl
    exact loop22 _ 0 (Nat.lt_succ_self _) (by omega) _ _ hP hS _ hl
  · refine lv_bipush (v := (-5)) hx hb dX8_undo_7 (by decide) ?_
    exact hret _ _ _ _ _ _ (by rw [mUnV, if_pos c_1]) (by rw [mUnG, if_pos c_1, show sn - 1 = sn by omega]) rfl hP hS dX8_undo_9

