theorem imax1_ne (x : Int32) : ¬ imax (nI 1) x = 0 := by
  intro h
  unfold imax at h
  by_cases c : nI 1 < x
  · rw [if_pos c] at h; rw [h] at c; exact absurd c (by decide)
  · rw [if_neg c] at h; exact absurd h (by decide)
theorem cd_X0_correctLight : cdS yX0_correctLight cX0_correctLight 8 (some .int) 3 := ⟨⟨bw_322, bw_10, by decide, by decide, by decide +kernel⟩, bw_321⟩
def cGv (f : Nat → Int32) (p : Nat) (co : Nat) : Int32 := iabs (bd (f (13 + 14 * p + (8 + co)) - (((f (13 + 14 * p + (11 + co))) / (imax (nI 1) (f 0))) * (imax (nI 1) (f 0)))) - (f (13 + 14 * p + (8 + co))))
def cGw (f : Nat → Int32) (p : Nat) (co : Nat) : Nat → Int32 := upd f (13 + 14 * p + (8 + co)) (bd (f (13 + 14 * p + (8 + co)) - (((f (13 + 14 * p + (11 + co))) / (imax (nI 1) (f 0))) * (imax (nI 1) (f 0)))))
set_option maxHeartbeats 4000000 in
set_option maxRecDepth 100000 in
theorem c_X0_correctLight (l : Launch) (E : EV) (r : Nat) (rc : Nat) (f : Nat → Int32) (p : Nat) (co : Nat) (hp : p < 20) (hco : co < 3) : rcI l E yX0_correctLight cX0_correctLight 8 .int 2 [.ref r, .int (nI p), .int (nI co)] [(r, .inr (2, [.ref rc])), (rc, .inl (E.2.1, 293, .inl f))] (cGv f p co) [(r, .inr (2, [.ref rc])), (rc, .inl (E.2.1, 293, .inl (cGw f p co)))] := by
  refine rcI_of (by decide) (Nat.le_of_ble_eq_true rfl) ?_
  intro pg e s m below meth c Q A ls S hP hD0 hE hA hl hret
  have hx := S.1
  have hb := S.2.1
  have hown := S.2.2.2.1
  have hts := S.2.2.2.2
  have hK := hE.1
  have hS : va_S A s.heap s.heap [] := va_S.rf
  have hDa : va_Da A [r, rc] := ⟨_, hD0, rfl⟩
  have hl : lv_has ls 8 [(0, .ref r), (1, .int (nI p)), (2, .int (nI co))] := hl
  refine lv_aload_n hx hb dX0_correctLight_0 rfl (lv_at hl 0 rfl) ?_
  refine lv_iload_n hx hb dX0_correctLight_1 rfl (lv_at hl 1 rfl) ?_
  refine lv_bipush (v := nI 11) hx hb dX0_correctLight_2 (by decide) ?_
  refine lv_iload_n hx hb dX0_correctLight_4 rfl (lv_at hl 2 rfl) ?_
  refine rn_add (a := 11) (b := co) hx hb dX0_correctLight_5 ?_
  refine rwV2 (rest := []) S (c_X3_readShot l E r rc f p (11 + co) hp (by omega)) cd_X3_readShot bw_228 ⟨Nat.le_of_ble_eq_true rfl, Nat.le_of_ble_eq_true rfl⟩ ⟨Nat.zero_le _, Nat.zero_le _⟩ hP (hDa.to rfl) hE hA hS [0, 1] rfl rfl [r, rc] rfl rfl (ci := 2) rfl (q0 := 0) rfl (Nat.le_of_ble_eq_true rfl) hl.1 dX0_correctLight_6 (fun H locs hP _ hS => ?_)
  have hP : va_P E.1 vwCl [(r, .inr (2, [.ref rc])), (rc, .inl (E.2.1, 293, .inl f))] H := hP
  refine lv_istore_n (lv' := [(3, .int (f (13 + 14 * p + (11 + co)))), (0, .ref r), (1, .int (nI p)), (2, .int (nI co))]) hx hb dX0_correctLight_9 rfl hl (by decide) rfl (fun ls hl => ?_)
  refine lv_iconst (v := nI 1) hx hb dX0_correctLight_10 (by decide) ?_
  refine lv_aload_n hx hb dX0_correctLight_11 rfl (lv_at hl 1 rfl) ?_
  refine lv_iconst (v := nI 0) hx hb dX0_correctLight_12 (by decide) ?_
  refine rwV1 (rest := [.int (nI 1)]) S (c_X3_read l E r rc f 0 (by omega)) cd_X3_read bw_285 ⟨Nat.le_of_ble_eq_true rfl, Nat.le_of_ble_eq_true rfl⟩ ⟨Nat.zero_le _, Nat.zero_le _⟩ hP (hDa.to rfl) hE hA hS [0, 1] rfl rfl [r, rc] rfl rfl (ci := 2) rfl (q0 := 0) rfl (Nat.le_of_ble_eq_true rfl) hl.1 dX0_correctLight_13 (fun H locs hP _ hS => ?_)
  have hP : va_P E.1 vwCl [(r, .inr (2, [.ref rc])), (rc, .inl (E.2.1, 293, .inl f))] H := hP
  refine rw_max (rest := []) S hl.1 bw_323 ⟨Nat.le_of_ble_eq_true rfl, Nat.le_of_ble_eq_true rfl⟩ (Nat.le_of_ble_eq_true rfl) ⟨Nat.zero_le _, Nat.zero_le _⟩ dX0_correctLight_16 ?_
  refine lv_istore (lv' := [(4, .int (imax (nI 1) (f 0))), (3, .int (f (13 + 14 * p + (11 + co)))), (0, .ref r), (1, .int (nI p)), (2, .int (nI co))]) hx hb dX0_correctLight_19 hl (by decide) rfl (fun ls hl => ?_)
  refine lv_iload_n hx hb dX0_correctLight_21 rfl (lv_at hl 1 rfl) ?_
  refine lv_iload hx hb dX0_correctLight_22 (lv_at hl 0 rfl) ?_
  refine lv_idiv hx hb dX0_correctLight_24 (imax1_ne _) ?_
  refine lv_iload hx hb dX0_correctLight_25 (lv_at hl 0 rfl) ?_
  refine lv_imul hx hb dX0_correctLight_27 ?_
  refine lv_istore (lv' := [(5, .int (((f (13 + 14 * p + (11 + co))) / (imax (nI 1) (f 0))) * (imax (nI 1) (f 0)))), (4, .int (imax (nI 1) (f 0))), (3, .int (f (13 + 14 * p + (11 + co)))), (0, .ref r), (1, .int (nI p)), (2, .int (nI co))]) hx hb dX0_correctLight_28 hl (by decide) rfl (fun ls hl => ?_)
  refine lv_aload_n hx hb dX0_correctLight_30 rfl (lv_at hl 3 rfl) ?_
  refine lv_iload_n hx hb dX0_correctLight_31 rfl (lv_at hl 4 rfl) ?_
  refine lv_bipush (v := nI 8) hx hb dX0_correctLight_32 (by decide) ?_
  refine lv_iload_n hx hb dX0_correctLight_34 rfl (lv_at hl 5 rfl) ?_
  refine rn_add (a := 8) (b := co) hx hb dX0_correctLight_35 ?_
  refine rwV2 (rest := []) S (c_X3_readShot l E r rc f p (8 + co) hp (by omega)) cd_X3_readShot bw_228 ⟨Nat.le_of_ble_eq_true rfl, Nat.le_of_ble_eq_true rfl⟩ ⟨Nat.zero_le _, Nat.zero_le _⟩ hP (hDa.to rfl) hE hA hS [0, 1] rfl rfl [r, rc] rfl rfl (ci := 2) rfl (q0 := 0) rfl (Nat.le_of_ble_eq_true rfl) hl.1 dX0_correctLight_36 (fun H locs hP _ hS => ?_)
  have hP : va_P E.1 vwCl [(r, .inr (2, [.ref rc])), (rc, .inl (E.2.1, 293, .inl f))] H := hP
  refine lv_istore (lv' := [(6, .int (f (13 + 14 * p + (8 + co)))), (5, .int (((f (13 + 14 * p + (11 + co))) / (imax (nI 1) (f 0))) * (imax (nI 1) (f 0)))), (4, .int (imax (nI 1) (f 0))), (3, .int (f (13 + 14 * p + (11 + co)))), (0, .ref r), (1, .int (nI p)), (2, .int (nI co))]) hx hb dX0_correctLight_39 hl (by decide) rfl (fun ls hl => ?_)
  refine lv_iload hx hb dX0_correctLight_41 (lv_at hl 0 rfl) ?_
  refine lv_iload hx hb dX0_correctLight_43 (lv_at hl 1 rfl) ?_
  refine lv_isub hx hb dX0_correctLight_45 ?_
  refine rwN1 (rest := []) S (c_X7_bounded l E (f (13 + 14 * p + (8 + co)) - (((f (13 + 14 * p + (11 + co))) / (imax (nI 1) (f 0))) * (imax (nI 1) (f 0))))) cd_X7_bounded hE.2.1.2.2.2.2.1 ⟨Nat.le_of_ble_eq_true rfl, Nat.le_of_ble_eq_true rfl⟩ ⟨Nat.zero_le _, Nat.zero_le _⟩ hP (hDa.to rfl) hE hA hS [] rfl rfl [] rfl rfl (Nat.le_of_ble_eq_true rfl) hl.1 dX0_correctLight_46 (fun H locs hP _ hS => ?_)
  have hP : va_P E.1 vwCl [(r, .inr (2, [.ref rc])), (rc, .inl (E.2.1, 293, .inl f))] H := hP
  refine lv_istore (lv' := [(7, .int (bd (f (13 + 14 * p + (8 + co)) - (((f (13 + 14 * p + (11 + co))) / (imax (nI 1) (f 0))) * (imax (nI 1) (f 0)))))), (6, .int (f (13 + 14 * p + (8 + co)))), (5, .int (((f (13 + 14 * p + (11 + co))) / (imax (nI 1) (f 0))) * (imax (nI 1) (f 0)))), (4, .int (imax (nI 1) (f 0))), (3, .int (f (13 + 14 * p + (11 + co)))), (0, .ref r), (1, .int (nI p)), (2, .int (nI co))]) hx hb dX0_correctLight_49 hl (by decide) rfl (fun ls hl => ?_)
  refine lv_aload_n hx hb dX0_correctLight_51 rfl (lv_at hl 5 rfl) ?_
  refine lv_iload_n hx hb dX0_correctLight_52 rfl (lv_at hl 6 rfl) ?_
  refine lv_bipush (v := nI 8) hx hb dX0_correctLight_53 (by decide) ?_
  refine lv_iload_n hx hb dX0_correctLight_55 rfl (lv_at hl 7 rfl) ?_
  refine rn_add (a := 8) (b := co) hx hb dX0_correctLight_56 ?_
  refine lv_iload hx hb dX0_correctLight_57 (lv_at hl 0 rfl) ?_
  refine rwVv3 (rest := []) S (c_X3_writeShot l E r rc f p (8 + co) (bd (f (13 + 14 * p + (8 + co)) - (((f (13 + 14 * p + (11 + co))) / (imax (nI 1) (f 0))) * (imax (nI 1) (f 0))))) hp (by omega)) cd_X3_writeShot bw_197 ⟨Nat.le_of_ble_eq_true rfl, Nat.le_of_ble_eq_true rfl⟩ ⟨Nat.zero_le _, Nat.zero_le _⟩ hP (hDa.to rfl) hE hA hS [0, 1] rfl rfl [r, rc] rfl rfl (ci := 2) rfl (q0 := 0) rfl (Nat.le_of_ble_eq_true rfl) hl.1 dX0_correctLight_59 (fun H locs hP _ hS => ?_)
  have hP : va_P E.1 vwCl [(r, .inr (2, [.ref rc])), (rc, .inl (E.2.1, 293, .inl (upd f (13 + 14 * p + (8 + co)) (bd (f (13 + 14 * p + (8 + co)) - (((f (13 + 14 * p + (11 + co))) / (imax (nI 1) (f 0))) * (imax (nI 1) (f 0))))))))] H := hP
  refine lv_iload hx hb dX0_correctLight_62 (lv_at hl 0 rfl) ?_
  refine lv_iload hx hb dX0_correctLight_64 (lv_at hl 1 rfl) ?_
  refine lv_isub hx hb dX0_correctLight_66 ?_
  refine rw_abs (rest := []) S hl.1 bw_247 ⟨Nat.le_of_ble_eq_true rfl, Nat.le_of_ble_eq_true rfl⟩ (Nat.le_of_ble_eq_true rfl) ⟨Nat.zero_le _, Nat.zero_le _⟩ dX0_correctLight_67 ?_
  exact hret _ _ _ _ _ _ (by rw [cGv]) (by rw [cGw]) rfl hP hS dX0_correctLight_70

theorem cd_X0_correctShot : cdS yX0_correctShot cX0_correctShot 4 (some .int) 2 := ⟨⟨bw_318, bw_10, by decide, by decide, by decide +kernel⟩, bw_317⟩
def cCv (f : Nat → Int32) (n : Nat) (x : Int32) : Int32 := if hasS n x = 0 then (-1) else if cAn f (ix x) = 0 then (-5) else nI 0 + (cGv f (ix x) 0) + (cGv (cGw f (ix x) 0) (ix x) 1) + (cGv (cGw (cGw f (ix x) 0) (ix x) 1) (ix x) 2)
def cCw (f : Nat → Int32) (n : Nat) (x : Int32) : Nat → Int32 := if hasS n x = 0 then f else if cAn f (ix x) = 0 then f else upd (upd (cGw (cGw (cGw f (ix x) 0) (ix x) 1) (ix x) 2) (13 + 14 * (ix x) + 1) (nI 0)) 11 ((upd (cGw (cGw (cGw f (ix x) 0) (ix x) 1) (ix x) 2) (13 + 14 * (ix x) + 1) (nI 0)) 11 + (nI 0 + (cGv f (ix x) 0) + (cGv (cGw f (ix x) 0) (ix x) 1) + (cGv (cGw (cGw f (ix x) 0) (ix x) 1) (ix x) 2)))
set_option maxHeartbeats 4000000 in
set_option maxRecDepth 100000 in
theorem c_X0_correctShot (l : Launch) (E : EV) (r : Nat) (rc : Nat) (f : Nat → Int32) (n : Nat) (x : Int32) (hf : f 12 = nI n) (hn : n ≤ 20) : rcI l E yX0_correctShot cX0_correctShot 4 .int 3 [.ref r, .int x] [(r, .inr (2, [.ref rc])), (rc, .inl (E.2.1, 293, .inl f))] (cCv f n x) [(r, .inr (2, [.ref rc])), (rc, .inl (E.2.1, 293, .inl (cCw f n x)))] := by
  refine rcI_of (by decide) (Nat.le_of_ble_eq_true rfl) ?_
  intro pg e s m below meth c Q A ls S hP hD0 hE hA hl hret
  have hx := S.1
  have hb := S.2.1
  have hown := S.2.2.2.1
  have hts := S.2.2.2.2
  have hK := hE.1
  have hS : va_S A s.heap s.heap [] := va_S.rf
  have hDa : va_Da A [r, rc] := ⟨_, hD0, rfl⟩
  have hl : lv_has ls 4 [(0, .ref r), (1, .int x)] := hl
  refine lv_aload_n hx hb dX0_correctShot_0 rfl (lv_at hl 0 rfl) ?_
  refine lv_iload_n hx hb dX0_correctShot_1 rfl (lv_at hl 1 rfl) ?_
  refine rwV1 (rest := []) S (c_X3_hasShot l E r rc f n x hf) cd_X3_hasShot bw_221 ⟨Nat.le_of_ble_eq_true rfl, Nat.le_of_ble_eq_true rfl⟩ ⟨Nat.zero_le _, Nat.zero_le _⟩ hP (hDa.to rfl) hE hA hS [0, 1] rfl rfl [r, rc] rfl rfl (ci := 2) rfl (q0 := 0) rfl (Nat.le_of_ble_eq_true rfl) hl.1 dX0_correctShot_2 (fun H locs hP _ hS => ?_)
  have hP : va_P E.1 vwCl [(r, .inr (2, [.ref rc])), (rc, .inl (E.2.1, 293, .inl f))] H := hP
  refine lv_if_ne (tgt := 10) hx hb dX0_correctShot_5 (by decide) (fun c_1 => ?_) (fun c_1 => ?_)
  · obtain ⟨p, h9_p, rfl⟩ : ∃ p : Nat, p < n ∧ x = nI p := (hasS_of (by omega) c_1)
    refine lv_aload_n hx hb dX0_correctShot_10 rfl (lv_at hl 0 rfl) ?_
    refine lv_iload_n hx hb dX0_correctShot_11 rfl (lv_at hl 1 rfl) ?_
    refine rwS2 (rest := []) S (c_X5_isAnswered l E r rc f p (by omega)) cd_X5_isAnswered bw_319 ⟨Nat.le_of_ble_eq_true rfl, Nat.le_of_ble_eq_true rfl⟩ ⟨Nat.zero_le _, Nat.zero_le _⟩ hP (hDa.to rfl) hE hA hS [0, 1] rfl rfl [r, rc] rfl rfl (Nat.le_of_ble_eq_true rfl) hl.1 dX0_correctShot_12 (fun H locs hP _ hS => ?_)
    have hP : va_P E.1 vwCl [(r, .inr (2, [.ref rc])), (rc, .inl (E.2.1, 293, .inl f))] H := hP
    refine lv_if_ne (tgt := 21) hx hb dX0_correctShot_15 (by decide) (fun c_2 => ?_) (fun c_2 => ?_)
    · refine lv_iconst (v := nI 0) hx hb dX0_correctShot_21 (by decide) ?_
      refine lv_istore_n (lv' := [(2, .int (nI 0)), (0, .ref r), (1, .int (nI p))]) hx hb dX0_correctShot_22 rfl hl (by decide) rfl (fun ls hl => ?_)
      refine lv_iconst (v := nI 0) hx hb dX0_correctShot_23 (by decide) ?_
      refine lv_istore_n (lv' := [(3, .int (nI 0)), (2, .int (nI 0)), (0, .ref r), (1, .int (nI p))]) hx hb dX0_correctShot_24 rfl hl (by decide) rfl (fun ls hl => ?_)
      refine lv_iload_n hx hb dX0_correctShot_25 rfl (lv_at hl 0 rfl) ?_
      refine lv_iconst (v := nI 3) hx hb dX0_correctShot_26 (by decide) ?_
      refine rn_icmp_ge (a := 0) (b := 3) (tgt := 45) hx hb (by omega) (by omega) dX0_correctShot_27 (by decide) (fun c_3 => absurd c_3 (by omega)) (fun c_3 => ?_)
      refine lv_iload_n hx hb dX0_correctShot_30 rfl (lv_at hl 1 rfl) ?_
      refine lv_aload_n hx hb dX0_correctShot_31 rfl (lv_at hl 2 rfl) ?_
      refine lv_iload_n hx hb dX0_correctShot_32 rfl (lv_at hl 3 rfl) ?_
      refine lv_iload_n hx hb dX0_correctShot_33 rfl (lv_at hl 0 rfl) ?_
      refine rwS3 (rest := [.int (nI 0)]) S (c_X0_correctLight l E r rc f p 0 (by omega) (by omega)) cd_X0_correctLight bw_320 ⟨Nat.le_of_ble_eq_true rfl, Nat.le_of_ble_eq_true rfl⟩ ⟨Nat.zero_le _, Nat.zero_le _⟩ hP (hDa.to rfl) hE hA hS [0, 1] rfl rfl [r, rc] rfl rfl (Nat.le_of_ble_eq_true rfl) hl.1 dX0_correctShot_34 (fun H locs hP _ hS => ?_)
      have hP : va_P E.1 vwCl [(r, .inr (2, [.ref rc])), (rc, .inl (E.2.1, 293, .inl (cGw f p 0)))] H := hP
      refine lv_iadd hx hb dX0_correctShot_37 ?_
      refine lv_istore_n (lv' := [(2, .int (nI 0 + (cGv f p 0))), (3, .int (nI 0)), (0, .ref r), (1, .int (nI p))]) hx hb dX0_correctShot_38 rfl hl (by decide) rfl (fun ls hl => ?_)
      refine rn_inc (a := 0) (d := 1) (lv' := [(3, .int (nI 1)), (2, .int (nI 0 + (cGv f p 0))), (0, .ref r), (1, .int (nI p))]) hx hb dX0_correctShot_39 hl (k := 1) rfl (by decide) (by decide) rfl (fun ls hl => ?_)
      refine lv_goto (tgt := 25) hx hb dX0_correctShot_42 (by decide) ?_
      refine lv_iload_n hx hb dX0_correctShot_25 rfl (lv_at hl 0 rfl) ?_
      refine lv_iconst (v := nI 3) hx hb dX0_correctShot_26 (by decide) ?_
      refine rn_icmp_ge (a := 1) (b := 3) (tgt := 45) hx hb (by omega) (by omega) dX0_correctShot_27 (by decide) (fun c_4 => absurd c_4 (by omega)) (fun c_4 => ?_)
      refine lv_iload_n hx hb dX0_correctShot_30 rfl (lv_at hl 1 rfl) ?_
      refine lv_aload_n hx hb dX0_correctShot_31 rfl (lv_at hl 2 rfl) ?_
      refine lv_iload_n hx hb dX0_correctShot_32 rfl (lv_at hl 3 rfl) ?_
      refine lv_iload_n hx hb dX0_correctShot_33 rfl (lv_at hl 0 rfl) ?_
      refine rwS3 (rest := [.int (nI 0 + (cGv f p 0))]) S (c_X0_correctLight l E r rc (cGw f p 0) p 1 (by omega) (by omega)) cd_X0_correctLight bw_320 ⟨Nat.le_of_ble_eq_true rfl, Nat.le_of_ble_eq_true rfl⟩ ⟨Nat.zero_le _, Nat.zero_le _⟩ hP (hDa.to rfl) hE hA hS [0, 1] rfl rfl [r, rc] rfl rfl (Nat.le_of_ble_eq_true rfl) hl.1 dX0_correctShot_34 (fun H locs hP _ hS => ?_)
      have hP : va_P E.1 vwCl [(r, .inr (2, [.ref rc])), (rc, .inl (E.2.1, 293, .inl (cGw (cGw f p 0) p 1)))] H := hP
      refine lv_iadd hx hb dX0_correctShot_37 ?_
      refine lv_istore_n (lv' := [(2, .int (nI 0 + (cGv f p 0) + (cGv (cGw f p 0) p 1))), (3, .int (nI 1)), (0, .ref r), (1, .int (nI p))]) hx hb dX0_correctShot_38 rfl hl (by decide) rfl (fun ls hl => ?_)
      refine rn_inc (a := 1) (d := 1) (lv' := [(3, .int (nI 2)), (2, .int (nI 0 + (cGv f p 0) + (cGv (cGw f p 0) p 1))), (0, .ref r), (1, .int (nI p))]) hx hb dX0_correctShot_39 hl (k := 1) rfl (by decide) (by decide) rfl (fun ls hl => ?_)
      refine lv_goto (tgt := 25) hx hb dX0_correctShot_42 (by decide) ?_
      refine lv_iload_n hx hb dX0_correctShot_25 rfl (lv_at hl 0 rfl) ?_
      refine lv_iconst (v := nI 3) hx hb dX0_correctShot_26 (by decide) ?_
      refine rn_icmp_ge (a := 2) (b := 3) (tgt := 45) hx hb (by omega) (by omega) dX0_correctShot_27 (by decide) (fun c_5 => absurd c_5 (by omega)) (fun c_5 => ?_)
      refine lv_iload_n hx hb dX0_correctShot_30 rfl (lv_at hl 1 rfl) ?_
      refine lv_aload_n hx hb dX0_correctShot_31 rfl (lv_at hl 2 rfl) ?_
      refine lv_iload_n hx hb dX0_correctShot_32 rfl (lv_at hl 3 rfl) ?_
      refine lv_iload_n hx hb dX0_correctShot_33 rfl (lv_at hl 0 rfl) ?_
      refine rwS3 (rest := [.int (nI 0 + (cGv f p 0) + (cGv (cGw f p 0) p 1))]) S (c_X0_correctLight l E r rc (cGw (cGw f p 0) p 1) p 2 (by omega) (by omega)) cd_X0_correctLight bw_320 ⟨Nat.le_of_ble_eq_true rfl, Nat.le_of_ble_eq_true rfl⟩ ⟨Nat.zero_le _, Nat.zero_le _⟩ hP (hDa.to rfl) hE hA hS [0, 1] rfl rfl [r, rc] rfl rfl (Nat.le_of_ble_eq_true rfl) hl.1 dX0_correctShot_34 (fun H locs hP _ hS => ?_)
      have hP : va_P E.1 vwCl [(r, .inr (2, [.ref rc])), (rc, .inl (E.2.1, 293, .inl (cGw (cGw (cGw f p 0) p 1) p 2)))] H := hP
      refine lv_iadd hx hb dX0_correctShot_37 ?_
      refine lv_istore_n (lv' := [(2, .int (nI 0 + (cGv f p 0) + (cGv (cGw f p 0) p 1) + (cGv (cGw (cGw f p 0) p 1) p 2))), (3, .int (nI 2)), (0, .ref r), (1, .int (nI p))]) hx hb dX0_correctShot_38 rfl hl (by decide) rfl (fun ls hl => ?_)
      refine rn_inc (a := 2) (d := 1) (lv' := [(3, .int (nI 3)), (2, .int (nI 0 + (cGv f p 0) + (cGv (cGw f p 0) p 1) + (cGv (cGw (cGw f p 0) p 1) p 2))), (0, .ref r), (1, .int (nI p))]) hx hb dX0_correctShot_39 hl (k := 1) rfl (by decide) (by decide) rfl (fun ls hl => ?_)
      refine lv_goto (tgt := 25) hx hb dX0_correctShot_42 (by decide) ?_
      refine lv_iload_n hx hb dX0_correctShot_25 rfl (lv_at hl 0 rfl) ?_
      refine lv_iconst (v := nI 3) hx hb dX0_correctShot_26 (by decide) ?_
      refine rn_icmp_ge (a := 3) (b := 3) (tgt := 45) hx hb (by omega) (by omega) dX0_correctShot_27 (by decide) (fun c_6 => ?_) (fun c_6 => absurd c_6 (by omega))
      refine lv_aload_n hx hb dX0_correctShot_45 rfl (lv_at hl 2 rfl) ?_
      refine lv_iload_n hx hb dX0_correctShot_46 rfl (lv_at hl 3 rfl) ?_
      refine lv_iconst (v := nI 1) hx hb dX0_correctShot_47 (by decide) ?_
      refine lv_iconst (v := nI 0) hx hb dX0_correctShot_48 (by decide) ?_
      refine rwVv3 (rest := []) S (c_X3_writeShot l E r rc (cGw (cGw (cGw f p 0) p 1) p 2) p 1 (nI 0) (by omega) (by omega)) cd_X3_writeShot bw_197 ⟨Nat.le_of_ble_eq_true rfl, Nat.le_of_ble_eq_true rfl⟩ ⟨Nat.zero_le _, Nat.zero_le _⟩ hP (hDa.to rfl) hE hA hS [0, 1] rfl rfl [r, rc] rfl rfl (ci := 2) rfl (q0 := 0) rfl (Nat.le_of_ble_eq_true rfl) hl.1 dX0_correctShot_49 (fun H locs hP _ hS => ?_)
      have hP : va_P E.1 vwCl [(r, .inr (2, [.ref rc])), (rc, .inl (E.2.1, 293, .inl (upd (cGw (cGw (cGw f p 0) p 1) p 2) (13 + 14 * p + 1) (nI 0))))] H := hP
      refine lv_aload_n hx hb dX0_correctShot_52 rfl (lv_at hl 2 rfl) ?_
      refine lv_bipush (v := nI 11) hx hb dX0_correctShot_53 (by decide) ?_
      refine lv_aload_n hx hb dX0_correctShot_55 rfl (lv_at hl 2 rfl) ?_
      refine lv_bipush (v := nI 11) hx hb dX0_correctShot_56 (by decide) ?_
      refine rwV1 (rest := [.int (nI 11), .ref r]) S (c_X3_read l E r rc (upd (cGw (cGw (cGw f p 0) p 1) p 2) (13 + 14 * p + 1) (nI 0)) 11 (by omega)) cd_X3_read bw_285 ⟨Nat.le_of_ble_eq_true rfl, Nat.le_of_ble_eq_true rfl⟩ ⟨Nat.zero_le _, Nat.zero_le _⟩ hP (hDa.to rfl) hE hA hS [0, 1] rfl rfl [r, rc] rfl rfl (ci := 2) rfl (q0 := 0) rfl (Nat.le_of_ble_eq_true rfl) hl.1 dX0_correctShot_58 (fun H locs hP _ hS => ?_)
      have hP : va_P E.1 vwCl [(r, .inr (2, [.ref rc])), (rc, .inl (E.2.1, 293, .inl (upd (cGw (cGw (cGw f p 0) p 1) p 2) (13 + 14 * p + 1) (nI 0))))] H := hP
      refine lv_iload_n hx hb dX0_correctShot_61 rfl (lv_at hl 1 rfl) ?_
      refine lv_iadd hx hb dX0_correctShot_62 ?_
      refine rwVv2 (rest := []) S (c_X3_write l E r rc (upd (cGw (cGw (cGw f p 0) p 1) p 2) (13 + 14 * p + 1) (nI 0)) 11 ((upd (cGw (cGw (cGw f p 0) p 1) p 2) (13 + 14 * p + 1) (nI 0)) 11 + (nI 0 + (cGv f p 0) + (cGv (cGw f p 0) p 1) + (cGv (cGw (cGw f p 0) p 1) p 2))) (by omega)) cd_X3_write bw_311 ⟨Nat.le_of_ble_eq_true rfl, Nat.le_of_ble_eq_true rfl⟩ ⟨Nat.zero_le _, Nat.zero_le _⟩ hP (hDa.to rfl) hE hA hS [0, 1] rfl rfl [r, rc] rfl rfl (ci := 2) rfl (q0 := 0) rfl (Nat.le_of_ble_eq_true rfl) hl.1 dX0_correctShot_63 (fun H locs hP _ hS => ?_)
      have hP : va_P E.1 vwCl [(r, .inr (2, [.ref rc])), (rc, .inl (E.2.1, 293, .inl (upd (upd (cGw (cGw (cGw f p 0) p 1) p 2) (13 + 14 * p + 1) (nI 0)) 11 ((upd (cGw (cGw (cGw f p 0) p 1) p 2) (13 + 14 * p + 1) (nI 0)) 11 + (nI 0 + (cGv f p 0) + (cGv (cGw f p 0) p 1) + (cGv (cGw (cGw f p 0) p 1) p 2))))))] H := hP
      refine lv_iload_n hx hb dX0_correctShot_66 rfl (lv_at hl 1 rfl) ?_
      exact hret _ _ _ _ _ _ (by first | rw [cCv, ix_nI (show p < 2 ^ 31 by omega), if_neg c_1, if_neg c_2] | rw [cCv, if_neg c_1, if_neg c_2] | simp only [cCv, ix_nI (show p < 2 ^ 31 by omega), if_neg c_1, if_neg c_2]) (by first | rw [cCw, ix_nI (show p < 2 ^ 31 by omega), if_neg c_1, if_neg c_2] | rw [cCw, if_neg c_1, if_neg c_2] | simp only [cCw, ix_nI (show p < 2 ^ 31 by omega), if_neg c_1, if_neg c_2]) rfl hP hS dX0_correctShot_67
    · refine lv_bipush (v := (-5)) hx hb dX0_correctShot_18 (by decide) ?_
      exact hret _ _ _ _ _ _ (by first | rw [cCv, ix_nI (show p < 2 ^ 31 by omega), if_neg c_1, if_pos c_2] | rw [cCv, if_neg c_1, if_pos c_2] | simp only [cCv, ix_nI (show p < 2 ^ 31 by omega), if_neg c_1, if_pos c_2]) (by first | rw [cCw, ix_nI (show p < 2 ^ 31 by omega), if_neg c_1, if_pos c_2] | rw [cCw, if_neg c_1, if_pos c_2] | simp only [cCw, ix_nI (show p < 2 ^ 31 by omega), if_neg c_1, if_pos c_2]) rfl hP hS dX0_correctShot_20
  · refine lv_iconst (v := (-1)) hx hb dX0_correctShot_8 (by decide) ?_
    exact hret _ _ _ _ _ _ (by rw [cCv, if_pos c_1]) (by rw [cCw, if_pos c_1]) rfl hP hS dX0_correctShot_9

def cEv (f : Nat → Int32) (p : Nat) : Int32 := if cAn f p = 0 then (-5) else nI 0 + (cGv f p 0) + (cGv (cGw f p 0) p 1) + (cGv (cGw (cGw f p 0) p 1) p 2)
def cEw (f : Nat → Int32) (p : Nat) : Nat → Int32 := if cAn f p = 0 then f else upd (upd (cGw (cGw (cGw f p 0) p 1) p 2) (13 + 14 * p + 1) (nI 0)) 11 ((upd (cGw (cGw (cGw f p 0) p 1) p 2) (13 + 14 * p + 1) (nI 0)) 11 + (nI 0 + (cGv f p 0) + (cGv (cGw f p 0) p 1) + (cGv (cGw (cGw f p 0) p 1) p 2)))
set_option maxHeartbeats 4000000 in
set_option maxRecDepth 100000 in
theorem c_X0_correctShot_n (l : Launch) (E : EV) (r : Nat) (rc : Nat) (f : Nat → Int32) (n : Nat) (p : Nat) (hf : f 12 = nI n) (hn : n ≤ 20) (hp : p < n) : rcI l E yX0_correctShot cX0_correctShot 4 .int 3 [.ref r, .int (nI p)] [(r, .inr (2, [.ref rc])), (rc, .inl (E.2.1, 293, .inl f))] (cEv f p) [(r, .inr (2, [.ref rc])), (rc, .inl (E.2.1, 293, .inl (cEw f p)))] := by
  refine rcI_of (by decide) (Nat.le_of_ble_eq_true rfl) ?_
  intro pg e s m below meth c Q A ls S hP hD0 hE hA hl hret
  have hx := S.1
  have hb := S.2.1
  have hown := S.2.2.2.1
  have hts := S.2.2.2.2
  have hK := hE.1
  have hS : va_S A s.heap s.heap [] := va_S.rf
  have hDa : va_Da A [r, rc] := ⟨_, hD0, rfl⟩
  have hl : lv_has ls 4 [(0, .ref r), (1, .int (nI p))] := hl
  refine lv_aload_n hx hb dX0_correctShot_0 rfl (lv_at hl 0 rfl) ?_
  refine lv_iload_n hx hb dX0_correctShot_1 rfl (lv_at hl 1 rfl) ?_
  refine rwV1 (rest := []) S (c_X3_hasShot l E r rc f n (nI p) hf) cd_X3_hasShot bw_221 ⟨Nat.le_of_ble_eq_true rfl, Nat.le_of_ble_eq_true rfl⟩ ⟨Nat.zero_le _, Nat.zero_le _⟩ hP (hDa.to rfl) hE hA hS [0, 1] rfl rfl [r, rc] rfl rfl (ci := 2) rfl (q0 := 0) rfl (Nat.le_of_ble_eq_true rfl) hl.1 dX0_correctShot_2 (fun H locs hP _ hS => ?_)
  have hP : va_P E.1 vwCl [(r, .inr (2, [.ref rc])), (rc, .inl (E.2.1, 293, .inl f))] H := hP
  refine lv_if_ne (tgt := 10) hx hb dX0_correctShot_5 (by decide) (fun c_1 => ?_) (fun c_1 => absurd c_1 (hasS_ne (by omega) hp))
  refine lv_aload_n hx hb dX0_correctShot_10 rfl (lv_at hl 0 rfl) ?_
  refine lv_iload_n hx hb dX0_correctShot_11 rfl (lv_at hl 1 rfl) ?_
  refine rwS2 (rest := []) S (c_X5_isAnswered l E r rc f p (by omega)) cd_X5_isAnswered bw_319 ⟨Nat.le_of_ble_eq_true rfl, Nat.le_of_ble_eq_true rfl⟩ ⟨Nat.zero_le _, Nat.zero_le _⟩ hP (hDa.to rfl) hE hA hS [0, 1] rfl rfl [r, rc] rfl rfl (Nat.le_of_ble_eq_true rfl) hl.1 dX0_correctShot_12 (fun H locs hP _ hS => ?_)
  have hP : va_P E.1 vwCl [(r, .inr (2, [.ref rc])), (rc, .inl (E.2.1, 293, .inl f))] H := hP
  refine lv_if_ne (tgt := 21) hx hb dX0_correctShot_15 (by decide) (fun c_2 => ?_) (fun c_2 => ?_)
  · refine lv_iconst (v := nI 0) hx hb dX0_correctShot_21 (by decide) ?_
    refine lv_istore_n (lv' := [(2, .int (nI 0)), (0, .ref r), (1, .int (nI p))]) hx hb dX0_correctShot_22 rfl hl (by decide) rfl (fun ls hl => ?_)
    refine lv_iconst (v := nI 0) hx hb dX0_correctShot_23 (by decide) ?_
    refine lv_istore_n (lv' := [(3, .int (nI 0)), (2, .int (nI 0)), (0, .ref r), (1, .int (nI p))]) hx hb dX0_correctShot_24 rfl hl (by decide) rfl (fun ls hl => ?_)
    refine lv_iload_n hx hb dX0_correctShot_25 rfl (lv_at hl 0 rfl) ?_
    refine lv_iconst (v := nI 3) hx hb dX0_correctShot_26 (by decide) ?_
    refine rn_icmp_ge (a := 0) (b := 3) (tgt := 45) hx hb (by omega) (by omega) dX0_correctShot_27 (by decide) (fun c_3 => absurd c_3 (by omega)) (fun c_3 => ?_)
    refine lv_iload_n hx hb dX0_correctShot_30 rfl (lv_at hl 1 rfl) ?_
    refine lv_aload_n hx hb dX0_correctShot_31 rfl (lv_at hl 2 rfl) ?_
    refine lv_iload_n hx hb dX0_correctShot_32 rfl (lv_at hl 3 rfl) ?_
    refine lv_iload_n hx hb dX0_correctShot_33 rfl (lv_at hl 0 rfl) ?_
    refine rwS3 (rest := [.int (nI 0)]) S (c_X0_correctLight l E r rc f p 0 (by omega) (by omega)) cd_X0_correctLight bw_320 ⟨Nat.le_of_ble_eq_true rfl, Nat.le_of_ble_eq_true rfl⟩ ⟨Nat.zero_le _, Nat.zero_le _⟩ hP (hDa.to rfl) hE hA hS [0, 1] rfl rfl [r, rc] rfl rfl (Nat.le_of_ble_eq_true rfl) hl.1 dX0_correctShot_34 (fun H locs hP _ hS => ?_)
    have hP : va_P E.1 vwCl [(r, .inr (2, [.ref rc])), (rc, .inl (E.2.1, 293, .inl (cGw f p 0)))] H := hP
    refine lv_iadd hx hb dX0_correctShot_37 ?_
    refine lv_istore_n (lv' := [(2, .int (nI 0 + (cGv f p 0))), (3, .int (nI 0)), (0, .ref r), (1, .int (nI p))]) hx hb dX0_correctShot_38 rfl hl (by decide) rfl (fun ls hl => ?_)
    refine rn_inc (a := 0) (d := 1) (lv' := [(3, .int (nI 1)), (2, .int (nI 0 + (cGv f p 0))), (0, .ref r), (1, .int (nI p))]) hx hb dX0_correctShot_39 hl (k := 1) rfl (by decide) (by decide) rfl (fun ls hl => ?_)
    refine lv_goto (tgt := 25) hx hb dX0_correctShot_42 (by decide) ?_
    refine lv_iload_n hx hb dX0_correctShot_25 rfl (lv_at hl 0 rfl) ?_
    refine lv_iconst (v := nI 3) hx hb dX0_correctShot_26 (by decide) ?_
    refine rn_icmp_ge (a := 1) (b := 3) (tgt := 45) hx hb (by omega) (by omega) dX0_correctShot_27 (by decide) (fun c_4 => absurd c_4 (by omega)) (fun c_4 => ?_)
    refine lv_iload_n hx hb dX0_correctShot_30 rfl (lv_at hl 1 rfl) ?_
    refine lv_aload_n hx hb dX0_correctShot_31 rfl (lv_at hl 2 rfl) ?_
    refine lv_iload_n hx hb dX0_correctShot_32 rfl (lv_at hl 3 rfl) ?_
    refine lv_iload_n hx hb dX0_correctShot_33 rfl (lv_at hl 0 rfl) ?_
    refine rwS3 (rest := [.int (nI 0 + (cGv f p 0))]) S (c_X0_correctLight l E r rc (cGw f p 0) p 1 (by omega) (by omega)) cd_X0_correctLight bw_320 ⟨Nat.le_of_ble_eq_true rfl, Nat.le_of_ble_eq_true rfl⟩ ⟨Nat.zero_le _, Nat.zero_le _⟩ hP (hDa.to rfl) hE hA hS [0, 1] rfl rfl [r, rc] rfl rfl (Nat.le_of_ble_eq_true rfl) hl.1 dX0_correctShot_34 (fun H locs hP _ hS => ?_)
    have hP : va_P E.1 vwCl [(r, .inr (2, [.ref rc])), (rc, .inl (E.2.1, 293, .inl (cGw (cGw f p 0) p 1)))] H := hP
    refine lv_iadd hx hb dX0_correctShot_37 ?_
    refine lv_istore_n (lv' := [(2, .int (nI 0 + (cGv f p 0) + (cGv (cGw f p 0) p 1))), (3, .int (nI 1)), (0, .ref r), (1, .int (nI p))]) hx hb dX0_correctShot_38 rfl hl (by decide) rfl (fun ls hl => ?_)
    refine rn_inc (a := 1) (d := 1) (lv' := [(3, .int (nI 2)), (2, .int (nI 0 + (cGv f p 0) + (cGv (cGw f p 0) p 1))), (0, .ref r), (1, .int (nI p))]) hx hb dX0_correctShot_39 hl (k := 1) rfl (by decide) (by decide) rfl (fun ls hl => ?_)
    refine lv_goto (tgt := 25) hx hb dX0_correctShot_42 (by decide) ?_
    refine lv_iload_n hx hb dX0_correctShot_25 rfl (lv_at hl 0 rfl) ?_
    refine lv_iconst (v := nI 3) hx hb dX0_correctShot_26 (by decide) ?_
    refine rn_icmp_ge (a := 2) (b := 3) (tgt := 45) hx hb (by omega) (by omega) dX0_correctShot_27 (by decide) (fun c_5 => absurd c_5 (by omega)) (fun c_5 => ?_)
    refine lv_iload_n hx hb dX0_correctShot_30 rfl (lv_at hl 1 rfl) ?_
    refine lv_aload_n hx hb dX0_correctShot_31 rfl (lv_at hl 2 rfl) ?_
    refine lv_iload_n hx hb dX0_correctShot_32 rfl (lv_at hl 3 rfl) ?_
    refine lv_iload_n hx hb dX0_correctShot_33 rfl (lv_at hl 0 rfl) ?_
    refine rwS3 (rest := [.int (nI 0 + (cGv f p 0) + (cGv (cGw f p 0) p 1))]) S (c_X0_correctLight l E r rc (cGw (cGw f p 0) p 1) p 2 (by omega) (by omega)) cd_X0_correctLight bw_320 ⟨Nat.le_of_ble_eq_true rfl, Nat.le_of_ble_eq_true rfl⟩ ⟨Nat.zero_le _, Nat.zero_le _⟩ hP (hDa.to rfl) hE hA hS [0, 1] rfl rfl [r, rc] rfl rfl (Nat.le_of_ble_eq_true rfl) hl.1 dX0_correctShot_34 (fun H locs hP _ hS => ?_)
    have hP : va_P E.1 vwCl [(r, .inr (2, [.ref rc])), (rc, .inl (E.2.1, 293, .inl (cGw (cGw (cGw f p 0) p 1) p 2)))] H := hP
    refine lv_iadd hx hb dX0_correctShot_37 ?_
    refine lv_istore_n (lv' := [(2, .int (nI 0 + (cGv f p 0) + (cGv (cGw f p 0) p 1) + (cGv (cGw (cGw f p 0) p 1) p 2))), (3, .int (nI 2)), (0, .ref r), (1, .int (nI p))]) hx hb dX0_correctShot_38 rfl hl (by decide) rfl (fun ls hl => ?_)
    refine rn_inc (a := 2) (d := 1) (lv' := [(3, .int (nI 3)), (2, .int (nI 0 + (cGv f p 0) + (cGv (cGw f p 0) p 1) + (cGv (cGw (cGw f p 0) p 1) p 2))), (0, .ref r), (1, .int (nI p))]) hx hb dX0_correctShot_39 hl (k := 1) rfl (by decide) (by decide) rfl (fun ls hl => ?_)
    refine lv_goto (tgt := 25) hx hb dX0_correctShot_42 (by decide) ?_
    refine lv_iload_n hx hb dX0_correctShot_25 rfl (lv_at hl 0 rfl) ?_
    refine lv_iconst (v := nI 3) hx hb dX0_correctShot_26 (by decide) ?_
    refine rn_icmp_ge (a := 3) (b := 3) (tgt := 45) hx hb (by omega) (by omega) dX0_correctShot_27 (by decide) (fun c_6 => ?_) (fun c_6 => absurd c_6 (by omega))
    refine lv_aload_n hx hb dX0_correctShot_45 rfl (lv_at hl 2 rfl) ?_
    refine lv_iload_n hx hb dX0_correctShot_46 rfl (lv_at hl 3 rfl) ?_
    refine lv_iconst (v := nI 1) hx hb dX0_correctShot_47 (by decide) ?_
    refine lv_iconst (v := nI 0) hx hb dX0_correctShot_48 (by decide) ?_
    refine rwVv3 (rest := []) S (c_X3_writeShot l E r rc (cGw (cGw (cGw f p 0) p 1) p 2) p 1 (nI 0) (by omega) (by omega)) cd_X3_writeShot bw_197 ⟨Nat.le_of_ble_eq_true rfl, Nat.le_of_ble_eq_true rfl⟩ ⟨Nat.zero_le _, Nat.zero_le _⟩ hP (hDa.to rfl) hE hA hS [0, 1] rfl rfl [r, rc] rfl rfl (ci := 2) rfl (q0 := 0) rfl (Nat.le_of_ble_eq_true rfl) hl.1 dX0_correctShot_49 (fun H locs hP _ hS => ?_)
    have hP : va_P E.1 vwCl [(r, .inr (2, [.ref rc])), (rc, .inl (E.2.1, 293, .inl (upd (cGw (cGw (cGw f p 0) p 1) p 2) (13 + 14 * p + 1) (nI 0))))] H := hP
    refine lv_aload_n hx hb dX0_correctShot_52 rfl (lv_at hl 2 rfl) ?_
    refine lv_bipush (v := nI 11) hx hb dX0_correctShot_53 (by decide) ?_
    refine lv_aload_n hx hb dX0_correctShot_55 rfl (lv_at hl 2 rfl) ?_
    refine lv_bipush (v := nI 11) hx hb dX0_correctShot_56 (by decide) ?_
    refine rwV1 (rest := [.int (nI 11), .ref r]) S (c_X3_read l E r rc (upd (cGw (cGw (cGw f p 0) p 1) p 2) (13 + 14 * p + 1) (nI 0)) 11 (by omega)) cd_X3_read bw_285 ⟨Nat.le_of_ble_eq_true rfl, Nat.le_of_ble_eq_true rfl⟩ ⟨Nat.zero_le _, Nat.zero_le _⟩ hP (hDa.to rfl) hE hA hS [0, 1] rfl rfl [r, rc] rfl rfl (ci := 2) rfl (q0 := 0) rfl (Nat.le_of_ble_eq_true rfl) hl.1 dX0_correctShot_58 (fun H locs hP _ hS => ?_)
    have hP : va_P E.1 vwCl [(r, .inr (2, [.ref rc])), (rc, .inl (E.2.1, 293, .inl (upd (cGw (cGw (cGw f p 0) p 1) p 2) (13 + 14 * p + 1) (nI 0))))] H := hP
    refine lv_iload_n hx hb dX0_correctShot_61 rfl (lv_at hl 1 rfl) ?_
    refine lv_iadd hx hb dX0_correctShot_62 ?_
    refine rwVv2 (rest := []) S (c_X3_write l E r rc (upd (cGw (cGw (cGw f p 0) p 1) p 2) (13 + 14 * p + 1) (nI 0)) 11 ((upd (cGw (cGw (cGw f p 0) p 1) p 2) (13 + 14 * p + 1) (nI 0)) 11 + (nI 0 + (cGv f p 0) + (cGv (cGw f p 0) p 1) + (cGv (cGw (cGw f p 0) p 1) p 2))) (by omega)) cd_X3_write bw_311 ⟨Nat.le_of_ble_eq_true rfl, Nat.le_of_ble_eq_true rfl⟩ ⟨Nat.zero_le _, Nat.zero_le _⟩ hP (hDa.to rfl) hE hA hS [0, 1] rfl rfl [r, rc] rfl rfl (ci := 2) rfl (q0 := 0) rfl (Nat.le_of_ble_eq_true rfl) hl.1 dX0_correctShot_63 (fun H locs hP _ hS => ?_)
    have hP : va_P E.1 vwCl [(r, .inr (2, [.ref rc])), (rc, .inl (E.2.1, 293, .inl (upd (upd (cGw (cGw (cGw f p 0) p 1) p 2) (13 + 14 * p + 1) (nI 0)) 11 ((upd (cGw (cGw (cGw f p 0) p 1) p 2) (13 + 14 * p + 1) (nI 0)) 11 + (nI 0 + (cGv f p 0) + (cGv (cGw f p 0) p 1) + (cGv (cGw (cGw f p 0) p 1) p 2))))))] H := hP
    refine lv_iload_n hx hb dX0_correctShot_66 rfl (lv_at hl 1 rfl) ?_
    exact hret _ _ _ _ _ _ (by rw [cEv, if_neg c_2]) (by rw [cEw, if_neg c_2]) rfl hP hS dX0_correctShot_67
  · refine lv_bipush (v := (-5)) hx hb dX0_correctShot_18 (by decide) ?_
    exact hret _ _ _ _ _ _ (by rw [cEv, if_pos c_2]) (by rw [cEw, if_pos c_2]) rfl hP hS dX0_correctShot_20

/-- the bad ones of the first k shots corrected; how many they are -/
def cCb (f : Nat → Int32) : Nat → Nat → Int32
  | 0 => f
  | k + 1 => if cBa (cCb f k) k = 0 then cCb f k else cEw (cCb f k) k
theorem cCb_p {f : Nat → Int32} {k : Nat} (h : cBa (cCb f k) k = 0) : cCb f (k + 1) = cCb f k := by rw [cCb, if_pos h]
theorem cCb_n {f : Nat → Int32} {k : Nat} (h : ¬ cBa (cCb f k) k = 0) : cCb f (k + 1) = cEw (cCb f k) k := by rw [cCb, if_neg h]
def cCn (f : Nat → Int32) : Nat → Int32
  | 0 => nI 0
  | k + 1 => if cBa (cCb f k) k = 0 then cCn f k else cCn f k + nI 1
theorem cCn_p {f : Nat → Int32} {k : Nat} (h : cBa (cCb f k) k = 0) : cCn f (k + 1) = cCn f k := by rw [cCn, if_pos h]
theorem cCn_n {f : Nat → Int32} {k : Nat} (h : ¬ cBa (cCb f k) k = 0) : cCn f (k + 1) = cCn f k + nI 1 := by rw [cCn, if_neg h]
theorem cGw_12 (f : Nat → Int32) (k co : Nat) : cGw f k co 12 = f 12 := pk_un (by omega)
theorem cEw_12 (f : Nat → Int32) (k : Nat) : cEw f k 12 = f 12 := by
  unfold cEw
  split
  · rfl
  · exact (pk_un (by omega)).trans ((pk_un (by omega)).trans ((cGw_12 _ _ _).trans ((cGw_12 _ _ _).trans (cGw_12 _ _ _))))
theorem cCb_12 (f : Nat → Int32) : ∀ k : Nat, cCb f k 12 = f 12
  | 0 => rfl
  | k + 1 => by
    rw [← cCb_12 f k, cCb]
    split
    · rfl
    · exact cEw_12 _ _
theorem cd_X0_correctBadShots : cdS yX0_correctBadShots cX0_correctBadShots 3 (some .int) 1 := ⟨⟨bw_331, bw_10, by decide, by decide, by decide +kernel⟩, bw_330⟩
def cZv (f : Nat → Int32) (n : Nat) : Int32 := cCn f n
def cZw (f : Nat → Int32) (n : Nat) : Nat → Int32 := (cCb f n)
set_option maxHeartbeats 4000000 in
set_option maxRecDepth 100000 in
theorem c_X0_correctBadShots (l : Launch) (E : EV) (r : Nat) (rc : Nat) (f : Nat → Int32) (n : Nat) (hf : f 12 = nI n) (hn : n ≤ 20) : rcI l E yX0_correctBadShots cX0_correctBadShots 3 .int 4 [.ref r] [(r, .inr (2, [.ref rc])), (rc, .inl (E.2.1, 293, .inl f))] (cZv f n) [(r, .inr (2, [.ref rc])), (rc, .inl (E.2.1, 293, .inl (cZw f n)))] := by
  refine rcI_of (by decide) (Nat.le_of_ble_eq_true rfl) ?_
  intro pg e s m below meth c Q A ls S hP hD0 hE hA hl hret
  have hx := S.1
  have hb := S.2.1
  have hown := S.2.2.2.1
  have hts := S.2.2.2.2
  have hK := hE.1
  have hS : va_S A s.heap s.heap [] := va_S.rf
  have hDa : va_Da A [r, rc] := ⟨_, hD0, rfl⟩
  have hl : lv_has ls 3 [(0, .ref r)] := hl
  refine lv_iconst (v := nI 0) hx hb dX0_correctBadShots_0 (by decide) ?_
  refine lv_istore_n (lv' := [(1, .int (nI 0)), (0, .ref r)]) hx hb dX0_correctBadShots_1 rfl hl (by decide) rfl (fun ls hl => ?_)
  refine lv_iconst (v := nI 0) hx hb dX0_correctBadShots_2 (by decide) ?_
  refine lv_istore_n (lv' := [(2, .int (nI 0)), (1, .int (nI 0)), (0, .ref r)]) hx hb dX0_correctBadShots_3 rfl hl (by decide) rfl (fun ls hl => ?_)
  have loop4 : ∀ (fuel : Nat) (k : Nat), n - k < fuel → (k ≤ n) → ∀ (H : Heap) (locs : List Loc), va_P E.1 vwCl [(r, .inr (2, [.ref rc])), (rc, .inl (E.2.1, 293, .inl (cCb f k)))] H → va_S A s.heap H locs → ∀ ls : Array Slot, lv_has ls 3 [(2, .int (nI k)), (1, .int (cCn f k)), (0, .ref r)] → W pg l e (rq 4) s m ([.ref r] : List Value).toArray below meth c H locs 0 0 Q (F0 m 4 ls []) := by
    intro fuel
    induction fuel with
    | zero => intro k h9; exact absurd h9 (Nat.not_lt_zero _)
    | succ fuel ih4 =>
      intro k hfu4 hk H locs hP hS ls hl
      refine lv_iload_n hx hb dX0_correctBadShots_4 rfl (lv_at hl 0 rfl) ?_
      refine lv_aload_n hx hb dX0_correctBadShots_5 rfl (lv_at hl 2 rfl) ?_
      refine rwV0 (rest := [.int (nI k)]) S (c_X3_shots l E r rc (cCb f k) n ((cCb_12 f k).trans hf)) cd_X3_shots bw_158 ⟨Nat.le_of_ble_eq_true rfl, Nat.le_of_ble_eq_true rfl⟩ ⟨Nat.zero_le _, Nat.zero_le _⟩ hP (hDa.to rfl) hE hA hS [0, 1] rfl rfl [r, rc] rfl rfl (ci := 2) rfl (q0 := 0) rfl (Nat.le_of_ble_eq_true rfl) hl.1 dX0_correctBadShots_6 (fun H locs hP _ hS => ?_)
      have hP : va_P E.1 vwCl [(r, .inr (2, [.ref rc])), (rc, .inl (E.2.1, 293, .inl (cCb f k)))] H := hP
      refine rn_icmp_ge (a := k) (b := n) (tgt := 41) hx hb (by omega) (by omega) dX0_correctBadShots_9 (by decide) (fun c_1 => ?_) (fun c_1 => ?_)
      · have hex : n = k := by omega
        subst hex
        refine lv_iload_n hx hb dX0_correctBadShots_41 rfl (lv_at hl 1 rfl) ?_
        exact hret _ _ _ _ _ _ (by rw [cZv]) (by rw [cZw]) rfl hP hS dX0_correctBadShots_42
      · refine lv_iload_n hx hb dX0_correctBadShots_12 rfl (lv_at hl 0 rfl) ?_
        refine lv_bipush (v := nI 20) hx hb dX0_correctBadShots_13 (by decide) ?_
        refine rn_icmp_ge (a := k) (b := 20) (tgt := 41) hx hb (by omega) (by omega) dX0_correctBadShots_15 (by decide) (fun c_2 => absurd c_2 (by omega)) (fun c_2 => ?_)
        refine lv_aload_n hx hb dX0_correctBadShots_18 rfl (lv_at hl 2 rfl) ?_
        refine lv_iload_n hx hb dX0_correctBadShots_19 rfl (lv_at hl 0 rfl) ?_
        refine rwS2 (rest := []) S (c_X5_isBad l E r rc (cCb f k) k (by omega)) cd_X5_isBad bw_302 ⟨Nat.le_of_ble_eq_true rfl, Nat.le_of_ble_eq_true rfl⟩ ⟨Nat.zero_le _, Nat.zero_le _⟩ hP (hDa.to rfl) hE hA hS [0, 1] rfl rfl [r, rc] rfl rfl (Nat.le_of_ble_eq_true rfl) hl.1 dX0_correctBadShots_20 (fun H locs hP _ hS => ?_)
        have hP : va_P E.1 vwCl [(r, .inr (2, [.ref rc])), (rc, .inl (E.2.1, 293, .inl (cCb f k)))] H := hP
        refine lv_if_eq (tgt := 35) hx hb dX0_correctBadShots_23 (by decide) (fun c_3 => ?_) (fun c_3 => ?_)
        · refine rn_inc (a := k) (d := 1) (lv' := [(2, .int (nI (k + 1))), (1, .int (cCn f k)), (0, .ref r)]) hx hb dX0_correctBadShots_35 hl (k := 0) rfl (by decide) (by decide) rfl (fun ls hl => ?_)
          refine lv_goto (tgt := 4) hx hb dX0_correctBadShots_38 (by decide) ?_
          have hP : va_P E.1 vwCl [(r, .inr (2, [.ref rc])), (rc, .inl (E.2.1, 293, .inl (cCb f (k + 1))))] H := by first | (rw [cCb_p c_3]; exact hP) | (rw [cCb_n c_3]; exact hP)
          have hl : lv_has ls 3 [(2, .int (nI (k + 1))), (1, .int (cCn f k)), (0, .ref r)] := lv_sub hl [0, 1, 2] rfl
          have hl : lv_has ls 3 [(2, .int (nI (k + 1))), (1, .int (cCn f (k + 1))), (0, .ref r)] := by first | (rw [cCn_p c_3]; exact hl) | (rw [cCn_n c_3]; exact hl)
          exact ih4 (k + 1) (by omega) (by omega) _ _ hP hS _ hl
        · refine lv_aload_n hx hb dX0_correctBadShots_26 rfl (lv_at hl 2 rfl) ?_
          refine lv_iload_n hx hb dX0_correctBadShots_27 rfl (lv_at hl 0 rfl) ?_
          refine rwS2 (rest := []) S (c_X0_correctShot_n l E r rc (cCb f k) n k ((cCb_12 f k).trans hf) hn (by omega)) cd_X0_correctShot bw_332 ⟨Nat.le_of_ble_eq_true rfl, Nat.le_of_ble_eq_true rfl⟩ ⟨Nat.zero_le _, Nat.zero_le _⟩ hP (hDa.to rfl) hE hA hS [0, 1] rfl rfl [r, rc] rfl rfl (Nat.le_of_ble_eq_true rfl) hl.1 dX0_correctBadShots_28 (fun H locs hP _ hS => ?_)
          have hP : va_P E.1 vwCl [(r, .inr (2, [.ref rc])), (rc, .inl (E.2.1, 293, .inl (cEw (cCb f k) k)))] H := hP
          refine lv_pop hx hb dX0_correctBadShots_31 rfl ?_
          refine lv_iinc (v := cCn f k + nI 1) (lv' := [(1, .int (cCn f k + nI 1)), (2, .int (nI k)), (0, .ref r)]) hx hb dX0_correctBadShots_32 hl (k := 1) rfl (by rfl) (by decide) rfl (fun ls hl => ?_)
          refine rn_inc (a := k) (d := 1) (lv' := [(2, .int (nI (k + 1))), (1, .int (cCn f k + nI 1)), (0, .ref r)]) hx hb dX0_correctBadShots_35 hl (k := 1) rfl (by decide) (by decide) rfl (fun ls hl => ?_)
          refine lv_goto (tgt := 4) hx hb dX0_correctBadShots_38 (by decide) ?_
          have hP : va_P E.1 vwCl [(r, .inr (2, [.ref rc])), (rc, .inl (E.2.1, 293, .inl (cCb f (k + 1))))] H := by first | (rw [cCb_p c_3]; exact hP) | (rw [cCb_n c_3]; exact hP)
          have hl : lv_has ls 3 [(2, .int (nI (k + 1))), (1, .int (cCn f k + nI 1)), (0, .ref r)] := lv_sub hl [0, 1, 2] rfl
          have hl : lv_has ls 3 [(2, .int (nI (k + 1))), (1, .int (cCn f (k + 1))), (0, .ref r)] := by first | (rw [cCn_p c_3]; exact hl) | (rw [cCn_n c_3]; exact hl)
          exact ih4 (k + 1) (by omega) (by omega) _ _ hP hS _ hl
  have hP : va_P E.1 vwCl [(r, .inr (2, [.ref rc])), (rc, .inl (E.2.1, 293, .inl (cCb f 0)))] s.heap := by exact hP
  have hl : lv_has ls 3 [(2, .int (nI 0)), (1, .int (cCn f 0)), (0, .ref r)] := lv_sub hl [0, 1, 2] rfl
  exact loop4 _ 0 (Nat.lt_succ_self _) (by omega) _ _ hP hS _ hl

theorem cd_X0_setByCard : cdS yX0_setByCard cX0_setByCard 4 (some .int) 1 := ⟨⟨bw_339, bw_10, by decide, by decide, by decide +kernel⟩, bw_338⟩
def cTv (f : Nat → Int32) : Int32 := nI 0 + (imin (nI 20) (f (4 + 0) * f 3 / nI 100)) + (imin (nI 20) ((upd f 7 (imin (nI 20) (f (4 + 0) * f 3 / nI 100))) (4 + 1) * (upd f 7 (imin (nI 20) (f (4 + 0) * f 3 / nI 100))) 3 / nI 100)) + (imin (nI 20) ((upd (upd f 7 (imin (nI 20) (f (4 + 0) * f 3 / nI 100))) 8 (imin (nI 20) ((upd f 7 (imin (nI 20) (f (4 + 0) * f 3 / nI 100))) (4 + 1) * (upd f 7 (imin (nI 20) (f (4 + 0) * f 3 / nI 100))) 3 / nI 100))) (4 + 2) * (upd (upd f 7 (imin (nI 20) (f (4 + 0) * f 3 / nI 100))) 8 (imin (nI 20) ((upd f 7 (imin (nI 20) (f (4 + 0) * f 3 / nI 100))) (4 + 1) * (upd f 7 (imin (nI 20) (f (4 + 0) * f 3 / nI 100))) 3 / nI 100))) 3 / nI 100))
def cTw (f : Nat → Int32) : Nat → Int32 := upd (upd (upd f 7 (imin (nI 20) (f (4 + 0) * f 3 / nI 100))) 8 (imin (nI 20) ((upd f 7 (imin (nI 20) (f (4 + 0) * f 3 / nI 100))) (4 + 1) * (upd f 7 (imin (nI 20) (f (4 + 0) * f 3 / nI 100))) 3 / nI 100))) 9 (imin (nI 20) ((upd (upd f 7 (imin (nI 20) (f (4 + 0) * f 3 / nI 100))) 8 (imin (nI 20) ((upd f 7 (imin (nI 20) (f (4 + 0) * f 3 / nI 100))) (4 + 1) * (upd f 7 (imin (nI 20) (f (4 + 0) * f 3 / nI 100))) 3 / nI 100))) (4 + 2) * (upd (upd f 7 (imin (nI 20) (f (4 + 0) * f 3 / nI 100))) 8 (imin (nI 20) ((upd f 7 (imin (nI 20) (f (4 + 0) * f 3 / nI 100))) (4 + 1) * (upd f 7 (imin (nI 20) (f (4 + 0) * f 3 / nI 100))) 3 / nI 100))) 3 / nI 100))
set_option maxHeartbeats 4000000 in
set_option maxRecDepth 100000 in
theorem c_X0_setByCard (l : Launch) (E : EV) (r : Nat) (rc : Nat) (f : Nat → Int32)  : rcI l E yX0_setByCard cX0_setByCard 4 .int 2 [.ref r] [(r, .inr (2, [.ref rc])), (rc, .inl (E.2.1, 293, .inl f))] (cTv f) [(r, .inr (2, [.ref rc])), (rc, .inl (E.2.1, 293, .inl (cTw f)))] := by
  refine rcI_of (by decide) (Nat.le_of_ble_eq_true rfl) ?_
  intro pg e s m below meth c Q A ls S hP hD0 hE hA hl hret
  have hx := S.1
  have hb := S.2.1
  have hown := S.2.2.2.1
  have hts := S.2.2.2.2
  have hK := hE.1
  have hS : va_S A s.heap s.heap [] := va_S.rf
  have hDa : va_Da A [r, rc] := ⟨_, hD0, rfl⟩
  have hl : lv_has ls 4 [(0, .ref r)] := hl
  refine lv_iconst (v := nI 0) hx hb dX0_setByCard_0 (by decide) ?_
  refine lv_istore_n (lv' := [(1, .int (nI 0)), (0, .ref r)]) hx hb dX0_setByCard_1 rfl hl (by decide) rfl (fun ls hl => ?_)
  refine lv_iconst (v := nI 0) hx hb dX0_setByCard_2 (by decide) ?_
  refine lv_istore_n (lv' := [(2, .int (nI 0)), (1, .int (nI 0)), (0, .ref r)]) hx hb dX0_setByCard_3 rfl hl (by decide) rfl (fun ls hl => ?_)
  refine lv_iload_n hx hb dX0_setByCard_4 rfl (lv_at hl 0 rfl) ?_
  refine lv_iconst (v := nI 3) hx hb dX0_setByCard_5 (by decide) ?_
  refine rn_icmp_ge (a := 0) (b := 3) (tgt := 39) hx hb (by omega) (by omega) dX0_setByCard_6 (by decide) (fun c_1 => absurd c_1 (by omega)) (fun c_1 => ?_)
  refine lv_bipush (v := nI 20) hx hb dX0_setByCard_9 (by decide) ?_
  refine lv_aload_n hx hb dX0_setByCard_11 rfl (lv_at hl 2 rfl) ?_
  refine lv_iload_n hx hb dX0_setByCard_12 rfl (lv_at hl 0 rfl) ?_
  refine rwV1 (rest := [.int (nI 20)]) S (c_X3_lampLoss l E r rc f 0 (by omega)) cd_X3_lampLoss bw_340 ⟨Nat.le_of_ble_eq_true rfl, Nat.le_of_ble_eq_true rfl⟩ ⟨Nat.zero_le _, Nat.zero_le _⟩ hP (hDa.to rfl) hE hA hS [0, 1] rfl rfl [r, rc] rfl rfl (ci := 2) rfl (q0 := 0) rfl (Nat.le_of_ble_eq_true rfl) hl.1 dX0_setByCard_13 (fun H locs hP _ hS => ?_)
  have hP : va_P E.1 vwCl [(r, .inr (2, [.ref rc])), (rc, .inl (E.2.1, 293, .inl f))] H := hP
  refine rw_min (rest := []) S hl.1 bw_341 ⟨Nat.le_of_ble_eq_true rfl, Nat.le_of_ble_eq_true rfl⟩ (Nat.le_of_ble_eq_true rfl) ⟨Nat.zero_le _, Nat.zero_le _⟩ dX0_setByCard_16 ?_
  refine lv_istore_n (lv' := [(3, .int (imin (nI 20) (f (4 + 0) * f 3 / nI 100))), (2, .int (nI 0)), (1, .int (nI 0)), (0, .ref r)]) hx hb dX0_setByCard_19 rfl hl (by decide) rfl (fun ls hl => ?_)
  refine lv_aload_n hx hb dX0_setByCard_20 rfl (lv_at hl 3 rfl) ?_
  refine lv_bipush (v := nI 7) hx hb dX0_setByCard_21 (by decide) ?_
  refine lv_iload_n hx hb dX0_setByCard_23 rfl (lv_at hl 1 rfl) ?_
  refine rn_add (a := 7) (b := 0) hx hb dX0_setByCard_24 ?_
  refine lv_iload_n hx hb dX0_setByCard_25 rfl (lv_at hl 0 rfl) ?_
  refine rwVv2 (rest := []) S (c_X3_write l E r rc f 7 (imin (nI 20) (f (4 + 0) * f 3 / nI 100)) (by omega)) cd_X3_write bw_311 ⟨Nat.le_of_ble_eq_true rfl, Nat.le_of_ble_eq_true rfl⟩ ⟨Nat.zero_le _, Nat.zero_le _⟩ hP (hDa.to rfl) hE hA hS [0, 1] rfl rfl [r, rc] rfl rfl (ci := 2) rfl (q0 := 0) rfl (Nat.le_of_ble_eq_true rfl) hl.1 dX0_setByCard_26 (fun H locs hP _ hS => ?_)
  have hP : va_P E.1 vwCl [(r, .inr (2, [.ref rc])), (rc, .inl (E.2.1, 293, .inl (upd f 7 (imin (nI 20) (f (4 + 0) * f 3 / nI 100)))))] H := hP
  refine lv_iload_n hx hb dX0_setByCard_29 rfl (lv_at hl 2 rfl) ?_
  refine lv_iload_n hx hb dX0_setByCard_30 rfl (lv_at hl 0 rfl) ?_
  refine lv_iadd hx hb dX0_setByCard_31 ?_
  refine lv_istore_n (lv' := [(1, .int (nI 0 + (imin (nI 20) (f (4 + 0) * f 3 / nI 100)))), (3, .int (imin (nI 20) (f (4 + 0) * f 3 / nI 100))), (2, .int (nI 0)), (0, .ref r)]) hx hb dX0_setByCard_32 rfl hl (by decide) rfl (fun ls hl => ?_)
  refine rn_inc (a := 0) (d := 1) (lv' := [(2, .int (nI 1)), (1, .int (nI 0 + (imin (nI 20) (f (4 + 0) * f 3 / nI 100)))), (3, .int (imin (nI 20) (f (4 + 0) * f 3 / nI 100))), (0, .ref r)]) hx hb dX0_setByCard_33 hl (k := 2) rfl (by decide) (by decide) rfl (fun ls hl => ?_)
  refine lv_goto (tgt := 4) hx hb dX0_setByCard_36 (by decide) ?_
  refine lv_iload_n hx hb dX0_setByCard_4 rfl (lv_at hl 0 rfl) ?_
  refine lv_iconst (v := nI 3) hx hb dX0_setByCard_5 (by decide) ?_
  refine rn_icmp_ge (a := 1) (b := 3) (tgt := 39) hx hb (by omega) (by omega) dX0_setByCard_6 (by decide) (fun c_2 => absurd c_2 (by omega)) (fun c_2 => ?_)
  refine lv_bipush (v := nI 20) hx hb dX0_setByCard_9 (by decide) ?_
  refine lv_aload_n hx hb dX0_setByCard_11 rfl (lv_at hl 3 rfl) ?_
  refine lv_iload_n hx hb dX0_setByCard_12 rfl (lv_at hl 0 rfl) ?_
  refine rwV1 (rest := [.int (nI 20)]) S (c_X3_lampLoss l E r rc (upd f 7 (imin (nI 20) (f (4 + 0) * f 3 / nI 100))) 1 (by omega)) cd_X3_lampLoss bw_340 ⟨Nat.le_of_ble_eq_true rfl, Nat.le_of_ble_eq_true rfl⟩ ⟨Nat.zero_le _, Nat.zero_le _⟩ hP (hDa.to rfl) hE hA hS [0, 1] rfl rfl [r, rc] rfl rfl (ci := 2) rfl (q0 := 0) rfl (Nat.le_of_ble_eq_true rfl) hl.1 dX0_setByCard_13 (fun H locs hP _ hS => ?_)
  have hP : va_P E.1 vwCl [(r, .inr (2, [.ref rc])), (rc, .inl (E.2.1, 293, .inl (upd f 7 (imin (nI 20) (f (4 + 0) * f 3 / nI 100)))))] H := hP
  refine rw_min (rest := []) S hl.1 bw_341 ⟨Nat.le_of_ble_eq_true rfl, Nat.le_of_ble_eq_true rfl⟩ (Nat.le_of_ble_eq_true rfl) ⟨Nat.zero_le _, Nat.zero_le _⟩ dX0_setByCard_16 ?_
  refine lv_istore_n (lv' := [(3, .int (imin (nI 20) ((upd f 7 (imin (nI 20) (f (4 + 0) * f 3 / nI 100))) (4 + 1) * (upd f 7 (imin (nI 20) (f (4 + 0) * f 3 / nI 100))) 3 / nI 100))), (2, .int (nI 1)), (1, .int (nI 0 + (imin (nI 20) (f (4 + 0) * f 3 / nI 100)))), (0, .ref r)]) hx hb dX0_setByCard_19 rfl hl (by decide) rfl (fun ls hl => ?_)
  refine lv_aload_n hx hb dX0_setByCard_20 rfl (lv_at hl 3 rfl) ?_
  refine lv_bipush (v := nI 7) hx hb dX0_setByCard_21 (by decide) ?_
  refine lv_iload_n hx hb dX0_setByCard_23 rfl (lv_at hl 1 rfl) ?_
  refine rn_add (a := 7) (b := 1) hx hb dX0_setByCard_24 ?_
  refine lv_iload_n hx hb dX0_setByCard_25 rfl (lv_at hl 0 rfl) ?_
  refine rwVv2 (rest := []) S (c_X3_write l E r rc (upd f 7 (imin (nI 20) (f (4 + 0) * f 3 / nI 100))) 8 (imin (nI 20) ((upd f 7 (imin (nI 20) (f (4 + 0) * f 3 / nI 100))) (4 + 1) * (upd f 7 (imin (nI 20) (f (4 + 0) * f 3 / nI 100))) 3 / nI 100)) (by omega)) cd_X3_write bw_311 ⟨Nat.le_of_ble_eq_true rfl, Nat.le_of_ble_eq_true rfl⟩ ⟨Nat.zero_le _, Nat.zero_le _⟩ hP (hDa.to rfl) hE hA hS [0, 1] rfl rfl [r, rc] rfl rfl (ci := 2) rfl (q0 := 0) rfl (Nat.le_of_ble_eq_true rfl) hl.1 dX0_setByCard_26 (fun H locs hP _ hS => ?_)
  have hP : va_P E.1 vwCl [(r, .inr (2, [.ref rc])), (rc, .inl (E.2.1, 293, .inl (upd (upd f 7 (imin (nI 20) (f (4 + 0) * f 3 / nI 100))) 8 (imin (nI 20) ((upd f 7 (imin (nI 20) (f (4 + 0) * f 3 / nI 100))) (4 + 1) * (upd f 7 (imin (nI 20) (f (4 + 0) * f 3 / nI 100))) 3 / nI 100)))))] H := hP
  refine lv_iload_n hx hb dX0_setByCard_29 rfl (lv_at hl 2 rfl) ?_
  refine lv_iload_n hx hb dX0_setByCard_30 rfl (lv_at hl 0 rfl) ?_
  refine lv_iadd hx hb dX0_setByCard_31 ?_
  refine lv_istore_n (lv' := [(1, .int (nI 0 + (imin (nI 20) (f (4 + 0) * f 3 / nI 100)) + (imin (nI 20) ((upd f 7 (imin (nI 20) (f (4 + 0) * f 3 / nI 100))) (4 + 1) * (upd f 7 (imin (nI 20) (f (4 + 0) * f 3 / nI 100))) 3 / nI 100)))), (3, .int (imin (nI 20) ((upd f 7 (imin (nI 20) (f (4 + 0) * f 3 / nI 100))) (4 + 1) * (upd f 7 (imin (nI 20) (f (4 + 0) * f 3 / nI 100))) 3 / nI 100))), (2, .int (nI 1)), (0, .ref r)]) hx hb dX0_setByCard_32 rfl hl (by decide) rfl (fun ls hl => ?_)
  refine rn_inc (a := 1) (d := 1) (lv' := [(2, .int (nI 2)), (1, .int (nI 0 + (imin (nI 20) (f (4 + 0) * f 3 / nI 100)) + (imin (nI 20) ((upd f 7 (imin (nI 20) (f (4 + 0) * f 3 / nI 100))) (4 + 1) * (upd f 7 (imin (nI 20) (f (4 + 0) * f 3 / nI 100))) 3 / nI 100)))), (3, .int (imin (nI 20) ((upd f 7 (imin (nI 20) (f (4 + 0) * f 3 / nI 100))) (4 + 1) * (upd f 7 (imin (nI 20) (f (4 + 0) * f 3 / nI 100))) 3 / nI 100))), (0, .ref r)]) hx hb dX0_setByCard_33 hl (k := 2) rfl (by decide) (by decide) rfl (fun ls hl => ?_)
  refine lv_goto (tgt := 4) hx hb dX0_setByCard_36 (by decide) ?_
  refine lv_iload_n hx hb dX0_setByCard_4 rfl (lv_at hl 0 rfl) ?_
  refine lv_iconst (v := nI 3) hx hb dX0_setByCard_5 (by decide) ?_
  refine rn_icmp_ge (a := 2) (b := 3) (tgt := 39) hx hb (by omega) (by omega) dX0_setByCard_6 (by decide) (fun c_3 => absurd c_3 (by omega)) (fun c_3 => ?_)
  refine lv_bipush (v := nI 20) hx hb dX0_setByCard_9 (by decide) ?_
  refine lv_aload_n hx hb dX0_setByCard_11 rfl (lv_at hl 3 rfl) ?_
  refine lv_iload_n hx hb dX0_setByCard_12 rfl (lv_at hl 0 rfl) ?_
  refine rwV1 (rest := [.int (nI 20)]) S (c_X3_lampLoss l E r rc (upd (upd f 7 (imin (nI 20) (f (4 + 0) * f 3 / nI 100))) 8 (imin (nI 20) ((upd f 7 (imin (nI 20) (f (4 + 0) * f 3 / nI 100))) (4 + 1) * (upd f 7 (imin (nI 20) (f (4 + 0) * f 3 / nI 100))) 3 / nI 100))) 2 (by omega)) cd_X3_lampLoss bw_340 ⟨Nat.le_of_ble_eq_true rfl, Nat.le_of_ble_eq_true rfl⟩ ⟨Nat.zero_le _, Nat.zero_le _⟩ hP (hDa.to rfl) hE hA hS [0, 1] rfl rfl [r, rc] rfl rfl (ci := 2) rfl (q0 := 0) rfl (Nat.le_of_ble_eq_true rfl) hl.1 dX0_setByCard_13 (fun H locs hP _ hS => ?_)
  have hP : va_P E.1 vwCl [(r, .inr (2, [.ref rc])), (rc, .inl (E.2.1, 293, .inl (upd (upd f 7 (imin (nI 20) (f (4 + 0) * f 3 / nI 100))) 8 (imin (nI 20) ((upd f 7 (imin (nI 20) (f (4 + 0) * f 3 / nI 100))) (4 + 1) * (upd f 7 (imin (nI 20) (f (4 + 0) * f 3 / nI 100))) 3 / nI 100)))))] H := hP
  refine rw_min (rest := []) S hl.1 bw_341 ⟨Nat.le_of_ble_eq_true rfl, Nat.le_of_ble_eq_true rfl⟩ (Nat.le_of_ble_eq_true rfl) ⟨Nat.zero_le _, Nat.zero_le _⟩ dX0_setByCard_16 ?_
  refine lv_istore_n (lv' := [(3, .int (imin (nI 20) ((upd (upd f 7 (imin (nI 20) (f (4 + 0) * f 3 / nI 100))) 8 (imin (nI 20) ((upd f 7 (imin (nI 20) (f (4 + 0) * f 3 / nI 100))) (4 + 1) * (upd f 7 (imin (nI 20) (f (4 + 0) * f 3 / nI 100))) 3 / nI 100))) (4 + 2) * (upd (upd f 7 (imin (nI 20) (f (4 + 0) * f 3 / nI 100))) 8 (imin (nI 20) ((upd f 7 (imin (nI 20) (f (4 + 0) * f 3 / nI 100))) (4 + 1) * (upd f 7 (imin (nI 20) (f (4 + 0) * f 3 / nI 100))) 3 / nI 100))) 3 / nI 100))), (2, .int (nI 2)), (1, .int (nI 0 + (imin (nI 20) (f (4 + 0) * f 3 / nI 100)) + (imin (nI 20) ((upd f 7 (imin (nI 20) (f (4 + 0) * f 3 / nI 100))) (4 + 1) * (upd f 7 (imin (nI 20) (f (4 + 0) * f 3 / nI 100))) 3 / nI 100)))), (0, .ref r)]) hx hb dX0_setByCard_19 rfl hl (by decide) rfl (fun ls hl => ?_)
  refine lv_aload_n hx hb dX0_setByCard_20 rfl (lv_at hl 3 rfl) ?_
  refine lv_bipush (v := nI 7) hx hb dX0_setByCard_21 (by decide) ?_
  refine lv_iload_n hx hb dX0_setByCard_23 rfl (lv_at hl 1 rfl) ?_
  refine rn_add (a := 7) (b := 2) hx hb dX0_setByCard_24 ?_
  refine lv_iload_n hx hb dX0_setByCard_25 rfl (lv_at hl 0 rfl) ?_
  refine rwVv2 (rest := []) S (c_X3_write l E r rc (upd (upd f 7 (imin (nI 20) (f (4 + 0) * f 3 / nI 100))) 8 (imin (nI 20) ((upd f 7 (imin (nI 20) (f (4 + 0) * f 3 / nI 100))) (4 + 1) * (upd f 7 (imin (nI 20) (f (4 + 0) * f 3 / nI 100))) 3 / nI 100))) 9 (imin (nI 20) ((upd (upd f 7 (imin (nI 20) (f (4 + 0) * f 3 / nI 100))) 8 (imin (nI 20) ((upd f 7 (imin (nI 20) (f (4 + 0) * f 3 / nI 100))) (4 + 1) * (upd f 7 (imin (nI 20) (f (4 + 0) * f 3 / nI 100))) 3 / nI 100))) (4 + 2) * (upd (upd f 7 (imin (nI 20) (f (4 + 0) * f 3 / nI 100))) 8 (imin (nI 20) ((upd f 7 (imin (nI 20) (f (4 + 0) * f 3 / nI 100))) (4 + 1) * (upd f 7 (imin (nI 20) (f (4 + 0) * f 3 / nI 100))) 3 / nI 100))) 3 / nI 100)) (by omega)) cd_X3_write bw_311 ⟨Nat.le_of_ble_eq_true rfl, Nat.le_of_ble_eq_true rfl⟩ ⟨Nat.zero_le _, Nat.zero_le _⟩ hP (hDa.to rfl) hE hA hS [0, 1] rfl rfl [r, rc] rfl rfl (ci := 2) rfl (q0 := 0) rfl (Nat.le_of_ble_eq_true rfl) hl.1 dX0_setByCard_26 (fun H locs hP _ hS => ?_)
  have hP : va_P E.1 vwCl [(r, .inr (2, [.ref rc])), (rc, .inl (E.2.1, 293, .inl (upd (upd (upd f 7 (imin (nI 20) (f (4 + 0) * f 3 / nI 100))) 8 (imin (nI 20) ((upd f 7 (imin (nI 20) (f (4 + 0) * f 3 / nI 100))) (4 + 1) * (upd f 7 (imin (nI 20) (f (4 + 0) * f 3 / nI 100))) 3 / nI 100))) 9 (imin (nI 20) ((upd (upd f 7 (imin (nI 20) (f (4 + 0) * f 3 / nI 100))) 8 (imin (nI 20) ((upd f 7 (imin (nI 20) (f (4 + 0) * f 3 / nI 100))) (4 + 1) * (upd f 7 (imin (nI 20) (f (4 + 0) * f 3 / nI 100))) 3 / nI 100))) (4 + 2) * (upd (upd f 7 (imin (nI 20) (f (4 + 0) * f 3 / nI 100))) 8 (imin (nI 20) ((upd f 7 (imin (nI 20) (f (4 + 0) * f 3 / nI 100))) (4 + 1) * (upd f 7 (imin (nI 20) (f (4 + 0) * f 3 / nI 100))) 3 / nI 100))) 3 / nI 100)))))] H := hP
  refine lv_iload_n hx hb dX0_setByCard_29 rfl (lv_at hl 2 rfl) ?_
  refine lv_iload_n hx hb dX0_setByCard_30 rfl (lv_at hl 0 rfl) ?_
  refine lv_iadd hx hb dX0_setByCard_31 ?_
  refine lv_istore_n (lv' := [(1, .int (nI 0 + (imin (nI 20) (f (4 + 0) * f 3 / nI 100)) + (imin (nI 20) ((upd f 7 (imin (nI 20) (f (4 + 0) * f 3 / nI 100))) (4 + 1) * (upd f 7 (imin (nI 20) (f (4 + 0) * f 3 / nI 100))) 3 / nI 100)) + (imin (nI 20) ((upd (upd f 7 (imin (nI 20) (f (4 + 0) * f 3 / nI 100))) 8 (imin (nI 20) ((upd f 7 (imin (nI 20) (f (4 + 0) * f 3 / nI 100))) (4 + 1) * (upd f 7 (imin (nI 20) (f (4 + 0) * f 3 / nI 100))) 3 / nI 100))) (4 + 2) * (upd (upd f 7 (imin (nI 20) (f (4 + 0) * f 3 / nI 100))) 8 (imin (nI 20) ((upd f 7 (imin (nI 20) (f (4 + 0) * f 3 / nI 100))) (4 + 1) * (upd f 7 (imin (nI 20) (f (4 + 0) * f 3 / nI 100))) 3 / nI 100))) 3 / nI 100)))), (3, .int (imin (nI 20) ((upd (upd f 7 (imin (nI 20) (f (4 + 0) * f 3 / nI 100))) 8 (imin (nI 20) ((upd f 7 (imin (nI 20) (f (4 + 0) * f 3 / nI 100))) (4 + 1) * (upd f 7 (imin (nI 20) (f (4 + 0) * f 3 / nI 100))) 3 / nI 100))) (4 + 2) * (upd (upd f 7 (imin (nI 20) (f (4 + 0) * f 3 / nI 100))) 8 (imin (nI 20) ((upd f 7 (imin (nI 20) (f (4 + 0) * f 3 / nI 100))) (4 + 1) * (upd f 7 (imin (nI 20) (f (4 + 0) * f 3 / nI 100))) 3 / nI 100))) 3 / nI 100))), (2, .int (nI 2)), (0, .ref r)]) hx hb dX0_setByCard_32 rfl hl (by decide) rfl (fun ls hl => ?_)
  refine rn_inc (a := 2) (d := 1) (lv' := [(2, .int (nI 3)), (1, .int (nI 0 + (imin (nI 20) (f (4 + 0) * f 3 / nI 100)) + (imin (nI 20) ((upd f 7 (imin (nI 20) (f (4 + 0) * f 3 / nI 100))) (4 + 1) * (upd f 7 (imin (nI 20) (f (4 + 0) * f 3 / nI 100))) 3 / nI 100)) + (imin (nI 20) ((upd (upd f 7 (imin (nI 20) (f (4 + 0) * f 3 / nI 100))) 8 (imin (nI 20) ((upd f 7 (imin (nI 20) (f (4 + 0) * f 3 / nI 100))) (4 + 1) * (upd f 7 (imin (nI 20) (f (4 + 0) * f 3 / nI 100))) 3 / nI 100))) (4 + 2) * (upd (upd f 7 (imin (nI 20) (f (4 + 0) * f 3 / nI 100))) 8 (imin (nI 20) ((upd f 7 (imin (nI 20) (f (4 + 0) * f 3 / nI 100))) (4 + 1) * (upd f 7 (imin (nI 20) (f (4 + 0) * f 3 / nI 100))) 3 / nI 100))) 3 / nI 100)))), (3, .int (imin (nI 20) ((upd (upd f 7 (imin (nI 20) (f (4 + 0) * f 3 / nI 100))) 8 (imin (nI 20) ((upd f 7 (imin (nI 20) (f (4 + 0) * f 3 / nI 100))) (4 + 1) * (upd f 7 (imin (nI 20) (f (4 + 0) * f 3 / nI 100))) 3 / nI 100))) (4 + 2) * (upd (upd f 7 (imin (nI 20) (f (4 + 0) * f 3 / nI 100))) 8 (imin (nI 20) ((upd f 7 (imin (nI 20) (f (4 + 0) * f 3 / nI 100))) (4 + 1) * (upd f 7 (imin (nI 20) (f (4 + 0) * f 3 / nI 100))) 3 / nI 100))) 3 / nI 100))), (0, .ref r)]) hx hb dX0_setByCard_33 hl (k := 2) rfl (by decide) (by decide) rfl (fun ls hl => ?_)
  refine lv_goto (tgt := 4) hx hb dX0_setByCard_36 (by decide) ?_
  refine lv_iload_n hx hb dX0_setByCard_4 rfl (lv_at hl 0 rfl) ?_
  refine lv_iconst (v := nI 3) hx hb dX0_setByCard_5 (by decide) ?_
  refine rn_icmp_ge (a := 3) (b := 3) (tgt := 39) hx hb (by omega) (by omega) dX0_setByCard_6 (by decide) (fun c_4 => ?_) (fun c_4 => absurd c_4 (by omega))
  refine lv_iload_n hx hb dX0_setByCard_39 rfl (lv_at hl 1 rfl) ?_
  exact hret _ _ _ _ _ _ (by rw [cTv]) (by rw [cTw]) rfl hP hS dX0_setByCard_40

theorem cd_X0_changeTrim : cdS yX0_changeTrim cX0_changeTrim 3 (some .int) 3 := ⟨⟨bw_348, bw_10, by decide, by decide, by decide +kernel⟩, bw_347⟩
def cUv (f : Nat → Int32) (x : Int32) (z : Int32) : Int32 := if isC x = 0 then (-2) else if isW z (-20) (nI 20) = 0 then (-2) else f (7 + (ix x)) + (nI 20)
def cUw (f : Nat → Int32) (x : Int32) (z : Int32) : Nat → Int32 := if isC x = 0 then f else if isW z (-20) (nI 20) = 0 then f else upd f (7 + (ix x)) z
set_option maxHeartbeats 4000000 in
set_option maxRecDepth 100000 in
theorem c_X0_changeTrim (l : Launch) (E : EV) (r : Nat) (rc : Nat) (f : Nat → Int32) (x : Int32) (z : Int32)  : rcI l E yX0_changeTrim cX0_changeTrim 3 .int 3 [.ref r, .int x, .int z] [(r, .inr (2, [.ref rc])), (rc, .inl (E.2.1, 293, .inl f))] (cUv f x z) [(r, .inr (2, [.ref rc])), (rc, .inl (E.2.1, 293, .inl (cUw f x z)))] := by
  refine rcI_of (by decide) (Nat.le_of_ble_eq_true rfl) ?_
  intro pg e s m below meth c Q A ls S hP hD0 hE hA hl hret
  have hx := S.1
  have hb := S.2.1
  have hown := S.2.2.2.1
  have hts := S.2.2.2.2
  have hK := hE.1
  have hS : va_S A s.heap s.heap [] := va_S.rf
  have hDa : va_Da A [r, rc] := ⟨_, hD0, rfl⟩
  have hl : lv_has ls 3 [(0, .ref r), (1, .int x), (2, .int z)] := hl
  refine lv_iload_n hx hb dX0_changeTrim_0 rfl (lv_at hl 1 rfl) ?_
  refine rwN1 (rest := []) S (c_X7_isColour l E x) cd_X7_isColour hE.2.1.2.2.1 ⟨Nat.le_of_ble_eq_true rfl, Nat.le_of_ble_eq_true rfl⟩ ⟨Nat.zero_le _, Nat.zero_le _⟩ hP (hDa.to rfl) hE hA hS [] rfl rfl [] rfl rfl (Nat.le_of_ble_eq_true rfl) hl.1 dX0_changeTrim_1 (fun H locs hP _ hS => ?_)
  have hP : va_P E.1 vwCl [(r, .inr (2, [.ref rc])), (rc, .inl (E.2.1, 293, .inl f))] H := hP
  refine lv_if_eq (tgt := 18) hx hb dX0_changeTrim_4 (by decide) (fun c_1 => ?_) (fun c_1 => ?_)
  · refine lv_bipush (v := (-2)) hx hb dX0_changeTrim_18 (by decide) ?_
    exact hret _ _ _ _ _ _ (by rw [cUv, if_pos c_1]) (by rw [cUw, if_pos c_1]) rfl hP hS dX0_changeTrim_20
  · obtain ⟨co, h9_co, rfl⟩ : ∃ co : Nat, co < 3 ∧ x = nI co := (isC_of c_1)
    refine lv_iload_n hx hb dX0_changeTrim_7 rfl (lv_at hl 2 rfl) ?_
    refine lv_bipush (v := (-20)) hx hb dX0_changeTrim_8 (by decide) ?_
    refine lv_bipush (v := nI 20) hx hb dX0_changeTrim_10 (by decide) ?_
    refine rwN3 (rest := []) S (c_X7_isWithin l E z (-20) (nI 20)) cd_X7_isWithin hE.2.1.1 ⟨Nat.le_of_ble_eq_true rfl, Nat.le_of_ble_eq_true rfl⟩ ⟨Nat.zero_le _, Nat.zero_le _⟩ hP (hDa.to rfl) hE hA hS [] rfl rfl [] rfl rfl (Nat.le_of_ble_eq_true rfl) hl.1 dX0_changeTrim_12 (fun H locs hP _ hS => ?_)
    have hP : va_P E.1 vwCl [(r, .inr (2, [.ref rc])), (rc, .inl (E.2.1, 293, .inl f))] H := hP
    refine lv_if_ne (tgt := 21) hx hb dX0_changeTrim_15 (by decide) (fun c_2 => ?_) (fun c_2 => ?_)
    · refine lv_aload_n hx hb dX0_changeTrim_21 rfl (lv_at hl 0 rfl) ?_
      refine lv_bipush (v := nI 7) hx hb dX0_changeTrim_22 (by decide) ?_
      refine lv_iload_n hx hb dX0_changeTrim_24 rfl (lv_at hl 1 rfl) ?_
      refine rn_add (a := 7) (b := co) hx hb dX0_changeTrim_25 ?_
      refine lv_iload_n hx hb dX0_changeTrim_26 rfl (lv_at hl 2 rfl) ?_
      refine rwS3 (rest := []) S (c_X0_exchange l E r rc f (7 + co) z (by omega)) cd_X0_exchange bw_349 ⟨Nat.le_of_ble_eq_true rfl, Nat.le_of_ble_eq_true rfl⟩ ⟨Nat.zero_le _, Nat.zero_le _⟩ hP (hDa.to rfl) hE hA hS [0, 1] rfl rfl [r, rc] rfl rfl (Nat.le_of_ble_eq_true rfl) hl.1 dX0_changeTrim_27 (fun H locs hP _ hS => ?_)
      have hP : va_P E.1 vwCl [(r, .inr (2, [.ref rc])), (rc, .inl (E.2.1, 293, .inl (upd f (7 + co) z)))] H := hP
      refine lv_bipush (v := nI 20) hx hb dX0_changeTrim_30 (by decide) ?_
      refine lv_iadd hx hb dX0_changeTrim_32 ?_
      exact hret _ _ _ _ _ _ (by first | rw [cUv, ix_nI (show co < 2 ^ 31 by omega), if_neg c_1, if_neg c_2] | rw [cUv, if_neg c_1, if_neg c_2] | simp only [cUv, ix_nI (show co < 2 ^ 31 by omega), if_neg c_1, if_neg c_2]) (by first | rw [cUw, ix_nI (show co < 2 ^ 31 by omega), if_neg c_1, if_neg c_2] | rw [cUw, if_neg c_1, if_neg c_2] | simp only [cUw, ix_nI (show co < 2 ^ 31 by omega), if_neg c_1, if_neg c_2]) rfl hP hS dX0_changeTrim_33
    · refine lv_bipush (v := (-2)) hx hb dX0_changeTrim_18 (by decide) ?_
      exact hret _ _ _ _ _ _ (by first | rw [cUv, ix_nI (show co < 2 ^ 31 by omega), if_neg c_1, if_pos c_2] | rw [cUv, if_neg c_1, if_pos c_2] | simp only [cUv, ix_nI (show co < 2 ^ 31 by omega), if_neg c_1, if_pos c_2]) (by first | rw [cUw, ix_nI (show co < 2 ^ 31 by omega), if_neg c_1, if_pos c_2] | rw [cUw, if_neg c_1, if_pos c_2] | simp only [cUw, ix_nI (show co < 2 ^ 31 by omega), if_neg c_1, if_pos c_2]) rfl hP hS dX0_changeTrim_20

theorem cd_X0_changeLamp : cdS yX0_changeLamp cX0_changeLamp 2 (some .int) 2 := ⟨⟨bw_358, bw_10, by decide, by decide, by decide +kernel⟩, bw_357⟩
def cQv (f : Nat → Int32) (x : Int32) : Int32 := if isC x = 0 then (-2) else f (4 + (ix x))
def cQw (f : Nat → Int32) (x : Int32) : Nat → Int32 := if isC x = 0 then f else upd f (4 + (ix x)) (nI 0)
set_option maxHeartbeats 4000000 in
set_option maxRecDepth 100000 in
theorem c_X0_changeLamp (l : Launch) (E : EV) (r : Nat) (rc : Nat) (f : Nat → Int32) (x : Int32)  : rcI l E yX0_changeLamp cX0_changeLamp 2 .int 3 [.ref r, .int x] [(r, .inr (2, [.ref rc])), (rc, .inl (E.2.1, 293, .inl f))] (cQv f x) [(r, .inr (2, [.ref rc])), (rc, .inl (E.2.1, 293, .inl (cQw f x)))] := by
  refine rcI_of (by decide) (Nat.le_of_ble_eq_true rfl) ?_
  intro pg e s m below meth c Q A ls S hP hD0 hE hA hl hret
  have hx := S.1
  have hb := S.2.1
  have hown := S.2.2.2.1
  have hts := S.2.2.2.2
  have hK := hE.1
  have hS : va_S A s.heap s.heap [] := va_S.rf
  have hDa : va_Da A [r, rc] := ⟨_, hD0, rfl⟩
  have hl : lv_has ls 2 [(0, .ref r), (1, .int x)] := hl
  refine lv_iload_n hx hb dX0_changeLamp_0 rfl (lv_at hl 1 rfl) ?_
  refine rwN1 (rest := []) S (c_X7_isColour l E x) cd_X7_isColour hE.2.1.2.2.1 ⟨Nat.le_of_ble_eq_true rfl, Nat.le_of_ble_eq_true rfl⟩ ⟨Nat.zero_le _, Nat.zero_le _⟩ hP (hDa.to rfl) hE hA hS [] rfl rfl [] rfl rfl (Nat.le_of_ble_eq_true rfl) hl.1 dX0_changeLamp_1 (fun H locs hP _ hS => ?_)
  have hP : va_P E.1 vwCl [(r, .inr (2, [.ref rc])), (rc, .inl (E.2.1, 293, .inl f))] H := hP
  refine lv_if_eq (tgt := 18) hx hb dX0_changeLamp_4 (by decide) (fun c_1 => ?_) (fun c_1 => ?_)
  · refine lv_bipush (v := (-2)) hx hb dX0_changeLamp_18 (by decide) ?_
    exact hret _ _ _ _ _ _ (by rw [cQv, if_pos c_1]) (by rw [cQw, if_pos c_1]) rfl hP hS dX0_changeLamp_20
  · obtain ⟨co, h9_co, rfl⟩ : ∃ co : Nat, co < 3 ∧ x = nI co := (isC_of c_1)
    refine lv_aload_n hx hb dX0_changeLamp_7 rfl (lv_at hl 0 rfl) ?_
    refine lv_iconst (v := nI 4) hx hb dX0_changeLamp_8 (by decide) ?_
    refine lv_iload_n hx hb dX0_changeLamp_9 rfl (lv_at hl 1 rfl) ?_
    refine rn_add (a := 4) (b := co) hx hb dX0_changeLamp_10 ?_
    refine lv_iconst (v := nI 0) hx hb dX0_changeLamp_11 (by decide) ?_
    refine rwS3 (rest := []) S (c_X0_exchange l E r rc f (4 + co) (nI 0) (by omega)) cd_X0_exchange bw_349 ⟨Nat.le_of_ble_eq_true rfl, Nat.le_of_ble_eq_true rfl⟩ ⟨Nat.zero_le _, Nat.zero_le _⟩ hP (hDa.to rfl) hE hA hS [0, 1] rfl rfl [r, rc] rfl rfl (Nat.le_of_ble_eq_true rfl) hl.1 dX0_changeLamp_12 (fun H locs hP _ hS => ?_)
    have hP : va_P E.1 vwCl [(r, .inr (2, [.ref rc])), (rc, .inl (E.2.1, 293, .inl (upd f (4 + co) (nI 0))))] H := hP
    refine lv_goto (tgt := 20) hx hb dX0_changeLamp_15 (by decide) ?_
    exact hret _ _ _ _ _ _ (by first | rw [cQv, ix_nI (show co < 2 ^ 31 by omega), if_neg c_1] | rw [cQv, if_neg c_1] | simp only [cQv, ix_nI (show co < 2 ^ 31 by omega), if_neg c_1]) (by first | rw [cQw, ix_nI (show co < 2 ^ 31 by omega), if_neg c_1] | rw [cQw, if_neg c_1] | simp only [cQw, ix_nI (show co < 2 ^ 31 by omega), if_neg c_1]) rfl hP hS dX0_changeLamp_20

