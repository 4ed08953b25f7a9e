/-! the law's own corrections, prints, changes -/
/-- corrections of one shot, colour by colour -/
def lCx (vq vl vr : Nat → Int32) (k c : Nat) : Int32 := vl (3 * k + c) - (vr (3 * k + c) - (nI 1000)) + (vr (3 * k + c) - (nI 1000) - (vr (3 * k + c) - (nI 1000)) / (vq 0) * (vq 0))
def lCw (vq vl vr : Nat → Int32) (k : Nat) : Nat → Nat → Int32
  | 0 => vl
  | c + 1 => upd (lCw vq vl vr k c) (3 * k + c) (bd (lCx vq (lCw vq vl vr k c) vr k c))
theorem lCw_s (vq vl vr : Nat → Int32) (k c : Nat) : lCw vq vl vr k (c + 1) = upd (lCw vq vl vr k c) (3 * k + c) (bd (lCx vq (lCw vq vl vr k c) vr k c)) := rfl
def lCp (vq vl vr : Nat → Int32) (k : Nat) : Nat → Int32
  | 0 => nI 0
  | c + 1 => lCp vq vl vr k c + lSz (bd (lCx vq (lCw vq vl vr k c) vr k c) - lCw vq vl vr k c (3 * k + c))
theorem lCp_s (vq vl vr : Nat → Int32) (k c : Nat) : lCp vq vl vr k (c + 1) = lCp vq vl vr k c + lSz (bd (lCx vq (lCw vq vl vr k c) vr k c) - lCw vq vl vr k c (3 * k + c)) := rfl
theorem cd_L_corrects : cdS yL_corrects cL_corrects 9 (some .int) 4 := ⟨⟨bw_397, bw_1, by decide, by decide, by decide +kernel⟩, bw_396⟩
def lCv (vq : Nat → Int32) (vl : Nat → Int32) (vr : Nat → Int32) (k : Nat) : Int32 := lCp vq vl vr k 3
def lCq (vq : Nat → Int32) (vl : Nat → Int32) (vr : Nat → Int32) (k : Nat) : Nat → Int32 := upd vq 6 (vq 6 + (lCp vq vl vr k 3))
def lCl (vq : Nat → Int32) (vl : Nat → Int32) (vr : Nat → Int32) (k : Nat) : Nat → Int32 := lCw vq vl vr k 3
def lCr (vq : Nat → Int32) (vl : Nat → Int32) (vr : Nat → Int32) (k : Nat) : Nat → Int32 := fo3 vr k
set_option maxHeartbeats 4000000 in
set_option maxRecDepth 100000 in
theorem c_L_corrects (l : Launch) (E : EV) (k : Nat) (aq : Nat) (al : Nat) (ar : Nat) (vq : Nat → Int32) (vl : Nat → Int32) (vr : Nat → Int32) (hk : k < 21) (hst : ¬ vq 0 = 0) : rcI l E yL_corrects cL_corrects 9 .int 1 [.int (nI k), .ref aq, .ref al, .ref ar] [(aq, .inl (E.2.1, 13, .inl vq)), (al, .inl (E.2.1, 63, .inl vl)), (ar, .inl (E.2.1, 63, .inl vr))] (lCv vq vl vr k) [(aq, .inl (E.2.1, 13, .inl (lCq vq vl vr k))), (al, .inl (E.2.1, 63, .inl (lCl vq vl vr k))), (ar, .inl (E.2.1, 63, .inl (lCr vq vl vr k)))] := by
  refine rcI_of (by decide) (Nat.le_of_ble_eq_true rfl) ?_
  intro pg e s m below meth c Q A ls S hP hD0 hE hA hl hret
  have hx := S.1
  have hb := S.2.1
  have hown := S.2.2.2.1
  have hts := S.2.2.2.2
  have hK := hE.1
  have hS : va_S A s.heap s.heap [] := va_S.rf
  have hDa : va_Da A [aq, al, ar] := ⟨_, hD0, rfl⟩
  have hl : lv_has ls 9 [(0, .int (nI k)), (1, .ref aq), (2, .ref al), (3, .ref ar)] := hl
  refine lv_iconst (v := nI 0) hx hb dL_corrects_0 (by decide) ?_
  refine lv_istore (lv' := [(4, .int (nI 0)), (0, .int (nI k)), (1, .ref aq), (2, .ref al), (3, .ref ar)]) hx hb dL_corrects_1 hl (by decide) rfl (fun ls hl => ?_)
  refine lv_iconst (v := nI 0) hx hb dL_corrects_3 (by decide) ?_
  refine lv_istore (lv' := [(5, .int (nI 0)), (4, .int (nI 0)), (0, .int (nI k)), (1, .ref aq), (2, .ref al), (3, .ref ar)]) hx hb dL_corrects_4 hl (by decide) rfl (fun ls hl => ?_)
  have loop6 : ∀ (fuel : Nat) (co : Nat), 3 - co < fuel → (co ≤ 3) → ∀ (H : Heap) (locs : List Loc), va_P E.1 vwCl [(aq, .inl (E.2.1, 13, .inl vq)), (al, .inl (E.2.1, 63, .inl (lCw vq vl vr k co))), (ar, .inl (E.2.1, 63, .inl vr))] H → va_S A s.heap H locs → ∀ ls : Array Slot, lv_has ls 9 [(5, .int (nI co)), (4, .int (lCp vq vl vr k co)), (0, .int (nI k)), (1, .ref aq), (2, .ref al), (3, .ref ar)] → W pg l e (rq 1) s m ([.int (nI k), .ref aq, .ref al, .ref ar] : List Value).toArray below meth c H locs 0 0 Q (F0 m 6 ls []) := by
    intro fuel
    induction fuel with
    | zero => intro co h9; exact absurd h9 (Nat.not_lt_zero _)
    | succ fuel ih6 =>
      intro co hfu6 hc H locs hP hS ls hl
      refine lv_iload hx hb dL_corrects_6 (lv_at hl 0 rfl) ?_
      refine lv_iconst (v := nI 3) hx hb dL_corrects_8 (by decide) ?_
      refine rn_icmp_ge (a := co) (b := 3) (tgt := 104) hx hb (by omega) (by omega) dL_corrects_9 (by decide) (fun c_1 => ?_) (fun c_1 => ?_)
      · have hex : 3 = co := by omega
        subst hex
        refine lv_iload_n hx hb dL_corrects_104 rfl (lv_at hl 2 rfl) ?_
        refine lv_aload_n hx hb dL_corrects_105 rfl (lv_at hl 5 rfl) ?_
        refine rwSv2 (rest := []) S (c_L_forget l E k ar vr hk) cd_L_forget bw_386 ⟨Nat.le_of_ble_eq_true rfl, Nat.le_of_ble_eq_true rfl⟩ ⟨Nat.zero_le _, Nat.zero_le _⟩ hP (hDa.to rfl) hE hA hS [2] rfl rfl [ar] rfl rfl (Nat.le_of_ble_eq_true rfl) hl.1 dL_corrects_106 (fun H locs hP _ hS => ?_)
        have hP : va_P E.1 vwCl [(aq, .inl (E.2.1, 13, .inl vq)), (al, .inl (E.2.1, 63, .inl (lCw vq vl vr k 3))), (ar, .inl (E.2.1, 63, .inl (fo3 vr k)))] H := hP
        refine lv_aload_n hx hb dL_corrects_109 rfl (lv_at hl 3 rfl) ?_
        refine lv_bipush (v := nI 6) hx hb dL_corrects_110 (by decide) ?_
        refine lv_dup2_11 hx hb dL_corrects_112 rfl rfl ?_
        refine rn_iald (i := 6) hx hb hK hP 0 0 rfl rfl (by omega) (by omega) dL_corrects_113 ?_
        refine lv_iload hx hb dL_corrects_114 (lv_at hl 1 rfl) ?_
        refine lv_iadd hx hb dL_corrects_116 ?_
        refine rn_iast (i := 6) hx hb hK hP (hDa.to rfl) hS 0 0 rfl rfl (by omega) (by omega) dL_corrects_117 (fun H locs hP _ hS => ?_)
        have hP : va_P E.1 vwCl [(aq, .inl (E.2.1, 13, .inl (upd vq 6 (vq 6 + (lCp vq vl vr k 3))))), (al, .inl (E.2.1, 63, .inl (lCw vq vl vr k 3))), (ar, .inl (E.2.1, 63, .inl (fo3 vr k)))] H := hP
        refine lv_iload hx hb dL_corrects_118 (lv_at hl 1 rfl) ?_
        exact hret _ _ _ _ _ _ (by rw [lCv]) (by rw [show lCq vq vl vr k = upd vq 6 (vq 6 + (lCp vq vl vr k 3)) from by rw [lCq], show lCl vq vl vr k = lCw vq vl vr k 3 from by rw [lCl], show lCr vq vl vr k = fo3 vr k from by rw [lCr]]) rfl hP hS dL_corrects_120
      · refine lv_aload_n hx hb dL_corrects_12 rfl (lv_at hl 5 rfl) ?_
        refine lv_iconst (v := nI 3) hx hb dL_corrects_13 (by decide) ?_
        refine lv_iload_n hx hb dL_corrects_14 rfl (lv_at hl 2 rfl) ?_
        refine rn_mul (a := 3) (b := k) hx hb dL_corrects_15 ?_
        refine lv_iload hx hb dL_corrects_16 (lv_at hl 0 rfl) ?_
        refine rn_add (a := 3 * k) (b := co) hx hb dL_corrects_18 ?_
        refine rn_iald (i := 3 * k + co) hx hb hK hP 2 0 rfl rfl (by omega) (by omega) dL_corrects_19 ?_
        refine lv_sipush (v := nI 1000) hx hb dL_corrects_20 (by decide) ?_
        refine lv_isub hx hb dL_corrects_23 ?_
        refine lv_istore (lv' := [(6, .int (vr (3 * k + co) - (nI 1000))), (5, .int (nI co)), (4, .int (lCp vq vl vr k co)), (0, .int (nI k)), (1, .ref aq), (2, .ref al), (3, .ref ar)]) hx hb dL_corrects_24 hl (by decide) rfl (fun ls hl => ?_)
        refine lv_aload_n hx hb dL_corrects_26 rfl (lv_at hl 5 rfl) ?_
        refine lv_iconst (v := nI 3) hx hb dL_corrects_27 (by decide) ?_
        refine lv_iload_n hx hb dL_corrects_28 rfl (lv_at hl 3 rfl) ?_
        refine rn_mul (a := 3) (b := k) hx hb dL_corrects_29 ?_
        refine lv_iload hx hb dL_corrects_30 (lv_at hl 1 rfl) ?_
        refine rn_add (a := 3 * k) (b := co) hx hb dL_corrects_32 ?_
        refine rn_iald (i := 3 * k + co) hx hb hK hP 1 0 rfl rfl (by omega) (by omega) dL_corrects_33 ?_
        refine lv_istore (lv' := [(7, .int (lCw vq vl vr k co (3 * k + co))), (6, .int (vr (3 * k + co) - (nI 1000))), (5, .int (nI co)), (4, .int (lCp vq vl vr k co)), (0, .int (nI k)), (1, .ref aq), (2, .ref al), (3, .ref ar)]) hx hb dL_corrects_34 hl (by decide) rfl (fun ls hl => ?_)
        refine lv_iload hx hb dL_corrects_36 (lv_at hl 0 rfl) ?_
        refine lv_iload hx hb dL_corrects_38 (lv_at hl 1 rfl) ?_
        refine lv_isub hx hb dL_corrects_40 ?_
        refine lv_iload hx hb dL_corrects_41 (lv_at hl 1 rfl) ?_
        refine lv_aload_n hx hb dL_corrects_43 rfl (lv_at hl 5 rfl) ?_
        refine lv_iconst (v := nI 0) hx hb dL_corrects_44 (by decide) ?_
        refine rn_iald (i := 0) hx hb hK hP 0 0 rfl rfl (by omega) (by omega) dL_corrects_45 ?_
        refine lv_irem hx hb dL_corrects_46 hst ?_
        refine lv_iadd hx hb dL_corrects_47 ?_
        refine lv_istore (lv' := [(8, .int (lCw vq vl vr k co (3 * k + co) - (vr (3 * k + co) - (nI 1000)) + (vr (3 * k + co) - (nI 1000) - (vr (3 * k + co) - (nI 1000)) / (vq 0) * (vq 0)))), (7, .int (lCw vq vl vr k co (3 * k + co))), (6, .int (vr (3 * k + co) - (nI 1000))), (5, .int (nI co)), (4, .int (lCp vq vl vr k co)), (0, .int (nI k)), (1, .ref aq), (2, .ref al), (3, .ref ar)]) hx hb dL_corrects_48 hl (by decide) rfl (fun ls hl => ?_)
        refine lv_iload hx hb dL_corrects_50 (lv_at hl 0 rfl) ?_
        refine lv_if_ge (tgt := 59) hx hb dL_corrects_52 (by decide) (fun c_2 => ?_) (fun c_2 => ?_)
        · refine lv_iload hx hb dL_corrects_59 (lv_at hl 0 rfl) ?_
          refine lv_bipush (v := nI 50) hx hb dL_corrects_61 (by decide) ?_
          refine lv_icmp_le (tgt := 71) hx hb dL_corrects_63 (by decide) (fun c_3 => ?_) (fun c_3 => ?_)
          · refine lv_iload hx hb dL_corrects_71 (lv_at hl 0 rfl) ?_
            refine W.eq (congrArg (fun z9 => F0 m 73 ls (.int z9 :: [])) (show lCw vq vl vr k co (3 * k + co) - (vr (3 * k + co) - (nI 1000)) + (vr (3 * k + co) - (nI 1000) - (vr (3 * k + co) - (nI 1000)) / (vq 0) * (vq 0)) = bd (lCx vq (lCw vq vl vr k co) vr k co) from (show lCw vq vl vr k co (3 * k + co) - (vr (3 * k + co) - (nI 1000)) + (vr (3 * k + co) - (nI 1000) - (vr (3 * k + co) - (nI 1000)) / (vq 0) * (vq 0)) = bd (lCw vq vl vr k co (3 * k + co) - (vr (3 * k + co) - (nI 1000)) + (vr (3 * k + co) - (nI 1000) - (vr (3 * k + co) - (nI 1000)) / (vq 0) * (vq 0))) from (by rw [bd, if_pos c_2, if_pos c_3])))) ?_
            refine lv_istore (lv' := [(8, .int (bd (lCx vq (lCw vq vl vr k co) vr k co))), (7, .int (lCw vq vl vr k co (3 * k + co))), (6, .int (vr (3 * k + co) - (nI 1000))), (5, .int (nI co)), (4, .int (lCp vq vl vr k co)), (0, .int (nI k)), (1, .ref aq), (2, .ref al), (3, .ref ar)]) hx hb dL_corrects_73 hl (by decide) rfl (fun ls hl => ?_)
            refine lv_aload_n hx hb dL_corrects_75 rfl (lv_at hl 7 rfl) ?_
            refine lv_iconst (v := nI 3) hx hb dL_corrects_76 (by decide) ?_
            refine lv_iload_n hx hb dL_corrects_77 rfl (lv_at hl 5 rfl) ?_
            refine rn_mul (a := 3) (b := k) hx hb dL_corrects_78 ?_
            refine lv_iload hx hb dL_corrects_79 (lv_at hl 3 rfl) ?_
            refine rn_add (a := 3 * k) (b := co) hx hb dL_corrects_81 ?_
            refine lv_iload hx hb dL_corrects_82 (lv_at hl 0 rfl) ?_
            refine rn_iast (i := 3 * k + co) hx hb hK hP (hDa.to rfl) hS 1 0 rfl rfl (by omega) (by omega) dL_corrects_84 (fun H locs hP _ hS => ?_)
            have hP : va_P E.1 vwCl [(aq, .inl (E.2.1, 13, .inl vq)), (al, .inl (E.2.1, 63, .inl (upd (lCw vq vl vr k co) (3 * k + co) (bd (lCx vq (lCw vq vl vr k co) vr k co))))), (ar, .inl (E.2.1, 63, .inl vr))] H := hP
            refine lv_iload hx hb dL_corrects_85 (lv_at hl 4 rfl) ?_
            refine lv_iload hx hb dL_corrects_87 (lv_at hl 0 rfl) ?_
            refine lv_iload hx hb dL_corrects_89 (lv_at hl 1 rfl) ?_
            refine lv_isub hx hb dL_corrects_91 ?_
            refine rwS1 (rest := [.int (lCp vq vl vr k co)]) S (c_L_size l E (bd (lCx vq (lCw vq vl vr k co) vr k co) - (lCw vq vl vr k co (3 * k + co)))) cd_L_size bw_392 ⟨Nat.le_of_ble_eq_true rfl, Nat.le_of_ble_eq_true rfl⟩ ⟨Nat.zero_le _, Nat.zero_le _⟩ hP (hDa.to rfl) hE hA hS [] rfl rfl [] rfl rfl (Nat.le_of_ble_eq_true rfl) hl.1 dL_corrects_92 (fun H locs hP _ hS => ?_)
            have hP : va_P E.1 vwCl [(aq, .inl (E.2.1, 13, .inl vq)), (al, .inl (E.2.1, 63, .inl (upd (lCw vq vl vr k co) (3 * k + co) (bd (lCx vq (lCw vq vl vr k co) vr k co))))), (ar, .inl (E.2.1, 63, .inl vr))] H := hP
            refine lv_iadd hx hb dL_corrects_95 ?_
            refine lv_istore (lv' := [(4, .int (lCp vq vl vr k co + (lSz (bd (lCx vq (lCw vq vl vr k co) vr k co) - (lCw vq vl vr k co (3 * k + co)))))), (8, .int (bd (lCx vq (lCw vq vl vr k co) vr k co))), (7, .int (lCw vq vl vr k co (3 * k + co))), (6, .int (vr (3 * k + co) - (nI 1000))), (5, .int (nI co)), (0, .int (nI k)), (1, .ref aq), (2, .ref al), (3, .ref ar)]) hx hb dL_corrects_96 hl (by decide) rfl (fun ls hl => ?_)
            refine rn_inc (a := co) (d := 1) (lv' := [(5, .int (nI (co + 1))), (4, .int (lCp vq vl vr k co + (lSz (bd (lCx vq (lCw vq vl vr k co) vr k co) - (lCw vq vl vr k co (3 * k + co)))))), (8, .int (bd (lCx vq (lCw vq vl vr k co) vr k co))), (7, .int (lCw vq vl vr k co (3 * k + co))), (6, .int (vr (3 * k + co) - (nI 1000))), (0, .int (nI k)), (1, .ref aq), (2, .ref al), (3, .ref ar)]) hx hb dL_corrects_98 hl (k := 4) rfl (by decide) (by decide) rfl (fun ls hl => ?_)
            refine lv_goto (tgt := 6) hx hb dL_corrects_101 (by decide) ?_
            have hP : va_P E.1 vwCl [(aq, .inl (E.2.1, 13, .inl vq)), (al, .inl (E.2.1, 63, .inl (lCw vq vl vr k (co + 1)))), (ar, .inl (E.2.1, 63, .inl vr))] H := by rw [lCw_s]; exact hP
            have hl : lv_has ls 9 [(5, .int (nI (co + 1))), (4, .int (lCp vq vl vr k co + (lSz (bd (lCx vq (lCw vq vl vr k co) vr k co) - (lCw vq vl vr k co (3 * k + co)))))), (0, .int (nI k)), (1, .ref aq), (2, .ref al), (3, .ref ar)] := lv_sub hl [0, 1, 5, 6, 7, 8] rfl
            have hl : lv_has ls 9 [(5, .int (nI (co + 1))), (4, .int (lCp vq vl vr k (co + 1))), (0, .int (nI k)), (1, .ref aq), (2, .ref al), (3, .ref ar)] := by rw [lCp_s]; exact hl
            exact ih6 (co + 1) (by omega) (by omega) _ _ hP hS _ hl
          · refine lv_bipush (v := nI 50) hx hb dL_corrects_66 (by decide) ?_
            refine lv_goto (tgt := 73) hx hb dL_corrects_68 (by decide) ?_
            refine W.eq (congrArg (fun z9 => F0 m 73 ls (.int z9 :: [])) (show nI 50 = bd (lCx vq (lCw vq vl vr k co) vr k co) from (show nI 50 = bd (lCw vq vl vr k co (3 * k + co) - (vr (3 * k + co) - (nI 1000)) + (vr (3 * k + co) - (nI 1000) - (vr (3 * k + co) - (nI 1000)) / (vq 0) * (vq 0))) from (by rw [bd, if_pos c_2, if_neg c_3])))) ?_
            refine lv_istore (lv' := [(8, .int (bd (lCx vq (lCw vq vl vr k co) vr k co))), (7, .int (lCw vq vl vr k co (3 * k + co))), (6, .int (vr (3 * k + co) - (nI 1000))), (5, .int (nI co)), (4, .int (lCp vq vl vr k co)), (0, .int (nI k)), (1, .ref aq), (2, .ref al), (3, .ref ar)]) hx hb dL_corrects_73 hl (by decide) rfl (fun ls hl => ?_)
            refine lv_aload_n hx hb dL_corrects_75 rfl (lv_at hl 7 rfl) ?_
            refine lv_iconst (v := nI 3) hx hb dL_corrects_76 (by decide) ?_
            refine lv_iload_n hx hb dL_corrects_77 rfl (lv_at hl 5 rfl) ?_
            refine rn_mul (a := 3) (b := k) hx hb dL_corrects_78 ?_
            refine lv_iload hx hb dL_corrects_79 (lv_at hl 3 rfl) ?_
            refine rn_add (a := 3 * k) (b := co) hx hb dL_corrects_81 ?_
            refine lv_iload hx hb dL_corrects_82 (lv_at hl 0 rfl) ?_
            refine rn_iast (i := 3 * k + co) hx hb hK hP (hDa.to rfl) hS 1 0 rfl rfl (by omega) (by omega) dL_corrects_84 (fun H locs hP _ hS => ?_)
            have hP : va_P E.1 vwCl [(aq, .inl (E.2.1, 13, .inl vq)), (al, .inl (E.2.1, 63, .inl (upd (lCw vq vl vr k co) (3 * k + co) (bd (lCx vq (lCw vq vl vr k co) vr k co))))), (ar, .inl (E.2.1, 63, .inl vr))] H := hP
            refine lv_iload hx hb dL_corrects_85 (lv_at hl 4 rfl) ?_
            refine lv_iload hx hb dL_corrects_87 (lv_at hl 0 rfl) ?_
            refine lv_iload hx hb dL_corrects_89 (lv_at hl 1 rfl) ?_
            refine lv_isub hx hb dL_corrects_91 ?_
            refine rwS1 (rest := [.int (lCp vq vl vr k co)]) S (c_L_size l E (bd (lCx vq (lCw vq vl vr k co) vr k co) - (lCw vq vl vr k co (3 * k + co)))) cd_L_size bw_392 ⟨Nat.le_of_ble_eq_true rfl, Nat.le_of_ble_eq_true rfl⟩ ⟨Nat.zero_le _, Nat.zero_le _⟩ hP (hDa.to rfl) hE hA hS [] rfl rfl [] rfl rfl (Nat.le_of_ble_eq_true rfl) hl.1 dL_corrects_92 (fun H locs hP _ hS => ?_)
            have hP : va_P E.1 vwCl [(aq, .inl (E.2.1, 13, .inl vq)), (al, .inl (E.2.1, 63, .inl (upd (lCw vq vl vr k co) (3 * k + co) (bd (lCx vq (lCw vq vl vr k co) vr k co))))), (ar, .inl (E.2.1, 63, .inl vr))] H := hP
            refine lv_iadd hx hb dL_corrects_95 ?_
            refine lv_istore (lv' := [(4, .int (lCp vq vl vr k co + (lSz (bd (lCx vq (lCw vq vl vr k co) vr k co) - (lCw vq vl vr k co (3 * k + co)))))), (8, .int (bd (lCx vq (lCw vq vl vr k co) vr k co))), (7, .int (lCw vq vl vr k co (3 * k + co))), (6, .int (vr (3 * k + co) - (nI 1000))), (5, .int (nI co)), (0, .int (nI k)), (1, .ref aq), (2, .ref al), (3, .ref ar)]) hx hb dL_corrects_96 hl (by decide) rfl (fun ls hl => ?_)
            refine rn_inc (a := co) (d := 1) (lv' := [(5, .int (nI (co + 1))), (4, .int (lCp vq vl vr k co + (lSz (bd (lCx vq (lCw vq vl vr k co) vr k co) - (lCw vq vl vr k co (3 * k + co)))))), (8, .int (bd (lCx vq (lCw vq vl vr k co) vr k co))), (7, .int (lCw vq vl vr k co (3 * k + co))), (6, .int (vr (3 * k + co) - (nI 1000))), (0, .int (nI k)), (1, .ref aq), (2, .ref al), (3, .ref ar)]) hx hb dL_corrects_98 hl (k := 4) rfl (by decide) (by decide) rfl (fun ls hl => ?_)
            refine lv_goto (tgt := 6) hx hb dL_corrects_101 (by decide) ?_
            have hP : va_P E.1 vwCl [(aq, .inl (E.2.1, 13, .inl vq)), (al, .inl (E.2.1, 63, .inl (lCw vq vl vr k (co + 1)))), (ar, .inl (E.2.1, 63, .inl vr))] H := by rw [lCw_s]; exact hP
            have hl : lv_has ls 9 [(5, .int (nI (co + 1))), (4, .int (lCp vq vl vr k co + (lSz (bd (lCx vq (lCw vq vl vr k co) vr k co) - (lCw vq vl vr k co (3 * k + co)))))), (0, .int (nI k)), (1, .ref aq), (2, .ref al), (3, .ref ar)] := lv_sub hl [0, 1, 5, 6, 7, 8] rfl
            have hl : lv_has ls 9 [(5, .int (nI (co + 1))), (4, .int (lCp vq vl vr k (co + 1))), (0, .int (nI k)), (1, .ref aq), (2, .ref al), (3, .ref ar)] := by rw [lCp_s]; exact hl
            exact ih6 (co + 1) (by omega) (by omega) _ _ hP hS _ hl
        · refine lv_iconst (v := nI 0) hx hb dL_corrects_55 (by decide) ?_
          refine lv_goto (tgt := 73) hx hb dL_corrects_56 (by decide) ?_
          refine W.eq (congrArg (fun z9 => F0 m 73 ls (.int z9 :: [])) (show nI 0 = bd (lCx vq (lCw vq vl vr k co) vr k co) from (show nI 0 = bd (lCw vq vl vr k co (3 * k + co) - (vr (3 * k + co) - (nI 1000)) + (vr (3 * k + co) - (nI 1000) - (vr (3 * k + co) - (nI 1000)) / (vq 0) * (vq 0))) from (by rw [bd, if_neg c_2])))) ?_
          refine lv_istore (lv' := [(8, .int (bd (lCx vq (lCw vq vl vr k co) vr k co))), (7, .int (lCw vq vl vr k co (3 * k + co))), (6, .int (vr (3 * k + co) - (nI 1000))), (5, .int (nI co)), (4, .int (lCp vq vl vr k co)), (0, .int (nI k)), (1, .ref aq), (2, .ref al), (3, .ref ar)]) hx hb dL_corrects_73 hl (by decide) rfl (fun ls hl => ?_)
          refine lv_aload_n hx hb dL_corrects_75 rfl (lv_at hl 7 rfl) ?_
          refine lv_iconst (v := nI 3) hx hb dL_corrects_76 (by decide) ?_
          refine lv_iload_n hx hb dL_corrects_77 rfl (lv_at hl 5 rfl) ?_
          refine rn_mul (a := 3) (b := k) hx hb dL_corrects_78 ?_
          refine lv_iload hx hb dL_corrects_79 (lv_at hl 3 rfl) ?_
          refine rn_add (a := 3 * k) (b := co) hx hb dL_corrects_81 ?_
          refine lv_iload hx hb dL_corrects_82 (lv_at hl 0 rfl) ?_
          refine rn_iast (i := 3 * k + co) hx hb hK hP (hDa.to rfl) hS 1 0 rfl rfl (by omega) (by omega) dL_corrects_84 (fun H locs hP _ hS => ?_)
          have hP : va_P E.1 vwCl [(aq, .inl (E.2.1, 13, .inl vq)), (al, .inl (E.2.1, 63, .inl (upd (lCw vq vl vr k co) (3 * k + co) (bd (lCx vq (lCw vq vl vr k co) vr k co))))), (ar, .inl (E.2.1, 63, .inl vr))] H := hP
          refine lv_iload hx hb dL_corrects_85 (lv_at hl 4 rfl) ?_
          refine lv_iload hx hb dL_corrects_87 (lv_at hl 0 rfl) ?_
          refine lv_iload hx hb dL_corrects_89 (lv_at hl 1 rfl) ?_
          refine lv_isub hx hb dL_corrects_91 ?_
          refine rwS1 (rest := [.int (lCp vq vl vr k co)]) S (c_L_size l E (bd (lCx vq (lCw vq vl vr k co) vr k co) - (lCw vq vl vr k co (3 * k + co)))) cd_L_size bw_392 ⟨Nat.le_of_ble_eq_true rfl, Nat.le_of_ble_eq_true rfl⟩ ⟨Nat.zero_le _, Nat.zero_le _⟩ hP (hDa.to rfl) hE hA hS [] rfl rfl [] rfl rfl (Nat.le_of_ble_eq_true rfl) hl.1 dL_corrects_92 (fun H locs hP _ hS => ?_)
          have hP : va_P E.1 vwCl [(aq, .inl (E.2.1, 13, .inl vq)), (al, .inl (E.2.1, 63, .inl (upd (lCw vq vl vr k co) (3 * k + co) (bd (lCx vq (lCw vq vl vr k co) vr k co))))), (ar, .inl (E.2.1, 63, .inl vr))] H := hP
          refine lv_iadd hx hb dL_corrects_95 ?_
          refine lv_istore (lv' := [(4, .int (lCp vq vl vr k co + (lSz (bd (lCx vq (lCw vq vl vr k co) vr k co) - (lCw vq vl vr k co (3 * k + co)))))), (8, .int (bd (lCx vq (lCw vq vl vr k co) vr k co))), (7, .int (lCw vq vl vr k co (3 * k + co))), (6, .int (vr (3 * k + co) - (nI 1000))), (5, .int (nI co)), (0, .int (nI k)), (1, .ref aq), (2, .ref al), (3, .ref ar)]) hx hb dL_corrects_96 hl (by decide) rfl (fun ls hl => ?_)
          refine rn_inc (a := co) (d := 1) (lv' := [(5, .int (nI (co + 1))), (4, .int (lCp vq vl vr k co + (lSz (bd (lCx vq (lCw vq vl vr k co) vr k co) - (lCw vq vl vr k co (3 * k + co)))))), (8, .int (bd (lCx vq (lCw vq vl vr k co) vr k co))), (7, .int (lCw vq vl vr k co (3 * k + co))), (6, .int (vr (3 * k + co) - (nI 1000))), (0, .int (nI k)), (1, .ref aq), (2, .ref al), (3, .ref ar)]) hx hb dL_corrects_98 hl (k := 4) rfl (by decide) (by decide) rfl (fun ls hl => ?_)
          refine lv_goto (tgt := 6) hx hb dL_corrects_101 (by decide) ?_
          have hP : va_P E.1 vwCl [(aq, .inl (E.2.1, 13, .inl vq)), (al, .inl (E.2.1, 63, .inl (lCw vq vl vr k (co + 1)))), (ar, .inl (E.2.1, 63, .inl vr))] H := by rw [lCw_s]; exact hP
          have hl : lv_has ls 9 [(5, .int (nI (co + 1))), (4, .int (lCp vq vl vr k co + (lSz (bd (lCx vq (lCw vq vl vr k co) vr k co) - (lCw vq vl vr k co (3 * k + co)))))), (0, .int (nI k)), (1, .ref aq), (2, .ref al), (3, .ref ar)] := lv_sub hl [0, 1, 5, 6, 7, 8] rfl
          have hl : lv_has ls 9 [(5, .int (nI (co + 1))), (4, .int (lCp vq vl vr k (co + 1))), (0, .int (nI k)), (1, .ref aq), (2, .ref al), (3, .ref ar)] := by rw [lCp_s]; exact hl
          exact ih6 (co + 1) (by omega) (by omega) _ _ hP hS _ hl
  have hP : va_P E.1 vwCl [(aq, .inl (E.2.1, 13, .inl vq)), (al, .inl (E.2.1, 63, .inl (lCw vq vl vr k 0))), (ar, .inl (E.2.1, 63, .inl vr))] s.heap := by exact hP
  have hl : lv_has ls 9 [(5, .int (nI 0)), (4, .int (lCp vq vl vr k 0)), (0, .int (nI k)), (1, .ref aq), (2, .ref al), (3, .ref ar)] := lv_sub hl [0, 1, 2, 3, 4, 5] rfl
  exact loop6 _ 0 (Nat.lt_succ_self _) (by omega) _ _ hP hS _ hl

/-- a print, shot by shot -/
def lR1 (vq vd vw vl g : Nat → Int32) (k c : Nat) : Nat → Int32 := upd g (3 * k + c) (nI 1000 + (lOf vq vd vw vl k c))
def lRs (vq vd vw vl g : Nat → Int32) (k : Nat) : Nat → Int32 := lR1 vq vd vw vl (lR1 vq vd vw vl (lR1 vq vd vw vl g k 0) k 1) k 2
def lRp (vq vd vw vl vr : Nat → Int32) : Nat → Nat → Int32
  | 0 => vr
  | k + 1 => lRs vq vd vw vl (lRp vq vd vw vl vr k) k
theorem lRp_s (vq vd vw vl vr : Nat → Int32) (k : Nat) : lRp vq vd vw vl vr (k + 1) = lRs vq vd vw vl (lRp vq vd vw vl vr k) k := rfl
def lRb (vq vd vw vl vr : Nat → Int32) : Nat → Int32
  | 0 => nI 0
  | k + 1 => lRb vq vd vw vl vr k + (if lBa vq (lRs vq vd vw vl (lRp vq vd vw vl vr k) k) k = 0 then nI 0 else nI 1)
theorem lRb_p {vq vd vw vl vr : Nat → Int32} {k : Nat} (h : lBa vq (lRs vq vd vw vl (lRp vq vd vw vl vr k) k) k = 0) : lRb vq vd vw vl vr (k + 1) = lRb vq vd vw vl vr k + nI 0 := by rw [lRb, if_pos h]
theorem lRb_n {vq vd vw vl vr : Nat → Int32} {k : Nat} (h : ¬ lBa vq (lRs vq vd vw vl (lRp vq vd vw vl vr k) k) k = 0) : lRb vq vd vw vl vr (k + 1) = lRb vq vd vw vl vr k + nI 1 := by rw [lRb, if_neg h]
theorem cd_L_print : cdS yL_print cL_print 10 (some .int) 6 := ⟨⟨bw_400, bw_1, by decide, by decide, by decide +kernel⟩, bw_399⟩
def lPv (vq : Nat → Int32) (vf : Nat → Int32) (vd : Nat → Int32) (vw : Nat → Int32) (vl : Nat → Int32) (vr : Nat → Int32) (n : Nat) : Int32 := if vq 7 + ((lFt vf n + (nI 99)) / (nI 100)) ≤ nI 999 then if vq 8 + ((lFt vf n + (nI 99)) / (nI 100)) ≤ nI 999 then if vq 9 + ((lFt vf n + (nI 99)) / (nI 100)) ≤ nI 999 then lRb vq vd vw vl vr n else (-5) else (-5) else (-5)
def lPq (vq : Nat → Int32) (vf : Nat → Int32) (vd : Nat → Int32) (vw : Nat → Int32) (vl : Nat → Int32) (vr : Nat → Int32) (n : Nat) : Nat → Int32 := if vq 7 + ((lFt vf n + (nI 99)) / (nI 100)) ≤ nI 999 then if vq 8 + ((lFt vf n + (nI 99)) / (nI 100)) ≤ nI 999 then if vq 9 + ((lFt vf n + (nI 99)) / (nI 100)) ≤ nI 999 then upd (upd (upd (upd vq 7 (vq 7 + ((lFt vf n + (nI 99)) / (nI 100)))) 8 ((upd vq 7 (vq 7 + ((lFt vf n + (nI 99)) / (nI 100)))) 8 + ((lFt vf n + (nI 99)) / (nI 100)))) 9 ((upd (upd vq 7 (vq 7 + ((lFt vf n + (nI 99)) / (nI 100)))) 8 ((upd vq 7 (vq 7 + ((lFt vf n + (nI 99)) / (nI 100)))) 8 + ((lFt vf n + (nI 99)) / (nI 100)))) 9 + ((lFt vf n + (nI 99)) / (nI 100)))) 5 ((upd (upd (upd vq 7 (vq 7 + ((lFt vf n + (nI 99)) / (nI 100)))) 8 ((upd vq 7 (vq 7 + ((lFt vf n + (nI 99)) / (nI 100)))) 8 + ((lFt vf n + (nI 99)) / (nI 100)))) 9 ((upd (upd vq 7 (vq 7 + ((lFt vf n + (nI 99)) / (nI 100)))) 8 ((upd vq 7 (vq 7 + ((lFt vf n + (nI 99)) / (nI 100)))) 8 + ((lFt vf n + (nI 99)) / (nI 100)))) 9 + ((lFt vf n + (nI 99)) / (nI 100)))) 5 + (nI 1)) else vq else vq else vq
def lPrr (vq : Nat → Int32) (vf : Nat → Int32) (vd : Nat → Int32) (vw : Nat → Int32) (vl : Nat → Int32) (vr : Nat → Int32) (n : Nat) : Nat → Int32 := if vq 7 + ((lFt vf n + (nI 99)) / (nI 100)) ≤ nI 999 then if vq 8 + ((lFt vf n + (nI 99)) / (nI 100)) ≤ nI 999 then if vq 9 + ((lFt vf n + (nI 99)) / (nI 100)) ≤ nI 999 then lRp vq vd vw vl vr n else vr else vr else vr
set_option maxHeartbeats 4000000 in
set_option maxRecDepth 100000 in
theorem c_L_print (l : Launch) (E : EV) (aq : Nat) (af : Nat) (ad : Nat) (aw : Nat) (al : Nat) (ar : Nat) (vq : Nat → Int32) (vf : Nat → Int32) (vd : Nat → Int32) (vw : Nat → Int32) (vl : Nat → Int32) (vr : Nat → Int32) (n : Nat) (hf : vq 4 = nI n) (hn : n ≤ 20) (hn0 : 0 < n) : rcI l E yL_print cL_print 10 .int 2 [.ref aq, .ref af, .ref ad, .ref aw, .ref al, .ref ar] [(aq, .inl (E.2.1, 13, .inl vq)), (af, .inl (E.2.1, 21, .inl vf)), (ad, .inl (E.2.1, 63, .inl vd)), (aw, .inl (E.2.1, 63, .inl vw)), (al, .inl (E.2.1, 63, .inl vl)), (ar, .inl (E.2.1, 63, .inl vr))] (lPv vq vf vd vw vl vr n) [(aq, .inl (E.2.1, 13, .inl (lPq vq vf vd vw vl vr n))), (af, .inl (E.2.1, 21, .inl vf)), (ad, .inl (E.2.1, 63, .inl vd)), (aw, .inl (E.2.1, 63, .inl vw)), (al, .inl (E.2.1, 63, .inl vl)), (ar, .inl (E.2.1, 63, .inl (lPrr vq vf vd vw vl vr n)))] := by
  refine rcI_of (by decide) (Nat.le_of_ble_eq_true rfl) ?_
  intro pg e s m below meth c Q A ls S hP hD0 hE hA hl hret
  have hx := S.1
  have hb := S.2.1
  have hown := S.2.2.2.1
  have hts := S.2.2.2.2
  have hK := hE.1
  have hS : va_S A s.heap s.heap [] := va_S.rf
  have hDa : va_Da A [aq, af, ad, aw, al, ar] := ⟨_, hD0, rfl⟩
  have hl : lv_has ls 10 [(0, .ref aq), (1, .ref af), (2, .ref ad), (3, .ref aw), (4, .ref al), (5, .ref ar)] := hl
  refine lv_aload_n hx hb dL_print_0 rfl (lv_at hl 0 rfl) ?_
  refine lv_iconst (v := nI 4) hx hb dL_print_1 (by decide) ?_
  refine rn_iald (i := 4) hx hb hK hP 0 0 rfl rfl (by omega) (by omega) dL_print_2 ?_
  refine W.eq (congrArg (fun z9 => F0 m 3 ls (.int z9 :: [])) (show vq 4 = nI n from hf)) ?_
  refine lv_aload_n hx hb dL_print_3 rfl (lv_at hl 1 rfl) ?_
  refine rwS2 (rest := []) S (c_L_feet l E n af vf hn) cd_L_feet bw_401 ⟨Nat.le_of_ble_eq_true rfl, Nat.le_of_ble_eq_true rfl⟩ ⟨Nat.zero_le _, Nat.zero_le _⟩ hP (hDa.to rfl) hE hA hS [1] rfl rfl [af] rfl rfl (Nat.le_of_ble_eq_true rfl) hl.1 dL_print_4 (fun H locs hP _ hS => ?_)
  have hP : va_P E.1 vwCl [(aq, .inl (E.2.1, 13, .inl vq)), (af, .inl (E.2.1, 21, .inl vf)), (ad, .inl (E.2.1, 63, .inl vd)), (aw, .inl (E.2.1, 63, .inl vw)), (al, .inl (E.2.1, 63, .inl vl)), (ar, .inl (E.2.1, 63, .inl vr))] H := hP
  refine lv_bipush (v := nI 99) hx hb dL_print_7 (by decide) ?_
  refine lv_iadd hx hb dL_print_9 ?_
  refine lv_bipush (v := nI 100) hx hb dL_print_10 (by decide) ?_
  refine lv_idiv hx hb dL_print_12 (by decide) ?_
  refine lv_istore (lv' := [(6, .int ((lFt vf n + (nI 99)) / (nI 100))), (0, .ref aq), (1, .ref af), (2, .ref ad), (3, .ref aw), (4, .ref al), (5, .ref ar)]) hx hb dL_print_13 hl (by decide) rfl (fun ls hl => ?_)
  refine lv_iconst (v := nI 0) hx hb dL_print_15 (by decide) ?_
  refine lv_istore (lv' := [(7, .int (nI 0)), (6, .int ((lFt vf n + (nI 99)) / (nI 100))), (0, .ref aq), (1, .ref af), (2, .ref ad), (3, .ref aw), (4, .ref al), (5, .ref ar)]) hx hb dL_print_16 hl (by decide) rfl (fun ls hl => ?_)
  refine lv_iconst (v := nI 0) hx hb dL_print_18 (by decide) ?_
  refine lv_istore (lv' := [(8, .int (nI 0)), (7, .int (nI 0)), (6, .int ((lFt vf n + (nI 99)) / (nI 100))), (0, .ref aq), (1, .ref af), (2, .ref ad), (3, .ref aw), (4, .ref al), (5, .ref ar)]) hx hb dL_print_19 hl (by decide) rfl (fun ls hl => ?_)
  refine lv_iload hx hb dL_print_21 (lv_at hl 0 rfl) ?_
  refine lv_iconst (v := nI 3) hx hb dL_print_23 (by decide) ?_
  refine rn_icmp_ge (a := 0) (b := 3) (tgt := 52) hx hb (by omega) (by omega) dL_print_24 (by decide) (fun c_1 => absurd c_1 (by omega)) (fun c_1 => ?_)
  refine lv_aload_n hx hb dL_print_27 rfl (lv_at hl 3 rfl) ?_
  refine lv_bipush (v := nI 7) hx hb dL_print_28 (by decide) ?_
  refine lv_iload hx hb dL_print_30 (lv_at hl 0 rfl) ?_
  refine rn_add (a := 7) (b := 0) hx hb dL_print_32 ?_
  refine rn_iald (i := 7) hx hb hK hP 0 0 rfl rfl (by omega) (by omega) dL_print_33 ?_
  refine lv_iload hx hb dL_print_34 (lv_at hl 2 rfl) ?_
  refine lv_iadd hx hb dL_print_36 ?_
  refine lv_sipush (v := nI 999) hx hb dL_print_37 (by decide) ?_
  refine lv_icmp_le (tgt := 46) hx hb dL_print_40 (by decide) (fun c_2 => ?_) (fun c_2 => ?_)
  · refine rn_inc (a := 0) (d := 1) (lv' := [(8, .int (nI 1)), (7, .int (nI 0)), (6, .int ((lFt vf n + (nI 99)) / (nI 100))), (0, .ref aq), (1, .ref af), (2, .ref ad), (3, .ref aw), (4, .ref al), (5, .ref ar)]) hx hb dL_print_46 hl (k := 0) rfl (by decide) (by decide) rfl (fun ls hl => ?_)
    refine lv_goto (tgt := 21) hx hb dL_print_49 (by decide) ?_
    refine lv_iload hx hb dL_print_21 (lv_at hl 0 rfl) ?_
    refine lv_iconst (v := nI 3) hx hb dL_print_23 (by decide) ?_
    refine rn_icmp_ge (a := 1) (b := 3) (tgt := 52) hx hb (by omega) (by omega) dL_print_24 (by decide) (fun c_3 => absurd c_3 (by omega)) (fun c_3 => ?_)
    refine lv_aload_n hx hb dL_print_27 rfl (lv_at hl 3 rfl) ?_
    refine lv_bipush (v := nI 7) hx hb dL_print_28 (by decide) ?_
    refine lv_iload hx hb dL_print_30 (lv_at hl 0 rfl) ?_
    refine rn_add (a := 7) (b := 1) hx hb dL_print_32 ?_
    refine rn_iald (i := 8) hx hb hK hP 0 0 rfl rfl (by omega) (by omega) dL_print_33 ?_
    refine lv_iload hx hb dL_print_34 (lv_at hl 2 rfl) ?_
    refine lv_iadd hx hb dL_print_36 ?_
    refine lv_sipush (v := nI 999) hx hb dL_print_37 (by decide) ?_
    refine lv_icmp_le (tgt := 46) hx hb dL_print_40 (by decide) (fun c_4 => ?_) (fun c_4 => ?_)
    · refine rn_inc (a := 1) (d := 1) (lv' := [(8, .int (nI 2)), (7, .int (nI 0)), (6, .int ((lFt vf n + (nI 99)) / (nI 100))), (0, .ref aq), (1, .ref af), (2, .ref ad), (3, .ref aw), (4, .ref al), (5, .ref ar)]) hx hb dL_print_46 hl (k := 0) rfl (by decide) (by decide) rfl (fun ls hl => ?_)
      refine lv_goto (tgt := 21) hx hb dL_print_49 (by decide) ?_
      refine lv_iload hx hb dL_print_21 (lv_at hl 0 rfl) ?_
      refine lv_iconst (v := nI 3) hx hb dL_print_23 (by decide) ?_
      refine rn_icmp_ge (a := 2) (b := 3) (tgt := 52) hx hb (by omega) (by omega) dL_print_24 (by decide) (fun c_5 => absurd c_5 (by omega)) (fun c_5 => ?_)
      refine lv_aload_n hx hb dL_print_27 rfl (lv_at hl 3 rfl) ?_
      refine lv_bipush (v := nI 7) hx hb dL_print_28 (by decide) ?_
      refine lv_iload hx hb dL_print_30 (lv_at hl 0 rfl) ?_
      refine rn_add (a := 7) (b := 2) hx hb dL_print_32 ?_
      refine rn_iald (i := 9) hx hb hK hP 0 0 rfl rfl (by omega) (by omega) dL_print_33 ?_
      refine lv_iload hx hb dL_print_34 (lv_at hl 2 rfl) ?_
      refine lv_iadd hx hb dL_print_36 ?_
      refine lv_sipush (v := nI 999) hx hb dL_print_37 (by decide) ?_
      refine lv_icmp_le (tgt := 46) hx hb dL_print_40 (by decide) (fun c_6 => ?_) (fun c_6 => ?_)
      · refine rn_inc (a := 2) (d := 1) (lv' := [(8, .int (nI 3)), (7, .int (nI 0)), (6, .int ((lFt vf n + (nI 99)) / (nI 100))), (0, .ref aq), (1, .ref af), (2, .ref ad), (3, .ref aw), (4, .ref al), (5, .ref ar)]) hx hb dL_print_46 hl (k := 0) rfl (by decide) (by decide) rfl (fun ls hl => ?_)
        refine lv_goto (tgt := 21) hx hb dL_print_49 (by decide) ?_
        refine lv_iload hx hb dL_print_21 (lv_at hl 0 rfl) ?_
        refine lv_iconst (v := nI 3) hx hb dL_print_23 (by decide) ?_
        refine rn_icmp_ge (a := 3) (b := 3) (tgt := 52) hx hb (by omega) (by omega) dL_print_24 (by decide) (fun c_7 => ?_) (fun c_7 => absurd c_7 (by omega))
        refine lv_iconst (v := nI 0) hx hb dL_print_52 (by decide) ?_
        refine lv_istore (lv' := [(8, .int (nI 0)), (7, .int (nI 0)), (6, .int ((lFt vf n + (nI 99)) / (nI 100))), (0, .ref aq), (1, .ref af), (2, .ref ad), (3, .ref aw), (4, .ref al), (5, .ref ar)]) hx hb dL_print_53 hl (by decide) rfl (fun ls hl => ?_)
        have loop55 : ∀ (fuel : Nat) (k : Nat), n - k < fuel → (k ≤ n) → ∀ (H : Heap) (locs : List Loc), va_P E.1 vwCl [(aq, .inl (E.2.1, 13, .inl vq)), (af, .inl (E.2.1, 21, .inl vf)), (ad, .inl (E.2.1, 63, .inl vd)), (aw, .inl (E.2.1, 63, .inl vw)), (al, .inl (E.2.1, 63, .inl vl)), (ar, .inl (E.2.1, 63, .inl (lRp vq vd vw vl vr k)))] H → va_S A s.heap H locs → ∀ ls : Array Slot, lv_has ls 10 [(8, .int (nI k)), (7, .int (lRb vq vd vw vl vr k)), (6, .int ((lFt vf n + (nI 99)) / (nI 100))), (0, .ref aq), (1, .ref af), (2, .ref ad), (3, .ref aw), (4, .ref al), (5, .ref ar)] → W pg l e (rq 2) s m ([.ref aq, .ref af, .ref ad, .ref aw, .ref al, .ref ar] : List Value).toArray below meth c H locs 0 0 Q (F0 m 55 ls []) := by
          intro fuel
          induction fuel with
          | zero => intro k h9; exact absurd h9 (Nat.not_lt_zero _)
          | succ fuel ih55 =>
            intro k hfu55 hk H locs hP hS ls hl
            refine lv_iload hx hb dL_print_55 (lv_at hl 0 rfl) ?_
            refine lv_aload_n hx hb dL_print_57 rfl (lv_at hl 3 rfl) ?_
            refine lv_iconst (v := nI 4) hx hb dL_print_58 (by decide) ?_
            refine rn_iald (i := 4) hx hb hK hP 0 0 rfl rfl (by omega) (by omega) dL_print_59 ?_
            refine W.eq (congrArg (fun z9 => F0 m 60 ls (.int z9 :: [.int (nI k)])) (show vq 4 = nI n from hf)) ?_
            refine rn_icmp_ge (a := k) (b := n) (tgt := 131) hx hb (by omega) (by omega) dL_print_60 (by decide) (fun c_8 => ?_) (fun c_8 => ?_)
            · have hex : n = k := by omega
              subst hex
              refine lv_iconst (v := nI 0) hx hb dL_print_131 (by decide) ?_
              refine lv_istore (lv' := [(8, .int (nI 0)), (7, .int (lRb vq vd vw vl vr n)), (6, .int ((lFt vf n + (nI 99)) / (nI 100))), (0, .ref aq), (1, .ref af), (2, .ref ad), (3, .ref aw), (4, .ref al), (5, .ref ar)]) hx hb dL_print_132 hl (by decide) rfl (fun ls hl => ?_)
              refine lv_iload hx hb dL_print_134 (lv_at hl 0 rfl) ?_
              refine lv_iconst (v := nI 3) hx hb dL_print_136 (by decide) ?_
              refine rn_icmp_ge (a := 0) (b := 3) (tgt := 158) hx hb (by omega) (by omega) dL_print_137 (by decide) (fun c_9 => absurd c_9 (by omega)) (fun c_9 => ?_)
              refine lv_aload_n hx hb dL_print_140 rfl (lv_at hl 3 rfl) ?_
              refine lv_bipush (v := nI 7) hx hb dL_print_141 (by decide) ?_
              refine lv_iload hx hb dL_print_143 (lv_at hl 0 rfl) ?_
              refine rn_add (a := 7) (b := 0) hx hb dL_print_145 ?_
              refine lv_dup2_11 hx hb dL_print_146 rfl rfl ?_
              refine rn_iald (i := 7) hx hb hK hP 0 0 rfl rfl (by omega) (by omega) dL_print_147 ?_
              refine lv_iload hx hb dL_print_148 (lv_at hl 2 rfl) ?_
              refine lv_iadd hx hb dL_print_150 ?_
              refine rn_iast (i := 7) hx hb hK hP (hDa.to rfl) hS 0 0 rfl rfl (by omega) (by omega) dL_print_151 (fun H locs hP _ hS => ?_)
              have hP : va_P E.1 vwCl [(aq, .inl (E.2.1, 13, .inl (upd vq 7 (vq 7 + ((lFt vf n + (nI 99)) / (nI 100)))))), (af, .inl (E.2.1, 21, .inl vf)), (ad, .inl (E.2.1, 63, .inl vd)), (aw, .inl (E.2.1, 63, .inl vw)), (al, .inl (E.2.1, 63, .inl vl)), (ar, .inl (E.2.1, 63, .inl (lRp vq vd vw vl vr n)))] H := hP
              refine rn_inc (a := 0) (d := 1) (lv' := [(8, .int (nI 1)), (7, .int (lRb vq vd vw vl vr n)), (6, .int ((lFt vf n + (nI 99)) / (nI 100))), (0, .ref aq), (1, .ref af), (2, .ref ad), (3, .ref aw), (4, .ref al), (5, .ref ar)]) hx hb dL_print_152 hl (k := 0) rfl (by decide) (by decide) rfl (fun ls hl => ?_)
              refine lv_goto (tgt := 134) hx hb dL_print_155 (by decide) ?_
              refine lv_iload hx hb dL_print_134 (lv_at hl 0 rfl) ?_
              refine lv_iconst (v := nI 3) hx hb dL_print_136 (by decide) ?_
              refine rn_icmp_ge (a := 1) (b := 3) (tgt := 158) hx hb (by omega) (by omega) dL_print_137 (by decide) (fun c_10 => absurd c_10 (by omega)) (fun c_10 => ?_)
              refine lv_aload_n hx hb dL_print_140 rfl (lv_at hl 3 rfl) ?_
              refine lv_bipush (v := nI 7) hx hb dL_print_141 (by decide) ?_
              refine lv_iload hx hb dL_print_143 (lv_at hl 0 rfl) ?_
              refine rn_add (a := 7) (b := 1) hx hb dL_print_145 ?_
              refine lv_dup2_11 hx hb dL_print_146 rfl rfl ?_
              refine rn_iald (i := 8) hx hb hK hP 0 0 rfl rfl (by omega) (by omega) dL_print_147 ?_
              refine lv_iload hx hb dL_print_148 (lv_at hl 2 rfl) ?_
              refine lv_iadd hx hb dL_print_150 ?_
              refine rn_iast (i := 8) hx hb hK hP (hDa.to rfl) hS 0 0 rfl rfl (by omega) (by omega) dL_print_151 (fun H locs hP _ hS => ?_)
              have hP : va_P E.1 vwCl [(aq, .inl (E.2.1, 13, .inl (upd (upd vq 7 (vq 7 + ((lFt vf n + (nI 99)) / (nI 100)))) 8 ((upd vq 7 (vq 7 + ((lFt vf n + (nI 99)) / (nI 100)))) 8 + ((lFt vf n + (nI 99)) / (nI 100)))))), (af, .inl (E.2.1, 21, .inl vf)), (ad, .inl (E.2.1, 63, .inl vd)), (aw, .inl (E.2.1, 63, .inl vw)), (al, .inl (E.2.1, 63, .inl vl)), (ar, .inl (E.2.1, 63, .inl (lRp vq vd vw vl vr n)))] H := hP
              refine rn_inc (a := 1) (d := 1) (lv' := [(8, .int (nI 2)), (7, .int (lRb vq vd vw vl vr n)), (6, .int ((lFt vf n + (nI 99)) / (nI 100))), (0, .ref aq), (1, .ref af), (2, .ref ad), (3, .ref aw), (4, .ref al), (5, .ref ar)]) hx hb dL_print_152 hl (k := 0) rfl (by decide) (by decide) rfl (fun ls hl => ?_)
              refine lv_goto (tgt := 134) hx hb dL_print_155 (by decide) ?_
              refine lv_iload hx hb dL_print_134 (lv_at hl 0 rfl) ?_
              refine lv_iconst (v := nI 3) hx hb dL_print_136 (by decide) ?_
              refine rn_icmp_ge (a := 2) (b := 3) (tgt := 158) hx hb (by omega) (by omega) dL_print_137 (by decide) (fun c_11 => absurd c_11 (by omega)) (fun c_11 => ?_)
              refine lv_aload_n hx hb dL_print_140 rfl (lv_at hl 3 rfl) ?_
              refine lv_bipush (v := nI 7) hx hb dL_print_141 (by decide) ?_
              refine lv_iload hx hb dL_print_143 (lv_at hl 0 rfl) ?_
              refine rn_add (a := 7) (b := 2) hx hb dL_print_145 ?_
              refine lv_dup2_11 hx hb dL_print_146 rfl rfl ?_
              refine rn_iald (i := 9) hx hb hK hP 0 0 rfl rfl (by omega) (by omega) dL_print_147 ?_
              refine lv_iload hx hb dL_print_148 (lv_at hl 2 rfl) ?_
              refine lv_iadd hx hb dL_print_150 ?_
              refine rn_iast (i := 9) hx hb hK hP (hDa.to rfl) hS 0 0 rfl rfl (by omega) (by omega) dL_print_151 (fun H locs hP _ hS => ?_)
              have hP : va_P E.1 vwCl [(aq, .inl (E.2.1, 13, .inl (upd (upd (upd vq 7 (vq 7 + ((lFt vf n + (nI 99)) / (nI 100)))) 8 ((upd vq 7 (vq 7 + ((lFt vf n + (nI 99)) / (nI 100)))) 8 + ((lFt vf n + (nI 99)) / (nI 100)))) 9 ((upd (upd vq 7 (vq 7 + ((lFt vf n + (nI 99)) / (nI 100)))) 8 ((upd vq 7 (vq 7 + ((lFt vf n + (nI 99)) / (nI 100)))) 8 + ((lFt vf n + (nI 99)) / (nI 100)))) 9 + ((lFt vf n + (nI 99)) / (nI 100)))))), (af, .inl (E.2.1, 21, .inl vf)), (ad, .inl (E.2.1, 63, .inl vd)), (aw, .inl (E.2.1, 63, .inl vw)), (al, .inl (E.2.1, 63, .inl vl)), (ar, .inl (E.2.1, 63, .inl (lRp vq vd vw vl vr n)))] H := hP
              refine rn_inc (a := 2) (d := 1) (lv' := [(8, .int (nI 3)), (7, .int (lRb vq vd vw vl vr n)), (6, .int ((lFt vf n + (nI 99)) / (nI 100))), (0, .ref aq), (1, .ref af), (2, .ref ad), (3, .ref aw), (4, .ref al), (5, .ref ar)]) hx hb dL_print_152 hl (k := 0) rfl (by decide) (by decide) rfl (fun ls hl => ?_)
              refine lv_goto (tgt := 134) hx hb dL_print_155 (by decide) ?_
              refine lv_iload hx hb dL_print_134 (lv_at hl 0 rfl) ?_
              refine lv_iconst (v := nI 3) hx hb dL_print_136 (by decide) ?_
              refine rn_icmp_ge (a := 3) (b := 3) (tgt := 158) hx hb (by omega) (by omega) dL_print_137 (by decide) (fun c_12 => ?_) (fun c_12 => absurd c_12 (by omega))
              refine lv_aload_n hx hb dL_print_158 rfl (lv_at hl 3 rfl) ?_
              refine lv_iconst (v := nI 5) hx hb dL_print_159 (by decide) ?_
              refine lv_dup2_11 hx hb dL_print_160 rfl rfl ?_
              refine rn_iald (i := 5) hx hb hK hP 0 0 rfl rfl (by omega) (by omega) dL_print_161 ?_
              refine lv_iconst (v := nI 1) hx hb dL_print_162 (by decide) ?_
              refine lv_iadd hx hb dL_print_163 ?_
              refine rn_iast (i := 5) hx hb hK hP (hDa.to rfl) hS 0 0 rfl rfl (by omega) (by omega) dL_print_164 (fun H locs hP _ hS => ?_)
              have hP : va_P E.1 vwCl [(aq, .inl (E.2.1, 13, .inl (upd (upd (upd (upd vq 7 (vq 7 + ((lFt vf n + (nI 99)) / (nI 100)))) 8 ((upd vq 7 (vq 7 + ((lFt vf n + (nI 99)) / (nI 100)))) 8 + ((lFt vf n + (nI 99)) / (nI 100)))) 9 ((upd (upd vq 7 (vq 7 + ((lFt vf n + (nI 99)) / (nI 100)))) 8 ((upd vq 7 (vq 7 + ((lFt vf n + (nI 99)) / (nI 100)))) 8 + ((lFt vf n + (nI 99)) / (nI 100)))) 9 + ((lFt vf n + (nI 99)) / (nI 100)))) 5 ((upd (upd (upd vq 7 (vq 7 + ((lFt vf n + (nI 99)) / (nI 100)))) 8 ((upd vq 7 (vq 7 + ((lFt vf n + (nI 99)) / (nI 100)))) 8 + ((lFt vf n + (nI 99)) / (nI 100)))) 9 ((upd (upd vq 7 (vq 7 + ((lFt vf n + (nI 99)) / (nI 100)))) 8 ((upd vq 7 (vq 7 + ((lFt vf n + (nI 99)) / (nI 100)))) 8 + ((lFt vf n + (nI 99)) / (nI 100)))) 9 + ((lFt vf n + (nI 99)) / (nI 100)))) 5 + (nI 1))))), (af, .inl (E.2.1, 21, .inl vf)), (ad, .inl (E.2.1, 63, .inl vd)), (aw, .inl (E.2.1, 63, .inl vw)), (al, .inl (E.2.1, 63, .inl vl)), (ar, .inl (E.2.1, 63, .inl (lRp vq vd vw vl vr n)))] H := hP
              refine lv_aload_n hx hb dL_print_165 rfl (lv_at hl 3 rfl) ?_
              refine lv_iconst (v := nI 4) hx hb dL_print_166 (by decide) ?_
              refine rn_iald (i := 4) hx hb hK hP 0 0 rfl rfl (by omega) (by omega) dL_print_167 ?_
              refine W.eq (congrArg (fun z9 => F0 m 168 ls (.int z9 :: [])) (show (upd (upd (upd (upd vq 7 (vq 7 + ((lFt vf n + (nI 99)) / (nI 100)))) 8 ((upd vq 7 (vq 7 + ((lFt vf n + (nI 99)) / (nI 100)))) 8 + ((lFt vf n + (nI 99)) / (nI 100)))) 9 ((upd (upd vq 7 (vq 7 + ((lFt vf n + (nI 99)) / (nI 100)))) 8 ((upd vq 7 (vq 7 + ((lFt vf n + (nI 99)) / (nI 100)))) 8 + ((lFt vf n + (nI 99)) / (nI 100)))) 9 + ((lFt vf n + (nI 99)) / (nI 100)))) 5 ((upd (upd (upd vq 7 (vq 7 + ((lFt vf n + (nI 99)) / (nI 100)))) 8 ((upd vq 7 (vq 7 + ((lFt vf n + (nI 99)) / (nI 100)))) 8 + ((lFt vf n + (nI 99)) / (nI 100)))) 9 ((upd (upd vq 7 (vq 7 + ((lFt vf n + (nI 99)) / (nI 100)))) 8 ((upd vq 7 (vq 7 + ((lFt vf n + (nI 99)) / (nI 100)))) 8 + ((lFt vf n + (nI 99)) / (nI 100)))) 9 + ((lFt vf n + (nI 99)) / (nI 100)))) 5 + (nI 1))) 4 = nI n from ((pk_un (by omega)).trans ((pk_un (by omega)).trans ((pk_un (by omega)).trans ((pk_un (by omega)).trans hf)))))) ?_
              refine rn_if_ne (a := n) (tgt := 176) hx hb (by omega) dL_print_168 (by decide) (fun c_13 => ?_) (fun c_13 => absurd c_13 (by omega))
              refine lv_iload hx hb dL_print_176 (lv_at hl 1 rfl) ?_
              exact hret _ _ _ _ _ _ (by rw [lPv, if_pos c_2, if_pos c_4, if_pos c_6]) (by rw [show lPq vq vf vd vw vl vr n = upd (upd (upd (upd vq 7 (vq 7 + ((lFt vf n + (nI 99)) / (nI 100)))) 8 ((upd vq 7 (vq 7 + ((lFt vf n + (nI 99)) / (nI 100)))) 8 + ((lFt vf n + (nI 99)) / (nI 100)))) 9 ((upd (upd vq 7 (vq 7 + ((lFt vf n + (nI 99)) / (nI 100)))) 8 ((upd vq 7 (vq 7 + ((lFt vf n + (nI 99)) / (nI 100)))) 8 + ((lFt vf n + (nI 99)) / (nI 100)))) 9 + ((lFt vf n + (nI 99)) / (nI 100)))) 5 ((upd (upd (upd vq 7 (vq 7 + ((lFt vf n + (nI 99)) / (nI 100)))) 8 ((upd vq 7 (vq 7 + ((lFt vf n + (nI 99)) / (nI 100)))) 8 + ((lFt vf n + (nI 99)) / (nI 100)))) 9 ((upd (upd vq 7 (vq 7 + ((lFt vf n + (nI 99)) / (nI 100)))) 8 ((upd vq 7 (vq 7 + ((lFt vf n + (nI 99)) / (nI 100)))) 8 + ((lFt vf n + (nI 99)) / (nI 100)))) 9 + ((lFt vf n + (nI 99)) / (nI 100)))) 5 + (nI 1)) from by rw [lPq, if_pos c_2, if_pos c_4, if_pos c_6], show lPrr vq vf vd vw vl vr n = lRp vq vd vw vl vr n from by rw [lPrr, if_pos c_2, if_pos c_4, if_pos c_6]]) rfl hP hS dL_print_178
            · refine lv_iconst (v := nI 0) hx hb dL_print_63 (by decide) ?_
              refine lv_istore (lv' := [(9, .int (nI 0)), (8, .int (nI k)), (7, .int (lRb vq vd vw vl vr k)), (6, .int ((lFt vf n + (nI 99)) / (nI 100))), (0, .ref aq), (1, .ref af), (2, .ref ad), (3, .ref aw), (4, .ref al), (5, .ref ar)]) hx hb dL_print_64 hl (by decide) rfl (fun ls hl => ?_)
              refine lv_iload hx hb dL_print_66 (lv_at hl 0 rfl) ?_
              refine lv_iconst (v := nI 3) hx hb dL_print_68 (by decide) ?_
              refine rn_icmp_ge (a := 0) (b := 3) (tgt := 104) hx hb (by omega) (by omega) dL_print_69 (by decide) (fun c_14 => absurd c_14 (by omega)) (fun c_14 => ?_)
              refine lv_aload hx hb dL_print_72 (lv_at hl 9 rfl) ?_
              refine lv_iconst (v := nI 3) hx hb dL_print_74 (by decide) ?_
              refine lv_iload hx hb dL_print_75 (lv_at hl 1 rfl) ?_
              refine rn_mul (a := 3) (b := k) hx hb dL_print_77 ?_
              refine lv_iload hx hb dL_print_78 (lv_at hl 0 rfl) ?_
              refine rn_add (a := 3 * k) (b := 0) hx hb dL_print_80 ?_
              refine lv_sipush (v := nI 1000) hx hb dL_print_81 (by decide) ?_
              refine lv_iload hx hb dL_print_84 (lv_at hl 1 rfl) ?_
              refine lv_iload hx hb dL_print_86 (lv_at hl 0 rfl) ?_
              refine lv_aload_n hx hb dL_print_88 rfl (lv_at hl 4 rfl) ?_
              refine lv_aload_n hx hb dL_print_89 rfl (lv_at hl 6 rfl) ?_
              refine lv_aload_n hx hb dL_print_90 rfl (lv_at hl 7 rfl) ?_
              refine lv_aload hx hb dL_print_91 (lv_at hl 8 rfl) ?_
              refine rwS6 (rest := [.int (nI 1000), .int (nI (3 * k + 0)), .ref ar]) S (c_L_off l E k 0 aq ad aw al vq vd vw vl (by omega) (by omega)) cd_L_off bw_404 ⟨Nat.le_of_ble_eq_true rfl, Nat.le_of_ble_eq_true rfl⟩ ⟨Nat.zero_le _, Nat.zero_le _⟩ hP (hDa.to rfl) hE hA hS [0, 2, 3, 4] rfl rfl [aq, ad, aw, al] rfl rfl (Nat.le_of_ble_eq_true rfl) hl.1 dL_print_93 (fun H locs hP _ hS => ?_)
              have hP : va_P E.1 vwCl [(aq, .inl (E.2.1, 13, .inl vq)), (af, .inl (E.2.1, 21, .inl vf)), (ad, .inl (E.2.1, 63, .inl vd)), (aw, .inl (E.2.1, 63, .inl vw)), (al, .inl (E.2.1, 63, .inl vl)), (ar, .inl (E.2.1, 63, .inl (lRp vq vd vw vl vr k)))] H := hP
              refine lv_iadd hx hb dL_print_96 ?_
              refine rn_iast (i := 3 * k + 0) hx hb hK hP (hDa.to rfl) hS 5 0 rfl rfl (by omega) (by omega) dL_print_97 (fun H locs hP _ hS => ?_)
              have hP : va_P E.1 vwCl [(aq, .inl (E.2.1, 13, .inl vq)), (af, .inl (E.2.1, 21, .inl vf)), (ad, .inl (E.2.1, 63, .inl vd)), (aw, .inl (E.2.1, 63, .inl vw)), (al, .inl (E.2.1, 63, .inl vl)), (ar, .inl (E.2.1, 63, .inl (upd (lRp vq vd vw vl vr k) (3 * k + 0) (nI 1000 + (lOf vq vd vw vl k 0)))))] H := hP
              refine rn_inc (a := 0) (d := 1) (lv' := [(9, .int (nI 1)), (8, .int (nI k)), (7, .int (lRb vq vd vw vl vr k)), (6, .int ((lFt vf n + (nI 99)) / (nI 100))), (0, .ref aq), (1, .ref af), (2, .ref ad), (3, .ref aw), (4, .ref al), (5, .ref ar)]) hx hb dL_print_98 hl (k := 0) rfl (by decide) (by decide) rfl (fun ls hl => ?_)
              refine lv_goto (tgt := 66) hx hb dL_print_101 (by decide) ?_
              refine lv_iload hx hb dL_print_66 (lv_at hl 0 rfl) ?_
              refine lv_iconst (v := nI 3) hx hb dL_print_68 (by decide) ?_
              refine rn_icmp_ge (a := 1) (b := 3) (tgt := 104) hx hb (by omega) (by omega) dL_print_69 (by decide) (fun c_15 => absurd c_15 (by omega)) (fun c_15 => ?_)
              refine lv_aload hx hb dL_print_72 (lv_at hl 9 rfl) ?_
              refine lv_iconst (v := nI 3) hx hb dL_print_74 (by decide) ?_
              refine lv_iload hx hb dL_print_75 (lv_at hl 1 rfl) ?_
              refine rn_mul (a := 3) (b := k) hx hb dL_print_77 ?_
              refine lv_iload hx hb dL_print_78 (lv_at hl 0 rfl) ?_
              refine rn_add (a := 3 * k) (b := 1) hx hb dL_print_80 ?_
              refine lv_sipush (v := nI 1000) hx hb dL_print_81 (by decide) ?_
              refine lv_iload hx hb dL_print_84 (lv_at hl 1 rfl) ?_
              refine lv_iload hx hb dL_print_86 (lv_at hl 0 rfl) ?_
              refine lv_aload_n hx hb dL_print_88 rfl (lv_at hl 4 rfl) ?_
              refine lv_aload_n hx hb dL_print_89 rfl (lv_at hl 6 rfl) ?_
              refine lv_aload_n hx hb dL_print_90 rfl (lv_at hl 7 rfl) ?_
              refine lv_aload hx hb dL_print_91 (lv_at hl 8 rfl) ?_
              refine rwS6 (rest := [.int (nI 1000), .int (nI (3 * k + 1)), .ref ar]) S (c_L_off l E k 1 aq ad aw al vq vd vw vl (by omega) (by omega)) cd_L_off bw_404 ⟨Nat.le_of_ble_eq_true rfl, Nat.le_of_ble_eq_true rfl⟩ ⟨Nat.zero_le _, Nat.zero_le _⟩ hP (hDa.to rfl) hE hA hS [0, 2, 3, 4] rfl rfl [aq, ad, aw, al] rfl rfl (Nat.le_of_ble_eq_true rfl) hl.1 dL_print_93 (fun H locs hP _ hS => ?_)
              have hP : va_P E.1 vwCl [(aq, .inl (E.2.1, 13, .inl vq)), (af, .inl (E.2.1, 21, .inl vf)), (ad, .inl (E.2.1, 63, .inl vd)), (aw, .inl (E.2.1, 63, .inl vw)), (al, .inl (E.2.1, 63, .inl vl)), (ar, .inl (E.2.1, 63, .inl (upd (lRp vq vd vw vl vr k) (3 * k + 0) (nI 1000 + (lOf vq vd vw vl k 0)))))] H := hP
              refine lv_iadd hx hb dL_print_96 ?_
              refine rn_iast (i := 3 * k + 1) hx hb hK hP (hDa.to rfl) hS 5 0 rfl rfl (by omega) (by omega) dL_print_97 (fun H locs hP _ hS => ?_)
              have hP : va_P E.1 vwCl [(aq, .inl (E.2.1, 13, .inl vq)), (af, .inl (E.2.1, 21, .inl vf)), (ad, .inl (E.2.1, 63, .inl vd)), (aw, .inl (E.2.1, 63, .inl vw)), (al, .inl (E.2.1, 63, .inl vl)), (ar, .inl (E.2.1, 63, .inl (upd (upd (lRp vq vd vw vl vr k) (3 * k + 0) (nI 1000 + (lOf vq vd vw vl k 0))) (3 * k + 1) (nI 1000 + (lOf vq vd vw vl k 1)))))] H := hP
              refine rn_inc (a := 1) (d := 1) (lv' := [(9, .int (nI 2)), (8, .int (nI k)), (7, .int (lRb vq vd vw vl vr k)), (6, .int ((lFt vf n + (nI 99)) / (nI 100))), (0, .ref aq), (1, .ref af), (2, .ref ad), (3, .ref aw), (4, .ref al), (5, .ref ar)]) hx hb dL_print_98 hl (k := 0) rfl (by decide) (by decide) rfl (fun ls hl => ?_)
              refine lv_goto (tgt := 66) hx hb dL_print_101 (by decide) ?_
              refine lv_iload hx hb dL_print_66 (lv_at hl 0 rfl) ?_
              refine lv_iconst (v := nI 3) hx hb dL_print_68 (by decide) ?_
              refine rn_icmp_ge (a := 2) (b := 3) (tgt := 104) hx hb (by omega) (by omega) dL_print_69 (by decide) (fun c_16 => absurd c_16 (by omega)) (fun c_16 => ?_)
              refine lv_aload hx hb dL_print_72 (lv_at hl 9 rfl) ?_
              refine lv_iconst (v := nI 3) hx hb dL_print_74 (by decide) ?_
              refine lv_iload hx hb dL_print_75 (lv_at hl 1 rfl) ?_
              refine rn_mul (a := 3) (b := k) hx hb dL_print_77 ?_
              refine lv_iload hx hb dL_print_78 (lv_at hl 0 rfl) ?_
              refine rn_add (a := 3 * k) (b := 2) hx hb dL_print_80 ?_
              refine lv_sipush (v := nI 1000) hx hb dL_print_81 (by decide) ?_
              refine lv_iload hx hb dL_print_84 (lv_at hl 1 rfl) ?_
              refine lv_iload hx hb dL_print_86 (lv_at hl 0 rfl) ?_
              refine lv_aload_n hx hb dL_print_88 rfl (lv_at hl 4 rfl) ?_
              refine lv_aload_n hx hb dL_print_89 rfl (lv_at hl 6 rfl) ?_
              refine lv_aload_n hx hb dL_print_90 rfl (lv_at hl 7 rfl) ?_
              refine lv_aload hx hb dL_print_91 (lv_at hl 8 rfl) ?_
              refine rwS6 (rest := [.int (nI 1000), .int (nI (3 * k + 2)), .ref ar]) S (c_L_off l E k 2 aq ad aw al vq vd vw vl (by omega) (by omega)) cd_L_off bw_404 ⟨Nat.le_of_ble_eq_true rfl, Nat.le_of_ble_eq_true rfl⟩ ⟨Nat.zero_le _, Nat.zero_le _⟩ hP (hDa.to rfl) hE hA hS [0, 2, 3, 4] rfl rfl [aq, ad, aw, al] rfl rfl (Nat.le_of_ble_eq_true rfl) hl.1 dL_print_93 (fun H locs hP _ hS => ?_)
              have hP : va_P E.1 vwCl [(aq, .inl (E.2.1, 13, .inl vq)), (af, .inl (E.2.1, 21, .inl vf)), (ad, .inl (E.2.1, 63, .inl vd)), (aw, .inl (E.2.1, 63, .inl vw)), (al, .inl (E.2.1, 63, .inl vl)), (ar, .inl (E.2.1, 63, .inl (upd (upd (lRp vq vd vw vl vr k) (3 * k + 0) (nI 1000 + (lOf vq vd vw vl k 0))) (3 * k + 1) (nI 1000 + (lOf vq vd vw vl k 1)))))] H := hP
              refine lv_iadd hx hb dL_print_96 ?_
              refine rn_iast (i := 3 * k + 2) hx hb hK hP (hDa.to rfl) hS 5 0 rfl rfl (by omega) (by omega) dL_print_97 (fun H locs hP _ hS => ?_)
              have hP : va_P E.1 vwCl [(aq, .inl (E.2.1, 13, .inl vq)), (af, .inl (E.2.1, 21, .inl vf)), (ad, .inl (E.2.1, 63, .inl vd)), (aw, .inl (E.2.1, 63, .inl vw)), (al, .inl (E.2.1, 63, .inl vl)), (ar, .inl (E.2.1, 63, .inl (upd (upd (upd (lRp vq vd vw vl vr k) (3 * k + 0) (nI 1000 + (lOf vq vd vw vl k 0))) (3 * k + 1) (nI 1000 + (lOf vq vd vw vl k 1))) (3 * k + 2) (nI 1000 + (lOf vq vd vw vl k 2)))))] H := hP
              refine rn_inc (a := 2) (d := 1) (lv' := [(9, .int (nI 3)), (8, .int (nI k)), (7, .int (lRb vq vd vw vl vr k)), (6, .int ((lFt vf n + (nI 99)) / (nI 100))), (0, .ref aq), (1, .ref af), (2, .ref ad), (3, .ref aw), (4, .ref al), (5, .ref ar)]) hx hb dL_print_98 hl (k := 0) rfl (by decide) (by decide) rfl (fun ls hl => ?_)
              refine lv_goto (tgt := 66) hx hb dL_print_101 (by decide) ?_
              refine lv_iload hx hb dL_print_66 (lv_at hl 0 rfl) ?_
              refine lv_iconst (v := nI 3) hx hb dL_print_68 (by decide) ?_
              refine rn_icmp_ge (a := 3) (b := 3) (tgt := 104) hx hb (by omega) (by omega) dL_print_69 (by decide) (fun c_17 => ?_) (fun c_17 => absurd c_17 (by omega))
              have hP : va_P E.1 vwCl [(aq, .inl (E.2.1, 13, .inl vq)), (af, .inl (E.2.1, 21, .inl vf)), (ad, .inl (E.2.1, 63, .inl vd)), (aw, .inl (E.2.1, 63, .inl vw)), (al, .inl (E.2.1, 63, .inl vl)), (ar, .inl (E.2.1, 63, .inl (lRs vq vd vw vl (lRp vq vd vw vl vr k) k)))] H := hP
              refine lv_iload hx hb dL_print_104 (lv_at hl 2 rfl) ?_
              refine lv_iload hx hb dL_print_106 (lv_at hl 1 rfl) ?_
              refine lv_aload_n hx hb dL_print_108 rfl (lv_at hl 4 rfl) ?_
              refine lv_aload hx hb dL_print_109 (lv_at hl 9 rfl) ?_
              refine rwS3 (rest := [.int (lRb vq vd vw vl vr k)]) S (c_L_isBad l E k aq ar vq (lRs vq vd vw vl (lRp vq vd vw vl vr k) k) (by omega)) cd_L_isBad bw_410 ⟨Nat.le_of_ble_eq_true rfl, Nat.le_of_ble_eq_true rfl⟩ ⟨Nat.zero_le _, Nat.zero_le _⟩ hP (hDa.to rfl) hE hA hS [0, 5] rfl rfl [aq, ar] rfl rfl (Nat.le_of_ble_eq_true rfl) hl.1 dL_print_111 (fun H locs hP _ hS => ?_)
              have hP : va_P E.1 vwCl [(aq, .inl (E.2.1, 13, .inl vq)), (af, .inl (E.2.1, 21, .inl vf)), (ad, .inl (E.2.1, 63, .inl vd)), (aw, .inl (E.2.1, 63, .inl vw)), (al, .inl (E.2.1, 63, .inl vl)), (ar, .inl (E.2.1, 63, .inl (lRs vq vd vw vl (lRp vq vd vw vl vr k) k)))] H := hP
              refine lv_if_eq (tgt := 121) hx hb dL_print_114 (by decide) (fun c_18 => ?_) (fun c_18 => ?_)
              · refine lv_iconst (v := nI 0) hx hb dL_print_121 (by decide) ?_
                refine lv_iadd hx hb dL_print_122 ?_
                refine lv_istore (lv' := [(7, .int (lRb vq vd vw vl vr k + (nI 0))), (9, .int (nI 3)), (8, .int (nI k)), (6, .int ((lFt vf n + (nI 99)) / (nI 100))), (0, .ref aq), (1, .ref af), (2, .ref ad), (3, .ref aw), (4, .ref al), (5, .ref ar)]) hx hb dL_print_123 hl (by decide) rfl (fun ls hl => ?_)
                refine rn_inc (a := k) (d := 1) (lv' := [(8, .int (nI (k + 1))), (7, .int (lRb vq vd vw vl vr k + (nI 0))), (9, .int (nI 3)), (6, .int ((lFt vf n + (nI 99)) / (nI 100))), (0, .ref aq), (1, .ref af), (2, .ref ad), (3, .ref aw), (4, .ref al), (5, .ref ar)]) hx hb dL_print_125 hl (k := 2) rfl (by decide) (by decide) rfl (fun ls hl => ?_)
                refine lv_goto (tgt := 55) hx hb dL_print_128 (by decide) ?_
                have hP : va_P E.1 vwCl [(aq, .inl (E.2.1, 13, .inl vq)), (af, .inl (E.2.1, 21, .inl vf)), (ad, .inl (E.2.1, 63, .inl vd)), (aw, .inl (E.2.1, 63, .inl vw)), (al, .inl (E.2.1, 63, .inl vl)), (ar, .inl (E.2.1, 63, .inl (lRp vq vd vw vl vr (k + 1))))] H := by rw [lRp_s]; exact hP
                have hl : lv_has ls 10 [(8, .int (nI (k + 1))), (7, .int (lRb vq vd vw vl vr k + (nI 0))), (6, .int ((lFt vf n + (nI 99)) / (nI 100))), (0, .ref aq), (1, .ref af), (2, .ref ad), (3, .ref aw), (4, .ref al), (5, .ref ar)] := lv_sub hl [0, 1, 3, 4, 5, 6, 7, 8, 9] rfl
                have hl : lv_has ls 10 [(8, .int (nI (k + 1))), (7, .int (lRb vq vd vw vl vr (k + 1))), (6, .int ((lFt vf n + (nI 99)) / (nI 100))), (0, .ref aq), (1, .ref af), (2, .ref ad), (3, .ref aw), (4, .ref al), (5, .ref ar)] := by first | (rw [lRb_p c_18]; exact hl) | (rw [lRb_n c_18]; exact hl)
                exact ih55 (k + 1) (by omega) (by omega) _ _ hP hS _ hl
              · refine lv_iconst (v := nI 1) hx hb dL_print_117 (by decide) ?_
                refine lv_goto (tgt := 122) hx hb dL_print_118 (by decide) ?_
                refine lv_iadd hx hb dL_print_122 ?_
                refine lv_istore (lv' := [(7, .int (lRb vq vd vw vl vr k + (nI 1))), (9, .int (nI 3)), (8, .int (nI k)), (6, .int ((lFt vf n + (nI 99)) / (nI 100))), (0, .ref aq), (1, .ref af), (2, .ref ad), (3, .ref aw), (4, .ref al), (5, .ref ar)]) hx hb dL_print_123 hl (by decide) rfl (fun ls hl => ?_)
                refine rn_inc (a := k) (d := 1) (lv' := [(8, .int (nI (k + 1))), (7, .int (lRb vq vd vw vl vr k + (nI 1))), (9, .int (nI 3)), (6, .int ((lFt vf n + (nI 99)) / (nI 100))), (0, .ref aq), (1, .ref af), (2, .ref ad), (3, .ref aw), (4, .ref al), (5, .ref ar)]) hx hb dL_print_125 hl (k := 2) rfl (by decide) (by decide) rfl (fun ls hl => ?_)
                refine lv_goto (tgt := 55) hx hb dL_print_128 (by decide) ?_
                have hP : va_P E.1 vwCl [(aq, .inl (E.2.1, 13, .inl vq)), (af, .inl (E.2.1, 21, .inl vf)), (ad, .inl (E.2.1, 63, .inl vd)), (aw, .inl (E.2.1, 63, .inl vw)), (al, .inl (E.2.1, 63, .inl vl)), (ar, .inl (E.2.1, 63, .inl (lRp vq vd vw vl vr (k + 1))))] H := by rw [lRp_s]; exact hP
                have hl : lv_has ls 10 [(8, .int (nI (k + 1))), (7, .int (lRb vq vd vw vl vr k + (nI 1))), (6, .int ((lFt vf n + (nI 99)) / (nI 100))), (0, .ref aq), (1, .ref af), (2, .ref ad), (3, .ref aw), (4, .ref al), (5, .ref ar)] := lv_sub hl [0, 1, 3, 4, 5, 6, 7, 8, 9] rfl
                have hl : lv_has ls 10 [(8, .int (nI (k + 1))), (7, .int (lRb vq vd vw vl vr (k + 1))), (6, .int ((lFt vf n + (nI 99)) / (nI 100))), (0, .ref aq), (1, .ref af), (2, .ref ad), (3, .ref aw), (4, .ref al), (5, .ref ar)] := by first | (rw [lRb_p c_18]; exact hl) | (rw [lRb_n c_18]; exact hl)
                exact ih55 (k + 1) (by omega) (by omega) _ _ hP hS _ hl
        have hP : va_P E.1 vwCl [(aq, .inl (E.2.1, 13, .inl vq)), (af, .inl (E.2.1, 21, .inl vf)), (ad, .inl (E.2.1, 63, .inl vd)), (aw, .inl (E.2.1, 63, .inl vw)), (al, .inl (E.2.1, 63, .inl vl)), (ar, .inl (E.2.1, 63, .inl (lRp vq vd vw vl vr 0)))] H := by exact hP
        have hl : lv_has ls 10 [(8, .int (nI 0)), (7, .int (lRb vq vd vw vl vr 0)), (6, .int ((lFt vf n + (nI 99)) / (nI 100))), (0, .ref aq), (1, .ref af), (2, .ref ad), (3, .ref aw), (4, .ref al), (5, .ref ar)] := lv_sub hl [0, 1, 2, 3, 4, 5, 6, 7, 8] rfl
        exact loop55 _ 0 (Nat.lt_succ_self _) (by omega) _ _ hP hS _ hl
      · refine lv_bipush (v := (-5)) hx hb dL_print_43 (by decide) ?_
        exact hret _ _ _ _ _ _ (by rw [lPv, if_pos c_2, if_pos c_4, if_neg c_6]) (by rw [show lPq vq vf vd vw vl vr n = vq from by rw [lPq, if_pos c_2, if_pos c_4, if_neg c_6], show lPrr vq vf vd vw vl vr n = vr from by rw [lPrr, if_pos c_2, if_pos c_4, if_neg c_6]]) rfl hP hS dL_print_45
    · refine lv_bipush (v := (-5)) hx hb dL_print_43 (by decide) ?_
      exact hret _ _ _ _ _ _ (by rw [lPv, if_pos c_2, if_neg c_4]) (by rw [show lPq vq vf vd vw vl vr n = vq from by rw [lPq, if_pos c_2, if_neg c_4], show lPrr vq vf vd vw vl vr n = vr from by rw [lPrr, if_pos c_2, if_neg c_4]]) rfl hP hS dL_print_45
  · refine lv_bipush (v := (-5)) hx hb dL_print_43 (by decide) ?_
    exact hret _ _ _ _ _ _ (by rw [lPv, if_neg c_2]) (by rw [show lPq vq vf vd vw vl vr n = vq from by rw [lPq, if_neg c_2], show lPrr vq vf vd vw vl vr n = vr from by rw [lPrr, if_neg c_2]]) rfl hP hS dL_print_45

