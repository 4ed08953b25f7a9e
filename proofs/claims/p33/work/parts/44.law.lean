/-! the law's body, piece by piece -/
def ceV (xs : Nat → Int32) (LL k : Nat) : Int32 := if k < LL then xs k else 41351 * (nI (k + 9)) + 2789213
theorem cd_L_cell : cdS yL_cell cL_cell 2 (some .int) 2 := ⟨⟨bw_137, bw_1, by decide, by decide, by decide +kernel⟩, bw_136⟩
theorem lw_sld {p : Program} {l : Launch} {e : Env} {R : Room} {s : State} {m : MethodId} {args : Array Value} {below : List Frame} {meth : Method} {c : Code} {H : Heap} {locs : List Loc} {cells slots : Nat} {Q : State → Prop} {cc : ByteArray} {pc : Nat} {ls : Array Slot} {rest : List Value} {A : Nat → Prop}
    (hx : p.tables.exec = Jvm.exec) (hb : c.code = cc) {b LL : Nat} {xs : Nat → Int32} (hX : va_X b LL xs s s.heap) (hbl : b < s.heap.size) (hbA : ¬ A b) (hS : va_S A s.heap H locs) {k : Nat} (hk : k < LL) (hL : LL ≤ 260) (hdg : decode cc pc = .ok (.iaload, 1))
    (kk : W p l e R s m args below meth c H locs cells slots Q (F0 m (pc + 1) ls (.int (xs k) :: rest))) : W p l e R s m args below meth c H locs cells slots Q (F0 m pc ls (.int (nI k) :: .ref b :: rest)) :=
  va_sld hx hb hX hbl hbA hS (vp_in_nI hk (by omega)) hdg (by rw [nI_clamp (by omega)]; exact kk)
theorem c_L_cell (l : Launch) (b LL : Nat) (xs : Nat → Int32) (k : Nat) (hk : k < 1000) (hL : LL ≤ 260) : rcX l yL_cell cL_cell 2 b LL xs (nI k) (ceV xs LL k) := by
  refine rcX_of (by decide) (Nat.le_of_ble_eq_true rfl) ?_
  intro p e s m below meth c Q A ls S hX hbl hbA hl hret
  have hx := S.1
  have hb := S.2.1
  have hown := S.2.2.2.1
  have hts := S.2.2.2.2
  have hS : va_S A s.heap s.heap [] := va_S.rf
  have hl : lv_has ls 2 [(0, .ref b), (1, .int (nI k))] := hl
  refine lv_iload_n hx hb dL_cell_0 rfl (lv_at hl 1 rfl) ?_
  refine lv_aload_n hx hb dL_cell_1 rfl (lv_at hl 0 rfl) ?_
  refine va_slen hx hb hX hbl hbA hS dL_cell_2 ?_
  refine rn_icmp_ge (a := k) (b := LL) (tgt := 12) hx hb (by omega) (by omega) dL_cell_3 (by decide) (fun c1 => ?_) (fun c1 => ?_)
  · refine lv_ldc (own := RL) (v := 41351) hx hb hown (hts _ bw_138) dL_cell_12 ?_
    refine lv_iload_n hx hb dL_cell_14 rfl (lv_at hl 1 rfl) ?_
    refine lv_bipush (v := nI 9) hx hb dL_cell_15 (by decide) ?_
    refine rn_add (a := k) (b := 9) hx hb dL_cell_17 ?_
    refine lv_imul hx hb dL_cell_18 ?_
    refine lv_ldc (own := RL) (v := 2789213) hx hb hown (hts _ bw_139) dL_cell_19 ?_
    refine lv_iadd hx hb dL_cell_21 ?_
    exact hret _ _ _ (by rw [ceV, if_neg (by omega)]) dL_cell_22
  · refine lv_aload_n hx hb dL_cell_6 rfl (lv_at hl 0 rfl) ?_
    refine lv_iload_n hx hb dL_cell_7 rfl (lv_at hl 1 rfl) ?_
    refine lw_sld hx hb hX hbl hbA hS (show k < LL by omega) hL dL_cell_8 ?_
    refine lv_goto (tgt := 22) hx hb dL_cell_9 (by decide) ?_
    exact hret _ _ _ (by rw [ceV, if_pos (by omega)]) dL_cell_22
theorem lcmp_rf (x : Int64) : lg_cmp x x = nI 0 := by
  unfold lg_cmp
  rw [if_neg (show ¬ x > x by simp only [gt_iff_lt, Int64.lt_iff_toInt_lt]; omega), if_pos rfl]; exact nI_0.symm
theorem va_ext {D : va_G} {cl : List vw_C} {w : va_W} {H : Heap} {qq a : Nat} {cA : ClassId} {NN : Nat} {f g : Nat → Int32} (hP : va_P D cl w H) (hq : w[qq]? = some (a, .inl (cA, NN, .inl f))) (h : ∀ k, k < NN → f k = g k) : va_P D cl (w.set qq (a, .inl (cA, NN, .inl g))) H := by
  have e : vp_cell cA (NN, .inl f) = vp_cell cA (NN, .inl g) := by
    show arrV cA NN (fun j => .int (f j)) = arrV cA NN (fun j => .int (g j))
    unfold arrV
    congr 1
    congr 1
    funext j
    show Value.int (f j.val) = Value.int (g j.val)
    rw [h j.val j.isLt]
  intro k x hk
  rw [List.getElem?_set] at hk
  by_cases c : qq = k
  · subst c
    rw [if_pos rfl] at hk
    have hl : qq < w.length := (List.getElem?_eq_some_iff.mp hq).1
    rw [if_pos hl] at hk
    cases hk
    have := hP qq _ hq
    show H[a]? = some (vp_cell cA (NN, .inl g))
    rw [← e]; exact this
  · rw [if_neg c] at hk
    exact hP k x hk
theorem hiO_lt {o z : Nat} (h : o < 6) : hiO o z < 6 := by
  unfold hiO; split <;> omega
theorem hiZ_le {z : Nat} (h : z ≤ 6) : hiZ z ≤ 6 := by
  unfold hiZ; split <;> omega
theorem recO_lt {v : Int32} {o z : Nat} (h : o < 6) : recO v o z < 6 := by
  unfold recO; split
  · exact h
  · exact hiO_lt h
theorem recZ_le {v : Int32} {z : Nat} (h : z ≤ 6) : recZ v z ≤ 6 := by
  unfold recZ; split
  · exact h
  · exact hiZ_le h
theorem un_ok {v : Int32} {z : Nat} (hv : ¬ v < 0) (hz : z ≤ 6) : ¬ unV (recZ v z) < 0 := by
  have h1 : 0 < hiZ z := by unfold hiZ; split <;> omega
  have h2 := hiZ_le hz
  unfold unV recZ
  rw [if_neg hv, if_neg (show ¬ hiZ z = 0 by omega)]
  exact nI_pos (by omega)
/-- what is undone is as it was -/
theorem un_e {v : Int32} {f f' fb h : Nat → Int32} {o z : Nat} (hv : ¬ v < 0) (ho : o < 6) (hz : z ≤ 6) : ∀ k, k < 293 → unF f' (recH v (cp293 f fb) h o z) (recO v o z) (recZ v z) k = f k := by
  intro k hk
  have h1 : 0 < hiZ z := by unfold hiZ; split <;> omega
  have e9 : (hiO o z + (hiZ z - 1)) % 6 = (o + z) % 6 := by
    unfold hiO hiZ
    split <;> omega
  unfold unF recH recO recZ
  rw [if_neg hv, if_neg hv, if_neg hv, if_neg (show ¬ hiZ z = 0 by omega), e9]
  rw [pk_cpy_in (by omega) (by omega), pk_cpy_in (by omega) (by omega)]
  unfold cp293
  rw [pk_cpy_in (by omega) (by omega)]
  exact congrArg f (by omega)
section LAW
variable {p : Program} {l : Launch} {e : Env} {s : State} {m : MethodId} {below : List Frame} {meth : Method} {c : Code} {Q : State → Prop} {E : EV} {A : Nat → Prop} {b9 i cells slots : Nat}
variable {xo r rc r2 rc2 r3 rc3 d ch nu y q w q2 w2 aq af ad aw al ar : Nat}
variable {ft t0 u0 sl : Nat → Int32}
set_option maxHeartbeats 4000000 in
set_option maxRecDepth 100000 in
theorem lw_kind (S : CallFix p m c code 17 s #[Value.ref b9] bw RL) (hE : en E A s s.heap) (hA : ∀ q, s.heap.size ≤ q → A q) (hcs : cells ≤ room_1.cells ∧ slots ≤ room_1.slots) (hDa : va_Da A [xo, r, rc, r2, rc2, r3, rc3, d, ch, nu, y, q, w, q2, w2, aq, af, ad, aw, al, ar]) (f : Nat → Int32) (fb : Nat → Int32) (o : Nat) (z : Nat) (h : Nat → Int32) (vq : Nat → Int32) (vf : Nat → Int32) (vd : Nat → Int32) (vw : Nat → Int32) (vl : Nat → Int32) (vr : Nat → Int32) (xx : Int32) (yy : Int32) (hi : i < 44) (hk : ∀ kd : Nat, kd < 14 → ∀ (H : Heap) (locs : List Loc), va_P E.1 vwCl [(xo, .inr (4, [.ref r, .ref r2, .ref r3, .ref d, .ref y, .ref q2, .int (nI 0)])), (r, .inr (2, [.ref rc])), (rc, .inl (E.2.1, 293, .inl f)), (r2, .inr (2, [.ref rc2])), (rc2, .inl (E.2.1, 293, .inl fb)), (r3, .inr (2, [.ref rc3])), (rc3, .inl (E.2.1, 293, .inl ft)), (d, .inr (1, [.ref ch, .ref nu, .int (nI 0), .int (nI 0), .int (nI 0), .int (nI 0), .int (nI 0), .int (nI 0)])), (ch, .inl (E.2.2.1, 80, .inl t0)), (nu, .inl (E.2.1, 4, .inl u0)), (y, .inr (0, [.ref q, .int (nI o), .int (nI z)])), (q, .inr (3, [.ref w])), (w, .inl (E.2.1, 1758, .inl h)), (q2, .inr (3, [.ref w2])), (w2, .inl (E.2.1, 586, .inl sl)), (aq, .inl (E.2.1, 13, .inl vq)), (af, .inl (E.2.1, 21, .inl vf)), (ad, .inl (E.2.1, 63, .inl vd)), (aw, .inl (E.2.1, 63, .inl vw)), (al, .inl (E.2.1, 63, .inl vl)), (ar, .inl (E.2.1, 63, .inl vr))] H → va_S A s.heap H locs → ∀ ls : Array Slot, lv_has ls 17 [(0, .ref b9), (1, .ref xo), (2, .ref aq), (3, .ref af), (4, .ref ad), (5, .ref aw), (6, .ref al), (7, .ref ar), (8, .int (nI i)), (9, .int xx), (10, .int yy), (11, .int (nI kd))] → W p l e room_1 s m #[Value.ref b9] below meth c H locs cells slots Q (F0 m 239 ls [])) : ∀ (H : Heap) (locs : List Loc), va_P E.1 vwCl [(xo, .inr (4, [.ref r, .ref r2, .ref r3, .ref d, .ref y, .ref q2, .int (nI 0)])), (r, .inr (2, [.ref rc])), (rc, .inl (E.2.1, 293, .inl f)), (r2, .inr (2, [.ref rc2])), (rc2, .inl (E.2.1, 293, .inl fb)), (r3, .inr (2, [.ref rc3])), (rc3, .inl (E.2.1, 293, .inl ft)), (d, .inr (1, [.ref ch, .ref nu, .int (nI 0), .int (nI 0), .int (nI 0), .int (nI 0), .int (nI 0), .int (nI 0)])), (ch, .inl (E.2.2.1, 80, .inl t0)), (nu, .inl (E.2.1, 4, .inl u0)), (y, .inr (0, [.ref q, .int (nI o), .int (nI z)])), (q, .inr (3, [.ref w])), (w, .inl (E.2.1, 1758, .inl h)), (q2, .inr (3, [.ref w2])), (w2, .inl (E.2.1, 586, .inl sl)), (aq, .inl (E.2.1, 13, .inl vq)), (af, .inl (E.2.1, 21, .inl vf)), (ad, .inl (E.2.1, 63, .inl vd)), (aw, .inl (E.2.1, 63, .inl vw)), (al, .inl (E.2.1, 63, .inl vl)), (ar, .inl (E.2.1, 63, .inl vr))] H → va_S A s.heap H locs → ∀ ls : Array Slot, lv_has ls 17 [(0, .ref b9), (1, .ref xo), (2, .ref aq), (3, .ref af), (4, .ref ad), (5, .ref aw), (6, .ref al), (7, .ref ar), (8, .int (nI i)), (9, .int xx), (10, .int yy)] → W p l e room_1 s m #[Value.ref b9] below meth c H locs cells slots Q (F0 m 92 ls []) := by
  intro H locs hP hS ls hl
  have hx := S.1
  have hb := S.2.1
  have hown := S.2.2.2.1
  have hts := S.2.2.2.2
  have hK := hE.1
  have hz30 := lowN_lt xx (m := 30) (by omega)
  refine lv_iload hx hb dL_law_92 (lv_at hl 9 rfl) ?_
  refine lv_bipush (v := nI 30) hx hb dL_law_94 (by decide) ?_
  refine rwS2 (rest := []) S (c_L_low l E xx 30 (by omega) (by omega)) cd_L_low bw_140 ⟨Nat.le_of_ble_eq_true rfl, Nat.le_of_ble_eq_true rfl⟩ hcs hP (hDa.to rfl) hE hA hS [] rfl rfl [] rfl rfl (Nat.le_of_ble_eq_true rfl) hl.1 dL_law_96 (fun H locs hP _ hS => ?_)
  have hP : va_P E.1 vwCl [(xo, .inr (4, [.ref r, .ref r2, .ref r3, .ref d, .ref y, .ref q2, .int (nI 0)])), (r, .inr (2, [.ref rc])), (rc, .inl (E.2.1, 293, .inl f)), (r2, .inr (2, [.ref rc2])), (rc2, .inl (E.2.1, 293, .inl fb)), (r3, .inr (2, [.ref rc3])), (rc3, .inl (E.2.1, 293, .inl ft)), (d, .inr (1, [.ref ch, .ref nu, .int (nI 0), .int (nI 0), .int (nI 0), .int (nI 0), .int (nI 0), .int (nI 0)])), (ch, .inl (E.2.2.1, 80, .inl t0)), (nu, .inl (E.2.1, 4, .inl u0)), (y, .inr (0, [.ref q, .int (nI o), .int (nI z)])), (q, .inr (3, [.ref w])), (w, .inl (E.2.1, 1758, .inl h)), (q2, .inr (3, [.ref w2])), (w2, .inl (E.2.1, 586, .inl sl)), (aq, .inl (E.2.1, 13, .inl vq)), (af, .inl (E.2.1, 21, .inl vf)), (ad, .inl (E.2.1, 63, .inl vd)), (aw, .inl (E.2.1, 63, .inl vw)), (al, .inl (E.2.1, 63, .inl vl)), (ar, .inl (E.2.1, 63, .inl vr))] H := hP
  generalize hkk : lowN xx 30 = kk at hz30 ⊢
  refine lv_istore (lv' := [(11, .int (nI kk)), (0, .ref b9), (1, .ref xo), (2, .ref aq), (3, .ref af), (4, .ref ad), (5, .ref aw), (6, .ref al), (7, .ref ar), (8, .int (nI i)), (9, .int xx), (10, .int yy)]) hx hb dL_law_99 hl (by decide) rfl (fun ls hl => ?_)
  refine lv_iload hx hb dL_law_101 (lv_at hl 9 rfl) ?_
  refine lv_iconst (v := nI 4) hx hb dL_law_103 (by decide) ?_
  refine rn_icmp_lt (a := i) (b := 4) (tgt := 114) hx hb (by omega) (by omega) dL_law_104 (by decide) (fun c_1 => ?_) (fun c_1 => ?_)
  · refine lv_iconst (v := nI 0) hx hb dL_law_114 (by decide) ?_
    refine lv_goto (tgt := 214) hx hb dL_law_115 (by decide) ?_
    refine lv_istore (lv' := [(11, .int (nI 0)), (0, .ref b9), (1, .ref xo), (2, .ref aq), (3, .ref af), (4, .ref ad), (5, .ref aw), (6, .ref al), (7, .ref ar), (8, .int (nI i)), (9, .int xx), (10, .int yy)]) hx hb dL_law_214 hl (by decide) rfl (fun ls hl => ?_)
    refine lv_iload hx hb dL_law_216 (lv_at hl 0 rfl) ?_
    refine lv_bipush (v := nI 12) hx hb dL_law_218 (by decide) ?_
    refine rn_icmp_ne (a := 0) (b := 12) (tgt := 235) hx hb (by omega) (by omega) dL_law_220 (by decide) (fun c_2 => ?_) (fun c_2 => absurd c_2 (by omega))
    refine lv_iload hx hb dL_law_235 (lv_at hl 0 rfl) ?_
    refine lv_istore (lv' := [(11, .int (nI 0)), (0, .ref b9), (1, .ref xo), (2, .ref aq), (3, .ref af), (4, .ref ad), (5, .ref aw), (6, .ref al), (7, .ref ar), (8, .int (nI i)), (9, .int xx), (10, .int yy)]) hx hb dL_law_237 hl (by decide) rfl (fun ls hl => ?_)
    have hl : lv_has ls 17 [(0, .ref b9), (1, .ref xo), (2, .ref aq), (3, .ref af), (4, .ref ad), (5, .ref aw), (6, .ref al), (7, .ref ar), (8, .int (nI i)), (9, .int xx), (10, .int yy), (11, .int (nI 0))] := lv_sub hl [1, 2, 3, 4, 5, 6, 7, 8, 9, 10, 11, 0] rfl
    exact hk 0 (by omega) _ _ hP hS _ hl
  · refine lv_iload hx hb dL_law_107 (lv_at hl 0 rfl) ?_
    refine lv_bipush (v := nI 6) hx hb dL_law_109 (by decide) ?_
    refine rn_icmp_ge (a := kk) (b := 6) (tgt := 118) hx hb (by omega) (by omega) dL_law_111 (by decide) (fun c_3 => ?_) (fun c_3 => ?_)
    · refine lv_iload hx hb dL_law_118 (lv_at hl 0 rfl) ?_
      refine lv_bipush (v := nI 9) hx hb dL_law_120 (by decide) ?_
      refine rn_icmp_ge (a := kk) (b := 9) (tgt := 129) hx hb (by omega) (by omega) dL_law_122 (by decide) (fun c_4 => ?_) (fun c_4 => ?_)
      · refine lv_iload hx hb dL_law_129 (lv_at hl 0 rfl) ?_
        refine lv_bipush (v := nI 12) hx hb dL_law_131 (by decide) ?_
        refine rn_icmp_ge (a := kk) (b := 12) (tgt := 140) hx hb (by omega) (by omega) dL_law_133 (by decide) (fun c_5 => ?_) (fun c_5 => ?_)
        · refine lv_iload hx hb dL_law_140 (lv_at hl 0 rfl) ?_
          refine lv_bipush (v := nI 14) hx hb dL_law_142 (by decide) ?_
          refine rn_icmp_ge (a := kk) (b := 14) (tgt := 151) hx hb (by omega) (by omega) dL_law_144 (by decide) (fun c_6 => ?_) (fun c_6 => ?_)
          · refine lv_iload hx hb dL_law_151 (lv_at hl 0 rfl) ?_
            refine lv_bipush (v := nI 16) hx hb dL_law_153 (by decide) ?_
            refine rn_icmp_ge (a := kk) (b := 16) (tgt := 162) hx hb (by omega) (by omega) dL_law_155 (by decide) (fun c_7 => ?_) (fun c_7 => ?_)
            · refine lv_iload hx hb dL_law_162 (lv_at hl 0 rfl) ?_
              refine lv_bipush (v := nI 18) hx hb dL_law_164 (by decide) ?_
              refine rn_icmp_ge (a := kk) (b := 18) (tgt := 173) hx hb (by omega) (by omega) dL_law_166 (by decide) (fun c_8 => ?_) (fun c_8 => ?_)
              · refine lv_iload hx hb dL_law_173 (lv_at hl 0 rfl) ?_
                refine lv_bipush (v := nI 22) hx hb dL_law_175 (by decide) ?_
                refine rn_icmp_ge (a := kk) (b := 22) (tgt := 185) hx hb (by omega) (by omega) dL_law_177 (by decide) (fun c_9 => ?_) (fun c_9 => ?_)
                · refine lv_iload hx hb dL_law_185 (lv_at hl 0 rfl) ?_
                  refine lv_bipush (v := nI 24) hx hb dL_law_187 (by decide) ?_
                  refine rn_icmp_ge (a := kk) (b := 24) (tgt := 197) hx hb (by omega) (by omega) dL_law_189 (by decide) (fun c_10 => ?_) (fun c_10 => ?_)
                  · refine lv_iload hx hb dL_law_197 (lv_at hl 0 rfl) ?_
                    refine lv_bipush (v := nI 26) hx hb dL_law_199 (by decide) ?_
                    refine rn_icmp_ge (a := kk) (b := 26) (tgt := 209) hx hb (by omega) (by omega) dL_law_201 (by decide) (fun c_11 => ?_) (fun c_11 => ?_)
                    · refine lv_iload hx hb dL_law_209 (lv_at hl 0 rfl) ?_
                      refine lv_bipush (v := nI 17) hx hb dL_law_211 (by decide) ?_
                      refine rn_sub (a := kk) (b := 17) hx hb dL_law_213 (by omega) ?_
                      refine lv_istore (lv' := [(11, .int (nI (kk - 17))), (0, .ref b9), (1, .ref xo), (2, .ref aq), (3, .ref af), (4, .ref ad), (5, .ref aw), (6, .ref al), (7, .ref ar), (8, .int (nI i)), (9, .int xx), (10, .int yy)]) hx hb dL_law_214 hl (by decide) rfl (fun ls hl => ?_)
                      refine lv_iload hx hb dL_law_216 (lv_at hl 0 rfl) ?_
                      refine lv_bipush (v := nI 12) hx hb dL_law_218 (by decide) ?_
                      refine rn_icmp_ne (a := kk - 17) (b := 12) (tgt := 235) hx hb (by omega) (by omega) dL_law_220 (by decide) (fun c_12 => ?_) (fun c_12 => ?_)
                      · refine lv_iload hx hb dL_law_235 (lv_at hl 0 rfl) ?_
                        refine lv_istore (lv' := [(11, .int (nI (kk - 17))), (0, .ref b9), (1, .ref xo), (2, .ref aq), (3, .ref af), (4, .ref ad), (5, .ref aw), (6, .ref al), (7, .ref ar), (8, .int (nI i)), (9, .int xx), (10, .int yy)]) hx hb dL_law_237 hl (by decide) rfl (fun ls hl => ?_)
                        have hl : lv_has ls 17 [(0, .ref b9), (1, .ref xo), (2, .ref aq), (3, .ref af), (4, .ref ad), (5, .ref aw), (6, .ref al), (7, .ref ar), (8, .int (nI i)), (9, .int xx), (10, .int yy), (11, .int (nI (kk - 17)))] := lv_sub hl [1, 2, 3, 4, 5, 6, 7, 8, 9, 10, 11, 0] rfl
                        exact hk (kk - 17) (by omega) _ _ hP hS _ hl
                      · refine lv_iload hx hb dL_law_223 (lv_at hl 9 rfl) ?_
                        refine lv_iconst (v := nI 3) hx hb dL_law_225 (by decide) ?_
                        refine rn_rem (a := i) (b := 3) hx hb dL_law_226 (by omega) (by omega) (by omega) ?_
                        refine rn_if_le (a := i % 3) (tgt := 235) hx hb (by omega) dL_law_227 (by decide) (fun c_13 => ?_) (fun c_13 => ?_)
                        · refine lv_iload hx hb dL_law_235 (lv_at hl 0 rfl) ?_
                          refine lv_istore (lv' := [(11, .int (nI (kk - 17))), (0, .ref b9), (1, .ref xo), (2, .ref aq), (3, .ref af), (4, .ref ad), (5, .ref aw), (6, .ref al), (7, .ref ar), (8, .int (nI i)), (9, .int xx), (10, .int yy)]) hx hb dL_law_237 hl (by decide) rfl (fun ls hl => ?_)
                          have hl : lv_has ls 17 [(0, .ref b9), (1, .ref xo), (2, .ref aq), (3, .ref af), (4, .ref ad), (5, .ref aw), (6, .ref al), (7, .ref ar), (8, .int (nI i)), (9, .int xx), (10, .int yy), (11, .int (nI (kk - 17)))] := lv_sub hl [1, 2, 3, 4, 5, 6, 7, 8, 9, 10, 11, 0] rfl
                          exact hk (kk - 17) (by omega) _ _ hP hS _ hl
                        · refine lv_bipush (v := nI 13) hx hb dL_law_230 (by decide) ?_
                          refine lv_goto (tgt := 237) hx hb dL_law_232 (by decide) ?_
                          refine lv_istore (lv' := [(11, .int (nI 13)), (0, .ref b9), (1, .ref xo), (2, .ref aq), (3, .ref af), (4, .ref ad), (5, .ref aw), (6, .ref al), (7, .ref ar), (8, .int (nI i)), (9, .int xx), (10, .int yy)]) hx hb dL_law_237 hl (by decide) rfl (fun ls hl => ?_)
                          have hl : lv_has ls 17 [(0, .ref b9), (1, .ref xo), (2, .ref aq), (3, .ref af), (4, .ref ad), (5, .ref aw), (6, .ref al), (7, .ref ar), (8, .int (nI i)), (9, .int xx), (10, .int yy), (11, .int (nI 13))] := lv_sub hl [1, 2, 3, 4, 5, 6, 7, 8, 9, 10, 11, 0] rfl
                          exact hk 13 (by omega) _ _ hP hS _ hl
                    · refine lv_bipush (v := nI 8) hx hb dL_law_204 (by decide) ?_
                      refine lv_goto (tgt := 214) hx hb dL_law_206 (by decide) ?_
                      refine lv_istore (lv' := [(11, .int (nI 8)), (0, .ref b9), (1, .ref xo), (2, .ref aq), (3, .ref af), (4, .ref ad), (5, .ref aw), (6, .ref al), (7, .ref ar), (8, .int (nI i)), (9, .int xx), (10, .int yy)]) hx hb dL_law_214 hl (by decide) rfl (fun ls hl => ?_)
                      refine lv_iload hx hb dL_law_216 (lv_at hl 0 rfl) ?_
                      refine lv_bipush (v := nI 12) hx hb dL_law_218 (by decide) ?_
                      refine rn_icmp_ne (a := 8) (b := 12) (tgt := 235) hx hb (by omega) (by omega) dL_law_220 (by decide) (fun c_14 => ?_) (fun c_14 => absurd c_14 (by omega))
                      refine lv_iload hx hb dL_law_235 (lv_at hl 0 rfl) ?_
                      refine lv_istore (lv' := [(11, .int (nI 8)), (0, .ref b9), (1, .ref xo), (2, .ref aq), (3, .ref af), (4, .ref ad), (5, .ref aw), (6, .ref al), (7, .ref ar), (8, .int (nI i)), (9, .int xx), (10, .int yy)]) hx hb dL_law_237 hl (by decide) rfl (fun ls hl => ?_)
                      have hl : lv_has ls 17 [(0, .ref b9), (1, .ref xo), (2, .ref aq), (3, .ref af), (4, .ref ad), (5, .ref aw), (6, .ref al), (7, .ref ar), (8, .int (nI i)), (9, .int xx), (10, .int yy), (11, .int (nI 8))] := lv_sub hl [1, 2, 3, 4, 5, 6, 7, 8, 9, 10, 11, 0] rfl
                      exact hk 8 (by omega) _ _ hP hS _ hl
                  · refine lv_bipush (v := nI 7) hx hb dL_law_192 (by decide) ?_
                    refine lv_goto (tgt := 214) hx hb dL_law_194 (by decide) ?_
                    refine lv_istore (lv' := [(11, .int (nI 7)), (0, .ref b9), (1, .ref xo), (2, .ref aq), (3, .ref af), (4, .ref ad), (5, .ref aw), (6, .ref al), (7, .ref ar), (8, .int (nI i)), (9, .int xx), (10, .int yy)]) hx hb dL_law_214 hl (by decide) rfl (fun ls hl => ?_)
                    refine lv_iload hx hb dL_law_216 (lv_at hl 0 rfl) ?_
                    refine lv_bipush (v := nI 12) hx hb dL_law_218 (by decide) ?_
                    refine rn_icmp_ne (a := 7) (b := 12) (tgt := 235) hx hb (by omega) (by omega) dL_law_220 (by decide) (fun c_15 => ?_) (fun c_15 => absurd c_15 (by omega))
                    refine lv_iload hx hb dL_law_235 (lv_at hl 0 rfl) ?_
                    refine lv_istore (lv' := [(11, .int (nI 7)), (0, .ref b9), (1, .ref xo), (2, .ref aq), (3, .ref af), (4, .ref ad), (5, .ref aw), (6, .ref al), (7, .ref ar), (8, .int (nI i)), (9, .int xx), (10, .int yy)]) hx hb dL_law_237 hl (by decide) rfl (fun ls hl => ?_)
                    have hl : lv_has ls 17 [(0, .ref b9), (1, .ref xo), (2, .ref aq), (3, .ref af), (4, .ref ad), (5, .ref aw), (6, .ref al), (7, .ref ar), (8, .int (nI i)), (9, .int xx), (10, .int yy), (11, .int (nI 7))] := lv_sub hl [1, 2, 3, 4, 5, 6, 7, 8, 9, 10, 11, 0] rfl
                    exact hk 7 (by omega) _ _ hP hS _ hl
                · refine lv_bipush (v := nI 6) hx hb dL_law_180 (by decide) ?_
                  refine lv_goto (tgt := 214) hx hb dL_law_182 (by decide) ?_
                  refine lv_istore (lv' := [(11, .int (nI 6)), (0, .ref b9), (1, .ref xo), (2, .ref aq), (3, .ref af), (4, .ref ad), (5, .ref aw), (6, .ref al), (7, .ref ar), (8, .int (nI i)), (9, .int xx), (10, .int yy)]) hx hb dL_law_214 hl (by decide) rfl (fun ls hl => ?_)
                  refine lv_iload hx hb dL_law_216 (lv_at hl 0 rfl) ?_
                  refine lv_bipush (v := nI 12) hx hb dL_law_218 (by decide) ?_
                  refine rn_icmp_ne (a := 6) (b := 12) (tgt := 235) hx hb (by omega) (by omega) dL_law_220 (by decide) (fun c_16 => ?_) (fun c_16 => absurd c_16 (by omega))
                  refine lv_iload hx hb dL_law_235 (lv_at hl 0 rfl) ?_
                  refine lv_istore (lv' := [(11, .int (nI 6)), (0, .ref b9), (1, .ref xo), (2, .ref aq), (3, .ref af), (4, .ref ad), (5, .ref aw), (6, .ref al), (7, .ref ar), (8, .int (nI i)), (9, .int xx), (10, .int yy)]) hx hb dL_law_237 hl (by decide) rfl (fun ls hl => ?_)
                  have hl : lv_has ls 17 [(0, .ref b9), (1, .ref xo), (2, .ref aq), (3, .ref af), (4, .ref ad), (5, .ref aw), (6, .ref al), (7, .ref ar), (8, .int (nI i)), (9, .int xx), (10, .int yy), (11, .int (nI 6))] := lv_sub hl [1, 2, 3, 4, 5, 6, 7, 8, 9, 10, 11, 0] rfl
                  exact hk 6 (by omega) _ _ hP hS _ hl
              · refine lv_iconst (v := nI 5) hx hb dL_law_169 (by decide) ?_
                refine lv_goto (tgt := 214) hx hb dL_law_170 (by decide) ?_
                refine lv_istore (lv' := [(11, .int (nI 5)), (0, .ref b9), (1, .ref xo), (2, .ref aq), (3, .ref af), (4, .ref ad), (5, .ref aw), (6, .ref al), (7, .ref ar), (8, .int (nI i)), (9, .int xx), (10, .int yy)]) hx hb dL_law_214 hl (by decide) rfl (fun ls hl => ?_)
                refine lv_iload hx hb dL_law_216 (lv_at hl 0 rfl) ?_
                refine lv_bipush (v := nI 12) hx hb dL_law_218 (by decide) ?_
                refine rn_icmp_ne (a := 5) (b := 12) (tgt := 235) hx hb (by omega) (by omega) dL_law_220 (by decide) (fun c_17 => ?_) (fun c_17 => absurd c_17 (by omega))
                refine lv_iload hx hb dL_law_235 (lv_at hl 0 rfl) ?_
                refine lv_istore (lv' := [(11, .int (nI 5)), (0, .ref b9), (1, .ref xo), (2, .ref aq), (3, .ref af), (4, .ref ad), (5, .ref aw), (6, .ref al), (7, .ref ar), (8, .int (nI i)), (9, .int xx), (10, .int yy)]) hx hb dL_law_237 hl (by decide) rfl (fun ls hl => ?_)
                have hl : lv_has ls 17 [(0, .ref b9), (1, .ref xo), (2, .ref aq), (3, .ref af), (4, .ref ad), (5, .ref aw), (6, .ref al), (7, .ref ar), (8, .int (nI i)), (9, .int xx), (10, .int yy), (11, .int (nI 5))] := lv_sub hl [1, 2, 3, 4, 5, 6, 7, 8, 9, 10, 11, 0] rfl
                exact hk 5 (by omega) _ _ hP hS _ hl
            · refine lv_iconst (v := nI 4) hx hb dL_law_158 (by decide) ?_
              refine lv_goto (tgt := 214) hx hb dL_law_159 (by decide) ?_
              refine lv_istore (lv' := [(11, .int (nI 4)), (0, .ref b9), (1, .ref xo), (2, .ref aq), (3, .ref af), (4, .ref ad), (5, .ref aw), (6, .ref al), (7, .ref ar), (8, .int (nI i)), (9, .int xx), (10, .int yy)]) hx hb dL_law_214 hl (by decide) rfl (fun ls hl => ?_)
              refine lv_iload hx hb dL_law_216 (lv_at hl 0 rfl) ?_
              refine lv_bipush (v := nI 12) hx hb dL_law_218 (by decide) ?_
              refine rn_icmp_ne (a := 4) (b := 12) (tgt := 235) hx hb (by omega) (by omega) dL_law_220 (by decide) (fun c_18 => ?_) (fun c_18 => absurd c_18 (by omega))
              refine lv_iload hx hb dL_law_235 (lv_at hl 0 rfl) ?_
              refine lv_istore (lv' := [(11, .int (nI 4)), (0, .ref b9), (1, .ref xo), (2, .ref aq), (3, .ref af), (4, .ref ad), (5, .ref aw), (6, .ref al), (7, .ref ar), (8, .int (nI i)), (9, .int xx), (10, .int yy)]) hx hb dL_law_237 hl (by decide) rfl (fun ls hl => ?_)
              have hl : lv_has ls 17 [(0, .ref b9), (1, .ref xo), (2, .ref aq), (3, .ref af), (4, .ref ad), (5, .ref aw), (6, .ref al), (7, .ref ar), (8, .int (nI i)), (9, .int xx), (10, .int yy), (11, .int (nI 4))] := lv_sub hl [1, 2, 3, 4, 5, 6, 7, 8, 9, 10, 11, 0] rfl
              exact hk 4 (by omega) _ _ hP hS _ hl
          · refine lv_iconst (v := nI 3) hx hb dL_law_147 (by decide) ?_
            refine lv_goto (tgt := 214) hx hb dL_law_148 (by decide) ?_
            refine lv_istore (lv' := [(11, .int (nI 3)), (0, .ref b9), (1, .ref xo), (2, .ref aq), (3, .ref af), (4, .ref ad), (5, .ref aw), (6, .ref al), (7, .ref ar), (8, .int (nI i)), (9, .int xx), (10, .int yy)]) hx hb dL_law_214 hl (by decide) rfl (fun ls hl => ?_)
            refine lv_iload hx hb dL_law_216 (lv_at hl 0 rfl) ?_
            refine lv_bipush (v := nI 12) hx hb dL_law_218 (by decide) ?_
            refine rn_icmp_ne (a := 3) (b := 12) (tgt := 235) hx hb (by omega) (by omega) dL_law_220 (by decide) (fun c_19 => ?_) (fun c_19 => absurd c_19 (by omega))
            refine lv_iload hx hb dL_law_235 (lv_at hl 0 rfl) ?_
            refine lv_istore (lv' := [(11, .int (nI 3)), (0, .ref b9), (1, .ref xo), (2, .ref aq), (3, .ref af), (4, .ref ad), (5, .ref aw), (6, .ref al), (7, .ref ar), (8, .int (nI i)), (9, .int xx), (10, .int yy)]) hx hb dL_law_237 hl (by decide) rfl (fun ls hl => ?_)
            have hl : lv_has ls 17 [(0, .ref b9), (1, .ref xo), (2, .ref aq), (3, .ref af), (4, .ref ad), (5, .ref aw), (6, .ref al), (7, .ref ar), (8, .int (nI i)), (9, .int xx), (10, .int yy), (11, .int (nI 3))] := lv_sub hl [1, 2, 3, 4, 5, 6, 7, 8, 9, 10, 11, 0] rfl
            exact hk 3 (by omega) _ _ hP hS _ hl
        · refine lv_iconst (v := nI 2) hx hb dL_law_136 (by decide) ?_
          refine lv_goto (tgt := 214) hx hb dL_law_137 (by decide) ?_
          refine lv_istore (lv' := [(11, .int (nI 2)), (0, .ref b9), (1, .ref xo), (2, .ref aq), (3, .ref af), (4, .ref ad), (5, .ref aw), (6, .ref al), (7, .ref ar), (8, .int (nI i)), (9, .int xx), (10, .int yy)]) hx hb dL_law_214 hl (by decide) rfl (fun ls hl => ?_)
          refine lv_iload hx hb dL_law_216 (lv_at hl 0 rfl) ?_
          refine lv_bipush (v := nI 12) hx hb dL_law_218 (by decide) ?_
          refine rn_icmp_ne (a := 2) (b := 12) (tgt := 235) hx hb (by omega) (by omega) dL_law_220 (by decide) (fun c_20 => ?_) (fun c_20 => absurd c_20 (by omega))
          refine lv_iload hx hb dL_law_235 (lv_at hl 0 rfl) ?_
          refine lv_istore (lv' := [(11, .int (nI 2)), (0, .ref b9), (1, .ref xo), (2, .ref aq), (3, .ref af), (4, .ref ad), (5, .ref aw), (6, .ref al), (7, .ref ar), (8, .int (nI i)), (9, .int xx), (10, .int yy)]) hx hb dL_law_237 hl (by decide) rfl (fun ls hl => ?_)
          have hl : lv_has ls 17 [(0, .ref b9), (1, .ref xo), (2, .ref aq), (3, .ref af), (4, .ref ad), (5, .ref aw), (6, .ref al), (7, .ref ar), (8, .int (nI i)), (9, .int xx), (10, .int yy), (11, .int (nI 2))] := lv_sub hl [1, 2, 3, 4, 5, 6, 7, 8, 9, 10, 11, 0] rfl
          exact hk 2 (by omega) _ _ hP hS _ hl
      · refine lv_iconst (v := nI 1) hx hb dL_law_125 (by decide) ?_
        refine lv_goto (tgt := 214) hx hb dL_law_126 (by decide) ?_
        refine lv_istore (lv' := [(11, .int (nI 1)), (0, .ref b9), (1, .ref xo), (2, .ref aq), (3, .ref af), (4, .ref ad), (5, .ref aw), (6, .ref al), (7, .ref ar), (8, .int (nI i)), (9, .int xx), (10, .int yy)]) hx hb dL_law_214 hl (by decide) rfl (fun ls hl => ?_)
        refine lv_iload hx hb dL_law_216 (lv_at hl 0 rfl) ?_
        refine lv_bipush (v := nI 12) hx hb dL_law_218 (by decide) ?_
        refine rn_icmp_ne (a := 1) (b := 12) (tgt := 235) hx hb (by omega) (by omega) dL_law_220 (by decide) (fun c_21 => ?_) (fun c_21 => absurd c_21 (by omega))
        refine lv_iload hx hb dL_law_235 (lv_at hl 0 rfl) ?_
        refine lv_istore (lv' := [(11, .int (nI 1)), (0, .ref b9), (1, .ref xo), (2, .ref aq), (3, .ref af), (4, .ref ad), (5, .ref aw), (6, .ref al), (7, .ref ar), (8, .int (nI i)), (9, .int xx), (10, .int yy)]) hx hb dL_law_237 hl (by decide) rfl (fun ls hl => ?_)
        have hl : lv_has ls 17 [(0, .ref b9), (1, .ref xo), (2, .ref aq), (3, .ref af), (4, .ref ad), (5, .ref aw), (6, .ref al), (7, .ref ar), (8, .int (nI i)), (9, .int xx), (10, .int yy), (11, .int (nI 1))] := lv_sub hl [1, 2, 3, 4, 5, 6, 7, 8, 9, 10, 11, 0] rfl
        exact hk 1 (by omega) _ _ hP hS _ hl
    · refine lv_iconst (v := nI 0) hx hb dL_law_114 (by decide) ?_
      refine lv_goto (tgt := 214) hx hb dL_law_115 (by decide) ?_
      refine lv_istore (lv' := [(11, .int (nI 0)), (0, .ref b9), (1, .ref xo), (2, .ref aq), (3, .ref af), (4, .ref ad), (5, .ref aw), (6, .ref al), (7, .ref ar), (8, .int (nI i)), (9, .int xx), (10, .int yy)]) hx hb dL_law_214 hl (by decide) rfl (fun ls hl => ?_)
      refine lv_iload hx hb dL_law_216 (lv_at hl 0 rfl) ?_
      refine lv_bipush (v := nI 12) hx hb dL_law_218 (by decide) ?_
      refine rn_icmp_ne (a := 0) (b := 12) (tgt := 235) hx hb (by omega) (by omega) dL_law_220 (by decide) (fun c_22 => ?_) (fun c_22 => absurd c_22 (by omega))
      refine lv_iload hx hb dL_law_235 (lv_at hl 0 rfl) ?_
      refine lv_istore (lv' := [(11, .int (nI 0)), (0, .ref b9), (1, .ref xo), (2, .ref aq), (3, .ref af), (4, .ref ad), (5, .ref aw), (6, .ref al), (7, .ref ar), (8, .int (nI i)), (9, .int xx), (10, .int yy)]) hx hb dL_law_237 hl (by decide) rfl (fun ls hl => ?_)
      have hl : lv_has ls 17 [(0, .ref b9), (1, .ref xo), (2, .ref aq), (3, .ref af), (4, .ref ad), (5, .ref aw), (6, .ref al), (7, .ref ar), (8, .int (nI i)), (9, .int xx), (10, .int yy), (11, .int (nI 0))] := lv_sub hl [1, 2, 3, 4, 5, 6, 7, 8, 9, 10, 11, 0] rfl
      exact hk 0 (by omega) _ _ hP hS _ hl
set_option maxHeartbeats 4000000 in
set_option maxRecDepth 100000 in
theorem lw_place (S : CallFix p m c code 17 s #[Value.ref b9] bw RL) (hE : en E A s s.heap) (hA : ∀ q, s.heap.size ≤ q → A q) (hcs : cells ≤ room_1.cells ∧ slots ≤ room_1.slots) (hDa : va_Da A [xo, r, rc, r2, rc2, r3, rc3, d, ch, nu, y, q, w, q2, w2, aq, af, ad, aw, al, ar]) (f : Nat → Int32) (fb : Nat → Int32) (o : Nat) (z : Nat) (h : Nat → Int32) (vq : Nat → Int32) (vf : Nat → Int32) (vd : Nat → Int32) (vw : Nat → Int32) (vl : Nat → Int32) (vr : Nat → Int32) (xx : Int32) (yy : Int32) (n : Nat) (kd : Nat) (hf : vq 4 = nI n) (hn : n ≤ 20) (hkd : kd < 14) (hk : ∀ aa bb : Nat, aa < 21 → (kd = 0 → aa ≤ n) → bb < 3 → ∀ (H : Heap) (locs : List Loc), va_P E.1 vwCl [(xo, .inr (4, [.ref r, .ref r2, .ref r3, .ref d, .ref y, .ref q2, .int (nI 0)])), (r, .inr (2, [.ref rc])), (rc, .inl (E.2.1, 293, .inl f)), (r2, .inr (2, [.ref rc2])), (rc2, .inl (E.2.1, 293, .inl fb)), (r3, .inr (2, [.ref rc3])), (rc3, .inl (E.2.1, 293, .inl ft)), (d, .inr (1, [.ref ch, .ref nu, .int (nI 0), .int (nI 0), .int (nI 0), .int (nI 0), .int (nI 0), .int (nI 0)])), (ch, .inl (E.2.2.1, 80, .inl t0)), (nu, .inl (E.2.1, 4, .inl u0)), (y, .inr (0, [.ref q, .int (nI o), .int (nI z)])), (q, .inr (3, [.ref w])), (w, .inl (E.2.1, 1758, .inl h)), (q2, .inr (3, [.ref w2])), (w2, .inl (E.2.1, 586, .inl sl)), (aq, .inl (E.2.1, 13, .inl vq)), (af, .inl (E.2.1, 21, .inl vf)), (ad, .inl (E.2.1, 63, .inl vd)), (aw, .inl (E.2.1, 63, .inl vw)), (al, .inl (E.2.1, 63, .inl vl)), (ar, .inl (E.2.1, 63, .inl vr))] H → va_S A s.heap H locs → ∀ ls : Array Slot, lv_has ls 17 [(0, .ref b9), (1, .ref xo), (2, .ref aq), (3, .ref af), (4, .ref ad), (5, .ref aw), (6, .ref al), (7, .ref ar), (8, .int (nI i)), (9, .int xx), (10, .int yy), (11, .int (nI kd)), (12, .int (nI aa)), (13, .int (nI bb))] → W p l e room_1 s m #[Value.ref b9] below meth c H locs cells slots Q (F0 m 308 ls [])) : ∀ (H : Heap) (locs : List Loc), va_P E.1 vwCl [(xo, .inr (4, [.ref r, .ref r2, .ref r3, .ref d, .ref y, .ref q2, .int (nI 0)])), (r, .inr (2, [.ref rc])), (rc, .inl (E.2.1, 293, .inl f)), (r2, .inr (2, [.ref rc2])), (rc2, .inl (E.2.1, 293, .inl fb)), (r3, .inr (2, [.ref rc3])), (rc3, .inl (E.2.1, 293, .inl ft)), (d, .inr (1, [.ref ch, .ref nu, .int (nI 0), .int (nI 0), .int (nI 0), .int (nI 0), .int (nI 0), .int (nI 0)])), (ch, .inl (E.2.2.1, 80, .inl t0)), (nu, .inl (E.2.1, 4, .inl u0)), (y, .inr (0, [.ref q, .int (nI o), .int (nI z)])), (q, .inr (3, [.ref w])), (w, .inl (E.2.1, 1758, .inl h)), (q2, .inr (3, [.ref w2])), (w2, .inl (E.2.1, 586, .inl sl)), (aq, .inl (E.2.1, 13, .inl vq)), (af, .inl (E.2.1, 21, .inl vf)), (ad, .inl (E.2.1, 63, .inl vd)), (aw, .inl (E.2.1, 63, .inl vw)), (al, .inl (E.2.1, 63, .inl vl)), (ar, .inl (E.2.1, 63, .inl vr))] H → va_S A s.heap H locs → ∀ ls : Array Slot, lv_has ls 17 [(0, .ref b9), (1, .ref xo), (2, .ref aq), (3, .ref af), (4, .ref ad), (5, .ref aw), (6, .ref al), (7, .ref ar), (8, .int (nI i)), (9, .int xx), (10, .int yy), (11, .int (nI kd))] → W p l e room_1 s m #[Value.ref b9] below meth c H locs cells slots Q (F0 m 239 ls []) := by
  intro H locs hP hS ls hl
  have hx := S.1
  have hb := S.2.1
  have hown := S.2.2.2.1
  have hts := S.2.2.2.2
  have hK := hE.1
  have z1 := lowN_lt (xx >>> (nI 6 &&& 31)) (m := n + 1) (by omega)
  have z2 := lowN_lt (xx >>> (nI 6 &&& 31)) (m := 21) (by omega)
  have z3 := fun h9 : 0 < n => lowN_lt (xx >>> (nI 6 &&& 31)) (m := n) h9
  have z4 := lowN_lt (xx >>> (nI 11 &&& 31)) (m := 3) (by omega)
  have z5 := lowN_lt (xx >>> (nI 20 &&& 31)) (m := 9) (by omega)
  refine lv_iload hx hb dL_law_239 (lv_at hl 11 rfl) ?_
  refine rn_if_ne (a := kd) (tgt := 260) hx hb (by omega) dL_law_241 (by decide) (fun c_1 => ?_) (fun c_1 => ?_)
  · refine lv_iload hx hb dL_law_260 (lv_at hl 9 rfl) ?_
    refine lv_bipush (v := nI 6) hx hb dL_law_262 (by decide) ?_
    refine lv_ishr hx hb dL_law_264 ?_
    refine lv_iload hx hb dL_law_265 (lv_at hl 9 rfl) ?_
    refine lv_bipush (v := nI 20) hx hb dL_law_267 (by decide) ?_
    refine lv_ishr hx hb dL_law_269 ?_
    refine lv_bipush (v := nI 9) hx hb dL_law_270 (by decide) ?_
    refine rwS2 (rest := [.int (xx >>> (nI 6 &&& 31))]) S (c_L_low l E (xx >>> (nI 20 &&& 31)) 9 (by omega) (by omega)) cd_L_low bw_140 ⟨Nat.le_of_ble_eq_true rfl, Nat.le_of_ble_eq_true rfl⟩ hcs hP (hDa.to rfl) hE hA hS [] rfl rfl [] rfl rfl (Nat.le_of_ble_eq_true rfl) hl.1 dL_law_272 (fun H locs hP _ hS => ?_)
    have hP : va_P E.1 vwCl [(xo, .inr (4, [.ref r, .ref r2, .ref r3, .ref d, .ref y, .ref q2, .int (nI 0)])), (r, .inr (2, [.ref rc])), (rc, .inl (E.2.1, 293, .inl f)), (r2, .inr (2, [.ref rc2])), (rc2, .inl (E.2.1, 293, .inl fb)), (r3, .inr (2, [.ref rc3])), (rc3, .inl (E.2.1, 293, .inl ft)), (d, .inr (1, [.ref ch, .ref nu, .int (nI 0), .int (nI 0), .int (nI 0), .int (nI 0), .int (nI 0), .int (nI 0)])), (ch, .inl (E.2.2.1, 80, .inl t0)), (nu, .inl (E.2.1, 4, .inl u0)), (y, .inr (0, [.ref q, .int (nI o), .int (nI z)])), (q, .inr (3, [.ref w])), (w, .inl (E.2.1, 1758, .inl h)), (q2, .inr (3, [.ref w2])), (w2, .inl (E.2.1, 586, .inl sl)), (aq, .inl (E.2.1, 13, .inl vq)), (af, .inl (E.2.1, 21, .inl vf)), (ad, .inl (E.2.1, 63, .inl vd)), (aw, .inl (E.2.1, 63, .inl vw)), (al, .inl (E.2.1, 63, .inl vl)), (ar, .inl (E.2.1, 63, .inl vr))] H := hP
    refine rn_if_eq (a := lowN (xx >>> (nI 20 &&& 31)) 9) (tgt := 284) hx hb (by omega) dL_law_275 (by decide) (fun c_2 => ?_) (fun c_2 => ?_)
    · refine lv_bipush (v := nI 21) hx hb dL_law_284 (by decide) ?_
      refine lv_goto (tgt := 292) hx hb dL_law_286 (by decide) ?_
      refine rwS2 (rest := []) S (c_L_low l E (xx >>> (nI 6 &&& 31)) 21 (by omega) (by omega)) cd_L_low bw_140 ⟨Nat.le_of_ble_eq_true rfl, Nat.le_of_ble_eq_true rfl⟩ hcs hP (hDa.to rfl) hE hA hS [] rfl rfl [] rfl rfl (Nat.le_of_ble_eq_true rfl) hl.1 dL_law_292 (fun H locs hP _ hS => ?_)
      have hP : va_P E.1 vwCl [(xo, .inr (4, [.ref r, .ref r2, .ref r3, .ref d, .ref y, .ref q2, .int (nI 0)])), (r, .inr (2, [.ref rc])), (rc, .inl (E.2.1, 293, .inl f)), (r2, .inr (2, [.ref rc2])), (rc2, .inl (E.2.1, 293, .inl fb)), (r3, .inr (2, [.ref rc3])), (rc3, .inl (E.2.1, 293, .inl ft)), (d, .inr (1, [.ref ch, .ref nu, .int (nI 0), .int (nI 0), .int (nI 0), .int (nI 0), .int (nI 0), .int (nI 0)])), (ch, .inl (E.2.2.1, 80, .inl t0)), (nu, .inl (E.2.1, 4, .inl u0)), (y, .inr (0, [.ref q, .int (nI o), .int (nI z)])), (q, .inr (3, [.ref w])), (w, .inl (E.2.1, 1758, .inl h)), (q2, .inr (3, [.ref w2])), (w2, .inl (E.2.1, 586, .inl sl)), (aq, .inl (E.2.1, 13, .inl vq)), (af, .inl (E.2.1, 21, .inl vf)), (ad, .inl (E.2.1, 63, .inl vd)), (aw, .inl (E.2.1, 63, .inl vw)), (al, .inl (E.2.1, 63, .inl vl)), (ar, .inl (E.2.1, 63, .inl vr))] H := hP
      refine lv_istore (lv' := [(12, .int (nI (lowN (xx >>> (nI 6 &&& 31)) 21))), (0, .ref b9), (1, .ref xo), (2, .ref aq), (3, .ref af), (4, .ref ad), (5, .ref aw), (6, .ref al), (7, .ref ar), (8, .int (nI i)), (9, .int xx), (10, .int yy), (11, .int (nI kd))]) hx hb dL_law_295 hl (by decide) rfl (fun ls hl => ?_)
      refine lv_iload hx hb dL_law_297 (lv_at hl 10 rfl) ?_
      refine lv_bipush (v := nI 11) hx hb dL_law_299 (by decide) ?_
      refine lv_ishr hx hb dL_law_301 ?_
      refine lv_iconst (v := nI 3) hx hb dL_law_302 (by decide) ?_
      refine rwS2 (rest := []) S (c_L_low l E (xx >>> (nI 11 &&& 31)) 3 (by omega) (by omega)) cd_L_low bw_140 ⟨Nat.le_of_ble_eq_true rfl, Nat.le_of_ble_eq_true rfl⟩ hcs hP (hDa.to rfl) hE hA hS [] rfl rfl [] rfl rfl (Nat.le_of_ble_eq_true rfl) hl.1 dL_law_303 (fun H locs hP _ hS => ?_)
      have hP : va_P E.1 vwCl [(xo, .inr (4, [.ref r, .ref r2, .ref r3, .ref d, .ref y, .ref q2, .int (nI 0)])), (r, .inr (2, [.ref rc])), (rc, .inl (E.2.1, 293, .inl f)), (r2, .inr (2, [.ref rc2])), (rc2, .inl (E.2.1, 293, .inl fb)), (r3, .inr (2, [.ref rc3])), (rc3, .inl (E.2.1, 293, .inl ft)), (d, .inr (1, [.ref ch, .ref nu, .int (nI 0), .int (nI 0), .int (nI 0), .int (nI 0), .int (nI 0), .int (nI 0)])), (ch, .inl (E.2.2.1, 80, .inl t0)), (nu, .inl (E.2.1, 4, .inl u0)), (y, .inr (0, [.ref q, .int (nI o), .int (nI z)])), (q, .inr (3, [.ref w])), (w, .inl (E.2.1, 1758, .inl h)), (q2, .inr (3, [.ref w2])), (w2, .inl (E.2.1, 586, .inl sl)), (aq, .inl (E.2.1, 13, .inl vq)), (af, .inl (E.2.1, 21, .inl vf)), (ad, .inl (E.2.1, 63, .inl vd)), (aw, .inl (E.2.1, 63, .inl vw)), (al, .inl (E.2.1, 63, .inl vl)), (ar, .inl (E.2.1, 63, .inl vr))] H := hP
      refine lv_istore (lv' := [(13, .int (nI (lowN (xx >>> (nI 11 &&& 31)) 3))), (12, .int (nI (lowN (xx >>> (nI 6 &&& 31)) 21))), (0, .ref b9), (1, .ref xo), (2, .ref aq), (3, .ref af), (4, .ref ad), (5, .ref aw), (6, .ref al), (7, .ref ar), (8, .int (nI i)), (9, .int xx), (10, .int yy), (11, .int (nI kd))]) hx hb dL_law_306 hl (by decide) rfl (fun ls hl => ?_)
      have hl : lv_has ls 17 [(0, .ref b9), (1, .ref xo), (2, .ref aq), (3, .ref af), (4, .ref ad), (5, .ref aw), (6, .ref al), (7, .ref ar), (8, .int (nI i)), (9, .int xx), (10, .int yy), (11, .int (nI kd)), (12, .int (nI (lowN (xx >>> (nI 6 &&& 31)) 21))), (13, .int (nI (lowN (xx >>> (nI 11 &&& 31)) 3)))] := lv_sub hl [2, 3, 4, 5, 6, 7, 8, 9, 10, 11, 12, 13, 1, 0] rfl
      exact hk (lowN (xx >>> (nI 6 &&& 31)) 21) (lowN (xx >>> (nI 11 &&& 31)) 3) (by omega) (fun _ => by omega) (by omega) _ _ hP hS _ hl
    · refine lv_aload_n hx hb dL_law_278 rfl (lv_at hl 2 rfl) ?_
      refine lv_iconst (v := nI 4) hx hb dL_law_279 (by decide) ?_
      refine rn_iald (i := 4) hx hb hK hP 15 0 rfl rfl (by omega) (by omega) dL_law_280 ?_
      refine W.eq (congrArg (fun z9 => F0 m 281 ls (.int z9 :: [.int (xx >>> (nI 6 &&& 31))])) (show vq 4 = nI n from hf)) ?_
      refine rn_if_ne (a := n) (tgt := 289) hx hb (by omega) dL_law_281 (by decide) (fun c_3 => ?_) (fun c_3 => ?_)
      · refine lv_aload_n hx hb dL_law_289 rfl (lv_at hl 2 rfl) ?_
        refine lv_iconst (v := nI 4) hx hb dL_law_290 (by decide) ?_
        refine rn_iald (i := 4) hx hb hK hP 15 0 rfl rfl (by omega) (by omega) dL_law_291 ?_
        refine W.eq (congrArg (fun z9 => F0 m 292 ls (.int z9 :: [.int (xx >>> (nI 6 &&& 31))])) (show vq 4 = nI n from hf)) ?_
        have z6 := z3 (by omega)
        refine rwS2 (rest := []) S (c_L_low l E (xx >>> (nI 6 &&& 31)) n (by omega) (by omega)) cd_L_low bw_140 ⟨Nat.le_of_ble_eq_true rfl, Nat.le_of_ble_eq_true rfl⟩ hcs hP (hDa.to rfl) hE hA hS [] rfl rfl [] rfl rfl (Nat.le_of_ble_eq_true rfl) hl.1 dL_law_292 (fun H locs hP _ hS => ?_)
        have hP : va_P E.1 vwCl [(xo, .inr (4, [.ref r, .ref r2, .ref r3, .ref d, .ref y, .ref q2, .int (nI 0)])), (r, .inr (2, [.ref rc])), (rc, .inl (E.2.1, 293, .inl f)), (r2, .inr (2, [.ref rc2])), (rc2, .inl (E.2.1, 293, .inl fb)), (r3, .inr (2, [.ref rc3])), (rc3, .inl (E.2.1, 293, .inl ft)), (d, .inr (1, [.ref ch, .ref nu, .int (nI 0), .int (nI 0), .int (nI 0), .int (nI 0), .int (nI 0), .int (nI 0)])), (ch, .inl (E.2.2.1, 80, .inl t0)), (nu, .inl (E.2.1, 4, .inl u0)), (y, .inr (0, [.ref q, .int (nI o), .int (nI z)])), (q, .inr (3, [.ref w])), (w, .inl (E.2.1, 1758, .inl h)), (q2, .inr (3, [.ref w2])), (w2, .inl (E.2.1, 586, .inl sl)), (aq, .inl (E.2.1, 13, .inl vq)), (af, .inl (E.2.1, 21, .inl vf)), (ad, .inl (E.2.1, 63, .inl vd)), (aw, .inl (E.2.1, 63, .inl vw)), (al, .inl (E.2.1, 63, .inl vl)), (ar, .inl (E.2.1, 63, .inl vr))] H := hP
        refine lv_istore (lv' := [(12, .int (nI (lowN (xx >>> (nI 6 &&& 31)) n))), (0, .ref b9), (1, .ref xo), (2, .ref aq), (3, .ref af), (4, .ref ad), (5, .ref aw), (6, .ref al), (7, .ref ar), (8, .int (nI i)), (9, .int xx), (10, .int yy), (11, .int (nI kd))]) hx hb dL_law_295 hl (by decide) rfl (fun ls hl => ?_)
        refine lv_iload hx hb dL_law_297 (lv_at hl 10 rfl) ?_
        refine lv_bipush (v := nI 11) hx hb dL_law_299 (by decide) ?_
        refine lv_ishr hx hb dL_law_301 ?_
        refine lv_iconst (v := nI 3) hx hb dL_law_302 (by decide) ?_
        refine rwS2 (rest := []) S (c_L_low l E (xx >>> (nI 11 &&& 31)) 3 (by omega) (by omega)) cd_L_low bw_140 ⟨Nat.le_of_ble_eq_true rfl, Nat.le_of_ble_eq_true rfl⟩ hcs hP (hDa.to rfl) hE hA hS [] rfl rfl [] rfl rfl (Nat.le_of_ble_eq_true rfl) hl.1 dL_law_303 (fun H locs hP _ hS => ?_)
        have hP : va_P E.1 vwCl [(xo, .inr (4, [.ref r, .ref r2, .ref r3, .ref d, .ref y, .ref q2, .int (nI 0)])), (r, .inr (2, [.ref rc])), (rc, .inl (E.2.1, 293, .inl f)), (r2, .inr (2, [.ref rc2])), (rc2, .inl (E.2.1, 293, .inl fb)), (r3, .inr (2, [.ref rc3])), (rc3, .inl (E.2.1, 293, .inl ft)), (d, .inr (1, [.ref ch, .ref nu, .int (nI 0), .int (nI 0), .int (nI 0), .int (nI 0), .int (nI 0), .int (nI 0)])), (ch, .inl (E.2.2.1, 80, .inl t0)), (nu, .inl (E.2.1, 4, .inl u0)), (y, .inr (0, [.ref q, .int (nI o), .int (nI z)])), (q, .inr (3, [.ref w])), (w, .inl (E.2.1, 1758, .inl h)), (q2, .inr (3, [.ref w2])), (w2, .inl (E.2.1, 586, .inl sl)), (aq, .inl (E.2.1, 13, .inl vq)), (af, .inl (E.2.1, 21, .inl vf)), (ad, .inl (E.2.1, 63, .inl vd)), (aw, .inl (E.2.1, 63, .inl vw)), (al, .inl (E.2.1, 63, .inl vl)), (ar, .inl (E.2.1, 63, .inl vr))] H := hP
        refine lv_istore (lv' := [(13, .int (nI (lowN (xx >>> (nI 11 &&& 31)) 3))), (12, .int (nI (lowN (xx >>> (nI 6 &&& 31)) n))), (0, .ref b9), (1, .ref xo), (2, .ref aq), (3, .ref af), (4, .ref ad), (5, .ref aw), (6, .ref al), (7, .ref ar), (8, .int (nI i)), (9, .int xx), (10, .int yy), (11, .int (nI kd))]) hx hb dL_law_306 hl (by decide) rfl (fun ls hl => ?_)
        have hl : lv_has ls 17 [(0, .ref b9), (1, .ref xo), (2, .ref aq), (3, .ref af), (4, .ref ad), (5, .ref aw), (6, .ref al), (7, .ref ar), (8, .int (nI i)), (9, .int xx), (10, .int yy), (11, .int (nI kd)), (12, .int (nI (lowN (xx >>> (nI 6 &&& 31)) n))), (13, .int (nI (lowN (xx >>> (nI 11 &&& 31)) 3)))] := lv_sub hl [2, 3, 4, 5, 6, 7, 8, 9, 10, 11, 12, 13, 1, 0] rfl
        exact hk (lowN (xx >>> (nI 6 &&& 31)) n) (lowN (xx >>> (nI 11 &&& 31)) 3) (by omega) (fun _ => by omega) (by omega) _ _ hP hS _ hl
      · refine lv_bipush (v := nI 21) hx hb dL_law_284 (by decide) ?_
        refine lv_goto (tgt := 292) hx hb dL_law_286 (by decide) ?_
        refine rwS2 (rest := []) S (c_L_low l E (xx >>> (nI 6 &&& 31)) 21 (by omega) (by omega)) cd_L_low bw_140 ⟨Nat.le_of_ble_eq_true rfl, Nat.le_of_ble_eq_true rfl⟩ hcs hP (hDa.to rfl) hE hA hS [] rfl rfl [] rfl rfl (Nat.le_of_ble_eq_true rfl) hl.1 dL_law_292 (fun H locs hP _ hS => ?_)
        have hP : va_P E.1 vwCl [(xo, .inr (4, [.ref r, .ref r2, .ref r3, .ref d, .ref y, .ref q2, .int (nI 0)])), (r, .inr (2, [.ref rc])), (rc, .inl (E.2.1, 293, .inl f)), (r2, .inr (2, [.ref rc2])), (rc2, .inl (E.2.1, 293, .inl fb)), (r3, .inr (2, [.ref rc3])), (rc3, .inl (E.2.1, 293, .inl ft)), (d, .inr (1, [.ref ch, .ref nu, .int (nI 0), .int (nI 0), .int (nI 0), .int (nI 0), .int (nI 0), .int (nI 0)])), (ch, .inl (E.2.2.1, 80, .inl t0)), (nu, .inl (E.2.1, 4, .inl u0)), (y, .inr (0, [.ref q, .int (nI o), .int (nI z)])), (q, .inr (3, [.ref w])), (w, .inl (E.2.1, 1758, .inl h)), (q2, .inr (3, [.ref w2])), (w2, .inl (E.2.1, 586, .inl sl)), (aq, .inl (E.2.1, 13, .inl vq)), (af, .inl (E.2.1, 21, .inl vf)), (ad, .inl (E.2.1, 63, .inl vd)), (aw, .inl (E.2.1, 63, .inl vw)), (al, .inl (E.2.1, 63, .inl vl)), (ar, .inl (E.2.1, 63, .inl vr))] H := hP
        refine lv_istore (lv' := [(12, .int (nI (lowN (xx >>> (nI 6 &&& 31)) 21))), (0, .ref b9), (1, .ref xo), (2, .ref aq), (3, .ref af), (4, .ref ad), (5, .ref aw), (6, .ref al), (7, .ref ar), (8, .int (nI i)), (9, .int xx), (10, .int yy), (11, .int (nI kd))]) hx hb dL_law_295 hl (by decide) rfl (fun ls hl => ?_)
        refine lv_iload hx hb dL_law_297 (lv_at hl 10 rfl) ?_
        refine lv_bipush (v := nI 11) hx hb dL_law_299 (by decide) ?_
        refine lv_ishr hx hb dL_law_301 ?_
        refine lv_iconst (v := nI 3) hx hb dL_law_302 (by decide) ?_
        refine rwS2 (rest := []) S (c_L_low l E (xx >>> (nI 11 &&& 31)) 3 (by omega) (by omega)) cd_L_low bw_140 ⟨Nat.le_of_ble_eq_true rfl, Nat.le_of_ble_eq_true rfl⟩ hcs hP (hDa.to rfl) hE hA hS [] rfl rfl [] rfl rfl (Nat.le_of_ble_eq_true rfl) hl.1 dL_law_303 (fun H locs hP _ hS => ?_)
        have hP : va_P E.1 vwCl [(xo, .inr (4, [.ref r, .ref r2, .ref r3, .ref d, .ref y, .ref q2, .int (nI 0)])), (r, .inr (2, [.ref rc])), (rc, .inl (E.2.1, 293, .inl f)), (r2, .inr (2, [.ref rc2])), (rc2, .inl (E.2.1, 293, .inl fb)), (r3, .inr (2, [.ref rc3])), (rc3, .inl (E.2.1, 293, .inl ft)), (d, .inr (1, [.ref ch, .ref nu, .int (nI 0), .int (nI 0), .int (nI 0), .int (nI 0), .int (nI 0), .int (nI 0)])), (ch, .inl (E.2.2.1, 80, .inl t0)), (nu, .inl (E.2.1, 4, .inl u0)), (y, .inr (0, [.ref q, .int (nI o), .int (nI z)])), (q, .inr (3, [.ref w])), (w, .inl (E.2.1, 1758, .inl h)), (q2, .inr (3, [.ref w2])), (w2, .inl (E.2.1, 586, .inl sl)), (aq, .inl (E.2.1, 13, .inl vq)), (af, .inl (E.2.1, 21, .inl vf)), (ad, .inl (E.2.1, 63, .inl vd)), (aw, .inl (E.2.1, 63, .inl vw)), (al, .inl (E.2.1, 63, .inl vl)), (ar, .inl (E.2.1, 63, .inl vr))] H := hP
        refine lv_istore (lv' := [(13, .int (nI (lowN (xx >>> (nI 11 &&& 31)) 3))), (12, .int (nI (lowN (xx >>> (nI 6 &&& 31)) 21))), (0, .ref b9), (1, .ref xo), (2, .ref aq), (3, .ref af), (4, .ref ad), (5, .ref aw), (6, .ref al), (7, .ref ar), (8, .int (nI i)), (9, .int xx), (10, .int yy), (11, .int (nI kd))]) hx hb dL_law_306 hl (by decide) rfl (fun ls hl => ?_)
        have hl : lv_has ls 17 [(0, .ref b9), (1, .ref xo), (2, .ref aq), (3, .ref af), (4, .ref ad), (5, .ref aw), (6, .ref al), (7, .ref ar), (8, .int (nI i)), (9, .int xx), (10, .int yy), (11, .int (nI kd)), (12, .int (nI (lowN (xx >>> (nI 6 &&& 31)) 21))), (13, .int (nI (lowN (xx >>> (nI 11 &&& 31)) 3)))] := lv_sub hl [2, 3, 4, 5, 6, 7, 8, 9, 10, 11, 12, 13, 1, 0] rfl
        exact hk (lowN (xx >>> (nI 6 &&& 31)) 21) (lowN (xx >>> (nI 11 &&& 31)) 3) (by omega) (fun _ => by omega) (by omega) _ _ hP hS _ hl
  · refine lv_iload hx hb dL_law_244 (lv_at hl 9 rfl) ?_
    refine lv_bipush (v := nI 6) hx hb dL_law_246 (by decide) ?_
    refine lv_ishr hx hb dL_law_248 ?_
    refine lv_aload_n hx hb dL_law_249 rfl (lv_at hl 2 rfl) ?_
    refine lv_iconst (v := nI 4) hx hb dL_law_250 (by decide) ?_
    refine rn_iald (i := 4) hx hb hK hP 15 0 rfl rfl (by omega) (by omega) dL_law_251 ?_
    refine W.eq (congrArg (fun z9 => F0 m 252 ls (.int z9 :: [.int (xx >>> (nI 6 &&& 31))])) (show vq 4 = nI n from hf)) ?_
    refine lv_iconst (v := nI 1) hx hb dL_law_252 (by decide) ?_
    refine rn_add (a := n) (b := 1) hx hb dL_law_253 ?_
    refine rwS2 (rest := []) S (c_L_low l E (xx >>> (nI 6 &&& 31)) (n + 1) (by omega) (by omega)) cd_L_low bw_140 ⟨Nat.le_of_ble_eq_true rfl, Nat.le_of_ble_eq_true rfl⟩ hcs hP (hDa.to rfl) hE hA hS [] rfl rfl [] rfl rfl (Nat.le_of_ble_eq_true rfl) hl.1 dL_law_254 (fun H locs hP _ hS => ?_)
    have hP : va_P E.1 vwCl [(xo, .inr (4, [.ref r, .ref r2, .ref r3, .ref d, .ref y, .ref q2, .int (nI 0)])), (r, .inr (2, [.ref rc])), (rc, .inl (E.2.1, 293, .inl f)), (r2, .inr (2, [.ref rc2])), (rc2, .inl (E.2.1, 293, .inl fb)), (r3, .inr (2, [.ref rc3])), (rc3, .inl (E.2.1, 293, .inl ft)), (d, .inr (1, [.ref ch, .ref nu, .int (nI 0), .int (nI 0), .int (nI 0), .int (nI 0), .int (nI 0), .int (nI 0)])), (ch, .inl (E.2.2.1, 80, .inl t0)), (nu, .inl (E.2.1, 4, .inl u0)), (y, .inr (0, [.ref q, .int (nI o), .int (nI z)])), (q, .inr (3, [.ref w])), (w, .inl (E.2.1, 1758, .inl h)), (q2, .inr (3, [.ref w2])), (w2, .inl (E.2.1, 586, .inl sl)), (aq, .inl (E.2.1, 13, .inl vq)), (af, .inl (E.2.1, 21, .inl vf)), (ad, .inl (E.2.1, 63, .inl vd)), (aw, .inl (E.2.1, 63, .inl vw)), (al, .inl (E.2.1, 63, .inl vl)), (ar, .inl (E.2.1, 63, .inl vr))] H := hP
    refine lv_goto (tgt := 295) hx hb dL_law_257 (by decide) ?_
    refine lv_istore (lv' := [(12, .int (nI (lowN (xx >>> (nI 6 &&& 31)) (n + 1)))), (0, .ref b9), (1, .ref xo), (2, .ref aq), (3, .ref af), (4, .ref ad), (5, .ref aw), (6, .ref al), (7, .ref ar), (8, .int (nI i)), (9, .int xx), (10, .int yy), (11, .int (nI kd))]) hx hb dL_law_295 hl (by decide) rfl (fun ls hl => ?_)
    refine lv_iload hx hb dL_law_297 (lv_at hl 10 rfl) ?_
    refine lv_bipush (v := nI 11) hx hb dL_law_299 (by decide) ?_
    refine lv_ishr hx hb dL_law_301 ?_
    refine lv_iconst (v := nI 3) hx hb dL_law_302 (by decide) ?_
    refine rwS2 (rest := []) S (c_L_low l E (xx >>> (nI 11 &&& 31)) 3 (by omega) (by omega)) cd_L_low bw_140 ⟨Nat.le_of_ble_eq_true rfl, Nat.le_of_ble_eq_true rfl⟩ hcs hP (hDa.to rfl) hE hA hS [] rfl rfl [] rfl rfl (Nat.le_of_ble_eq_true rfl) hl.1 dL_law_303 (fun H locs hP _ hS => ?_)
    have hP : va_P E.1 vwCl [(xo, .inr (4, [.ref r, .ref r2, .ref r3, .ref d, .ref y, .ref q2, .int (nI 0)])), (r, .inr (2, [.ref rc])), (rc, .inl (E.2.1, 293, .inl f)), (r2, .inr (2, [.ref rc2])), (rc2, .inl (E.2.1, 293, .inl fb)), (r3, .inr (2, [.ref rc3])), (rc3, .inl (E.2.1, 293, .inl ft)), (d, .inr (1, [.ref ch, .ref nu, .int (nI 0), .int (nI 0), .int (nI 0), .int (nI 0), .int (nI 0), .int (nI 0)])), (ch, .inl (E.2.2.1, 80, .inl t0)), (nu, .inl (E.2.1, 4, .inl u0)), (y, .inr (0, [.ref q, .int (nI o), .int (nI z)])), (q, .inr (3, [.ref w])), (w, .inl (E.2.1, 1758, .inl h)), (q2, .inr (3, [.ref w2])), (w2, .inl (E.2.1, 586, .inl sl)), (aq, .inl (E.2.1, 13, .inl vq)), (af, .inl (E.2.1, 21, .inl vf)), (ad, .inl (E.2.1, 63, .inl vd)), (aw, .inl (E.2.1, 63, .inl vw)), (al, .inl (E.2.1, 63, .inl vl)), (ar, .inl (E.2.1, 63, .inl vr))] H := hP
    refine lv_istore (lv' := [(13, .int (nI (lowN (xx >>> (nI 11 &&& 31)) 3))), (12, .int (nI (lowN (xx >>> (nI 6 &&& 31)) (n + 1)))), (0, .ref b9), (1, .ref xo), (2, .ref aq), (3, .ref af), (4, .ref ad), (5, .ref aw), (6, .ref al), (7, .ref ar), (8, .int (nI i)), (9, .int xx), (10, .int yy), (11, .int (nI kd))]) hx hb dL_law_306 hl (by decide) rfl (fun ls hl => ?_)
    have hl : lv_has ls 17 [(0, .ref b9), (1, .ref xo), (2, .ref aq), (3, .ref af), (4, .ref ad), (5, .ref aw), (6, .ref al), (7, .ref ar), (8, .int (nI i)), (9, .int xx), (10, .int yy), (11, .int (nI kd)), (12, .int (nI (lowN (xx >>> (nI 6 &&& 31)) (n + 1)))), (13, .int (nI (lowN (xx >>> (nI 11 &&& 31)) 3)))] := lv_sub hl [2, 3, 4, 5, 6, 7, 8, 9, 10, 11, 12, 13, 1, 0] rfl
    exact hk (lowN (xx >>> (nI 6 &&& 31)) (n + 1)) (lowN (xx >>> (nI 11 &&& 31)) 3) (by omega) (fun _ => by omega) (by omega) _ _ hP hS _ hl
theorem i32_nle {v : Int32} (h : ¬ 0 ≤ v) : v < 0 := by
  rw [i32_le, i32_z] at h
  rw [i32_lt, i32_z]; omega
theorem i32_nlt {v : Int32} (h : 0 ≤ v) : ¬ v < 0 := by
  rw [i32_le, i32_z] at h
  rw [i32_lt, i32_z]; omega
set_option maxHeartbeats 4000000 in
set_option maxRecDepth 100000 in
theorem lw_told (S : CallFix p m c code 17 s #[Value.ref b9] bw RL) (hE : en E A s s.heap) (hA : ∀ q, s.heap.size ≤ q → A q) (hcs : cells ≤ room_1.cells ∧ slots ≤ room_1.slots) (hDa : va_Da A [xo, r, rc, r2, rc2, r3, rc3, d, ch, nu, y, q, w, q2, w2, aq, af, ad, aw, al, ar]) (f : Nat → Int32) (fb : Nat → Int32) (o : Nat) (z : Nat) (h : Nat → Int32) (vq : Nat → Int32) (vf : Nat → Int32) (vd : Nat → Int32) (vw : Nat → Int32) (vl : Nat → Int32) (vr : Nat → Int32) (xx : Int32) (yy : Int32) (n : Nat) (kd : Nat) (aa : Nat) (bb : Nat) (hf : f 12 = nI n) (hn : n ≤ 20) (ho : o < 6) (hz : z ≤ 6) (hkd : kd < 14) (hno : kV f n aa bb yy kd < 0 → kW f n aa bb yy kd = f) (hk : ∀ (fb' : Nat → Int32) (o' z' : Nat) (h' : Nat → Int32), o' < 6 → z' ≤ 6 → ∀ (H : Heap) (locs : List Loc), va_P E.1 vwCl [(xo, .inr (4, [.ref r, .ref r2, .ref r3, .ref d, .ref y, .ref q2, .int (nI 0)])), (r, .inr (2, [.ref rc])), (rc, .inl (E.2.1, 293, .inl (kW f n aa bb yy kd))), (r2, .inr (2, [.ref rc2])), (rc2, .inl (E.2.1, 293, .inl fb')), (r3, .inr (2, [.ref rc3])), (rc3, .inl (E.2.1, 293, .inl ft)), (d, .inr (1, [.ref ch, .ref nu, .int (nI 0), .int (nI 0), .int (nI 0), .int (nI 0), .int (nI 0), .int (nI 0)])), (ch, .inl (E.2.2.1, 80, .inl t0)), (nu, .inl (E.2.1, 4, .inl u0)), (y, .inr (0, [.ref q, .int (nI o'), .int (nI z')])), (q, .inr (3, [.ref w])), (w, .inl (E.2.1, 1758, .inl h')), (q2, .inr (3, [.ref w2])), (w2, .inl (E.2.1, 586, .inl sl)), (aq, .inl (E.2.1, 13, .inl vq)), (af, .inl (E.2.1, 21, .inl vf)), (ad, .inl (E.2.1, 63, .inl vd)), (aw, .inl (E.2.1, 63, .inl vw)), (al, .inl (E.2.1, 63, .inl vl)), (ar, .inl (E.2.1, 63, .inl vr))] H → va_S A s.heap H locs → ∀ ls : Array Slot, lv_has ls 17 [(0, .ref b9), (1, .ref xo), (2, .ref aq), (3, .ref af), (4, .ref ad), (5, .ref aw), (6, .ref al), (7, .ref ar), (8, .int (nI i)), (9, .int xx), (10, .int yy), (11, .int (nI kd)), (12, .int (nI aa)), (13, .int (nI bb)), (16, .int (kV f n aa bb yy kd))] → W p l e room_1 s m #[Value.ref b9] below meth c H locs cells slots Q (F0 m 392 ls [])) : ∀ (H : Heap) (locs : List Loc), va_P E.1 vwCl [(xo, .inr (4, [.ref r, .ref r2, .ref r3, .ref d, .ref y, .ref q2, .int (nI 0)])), (r, .inr (2, [.ref rc])), (rc, .inl (E.2.1, 293, .inl f)), (r2, .inr (2, [.ref rc2])), (rc2, .inl (E.2.1, 293, .inl fb)), (r3, .inr (2, [.ref rc3])), (rc3, .inl (E.2.1, 293, .inl ft)), (d, .inr (1, [.ref ch, .ref nu, .int (nI 0), .int (nI 0), .int (nI 0), .int (nI 0), .int (nI 0), .int (nI 0)])), (ch, .inl (E.2.2.1, 80, .inl t0)), (nu, .inl (E.2.1, 4, .inl u0)), (y, .inr (0, [.ref q, .int (nI o), .int (nI z)])), (q, .inr (3, [.ref w])), (w, .inl (E.2.1, 1758, .inl h)), (q2, .inr (3, [.ref w2])), (w2, .inl (E.2.1, 586, .inl sl)), (aq, .inl (E.2.1, 13, .inl vq)), (af, .inl (E.2.1, 21, .inl vf)), (ad, .inl (E.2.1, 63, .inl vd)), (aw, .inl (E.2.1, 63, .inl vw)), (al, .inl (E.2.1, 63, .inl vl)), (ar, .inl (E.2.1, 63, .inl vr))] H → va_S A s.heap H locs → ∀ ls : Array Slot, lv_has ls 17 [(0, .ref b9), (1, .ref xo), (2, .ref aq), (3, .ref af), (4, .ref ad), (5, .ref aw), (6, .ref al), (7, .ref ar), (8, .int (nI i)), (9, .int xx), (10, .int yy), (11, .int (nI kd)), (12, .int (nI aa)), (13, .int (nI bb))] → W p l e room_1 s m #[Value.ref b9] below meth c H locs cells slots Q (F0 m 308 ls []) := by
  intro H locs hP hS ls hl
  have hx := S.1
  have hb := S.2.1
  have hown := S.2.2.2.1
  have hts := S.2.2.2.2
  have hK := hE.1
  refine lv_aload_n hx hb dL_law_308 rfl (lv_at hl 1 rfl) ?_
  refine rwSl1 (rest := []) S (c_L_told l E xo r r2 r3 d y q2 (nI 0) rc f ch nu 0 (nI 0) (nI 0) (nI 0) (nI 0) (nI 0) t0 u0 q w o z h n hf hn) cd_L_told bw_507 ⟨Nat.le_of_ble_eq_true rfl, Nat.le_of_ble_eq_true rfl⟩ hcs hP (hDa.to rfl) hE hA hS [0, 1, 2, 7, 8, 9, 10, 11, 12] rfl rfl [xo, r, rc, d, ch, nu, y, q, w] rfl rfl (Nat.le_of_ble_eq_true rfl) hl.1 dL_law_309 (fun H locs hP _ hS => ?_)
  have hP : va_P E.1 vwCl [(xo, .inr (4, [.ref r, .ref r2, .ref r3, .ref d, .ref y, .ref q2, .int (nI 0)])), (r, .inr (2, [.ref rc])), (rc, .inl (E.2.1, 293, .inl f)), (r2, .inr (2, [.ref rc2])), (rc2, .inl (E.2.1, 293, .inl fb)), (r3, .inr (2, [.ref rc3])), (rc3, .inl (E.2.1, 293, .inl ft)), (d, .inr (1, [.ref ch, .ref nu, .int (nI 0), .int (nI 0), .int (nI 0), .int (nI 0), .int (nI 0), .int (nI 0)])), (ch, .inl (E.2.2.1, 80, .inl t0)), (nu, .inl (E.2.1, 4, .inl u0)), (y, .inr (0, [.ref q, .int (nI o), .int (nI z)])), (q, .inr (3, [.ref w])), (w, .inl (E.2.1, 1758, .inl h)), (q2, .inr (3, [.ref w2])), (w2, .inl (E.2.1, 586, .inl sl)), (aq, .inl (E.2.1, 13, .inl vq)), (af, .inl (E.2.1, 21, .inl vf)), (ad, .inl (E.2.1, 63, .inl vd)), (aw, .inl (E.2.1, 63, .inl vw)), (al, .inl (E.2.1, 63, .inl vl)), (ar, .inl (E.2.1, 63, .inl vr))] H := hP
  refine lv_lstore (lv' := [(14, .long (toC f n (3 * n))), (0, .ref b9), (1, .ref xo), (2, .ref aq), (3, .ref af), (4, .ref ad), (5, .ref aw), (6, .ref al), (7, .ref ar), (8, .int (nI i)), (9, .int xx), (10, .int yy), (11, .int (nI kd)), (12, .int (nI aa)), (13, .int (nI bb))]) hx hb dL_law_312 hl (by decide) rfl (fun ls hl => ?_)
  refine lv_aload_n hx hb dL_law_314 rfl (lv_at hl 2 rfl) ?_
  refine lv_iload hx hb dL_law_315 (lv_at hl 12 rfl) ?_
  refine lv_iload hx hb dL_law_317 (lv_at hl 13 rfl) ?_
  refine lv_iload hx hb dL_law_319 (lv_at hl 14 rfl) ?_
  refine lv_iload hx hb dL_law_321 (lv_at hl 11 rfl) ?_
  refine rwS5 (rest := []) S (c_L_call l E xo r r2 r3 d y q2 (nI 0) rc f rc2 fb q w o z h n aa bb yy kd hf hn ho hz hkd) cd_L_call bw_144 ⟨Nat.le_of_ble_eq_true rfl, Nat.le_of_ble_eq_true rfl⟩ hcs hP (hDa.to rfl) hE hA hS [0, 1, 2, 3, 4, 10, 11, 12] rfl rfl [xo, r, rc, r2, rc2, y, q, w] rfl rfl (Nat.le_of_ble_eq_true rfl) hl.1 dL_law_323 (fun H locs hP _ hS => ?_)
  have hP : va_P E.1 vwCl [(xo, .inr (4, [.ref r, .ref r2, .ref r3, .ref d, .ref y, .ref q2, .int (nI 0)])), (r, .inr (2, [.ref rc])), (rc, .inl (E.2.1, 293, .inl (kW f n aa bb yy kd))), (r2, .inr (2, [.ref rc2])), (rc2, .inl (E.2.1, 293, .inl (cp293 f fb))), (r3, .inr (2, [.ref rc3])), (rc3, .inl (E.2.1, 293, .inl ft)), (d, .inr (1, [.ref ch, .ref nu, .int (nI 0), .int (nI 0), .int (nI 0), .int (nI 0), .int (nI 0), .int (nI 0)])), (ch, .inl (E.2.2.1, 80, .inl t0)), (nu, .inl (E.2.1, 4, .inl u0)), (y, .inr (0, [.ref q, .int (nI (recO (kV f n aa bb yy kd) o z)), .int (nI (recZ (kV f n aa bb yy kd) z))])), (q, .inr (3, [.ref w])), (w, .inl (E.2.1, 1758, .inl (recH (kV f n aa bb yy kd) (cp293 f fb) h o z))), (q2, .inr (3, [.ref w2])), (w2, .inl (E.2.1, 586, .inl sl)), (aq, .inl (E.2.1, 13, .inl vq)), (af, .inl (E.2.1, 21, .inl vf)), (ad, .inl (E.2.1, 63, .inl vd)), (aw, .inl (E.2.1, 63, .inl vw)), (al, .inl (E.2.1, 63, .inl vl)), (ar, .inl (E.2.1, 63, .inl vr))] H := hP
  refine lv_istore (lv' := [(16, .int (kV f n aa bb yy kd)), (14, .long (toC f n (3 * n))), (0, .ref b9), (1, .ref xo), (2, .ref aq), (3, .ref af), (4, .ref ad), (5, .ref aw), (6, .ref al), (7, .ref ar), (8, .int (nI i)), (9, .int xx), (10, .int yy), (11, .int (nI kd)), (12, .int (nI aa)), (13, .int (nI bb))]) hx hb dL_law_326 hl (by decide) rfl (fun ls hl => ?_)
  refine lv_iload hx hb dL_law_328 (lv_at hl 0 rfl) ?_
  refine lv_if_ge (tgt := 346) hx hb dL_law_330 (by decide) (fun c_1 => ?_) (fun c_1 => ?_)
  · refine lv_iload hx hb dL_law_346 (lv_at hl 11 rfl) ?_
    refine lv_bipush (v := nI 24) hx hb dL_law_348 (by decide) ?_
    refine lv_ishr hx hb dL_law_350 ?_
    refine lv_iconst (v := nI 3) hx hb dL_law_351 (by decide) ?_
    refine lv_iand hx hb dL_law_352 ?_
    refine lv_if_ne (tgt := 392) hx hb dL_law_353 (by decide) (fun c_2 => ?_) (fun c_2 => ?_)
    · have hl : lv_has ls 17 [(0, .ref b9), (1, .ref xo), (2, .ref aq), (3, .ref af), (4, .ref ad), (5, .ref aw), (6, .ref al), (7, .ref ar), (8, .int (nI i)), (9, .int xx), (10, .int yy), (11, .int (nI kd)), (12, .int (nI aa)), (13, .int (nI bb)), (16, .int (kV f n aa bb yy kd))] := lv_sub hl [2, 3, 4, 5, 6, 7, 8, 9, 10, 11, 12, 13, 14, 15, 0] rfl
      exact hk (cp293 f fb) (recO (kV f n aa bb yy kd) o z) (recZ (kV f n aa bb yy kd) z) (recH (kV f n aa bb yy kd) (cp293 f fb) h o z) (recO_lt ho) (recZ_le hz) _ _ hP hS _ hl
    · refine lv_aload_n hx hb dL_law_356 rfl (lv_at hl 3 rfl) ?_
      refine rwV0 (rest := []) S (c_X7_undo l E xo r r2 r3 d y q2 (nI 0) rc (kW f n aa bb yy kd) q w (recO (kV f n aa bb yy kd) o z) (recZ (kV f n aa bb yy kd) z) (recH (kV f n aa bb yy kd) (cp293 f fb) h o z) (recO_lt ho) (recZ_le hz)) cd_X7_undo bw_115 ⟨Nat.le_of_ble_eq_true rfl, Nat.le_of_ble_eq_true rfl⟩ hcs hP (hDa.to rfl) hE hA hS [0, 1, 2, 10, 11, 12] rfl rfl [xo, r, rc, y, q, w] rfl rfl (ci := 4) rfl (q0 := 0) rfl (Nat.le_of_ble_eq_true rfl) hl.1 dL_law_357 (fun H locs hP _ hS => ?_)
      have hP : va_P E.1 vwCl [(xo, .inr (4, [.ref r, .ref r2, .ref r3, .ref d, .ref y, .ref q2, .int (nI 0)])), (r, .inr (2, [.ref rc])), (rc, .inl (E.2.1, 293, .inl (unF (kW f n aa bb yy kd) (recH (kV f n aa bb yy kd) (cp293 f fb) h o z) (recO (kV f n aa bb yy kd) o z) (recZ (kV f n aa bb yy kd) z)))), (r2, .inr (2, [.ref rc2])), (rc2, .inl (E.2.1, 293, .inl (cp293 f fb))), (r3, .inr (2, [.ref rc3])), (rc3, .inl (E.2.1, 293, .inl ft)), (d, .inr (1, [.ref ch, .ref nu, .int (nI 0), .int (nI 0), .int (nI 0), .int (nI 0), .int (nI 0), .int (nI 0)])), (ch, .inl (E.2.2.1, 80, .inl t0)), (nu, .inl (E.2.1, 4, .inl u0)), (y, .inr (0, [.ref q, .int (nI (recO (kV f n aa bb yy kd) o z)), .int (nI ((recZ (kV f n aa bb yy kd) z) - 1))])), (q, .inr (3, [.ref w])), (w, .inl (E.2.1, 1758, .inl (recH (kV f n aa bb yy kd) (cp293 f fb) h o z))), (q2, .inr (3, [.ref w2])), (w2, .inl (E.2.1, 586, .inl sl)), (aq, .inl (E.2.1, 13, .inl vq)), (af, .inl (E.2.1, 21, .inl vf)), (ad, .inl (E.2.1, 63, .inl vd)), (aw, .inl (E.2.1, 63, .inl vw)), (al, .inl (E.2.1, 63, .inl vl)), (ar, .inl (E.2.1, 63, .inl vr))] H := hP
      refine lv_if_lt (tgt := 390) hx hb dL_law_360 (by decide) (fun c_3 => absurd c_3 (un_ok (i32_nlt c_1) hz)) (fun c_3 => ?_)
      have hP : va_P E.1 vwCl [(xo, .inr (4, [.ref r, .ref r2, .ref r3, .ref d, .ref y, .ref q2, .int (nI 0)])), (r, .inr (2, [.ref rc])), (rc, .inl (E.2.1, 293, .inl f)), (r2, .inr (2, [.ref rc2])), (rc2, .inl (E.2.1, 293, .inl (cp293 f fb))), (r3, .inr (2, [.ref rc3])), (rc3, .inl (E.2.1, 293, .inl ft)), (d, .inr (1, [.ref ch, .ref nu, .int (nI 0), .int (nI 0), .int (nI 0), .int (nI 0), .int (nI 0), .int (nI 0)])), (ch, .inl (E.2.2.1, 80, .inl t0)), (nu, .inl (E.2.1, 4, .inl u0)), (y, .inr (0, [.ref q, .int (nI (recO (kV f n aa bb yy kd) o z)), .int (nI ((recZ (kV f n aa bb yy kd) z) - 1))])), (q, .inr (3, [.ref w])), (w, .inl (E.2.1, 1758, .inl (recH (kV f n aa bb yy kd) (cp293 f fb) h o z))), (q2, .inr (3, [.ref w2])), (w2, .inl (E.2.1, 586, .inl sl)), (aq, .inl (E.2.1, 13, .inl vq)), (af, .inl (E.2.1, 21, .inl vf)), (ad, .inl (E.2.1, 63, .inl vd)), (aw, .inl (E.2.1, 63, .inl vw)), (al, .inl (E.2.1, 63, .inl vl)), (ar, .inl (E.2.1, 63, .inl vr))] H := va_ext (qq := 2) (g := f) hP rfl (un_e (i32_nlt c_1) ho hz)
      refine lv_aload_n hx hb dL_law_363 rfl (lv_at hl 3 rfl) ?_
      refine rwSl1 (rest := []) S (c_L_told l E xo r r2 r3 d y q2 (nI 0) rc f ch nu 0 (nI 0) (nI 0) (nI 0) (nI 0) (nI 0) t0 u0 q w (recO (kV f n aa bb yy kd) o z) ((recZ (kV f n aa bb yy kd) z) - 1) (recH (kV f n aa bb yy kd) (cp293 f fb) h o z) n hf hn) cd_L_told bw_507 ⟨Nat.le_of_ble_eq_true rfl, Nat.le_of_ble_eq_true rfl⟩ hcs hP (hDa.to rfl) hE hA hS [0, 1, 2, 7, 8, 9, 10, 11, 12] rfl rfl [xo, r, rc, d, ch, nu, y, q, w] rfl rfl (Nat.le_of_ble_eq_true rfl) hl.1 dL_law_364 (fun H locs hP _ hS => ?_)
      have hP : va_P E.1 vwCl [(xo, .inr (4, [.ref r, .ref r2, .ref r3, .ref d, .ref y, .ref q2, .int (nI 0)])), (r, .inr (2, [.ref rc])), (rc, .inl (E.2.1, 293, .inl f)), (r2, .inr (2, [.ref rc2])), (rc2, .inl (E.2.1, 293, .inl (cp293 f fb))), (r3, .inr (2, [.ref rc3])), (rc3, .inl (E.2.1, 293, .inl ft)), (d, .inr (1, [.ref ch, .ref nu, .int (nI 0), .int (nI 0), .int (nI 0), .int (nI 0), .int (nI 0), .int (nI 0)])), (ch, .inl (E.2.2.1, 80, .inl t0)), (nu, .inl (E.2.1, 4, .inl u0)), (y, .inr (0, [.ref q, .int (nI (recO (kV f n aa bb yy kd) o z)), .int (nI ((recZ (kV f n aa bb yy kd) z) - 1))])), (q, .inr (3, [.ref w])), (w, .inl (E.2.1, 1758, .inl (recH (kV f n aa bb yy kd) (cp293 f fb) h o z))), (q2, .inr (3, [.ref w2])), (w2, .inl (E.2.1, 586, .inl sl)), (aq, .inl (E.2.1, 13, .inl vq)), (af, .inl (E.2.1, 21, .inl vf)), (ad, .inl (E.2.1, 63, .inl vd)), (aw, .inl (E.2.1, 63, .inl vw)), (al, .inl (E.2.1, 63, .inl vl)), (ar, .inl (E.2.1, 63, .inl vr))] H := hP
      refine lv_lload hx hb dL_law_367 (lv_at hl 1 rfl) ?_
      refine W.lcmp hx hb dL_law_369 ?_
      refine W.eq (congrArg (fun z9 => F0 m 370 ls (.int z9 :: [])) (show lg_cmp (toC f n (3 * n)) (toC f n (3 * n)) = nI 0 from (lcmp_rf _))) ?_
      refine lv_if_ne (tgt := 390) hx hb dL_law_370 (by decide) (fun c9 => by first | exact absurd c9 (by decide) | exact absurd (by decide) c9) (fun _ => ?_)
      refine lv_aload_n hx hb dL_law_373 rfl (lv_at hl 3 rfl) ?_
      refine lv_iload hx hb dL_law_374 (lv_at hl 13 rfl) ?_
      refine lv_iload hx hb dL_law_376 (lv_at hl 14 rfl) ?_
      refine lv_iload hx hb dL_law_378 (lv_at hl 15 rfl) ?_
      refine lv_iload hx hb dL_law_380 (lv_at hl 12 rfl) ?_
      refine rwS5 (rest := []) S (c_L_call l E xo r r2 r3 d y q2 (nI 0) rc f rc2 (cp293 f fb) q w (recO (kV f n aa bb yy kd) o z) ((recZ (kV f n aa bb yy kd) z) - 1) (recH (kV f n aa bb yy kd) (cp293 f fb) h o z) n aa bb yy kd hf hn (recO_lt ho) (Nat.le_trans (Nat.sub_le _ _) (recZ_le hz)) hkd) cd_L_call bw_144 ⟨Nat.le_of_ble_eq_true rfl, Nat.le_of_ble_eq_true rfl⟩ hcs hP (hDa.to rfl) hE hA hS [0, 1, 2, 3, 4, 10, 11, 12] rfl rfl [xo, r, rc, r2, rc2, y, q, w] rfl rfl (Nat.le_of_ble_eq_true rfl) hl.1 dL_law_382 (fun H locs hP _ hS => ?_)
      have hP : va_P E.1 vwCl [(xo, .inr (4, [.ref r, .ref r2, .ref r3, .ref d, .ref y, .ref q2, .int (nI 0)])), (r, .inr (2, [.ref rc])), (rc, .inl (E.2.1, 293, .inl (kW f n aa bb yy kd))), (r2, .inr (2, [.ref rc2])), (rc2, .inl (E.2.1, 293, .inl (cp293 f (cp293 f fb)))), (r3, .inr (2, [.ref rc3])), (rc3, .inl (E.2.1, 293, .inl ft)), (d, .inr (1, [.ref ch, .ref nu, .int (nI 0), .int (nI 0), .int (nI 0), .int (nI 0), .int (nI 0), .int (nI 0)])), (ch, .inl (E.2.2.1, 80, .inl t0)), (nu, .inl (E.2.1, 4, .inl u0)), (y, .inr (0, [.ref q, .int (nI (recO (kV f n aa bb yy kd) (recO (kV f n aa bb yy kd) o z) ((recZ (kV f n aa bb yy kd) z) - 1))), .int (nI (recZ (kV f n aa bb yy kd) ((recZ (kV f n aa bb yy kd) z) - 1)))])), (q, .inr (3, [.ref w])), (w, .inl (E.2.1, 1758, .inl (recH (kV f n aa bb yy kd) (cp293 f (cp293 f fb)) (recH (kV f n aa bb yy kd) (cp293 f fb) h o z) (recO (kV f n aa bb yy kd) o z) ((recZ (kV f n aa bb yy kd) z) - 1)))), (q2, .inr (3, [.ref w2])), (w2, .inl (E.2.1, 586, .inl sl)), (aq, .inl (E.2.1, 13, .inl vq)), (af, .inl (E.2.1, 21, .inl vf)), (ad, .inl (E.2.1, 63, .inl vd)), (aw, .inl (E.2.1, 63, .inl vw)), (al, .inl (E.2.1, 63, .inl vl)), (ar, .inl (E.2.1, 63, .inl vr))] H := hP
      refine lv_iload hx hb dL_law_385 (lv_at hl 0 rfl) ?_
      refine lv_icmp_eq (tgt := 392) hx hb dL_law_387 (by decide) (fun c_4 => ?_) (fun c_4 => absurd c_4 (fun z9 => z9 rfl))
      have hl : lv_has ls 17 [(0, .ref b9), (1, .ref xo), (2, .ref aq), (3, .ref af), (4, .ref ad), (5, .ref aw), (6, .ref al), (7, .ref ar), (8, .int (nI i)), (9, .int xx), (10, .int yy), (11, .int (nI kd)), (12, .int (nI aa)), (13, .int (nI bb)), (16, .int (kV f n aa bb yy kd))] := lv_sub hl [2, 3, 4, 5, 6, 7, 8, 9, 10, 11, 12, 13, 14, 15, 0] rfl
      exact hk (cp293 f (cp293 f fb)) (recO (kV f n aa bb yy kd) (recO (kV f n aa bb yy kd) o z) ((recZ (kV f n aa bb yy kd) z) - 1)) (recZ (kV f n aa bb yy kd) ((recZ (kV f n aa bb yy kd) z) - 1)) (recH (kV f n aa bb yy kd) (cp293 f (cp293 f fb)) (recH (kV f n aa bb yy kd) (cp293 f fb) h o z) (recO (kV f n aa bb yy kd) o z) ((recZ (kV f n aa bb yy kd) z) - 1)) (recO_lt (recO_lt ho)) (recZ_le (Nat.le_trans (Nat.sub_le _ _) (recZ_le hz))) _ _ hP hS _ hl
  · have hP : va_P E.1 vwCl [(xo, .inr (4, [.ref r, .ref r2, .ref r3, .ref d, .ref y, .ref q2, .int (nI 0)])), (r, .inr (2, [.ref rc])), (rc, .inl (E.2.1, 293, .inl f)), (r2, .inr (2, [.ref rc2])), (rc2, .inl (E.2.1, 293, .inl (cp293 f fb))), (r3, .inr (2, [.ref rc3])), (rc3, .inl (E.2.1, 293, .inl ft)), (d, .inr (1, [.ref ch, .ref nu, .int (nI 0), .int (nI 0), .int (nI 0), .int (nI 0), .int (nI 0), .int (nI 0)])), (ch, .inl (E.2.2.1, 80, .inl t0)), (nu, .inl (E.2.1, 4, .inl u0)), (y, .inr (0, [.ref q, .int (nI (recO (kV f n aa bb yy kd) o z)), .int (nI (recZ (kV f n aa bb yy kd) z))])), (q, .inr (3, [.ref w])), (w, .inl (E.2.1, 1758, .inl (recH (kV f n aa bb yy kd) (cp293 f fb) h o z))), (q2, .inr (3, [.ref w2])), (w2, .inl (E.2.1, 586, .inl sl)), (aq, .inl (E.2.1, 13, .inl vq)), (af, .inl (E.2.1, 21, .inl vf)), (ad, .inl (E.2.1, 63, .inl vd)), (aw, .inl (E.2.1, 63, .inl vw)), (al, .inl (E.2.1, 63, .inl vl)), (ar, .inl (E.2.1, 63, .inl vr))] H := by rw [show kW f n aa bb yy kd = f from (hno (i32_nle c_1))] at hP; exact hP
    refine lv_aload_n hx hb dL_law_333 rfl (lv_at hl 3 rfl) ?_
    refine rwSl1 (rest := []) S (c_L_told l E xo r r2 r3 d y q2 (nI 0) rc f ch nu 0 (nI 0) (nI 0) (nI 0) (nI 0) (nI 0) t0 u0 q w (recO (kV f n aa bb yy kd) o z) (recZ (kV f n aa bb yy kd) z) (recH (kV f n aa bb yy kd) (cp293 f fb) h o z) n hf hn) cd_L_told bw_507 ⟨Nat.le_of_ble_eq_true rfl, Nat.le_of_ble_eq_true rfl⟩ hcs hP (hDa.to rfl) hE hA hS [0, 1, 2, 7, 8, 9, 10, 11, 12] rfl rfl [xo, r, rc, d, ch, nu, y, q, w] rfl rfl (Nat.le_of_ble_eq_true rfl) hl.1 dL_law_334 (fun H locs hP _ hS => ?_)
    have hP : va_P E.1 vwCl [(xo, .inr (4, [.ref r, .ref r2, .ref r3, .ref d, .ref y, .ref q2, .int (nI 0)])), (r, .inr (2, [.ref rc])), (rc, .inl (E.2.1, 293, .inl f)), (r2, .inr (2, [.ref rc2])), (rc2, .inl (E.2.1, 293, .inl (cp293 f fb))), (r3, .inr (2, [.ref rc3])), (rc3, .inl (E.2.1, 293, .inl ft)), (d, .inr (1, [.ref ch, .ref nu, .int (nI 0), .int (nI 0), .int (nI 0), .int (nI 0), .int (nI 0), .int (nI 0)])), (ch, .inl (E.2.2.1, 80, .inl t0)), (nu, .inl (E.2.1, 4, .inl u0)), (y, .inr (0, [.ref q, .int (nI (recO (kV f n aa bb yy kd) o z)), .int (nI (recZ (kV f n aa bb yy kd) z))])), (q, .inr (3, [.ref w])), (w, .inl (E.2.1, 1758, .inl (recH (kV f n aa bb yy kd) (cp293 f fb) h o z))), (q2, .inr (3, [.ref w2])), (w2, .inl (E.2.1, 586, .inl sl)), (aq, .inl (E.2.1, 13, .inl vq)), (af, .inl (E.2.1, 21, .inl vf)), (ad, .inl (E.2.1, 63, .inl vd)), (aw, .inl (E.2.1, 63, .inl vw)), (al, .inl (E.2.1, 63, .inl vl)), (ar, .inl (E.2.1, 63, .inl vr))] H := hP
    refine lv_lload hx hb dL_law_337 (lv_at hl 1 rfl) ?_
    refine W.lcmp hx hb dL_law_339 ?_
    refine W.eq (congrArg (fun z9 => F0 m 340 ls (.int z9 :: [])) (show lg_cmp (toC f n (3 * n)) (toC f n (3 * n)) = nI 0 from (lcmp_rf _))) ?_
    refine lv_if_eq (tgt := 392) hx hb dL_law_340 (by decide) (fun _ => ?_) (fun c9 => by first | exact absurd (by decide) c9 | exact absurd c9 (by decide))
    have hP : va_P E.1 vwCl [(xo, .inr (4, [.ref r, .ref r2, .ref r3, .ref d, .ref y, .ref q2, .int (nI 0)])), (r, .inr (2, [.ref rc])), (rc, .inl (E.2.1, 293, .inl (kW f n aa bb yy kd))), (r2, .inr (2, [.ref rc2])), (rc2, .inl (E.2.1, 293, .inl (cp293 f fb))), (r3, .inr (2, [.ref rc3])), (rc3, .inl (E.2.1, 293, .inl ft)), (d, .inr (1, [.ref ch, .ref nu, .int (nI 0), .int (nI 0), .int (nI 0), .int (nI 0), .int (nI 0), .int (nI 0)])), (ch, .inl (E.2.2.1, 80, .inl t0)), (nu, .inl (E.2.1, 4, .inl u0)), (y, .inr (0, [.ref q, .int (nI (recO (kV f n aa bb yy kd) o z)), .int (nI (recZ (kV f n aa bb yy kd) z))])), (q, .inr (3, [.ref w])), (w, .inl (E.2.1, 1758, .inl (recH (kV f n aa bb yy kd) (cp293 f fb) h o z))), (q2, .inr (3, [.ref w2])), (w2, .inl (E.2.1, 586, .inl sl)), (aq, .inl (E.2.1, 13, .inl vq)), (af, .inl (E.2.1, 21, .inl vf)), (ad, .inl (E.2.1, 63, .inl vd)), (aw, .inl (E.2.1, 63, .inl vw)), (al, .inl (E.2.1, 63, .inl vl)), (ar, .inl (E.2.1, 63, .inl vr))] H := by rw [hno (i32_nle c_1)]; exact hP
    have hl : lv_has ls 17 [(0, .ref b9), (1, .ref xo), (2, .ref aq), (3, .ref af), (4, .ref ad), (5, .ref aw), (6, .ref al), (7, .ref ar), (8, .int (nI i)), (9, .int xx), (10, .int yy), (11, .int (nI kd)), (12, .int (nI aa)), (13, .int (nI bb)), (16, .int (kV f n aa bb yy kd))] := lv_sub hl [2, 3, 4, 5, 6, 7, 8, 9, 10, 11, 12, 13, 14, 15, 0] rfl
    exact hk (cp293 f fb) (recO (kV f n aa bb yy kd) o z) (recZ (kV f n aa bb yy kd) z) (recH (kV f n aa bb yy kd) (cp293 f fb) h o z) (recO_lt ho) (recZ_le hz) _ _ hP hS _ hl
set_option maxHeartbeats 4000000 in
set_option maxRecDepth 100000 in
theorem lw_due (S : CallFix p m c code 17 s #[Value.ref b9] bw RL) (hE : en E A s s.heap) (hA : ∀ q, s.heap.size ≤ q → A q) (hcs : cells ≤ room_1.cells ∧ slots ≤ room_1.slots) (hDa : va_Da A [xo, r, rc, r2, rc2, r3, rc3, d, ch, nu, y, q, w, q2, w2, aq, af, ad, aw, al, ar]) (f2 : Nat → Int32) (fb : Nat → Int32) (o : Nat) (z : Nat) (h : Nat → Int32) (vq : Nat → Int32) (vf : Nat → Int32) (vd : Nat → Int32) (vw : Nat → Int32) (vl : Nat → Int32) (vr : Nat → Int32) (gq : Nat → Int32) (gf : Nat → Int32) (gd : Nat → Int32) (gw : Nat → Int32) (gl : Nat → Int32) (gr : Nat → Int32) (xx : Int32) (yy : Int32) (n : Nat) (n2 : Nat) (kd : Nat) (aa : Nat) (bb : Nat) (v : Int32) (hi : i < 44) (hf : vq 4 = nI n) (hn : n ≤ 20) (ha9 : aa < 21) (hb3 : bb < 3) (hst : ¬ vq 0 = 0) (hkd : kd < 14) (eV : v = uV vq vf vd vw vl vr n aa bb yy kd) (eQ : uQ vq vf vd vw vl vr n aa bb yy kd = gq) (eF : uF vq vf vd vw vl vr n aa bb yy kd = gf) (eD : uD vq vf vd vw vl vr n aa bb yy kd = gd) (eW : uW vq vf vd vw vl vr n aa bb yy kd = gw) (eL : uL vq vf vd vw vl vr n aa bb yy kd = gl) (eR : uR vq vf vd vw vl vr n aa bb yy kd = gr) (hR : Re n2 f2 gq gf gd gw gl gr) (hk : ∀ (H : Heap) (locs : List Loc), va_P E.1 vwCl [(xo, .inr (4, [.ref r, .ref r2, .ref r3, .ref d, .ref y, .ref q2, .int (nI 0)])), (r, .inr (2, [.ref rc])), (rc, .inl (E.2.1, 293, .inl f2)), (r2, .inr (2, [.ref rc2])), (rc2, .inl (E.2.1, 293, .inl fb)), (r3, .inr (2, [.ref rc3])), (rc3, .inl (E.2.1, 293, .inl ft)), (d, .inr (1, [.ref ch, .ref nu, .int (nI 0), .int (nI 0), .int (nI 0), .int (nI 0), .int (nI 0), .int (nI 0)])), (ch, .inl (E.2.2.1, 80, .inl t0)), (nu, .inl (E.2.1, 4, .inl u0)), (y, .inr (0, [.ref q, .int (nI o), .int (nI z)])), (q, .inr (3, [.ref w])), (w, .inl (E.2.1, 1758, .inl h)), (q2, .inr (3, [.ref w2])), (w2, .inl (E.2.1, 586, .inl sl)), (aq, .inl (E.2.1, 13, .inl gq)), (af, .inl (E.2.1, 21, .inl gf)), (ad, .inl (E.2.1, 63, .inl gd)), (aw, .inl (E.2.1, 63, .inl gw)), (al, .inl (E.2.1, 63, .inl gl)), (ar, .inl (E.2.1, 63, .inl gr))] H → va_S A s.heap H locs → ∀ ls : Array Slot, lv_has ls 17 [(0, .ref b9), (1, .ref xo), (2, .ref aq), (3, .ref af), (4, .ref ad), (5, .ref aw), (6, .ref al), (7, .ref ar), (8, .int (nI (i + 1)))] → W p l e room_1 s m #[Value.ref b9] below meth c H locs cells slots Q (F0 m 63 ls [])) : ∀ (H : Heap) (locs : List Loc), va_P E.1 vwCl [(xo, .inr (4, [.ref r, .ref r2, .ref r3, .ref d, .ref y, .ref q2, .int (nI 0)])), (r, .inr (2, [.ref rc])), (rc, .inl (E.2.1, 293, .inl f2)), (r2, .inr (2, [.ref rc2])), (rc2, .inl (E.2.1, 293, .inl fb)), (r3, .inr (2, [.ref rc3])), (rc3, .inl (E.2.1, 293, .inl ft)), (d, .inr (1, [.ref ch, .ref nu, .int (nI 0), .int (nI 0), .int (nI 0), .int (nI 0), .int (nI 0), .int (nI 0)])), (ch, .inl (E.2.2.1, 80, .inl t0)), (nu, .inl (E.2.1, 4, .inl u0)), (y, .inr (0, [.ref q, .int (nI o), .int (nI z)])), (q, .inr (3, [.ref w])), (w, .inl (E.2.1, 1758, .inl h)), (q2, .inr (3, [.ref w2])), (w2, .inl (E.2.1, 586, .inl sl)), (aq, .inl (E.2.1, 13, .inl vq)), (af, .inl (E.2.1, 21, .inl vf)), (ad, .inl (E.2.1, 63, .inl vd)), (aw, .inl (E.2.1, 63, .inl vw)), (al, .inl (E.2.1, 63, .inl vl)), (ar, .inl (E.2.1, 63, .inl vr))] H → va_S A s.heap H locs → ∀ ls : Array Slot, lv_has ls 17 [(0, .ref b9), (1, .ref xo), (2, .ref aq), (3, .ref af), (4, .ref ad), (5, .ref aw), (6, .ref al), (7, .ref ar), (8, .int (nI i)), (9, .int xx), (10, .int yy), (11, .int (nI kd)), (12, .int (nI aa)), (13, .int (nI bb)), (16, .int v)] → W p l e room_1 s m #[Value.ref b9] below meth c H locs cells slots Q (F0 m 392 ls []) := by
  intro H locs hP hS ls hl
  have hx := S.1
  have hb := S.2.1
  have hown := S.2.2.2.1
  have hts := S.2.2.2.2
  have hK := hE.1
  refine lv_iload hx hb dL_law_392 (lv_at hl 14 rfl) ?_
  refine lv_iload hx hb dL_law_394 (lv_at hl 11 rfl) ?_
  refine lv_iload hx hb dL_law_396 (lv_at hl 12 rfl) ?_
  refine lv_iload hx hb dL_law_398 (lv_at hl 13 rfl) ?_
  refine lv_iload hx hb dL_law_400 (lv_at hl 10 rfl) ?_
  refine lv_aload_n hx hb dL_law_402 rfl (lv_at hl 2 rfl) ?_
  refine lv_aload_n hx hb dL_law_403 rfl (lv_at hl 3 rfl) ?_
  refine lv_aload hx hb dL_law_404 (lv_at hl 4 rfl) ?_
  refine lv_aload hx hb dL_law_406 (lv_at hl 5 rfl) ?_
  refine lv_aload hx hb dL_law_408 (lv_at hl 6 rfl) ?_
  refine lv_aload hx hb dL_law_410 (lv_at hl 7 rfl) ?_
  refine rwS10 (rest := [.int v]) S (c_L_due l E aa bb yy aq af ad aw al ar vq vf vd vw vl vr n kd hf hn ha9 hb3 hst hkd) cd_L_due bw_377 ⟨Nat.le_of_ble_eq_true rfl, Nat.le_of_ble_eq_true rfl⟩ hcs hP (hDa.to rfl) hE hA hS [15, 16, 17, 18, 19, 20] rfl rfl [aq, af, ad, aw, al, ar] rfl rfl (Nat.le_of_ble_eq_true rfl) hl.1 dL_law_412 (fun H locs hP _ hS => ?_)
  have hP : va_P E.1 vwCl [(xo, .inr (4, [.ref r, .ref r2, .ref r3, .ref d, .ref y, .ref q2, .int (nI 0)])), (r, .inr (2, [.ref rc])), (rc, .inl (E.2.1, 293, .inl f2)), (r2, .inr (2, [.ref rc2])), (rc2, .inl (E.2.1, 293, .inl fb)), (r3, .inr (2, [.ref rc3])), (rc3, .inl (E.2.1, 293, .inl ft)), (d, .inr (1, [.ref ch, .ref nu, .int (nI 0), .int (nI 0), .int (nI 0), .int (nI 0), .int (nI 0), .int (nI 0)])), (ch, .inl (E.2.2.1, 80, .inl t0)), (nu, .inl (E.2.1, 4, .inl u0)), (y, .inr (0, [.ref q, .int (nI o), .int (nI z)])), (q, .inr (3, [.ref w])), (w, .inl (E.2.1, 1758, .inl h)), (q2, .inr (3, [.ref w2])), (w2, .inl (E.2.1, 586, .inl sl)), (aq, .inl (E.2.1, 13, .inl (uQ vq vf vd vw vl vr n aa bb yy kd))), (af, .inl (E.2.1, 21, .inl (uF vq vf vd vw vl vr n aa bb yy kd))), (ad, .inl (E.2.1, 63, .inl (uD vq vf vd vw vl vr n aa bb yy kd))), (aw, .inl (E.2.1, 63, .inl (uW vq vf vd vw vl vr n aa bb yy kd))), (al, .inl (E.2.1, 63, .inl (uL vq vf vd vw vl vr n aa bb yy kd))), (ar, .inl (E.2.1, 63, .inl (uR vq vf vd vw vl vr n aa bb yy kd)))] H := hP
  have hP : va_P E.1 vwCl [(xo, .inr (4, [.ref r, .ref r2, .ref r3, .ref d, .ref y, .ref q2, .int (nI 0)])), (r, .inr (2, [.ref rc])), (rc, .inl (E.2.1, 293, .inl f2)), (r2, .inr (2, [.ref rc2])), (rc2, .inl (E.2.1, 293, .inl fb)), (r3, .inr (2, [.ref rc3])), (rc3, .inl (E.2.1, 293, .inl ft)), (d, .inr (1, [.ref ch, .ref nu, .int (nI 0), .int (nI 0), .int (nI 0), .int (nI 0), .int (nI 0), .int (nI 0)])), (ch, .inl (E.2.2.1, 80, .inl t0)), (nu, .inl (E.2.1, 4, .inl u0)), (y, .inr (0, [.ref q, .int (nI o), .int (nI z)])), (q, .inr (3, [.ref w])), (w, .inl (E.2.1, 1758, .inl h)), (q2, .inr (3, [.ref w2])), (w2, .inl (E.2.1, 586, .inl sl)), (aq, .inl (E.2.1, 13, .inl gq)), (af, .inl (E.2.1, 21, .inl gf)), (ad, .inl (E.2.1, 63, .inl gd)), (aw, .inl (E.2.1, 63, .inl gw)), (al, .inl (E.2.1, 63, .inl gl)), (ar, .inl (E.2.1, 63, .inl gr))] H := by rw [eQ, eF, eD, eW, eL, eR] at hP; exact hP
  refine lv_icmp_ne (tgt := 439) hx hb dL_law_415 (by decide) (fun c_1 => absurd c_1 (fun z9 => z9 eV)) (fun c_1 => ?_)
  refine lv_aload_n hx hb dL_law_418 rfl (lv_at hl 1 rfl) ?_
  refine lv_iload hx hb dL_law_419 (lv_at hl 9 rfl) ?_
  refine lv_iconst (v := nI 5) hx hb dL_law_421 (by decide) ?_
  refine lv_ishr hx hb dL_law_422 ?_
  refine lv_aload_n hx hb dL_law_423 rfl (lv_at hl 2 rfl) ?_
  refine lv_aload_n hx hb dL_law_424 rfl (lv_at hl 3 rfl) ?_
  refine lv_aload hx hb dL_law_425 (lv_at hl 4 rfl) ?_
  refine lv_aload hx hb dL_law_427 (lv_at hl 5 rfl) ?_
  refine lv_aload hx hb dL_law_429 (lv_at hl 6 rfl) ?_
  refine lv_aload hx hb dL_law_431 (lv_at hl 7 rfl) ?_
  refine rwS8 (rest := []) S (c_L_isSo l E xo r r2 r3 d y q2 (nI 0) rc f2 ch nu 0 (nI 0) (nI 0) (nI 0) (nI 0) (nI 0) t0 u0 q w o z h (xx >>> (nI 5 &&& 31)) aq af ad aw al ar gq gf gd gw gl gr n2 (R_12 hR) (R_4 hR) (R_n hR) (fun c9 h9 => V_be hR h9) (fun k9 c9 y9 h9 h8 => V_sh hR h9 h8 y9) (V_so hR _ _ _)) cd_L_isSo bw_413 ⟨Nat.le_of_ble_eq_true rfl, Nat.le_of_ble_eq_true rfl⟩ hcs hP (hDa.to rfl) hE hA hS [0, 1, 2, 7, 8, 9, 10, 11, 12, 15, 16, 17, 18, 19, 20] rfl rfl [xo, r, rc, d, ch, nu, y, q, w, aq, af, ad, aw, al, ar] rfl rfl (Nat.le_of_ble_eq_true rfl) hl.1 dL_law_433 (fun H locs hP _ hS => ?_)
  have hP : va_P E.1 vwCl [(xo, .inr (4, [.ref r, .ref r2, .ref r3, .ref d, .ref y, .ref q2, .int (nI 0)])), (r, .inr (2, [.ref rc])), (rc, .inl (E.2.1, 293, .inl f2)), (r2, .inr (2, [.ref rc2])), (rc2, .inl (E.2.1, 293, .inl fb)), (r3, .inr (2, [.ref rc3])), (rc3, .inl (E.2.1, 293, .inl ft)), (d, .inr (1, [.ref ch, .ref nu, .int (nI 0), .int (nI 0), .int (nI 0), .int (nI 0), .int (nI 0), .int (nI 0)])), (ch, .inl (E.2.2.1, 80, .inl t0)), (nu, .inl (E.2.1, 4, .inl u0)), (y, .inr (0, [.ref q, .int (nI o), .int (nI z)])), (q, .inr (3, [.ref w])), (w, .inl (E.2.1, 1758, .inl h)), (q2, .inr (3, [.ref w2])), (w2, .inl (E.2.1, 586, .inl sl)), (aq, .inl (E.2.1, 13, .inl gq)), (af, .inl (E.2.1, 21, .inl gf)), (ad, .inl (E.2.1, 63, .inl gd)), (aw, .inl (E.2.1, 63, .inl gw)), (al, .inl (E.2.1, 63, .inl gl)), (ar, .inl (E.2.1, 63, .inl gr))] H := hP
  refine lv_if_ne (tgt := 441) hx hb dL_law_436 (by decide) (fun _ => ?_) (fun c9 => by first | exact absurd (by decide) c9 | exact absurd c9 (by decide))
  refine rn_inc (a := i) (d := 1) (lv' := [(8, .int (nI (i + 1))), (0, .ref b9), (1, .ref xo), (2, .ref aq), (3, .ref af), (4, .ref ad), (5, .ref aw), (6, .ref al), (7, .ref ar), (9, .int xx), (10, .int yy), (11, .int (nI kd)), (12, .int (nI aa)), (13, .int (nI bb)), (16, .int v)]) hx hb dL_law_441 hl (k := 8) rfl (by decide) (by decide) rfl (fun ls hl => ?_)
  refine lv_goto (tgt := 63) hx hb dL_law_444 (by decide) ?_
  have hl : lv_has ls 17 [(0, .ref b9), (1, .ref xo), (2, .ref aq), (3, .ref af), (4, .ref ad), (5, .ref aw), (6, .ref al), (7, .ref ar), (8, .int (nI (i + 1)))] := lv_sub hl [1, 2, 3, 4, 5, 6, 7, 8, 0] rfl
  exact hk _ _ hP hS _ hl
set_option maxHeartbeats 4000000 in
set_option maxRecDepth 100000 in
theorem lw_head (S : CallFix p m c code 17 s #[Value.ref b9] bw RL) (hE : en E A s s.heap) (hA : ∀ q, s.heap.size ≤ q → A q) (hcs : cells ≤ room_1.cells ∧ slots ≤ room_1.slots) (hDa : va_Da A [xo, r, rc, r2, rc2, r3, rc3, d, ch, nu, y, q, w, q2, w2, aq, af, ad, aw, al, ar]) (LL : Nat) (xs : Nat → Int32) (f : Nat → Int32) (fb : Nat → Int32) (o : Nat) (z : Nat) (h : Nat → Int32) (vq : Nat → Int32) (vf : Nat → Int32) (vd : Nat → Int32) (vw : Nat → Int32) (vl : Nat → Int32) (vr : Nat → Int32) (hX : va_X b9 LL xs s s.heap) (hbl : b9 < s.heap.size) (hbA : ¬ A b9) (hLL : LL ≤ 260) (hi : i ≤ 44) (hend : ∀ (H : Heap) (locs : List Loc), va_S A s.heap H locs → ∀ ls : Array Slot, W p l e room_1 s m #[Value.ref b9] below meth c H locs cells slots Q (F0 m 447 ls [])) (hk : ¬ 44 ≤ i → ∀ (H : Heap) (locs : List Loc), va_P E.1 vwCl [(xo, .inr (4, [.ref r, .ref r2, .ref r3, .ref d, .ref y, .ref q2, .int (nI 0)])), (r, .inr (2, [.ref rc])), (rc, .inl (E.2.1, 293, .inl f)), (r2, .inr (2, [.ref rc2])), (rc2, .inl (E.2.1, 293, .inl fb)), (r3, .inr (2, [.ref rc3])), (rc3, .inl (E.2.1, 293, .inl ft)), (d, .inr (1, [.ref ch, .ref nu, .int (nI 0), .int (nI 0), .int (nI 0), .int (nI 0), .int (nI 0), .int (nI 0)])), (ch, .inl (E.2.2.1, 80, .inl t0)), (nu, .inl (E.2.1, 4, .inl u0)), (y, .inr (0, [.ref q, .int (nI o), .int (nI z)])), (q, .inr (3, [.ref w])), (w, .inl (E.2.1, 1758, .inl h)), (q2, .inr (3, [.ref w2])), (w2, .inl (E.2.1, 586, .inl sl)), (aq, .inl (E.2.1, 13, .inl vq)), (af, .inl (E.2.1, 21, .inl vf)), (ad, .inl (E.2.1, 63, .inl vd)), (aw, .inl (E.2.1, 63, .inl vw)), (al, .inl (E.2.1, 63, .inl vl)), (ar, .inl (E.2.1, 63, .inl vr))] H → va_S A s.heap H locs → ∀ ls : Array Slot, lv_has ls 17 [(0, .ref b9), (1, .ref xo), (2, .ref aq), (3, .ref af), (4, .ref ad), (5, .ref aw), (6, .ref al), (7, .ref ar), (8, .int (nI i)), (9, .int (ceV xs LL (2 * i))), (10, .int (ceV xs LL (2 * i + 1)))] → W p l e room_1 s m #[Value.ref b9] below meth c H locs cells slots Q (F0 m 92 ls [])) : ∀ (H : Heap) (locs : List Loc), va_P E.1 vwCl [(xo, .inr (4, [.ref r, .ref r2, .ref r3, .ref d, .ref y, .ref q2, .int (nI 0)])), (r, .inr (2, [.ref rc])), (rc, .inl (E.2.1, 293, .inl f)), (r2, .inr (2, [.ref rc2])), (rc2, .inl (E.2.1, 293, .inl fb)), (r3, .inr (2, [.ref rc3])), (rc3, .inl (E.2.1, 293, .inl ft)), (d, .inr (1, [.ref ch, .ref nu, .int (nI 0), .int (nI 0), .int (nI 0), .int (nI 0), .int (nI 0), .int (nI 0)])), (ch, .inl (E.2.2.1, 80, .inl t0)), (nu, .inl (E.2.1, 4, .inl u0)), (y, .inr (0, [.ref q, .int (nI o), .int (nI z)])), (q, .inr (3, [.ref w])), (w, .inl (E.2.1, 1758, .inl h)), (q2, .inr (3, [.ref w2])), (w2, .inl (E.2.1, 586, .inl sl)), (aq, .inl (E.2.1, 13, .inl vq)), (af, .inl (E.2.1, 21, .inl vf)), (ad, .inl (E.2.1, 63, .inl vd)), (aw, .inl (E.2.1, 63, .inl vw)), (al, .inl (E.2.1, 63, .inl vl)), (ar, .inl (E.2.1, 63, .inl vr))] H → va_S A s.heap H locs → ∀ ls : Array Slot, lv_has ls 17 [(0, .ref b9), (1, .ref xo), (2, .ref aq), (3, .ref af), (4, .ref ad), (5, .ref aw), (6, .ref al), (7, .ref ar), (8, .int (nI i))] → W p l e room_1 s m #[Value.ref b9] below meth c H locs cells slots Q (F0 m 63 ls []) := by
  intro H locs hP hS ls hl
  have hx := S.1
  have hb := S.2.1
  have hown := S.2.2.2.1
  have hts := S.2.2.2.2
  have hK := hE.1
  refine lv_iload hx hb dL_law_63 (lv_at hl 8 rfl) ?_
  refine lv_bipush (v := nI 44) hx hb dL_law_65 (by decide) ?_
  refine rn_icmp_ge (a := i) (b := 44) (tgt := 447) hx hb (by omega) (by omega) dL_law_67 (by decide) (fun c_1 => ?_) (fun c_1 => ?_)
  · exact hend H locs hS ls
  · refine lv_aload_n hx hb dL_law_70 rfl (lv_at hl 0 rfl) ?_
    refine lv_iconst (v := nI 2) hx hb dL_law_71 (by decide) ?_
    refine lv_iload hx hb dL_law_72 (lv_at hl 8 rfl) ?_
    refine rn_mul (a := 2) (b := i) hx hb dL_law_74 ?_
    refine rwX (rest := []) S (c_L_cell l b9 LL xs (2 * i) (by omega) hLL) cd_L_cell bw_135 ⟨Nat.le_of_ble_eq_true rfl, Nat.le_of_ble_eq_true rfl⟩ hcs hX hbl hbA hP (hDa.to rfl) hA hS (Nat.le_of_ble_eq_true rfl) hl.1 dL_law_75 (fun H locs hP _ hS => ?_)
    refine lv_istore (lv' := [(9, .int (ceV xs LL (2 * i))), (0, .ref b9), (1, .ref xo), (2, .ref aq), (3, .ref af), (4, .ref ad), (5, .ref aw), (6, .ref al), (7, .ref ar), (8, .int (nI i))]) hx hb dL_law_78 hl (by decide) rfl (fun ls hl => ?_)
    refine lv_aload_n hx hb dL_law_80 rfl (lv_at hl 1 rfl) ?_
    refine lv_iconst (v := nI 2) hx hb dL_law_81 (by decide) ?_
    refine lv_iload hx hb dL_law_82 (lv_at hl 9 rfl) ?_
    refine rn_mul (a := 2) (b := i) hx hb dL_law_84 ?_
    refine lv_iconst (v := nI 1) hx hb dL_law_85 (by decide) ?_
    refine rn_add (a := 2 * i) (b := 1) hx hb dL_law_86 ?_
    refine rwX (rest := []) S (c_L_cell l b9 LL xs (2 * i + 1) (by omega) hLL) cd_L_cell bw_135 ⟨Nat.le_of_ble_eq_true rfl, Nat.le_of_ble_eq_true rfl⟩ hcs hX hbl hbA hP (hDa.to rfl) hA hS (Nat.le_of_ble_eq_true rfl) hl.1 dL_law_87 (fun H locs hP _ hS => ?_)
    refine lv_istore (lv' := [(10, .int (ceV xs LL (2 * i + 1))), (9, .int (ceV xs LL (2 * i))), (0, .ref b9), (1, .ref xo), (2, .ref aq), (3, .ref af), (4, .ref ad), (5, .ref aw), (6, .ref al), (7, .ref ar), (8, .int (nI i))]) hx hb dL_law_90 hl (by decide) rfl (fun ls hl => ?_)
    have hl : lv_has ls 17 [(0, .ref b9), (1, .ref xo), (2, .ref aq), (3, .ref af), (4, .ref ad), (5, .ref aw), (6, .ref al), (7, .ref ar), (8, .int (nI i)), (9, .int (ceV xs LL (2 * i))), (10, .int (ceV xs LL (2 * i + 1)))] := lv_sub hl [2, 3, 4, 5, 6, 7, 8, 9, 10, 1, 0] rfl
    exact hk c_1 _ _ hP hS _ hl
set_option maxHeartbeats 4000000 in
theorem lw_loop (S : CallFix p m c code 17 s #[Value.ref b9] bw RL) (hE : en E A s s.heap) (hA : ∀ q, s.heap.size ≤ q → A q) (hcs : cells ≤ room_1.cells ∧ slots ≤ room_1.slots) (hDa : va_Da A [xo, r, rc, r2, rc2, r3, rc3, d, ch, nu, y, q, w, q2, w2, aq, af, ad, aw, al, ar]) (LL : Nat) (xs : Nat → Int32) (hX : va_X b9 LL xs s s.heap) (hbl : b9 < s.heap.size) (hbA : ¬ A b9) (hLL : LL ≤ 260) (hend : ∀ (H : Heap) (locs : List Loc), va_S A s.heap H locs → ∀ ls : Array Slot, W p l e room_1 s m #[Value.ref b9] below meth c H locs cells slots Q (F0 m 447 ls [])) : ∀ (fuel i : Nat), 44 - i < fuel → i ≤ 44 → ∀ (f : Nat → Int32) (fb : Nat → Int32) (o : Nat) (z : Nat) (h : Nat → Int32) (vq : Nat → Int32) (vf : Nat → Int32) (vd : Nat → Int32) (vw : Nat → Int32) (vl : Nat → Int32) (vr : Nat → Int32), (∃ n, Re n f vq vf vd vw vl vr) → o < 6 → z ≤ 6 → ∀ (H : Heap) (locs : List Loc), va_P E.1 vwCl [(xo, .inr (4, [.ref r, .ref r2, .ref r3, .ref d, .ref y, .ref q2, .int (nI 0)])), (r, .inr (2, [.ref rc])), (rc, .inl (E.2.1, 293, .inl f)), (r2, .inr (2, [.ref rc2])), (rc2, .inl (E.2.1, 293, .inl fb)), (r3, .inr (2, [.ref rc3])), (rc3, .inl (E.2.1, 293, .inl ft)), (d, .inr (1, [.ref ch, .ref nu, .int (nI 0), .int (nI 0), .int (nI 0), .int (nI 0), .int (nI 0), .int (nI 0)])), (ch, .inl (E.2.2.1, 80, .inl t0)), (nu, .inl (E.2.1, 4, .inl u0)), (y, .inr (0, [.ref q, .int (nI o), .int (nI z)])), (q, .inr (3, [.ref w])), (w, .inl (E.2.1, 1758, .inl h)), (q2, .inr (3, [.ref w2])), (w2, .inl (E.2.1, 586, .inl sl)), (aq, .inl (E.2.1, 13, .inl vq)), (af, .inl (E.2.1, 21, .inl vf)), (ad, .inl (E.2.1, 63, .inl vd)), (aw, .inl (E.2.1, 63, .inl vw)), (al, .inl (E.2.1, 63, .inl vl)), (ar, .inl (E.2.1, 63, .inl vr))] H → va_S A s.heap H locs → ∀ ls : Array Slot, lv_has ls 17 [(0, .ref b9), (1, .ref xo), (2, .ref aq), (3, .ref af), (4, .ref ad), (5, .ref aw), (6, .ref al), (7, .ref ar), (8, .int (nI i))] → W p l e room_1 s m #[Value.ref b9] below meth c H locs cells slots Q (F0 m 63 ls []) := by
  intro fuel
  induction fuel with
  | zero => intro i h9; exact absurd h9 (Nat.not_lt_zero _)
  | succ fuel ih =>
    intro i hfu hi f fb o z h vq vf vd vw vl vr hRe ho hz
    obtain ⟨n, hR⟩ := hRe
    refine lw_head S hE hA hcs hDa LL xs f fb o z h vq vf vd vw vl vr hX hbl hbA hLL hi hend (fun hi4 => ?_)
    refine lw_kind S hE hA hcs hDa f fb o z h vq vf vd vw vl vr _ _ (by omega) (fun kd hkd => ?_)
    refine lw_place S hE hA hcs hDa f fb o z h vq vf vd vw vl vr _ _ n kd (R_4 hR) (R_n hR) hkd (fun aa bb haa ha0 hbb => ?_)
    obtain ⟨p1, p2, n2, p3⟩ := P_all (x := ceV xs LL (2 * i + 1)) hR hkd haa ha0 hbb
    refine lw_told S hE hA hcs hDa f fb o z h vq vf vd vw vl vr _ _ n kd aa bb (R_12 hR) (R_n hR) ho hz hkd p2 (fun fb' o' z' h' ho' hz' => ?_)
    exact lw_due S hE hA hcs hDa (kW f n aa bb (ceV xs LL (2 * i + 1)) kd) fb' o' z' h' vq vf vd vw vl vr _ _ _ _ _ _ _ _ n n2 kd aa bb _ (by omega) (R_4 hR) (R_n hR) haa hbb (R_st hR) hkd p1 rfl rfl rfl rfl rfl rfl p3 (ih (i + 1) (by omega) (by omega) _ _ _ _ _ _ _ _ _ _ _ ⟨n2, p3⟩ ho' hz')

end LAW
