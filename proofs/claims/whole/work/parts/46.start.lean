/-! the law begins: both are alike -/
def fB : Nat → Int32 := va_cpy (fun j => ([1, 1, 8, 10] : List Int32).getD j 0) zf 0 0 4
def gB : Nat → Int32 := upd (upd (upd (upd zf 0 (nI 1)) 1 (nI 1)) 2 (nI 8)) 3 (nI 10)
theorem fg_hd : ∀ j, j < 13 → fB (hp j) = gB j := by decide
theorem fg_ag : ∀ c, c < 3 → 0 ≤ (gB (7 + c)).toInt ∧ (gB (7 + c)).toInt ≤ 999 := by decide
theorem fg_rel : Rel 0 fB gB := ⟨by decide, by decide, fg_hd, ⟨by unfold rng; decide, by unfold rng; decide, by unfold rng; decide⟩, fun p h => absurd h (Nat.not_lt_zero p)⟩
theorem sl_0 : ∀ i, i < 2 → ((nI 0 : Int32) &&& sbit i = 0 ↔ zf i = 0) := by decide
theorem lst_0 : LSt fB gB 0 0 zf 0 zf (nI 0) zf zf zf 0 zf zf 0 (nI 0) :=
  ⟨⟨0, fg_rel, fg_ag⟩, ⟨by decide, by decide, rfl, fun i h => absurd h (Nat.not_lt_zero i)⟩, ⟨⟨0, by decide, rfl⟩, fun i hi => ⟨sl_0 i hi, fun h => absurd nI_0 h⟩⟩, ⟨by decide, fun k h => absurd h (Nat.not_lt_zero k)⟩, rfl, by unfold bz; decide⟩
/-! THE CLAIM OUT OF ONE WALK OF THE LAW'S BODY. Your part is whole_start (and what it stands on); all else here is the same for every law, but numbers. -/
def R_law : String := "TimingLightsLaw"
def lw_P (b : Addr) (xs : List Int32) (args : Array Value) (s : State) : Prop := args = #[.ref b] ∧ s.IntsAt b xs ∧ xs.length ≤ 3072 ∧ (Jvm.Cond.and given_1 narrow_1).before args s = true
def lw_Q (_ : Array Value) (s : State) (o : Outcome) (t : State) : Prop := o = .returned (some (.int 1)) ∧ Framed s o t [] 600000 7302250
def lw_Z (below : List Frame) (a : Array Value) (s : State) : State → Prop := fun t => ∃ o, t.status = .running ∧ Ended t below o ∧ lw_Q a s o t
/-- the law's own end, with 1 on the stack, nothing written that was there before, its room as the claim has it -/
theorem lw_ret {p : Program} {l : Launch} {e : Env} {s : State} {m : MethodId} {below : List Frame} {meth : Method} {c : Code} {b : Nat} (hx : p.tables.exec = Jvm.exec) (hb : c.code = code) (hr : meth.sig.returnType = ret) (hlocks : meth.locks = false) {pc : Nat} {H : Heap} {ls : Array Slot} (hdg : decode code pc = .ok (.ireturn, 1)) : W p l e room_1 s m #[Value.ref b] below meth c H [] 600000 7302250 (lw_Z below #[Value.ref b] s) (F0 m pc ls [.int 1]) := by
  intro T hT X
  obtain ⟨fs, hret, hrun, hended, hW, hframe⟩ := X.leave (v := some (.int 1)) (hlocks := hlocks) (fun h => by rw [hr] at h; cases h)
  have hmeth' : T.vm.method? m = some meth := X.method'
  refine ⟨T.setFrames fs, ?_, .returned (some (.int 1)), hrun, hended, rfl, ⟨_, rfl⟩, hW, hframe⟩
  jvm_step X.here [X.here.top, hx, hb, hdg, hmeth', hr, ret, narrow_b1]
  (try refine ⟨rfl, ?_⟩); (try refine ⟨rfl, ?_⟩)
  first | (intro acts; rw [hret _ acts rfl rfl rfl]) | rw [hret _ _ rfl rfl rfl]
  exact Steps.refl _
/-- what holds at the law's entry: the machine, the code, the tables' words (any of lw_tbl by 'hts w (by decide +kernel)'), the script of L ints xs at the cell b, what the Statement gives of the start (any of its parts by flat_of_before) -/
def lw_At (p : Program) (s : State) (m : MethodId) (meth : Method) (c : Code) (b L : Nat) (xs : Nat → Int32) : Prop :=
  p.tables.exec = Jvm.exec ∧ c.code = code ∧ meth.sig.returnType = ret ∧ c.maxLocals = 4 ∧ s.vm.findClass R_law = some m.cls ∧ (∀ w ∈ lw_tbl, w.before #[Value.ref b] s = true) ∧ va_X b L xs s s.heap ∧ b < s.heap.size ∧ meth.locks = false ∧ (Jvm.Cond.and given_1 narrow_1).before #[Value.ref b] s = true
-- ===== YOUR PART BEGINS =====
set_option maxHeartbeats 4000000 in
set_option maxRecDepth 100000 in
/-- the walk of the law: from the entry, for every script of at most 3072 ints, the law comes to its end with true ('hflags': the launch's flags, for a law that throws: no stack traces) -/
theorem whole_start {p : Program} {e : Env} {s : State} {m : MethodId} {below : List Frame} {meth : Method} {c : Code} (l : Launch) (hflags : l.flags = flags0) {b L : Nat} {xs : Nat → Int32} (hL : L ≤ 3072) (C0 : lw_At p s m meth c b L xs) : W p l e room_1 s m #[Value.ref b] below meth c s.heap [] 0 0 (lw_Z below #[Value.ref b] s) (entryFrame m ([Value.ref b] : List Value).toArray 4) := by
  obtain ⟨hx, hb, hrt, hml, hown, hts0, hX, hbl, hlocks, hg⟩ := C0
  obtain ⟨E, hE⟩ := en_start hts0 hg
  have S : CallFix p m c code 4 s #[Value.ref b] bw RL := ⟨hx, hb, hml, hown, bw_hts hts0⟩
  have hts := S.2.2.2.2
  have hK := hE.1
  have hA : ∀ q, s.heap.size ≤ q → (fun q => s.heap.size ≤ q) q := fun q h => h
  have hbA : ¬ (fun q => s.heap.size ≤ q) b := Nat.not_le_of_lt hbl
  have hS : va_S (fun q => s.heap.size ≤ q) s.heap s.heap [] := va_S.rf
  have hP : va_P E.1 vwCl [] s.heap := fun k q hk => by simp at hk
  have hD : va_D (fun q => s.heap.size ≤ q) [] := ⟨fun i j p q hi => by simp at hi, fun k q hk => by simp at hk⟩
  rw [lg_entry_eq]
  have hl := lv_entry [Value.ref b] (n := 4) (Nat.le_of_ble_eq_true rfl)
  generalize (lg_sl [Value.ref b] ++ List.replicate (4 - (lg_sl [Value.ref b]).length) Slot.unset).toArray = ls at hl ⊢
  have hl : lv_has ls 4 [(0, .ref b)] := hl
  refine va_new (ci := 4) (fs := [.null, .null, .null, .null, .null, .null, .int (nI 0)]) (C := RX7) (T := TX7) (N := 7) hx hb hts inb_X7 tyX7 tyX7_ok hown (hts _ bw_73) (hts _ bw_74) (hts _ bw_58) hK hP hD hS hA rfl (fun j hj => by rcases (show j = 0 ∨ j = 1 ∨ j = 2 ∨ j = 3 ∨ j = 4 ∨ j = 5 ∨ j = 6 by omega) with rfl | rfl | rfl | rfl | rfl | rfl | rfl <;> rfl) (Nat.le_of_ble_eq_true rfl) (Nat.le_of_ble_eq_true rfl) dL_law_0 (fun q0 H hP hD hS => ?_)
  have hP : va_P E.1 vwCl [(q0, .inr (4, [.null, .null, .null, .null, .null, .null, .int (nI 0)]))] H := hP
  have hD : va_D (fun q => s.heap.size ≤ q) [(q0, .inr (4, [.null, .null, .null, .null, .null, .null, .int (nI 0)]))] := hD
  refine lv_dup hx hb dL_law_3 rfl ?_
  refine rwI (wr := []) (As := []) (rest := [.ref q0]) S (c_X7_init l E q0) cdi_X7_init bw_75 ⟨Nat.le_of_ble_eq_true rfl, Nat.le_of_ble_eq_true rfl⟩ ⟨Nat.le_of_ble_eq_true rfl, Nat.le_of_ble_eq_true rfl⟩ hP hD hE hA hS [0] [] rfl rfl rfl (by decide) (by decide) rfl rfl (Nat.le_of_ble_eq_true rfl) hl.1 dL_law_4 (fun H locs u hP hD hS => ?_)
  obtain ⟨q0_0, q0_1, q0_2, q0_3, q0_4, q0_5, q0_6, q0_7, q0_8, q0_9, q0_10, q0_11, q0_12, q0_13⟩ := u
  have hP : va_P E.1 vwCl [(q0, .inr (4, [.ref q0_0, .ref q0_2, .ref q0_4, .ref q0_6, .ref q0_9, .ref q0_12, .int (nI 0)])), (q0_0, .inr (2, [.ref q0_1])), (q0_1, .inl (E.2.1, 293, .inl (va_cpy (fun j => ([1, 1, 8, 10] : List Int32).getD j 0) zf 0 0 4))), (q0_2, .inr (2, [.ref q0_3])), (q0_3, .inl (E.2.1, 293, .inl (va_cpy (fun j => ([1, 1, 8, 10] : List Int32).getD j 0) zf 0 0 4))), (q0_4, .inr (2, [.ref q0_5])), (q0_5, .inl (E.2.1, 293, .inl (va_cpy (fun j => ([1, 1, 8, 10] : List Int32).getD j 0) zf 0 0 4))), (q0_6, .inr (1, [.ref q0_7, .ref q0_8, .int (nI 0), .int (nI 0), .int (nI 0), .int (nI 0), .int (nI 0), .int (nI 0)])), (q0_7, .inl (E.2.2.1, 80, .inl zf)), (q0_8, .inl (E.2.1, 4, .inl zf)), (q0_9, .inr (0, [.ref q0_10, .int (nI 0), .int (nI 0)])), (q0_10, .inr (3, [.ref q0_11])), (q0_11, .inl (E.2.1, (6 * 293), .inl zf)), (q0_12, .inr (3, [.ref q0_13])), (q0_13, .inl (E.2.1, (2 * 293), .inl zf))] H := hP
  have hD : va_D (fun q => s.heap.size ≤ q) [(q0, .inr (4, [.ref q0_0, .ref q0_2, .ref q0_4, .ref q0_6, .ref q0_9, .ref q0_12, .int (nI 0)])), (q0_0, .inr (2, [.ref q0_1])), (q0_1, .inl (E.2.1, 293, .inl (va_cpy (fun j => ([1, 1, 8, 10] : List Int32).getD j 0) zf 0 0 4))), (q0_2, .inr (2, [.ref q0_3])), (q0_3, .inl (E.2.1, 293, .inl (va_cpy (fun j => ([1, 1, 8, 10] : List Int32).getD j 0) zf 0 0 4))), (q0_4, .inr (2, [.ref q0_5])), (q0_5, .inl (E.2.1, 293, .inl (va_cpy (fun j => ([1, 1, 8, 10] : List Int32).getD j 0) zf 0 0 4))), (q0_6, .inr (1, [.ref q0_7, .ref q0_8, .int (nI 0), .int (nI 0), .int (nI 0), .int (nI 0), .int (nI 0), .int (nI 0)])), (q0_7, .inl (E.2.2.1, 80, .inl zf)), (q0_8, .inl (E.2.1, 4, .inl zf)), (q0_9, .inr (0, [.ref q0_10, .int (nI 0), .int (nI 0)])), (q0_10, .inr (3, [.ref q0_11])), (q0_11, .inl (E.2.1, (6 * 293), .inl zf)), (q0_12, .inr (3, [.ref q0_13])), (q0_13, .inl (E.2.1, (2 * 293), .inl zf))] := hD
  refine lv_astore_n (lv' := [(1, .ref q0), (0, .ref b)]) hx hb dL_law_7 rfl hl (by decide) rfl (fun ls hl => ?_)
  refine va_new (ci := 5) (fs := [.null, .null, .null, .int (nI 0), .null, .null, .null, .int (nI 0), .int (nI 0), .int (nI 0), .null]) (C := RX8) (T := TX8) (N := 11) hx hb hts inb_X8 tyX8 tyX8_ok hown (hts _ bw_704) (hts _ bw_705) (hts _ bw_65) hK hP hD hS hA rfl (fun j hj => by rcases (show j = 0 ∨ j = 1 ∨ j = 2 ∨ j = 3 ∨ j = 4 ∨ j = 5 ∨ j = 6 ∨ j = 7 ∨ j = 8 ∨ j = 9 ∨ j = 10 by omega) with rfl | rfl | rfl | rfl | rfl | rfl | rfl | rfl | rfl | rfl | rfl <;> rfl) (Nat.le_of_ble_eq_true rfl) (Nat.le_of_ble_eq_true rfl) dL_law_8 (fun q8 H hP hD hS => ?_)
  have hP : va_P E.1 vwCl [(q0, .inr (4, [.ref q0_0, .ref q0_2, .ref q0_4, .ref q0_6, .ref q0_9, .ref q0_12, .int (nI 0)])), (q0_0, .inr (2, [.ref q0_1])), (q0_1, .inl (E.2.1, 293, .inl (va_cpy (fun j => ([1, 1, 8, 10] : List Int32).getD j 0) zf 0 0 4))), (q0_2, .inr (2, [.ref q0_3])), (q0_3, .inl (E.2.1, 293, .inl (va_cpy (fun j => ([1, 1, 8, 10] : List Int32).getD j 0) zf 0 0 4))), (q0_4, .inr (2, [.ref q0_5])), (q0_5, .inl (E.2.1, 293, .inl (va_cpy (fun j => ([1, 1, 8, 10] : List Int32).getD j 0) zf 0 0 4))), (q0_6, .inr (1, [.ref q0_7, .ref q0_8, .int (nI 0), .int (nI 0), .int (nI 0), .int (nI 0), .int (nI 0), .int (nI 0)])), (q0_7, .inl (E.2.2.1, 80, .inl zf)), (q0_8, .inl (E.2.1, 4, .inl zf)), (q0_9, .inr (0, [.ref q0_10, .int (nI 0), .int (nI 0)])), (q0_10, .inr (3, [.ref q0_11])), (q0_11, .inl (E.2.1, (6 * 293), .inl zf)), (q0_12, .inr (3, [.ref q0_13])), (q0_13, .inl (E.2.1, (2 * 293), .inl zf)), (q8, .inr (5, [.null, .null, .null, .int (nI 0), .null, .null, .null, .int (nI 0), .int (nI 0), .int (nI 0), .null]))] H := hP
  have hD : va_D (fun q => s.heap.size ≤ q) [(q0, .inr (4, [.ref q0_0, .ref q0_2, .ref q0_4, .ref q0_6, .ref q0_9, .ref q0_12, .int (nI 0)])), (q0_0, .inr (2, [.ref q0_1])), (q0_1, .inl (E.2.1, 293, .inl (va_cpy (fun j => ([1, 1, 8, 10] : List Int32).getD j 0) zf 0 0 4))), (q0_2, .inr (2, [.ref q0_3])), (q0_3, .inl (E.2.1, 293, .inl (va_cpy (fun j => ([1, 1, 8, 10] : List Int32).getD j 0) zf 0 0 4))), (q0_4, .inr (2, [.ref q0_5])), (q0_5, .inl (E.2.1, 293, .inl (va_cpy (fun j => ([1, 1, 8, 10] : List Int32).getD j 0) zf 0 0 4))), (q0_6, .inr (1, [.ref q0_7, .ref q0_8, .int (nI 0), .int (nI 0), .int (nI 0), .int (nI 0), .int (nI 0), .int (nI 0)])), (q0_7, .inl (E.2.2.1, 80, .inl zf)), (q0_8, .inl (E.2.1, 4, .inl zf)), (q0_9, .inr (0, [.ref q0_10, .int (nI 0), .int (nI 0)])), (q0_10, .inr (3, [.ref q0_11])), (q0_11, .inl (E.2.1, (6 * 293), .inl zf)), (q0_12, .inr (3, [.ref q0_13])), (q0_13, .inl (E.2.1, (2 * 293), .inl zf)), (q8, .inr (5, [.null, .null, .null, .int (nI 0), .null, .null, .null, .int (nI 0), .int (nI 0), .int (nI 0), .null]))] := hD
  refine lv_dup hx hb dL_law_11 rfl ?_
  refine rwI (wr := [(q0, .inr (4, [.ref q0_0, .ref q0_2, .ref q0_4, .ref q0_6, .ref q0_9, .ref q0_12, .int (nI 0)])), (q0_0, .inr (2, [.ref q0_1])), (q0_1, .inl (E.2.1, 293, .inl (va_cpy (fun j => ([1, 1, 8, 10] : List Int32).getD j 0) zf 0 0 4))), (q0_2, .inr (2, [.ref q0_3])), (q0_3, .inl (E.2.1, 293, .inl (va_cpy (fun j => ([1, 1, 8, 10] : List Int32).getD j 0) zf 0 0 4))), (q0_4, .inr (2, [.ref q0_5])), (q0_5, .inl (E.2.1, 293, .inl (va_cpy (fun j => ([1, 1, 8, 10] : List Int32).getD j 0) zf 0 0 4))), (q0_6, .inr (1, [.ref q0_7, .ref q0_8, .int (nI 0), .int (nI 0), .int (nI 0), .int (nI 0), .int (nI 0), .int (nI 0)])), (q0_7, .inl (E.2.2.1, 80, .inl zf)), (q0_8, .inl (E.2.1, 4, .inl zf)), (q0_9, .inr (0, [.ref q0_10, .int (nI 0), .int (nI 0)])), (q0_10, .inr (3, [.ref q0_11])), (q0_11, .inl (E.2.1, (6 * 293), .inl zf)), (q0_12, .inr (3, [.ref q0_13])), (q0_13, .inl (E.2.1, (2 * 293), .inl zf))]) (As := []) (rest := [.ref q8]) S (c_X8_init l E q8) cdi_X8_init bw_706 ⟨Nat.le_of_ble_eq_true rfl, Nat.le_of_ble_eq_true rfl⟩ ⟨Nat.le_of_ble_eq_true rfl, Nat.le_of_ble_eq_true rfl⟩ hP hD hE hA hS [15] [0, 1, 2, 3, 4, 5, 6, 7, 8, 9, 10, 11, 12, 13, 14] rfl rfl rfl (by decide) (by decide) rfl rfl (Nat.le_of_ble_eq_true rfl) hl.1 dL_law_12 (fun H locs u hP hD hS => ?_)
  obtain ⟨q8_0, q8_1, q8_2, q8_3, q8_4, q8_5, q8_6⟩ := u
  have hP : va_P E.1 vwCl [(q0, .inr (4, [.ref q0_0, .ref q0_2, .ref q0_4, .ref q0_6, .ref q0_9, .ref q0_12, .int (nI 0)])), (q0_0, .inr (2, [.ref q0_1])), (q0_1, .inl (E.2.1, 293, .inl (va_cpy (fun j => ([1, 1, 8, 10] : List Int32).getD j 0) zf 0 0 4))), (q0_2, .inr (2, [.ref q0_3])), (q0_3, .inl (E.2.1, 293, .inl (va_cpy (fun j => ([1, 1, 8, 10] : List Int32).getD j 0) zf 0 0 4))), (q0_4, .inr (2, [.ref q0_5])), (q0_5, .inl (E.2.1, 293, .inl (va_cpy (fun j => ([1, 1, 8, 10] : List Int32).getD j 0) zf 0 0 4))), (q0_6, .inr (1, [.ref q0_7, .ref q0_8, .int (nI 0), .int (nI 0), .int (nI 0), .int (nI 0), .int (nI 0), .int (nI 0)])), (q0_7, .inl (E.2.2.1, 80, .inl zf)), (q0_8, .inl (E.2.1, 4, .inl zf)), (q0_9, .inr (0, [.ref q0_10, .int (nI 0), .int (nI 0)])), (q0_10, .inr (3, [.ref q0_11])), (q0_11, .inl (E.2.1, (6 * 293), .inl zf)), (q0_12, .inr (3, [.ref q0_13])), (q0_13, .inl (E.2.1, (2 * 293), .inl zf)), (q8, .inr (5, [.ref q8_0, .ref q8_1, .ref q8_2, .int (nI 0), .ref q8_3, .ref q8_4, .ref q8_5, .int (nI 0), .int (nI 0), .int (nI 0), .ref q8_6])), (q8_0, .inl (E.2.1, 293, .inl (upd (upd (upd (upd zf 0 (nI 1)) 1 (nI 1)) 2 (nI 8)) 3 (nI 10)))), (q8_1, .inl (E.2.1, 293, .inl zf)), (q8_2, .inl (E.2.1, 1758, .inl zf)), (q8_3, .inl (E.2.1, 586, .inl zf)), (q8_4, .inl (E.2.1, 2, .inl zf)), (q8_5, .inl (E.2.1, 80, .inl zf)), (q8_6, .inl (E.2.1, 4, .inl zf))] H := hP
  have hD : va_D (fun q => s.heap.size ≤ q) [(q0, .inr (4, [.ref q0_0, .ref q0_2, .ref q0_4, .ref q0_6, .ref q0_9, .ref q0_12, .int (nI 0)])), (q0_0, .inr (2, [.ref q0_1])), (q0_1, .inl (E.2.1, 293, .inl (va_cpy (fun j => ([1, 1, 8, 10] : List Int32).getD j 0) zf 0 0 4))), (q0_2, .inr (2, [.ref q0_3])), (q0_3, .inl (E.2.1, 293, .inl (va_cpy (fun j => ([1, 1, 8, 10] : List Int32).getD j 0) zf 0 0 4))), (q0_4, .inr (2, [.ref q0_5])), (q0_5, .inl (E.2.1, 293, .inl (va_cpy (fun j => ([1, 1, 8, 10] : List Int32).getD j 0) zf 0 0 4))), (q0_6, .inr (1, [.ref q0_7, .ref q0_8, .int (nI 0), .int (nI 0), .int (nI 0), .int (nI 0), .int (nI 0), .int (nI 0)])), (q0_7, .inl (E.2.2.1, 80, .inl zf)), (q0_8, .inl (E.2.1, 4, .inl zf)), (q0_9, .inr (0, [.ref q0_10, .int (nI 0), .int (nI 0)])), (q0_10, .inr (3, [.ref q0_11])), (q0_11, .inl (E.2.1, (6 * 293), .inl zf)), (q0_12, .inr (3, [.ref q0_13])), (q0_13, .inl (E.2.1, (2 * 293), .inl zf)), (q8, .inr (5, [.ref q8_0, .ref q8_1, .ref q8_2, .int (nI 0), .ref q8_3, .ref q8_4, .ref q8_5, .int (nI 0), .int (nI 0), .int (nI 0), .ref q8_6])), (q8_0, .inl (E.2.1, 293, .inl (upd (upd (upd (upd zf 0 (nI 1)) 1 (nI 1)) 2 (nI 8)) 3 (nI 10)))), (q8_1, .inl (E.2.1, 293, .inl zf)), (q8_2, .inl (E.2.1, 1758, .inl zf)), (q8_3, .inl (E.2.1, 586, .inl zf)), (q8_4, .inl (E.2.1, 2, .inl zf)), (q8_5, .inl (E.2.1, 80, .inl zf)), (q8_6, .inl (E.2.1, 4, .inl zf))] := hD
  refine lv_astore_n (lv' := [(2, .ref q8), (1, .ref q0), (0, .ref b)]) hx hb dL_law_15 rfl hl (by decide) rfl (fun ls hl => ?_)
  refine lv_iconst (v := nI 0) hx hb dL_law_16 (by decide) ?_
  refine lv_istore_n (lv' := [(3, .int (nI 0)), (2, .ref q8), (1, .ref q0), (0, .ref b)]) hx hb dL_law_17 rfl hl (by decide) rfl (fun ls hl => ?_)
  have hP' := hP.sub (ws' := [(q0, .inr (4, [.ref q0_0, .ref q0_2, .ref q0_4, .ref q0_6, .ref q0_9, .ref q0_12, .int (nI 0)])), (q0_0, .inr (2, [.ref q0_1])), (q0_1, .inl (E.2.1, 293, .inl (va_cpy (fun j => ([1, 1, 8, 10] : List Int32).getD j 0) zf 0 0 4))), (q0_2, .inr (2, [.ref q0_3])), (q0_3, .inl (E.2.1, 293, .inl (va_cpy (fun j => ([1, 1, 8, 10] : List Int32).getD j 0) zf 0 0 4))), (q0_4, .inr (2, [.ref q0_5])), (q0_5, .inl (E.2.1, 293, .inl (va_cpy (fun j => ([1, 1, 8, 10] : List Int32).getD j 0) zf 0 0 4))), (q0_6, .inr (1, [.ref q0_7, .ref q0_8, .int (nI 0), .int (nI 0), .int (nI 0), .int (nI 0), .int (nI 0), .int (nI 0)])), (q0_7, .inl (E.2.2.1, 80, .inl zf)), (q0_8, .inl (E.2.1, 4, .inl zf)), (q0_9, .inr (0, [.ref q0_10, .int (nI 0), .int (nI 0)])), (q0_10, .inr (3, [.ref q0_11])), (q0_11, .inl (E.2.1, (6 * 293), .inl zf)), (q0_12, .inr (3, [.ref q0_13])), (q0_13, .inl (E.2.1, (2 * 293), .inl zf)), (q8, .inr (5, [.ref q8_0, .ref q8_1, .ref q8_2, .int (nI 0), .ref q8_3, .ref q8_4, .ref q8_5, .int (nI 0), .int (nI 0), .int (nI 0), .ref q8_6])), (q8_0, .inl (E.2.1, 293, .inl (upd (upd (upd (upd zf 0 (nI 1)) 1 (nI 1)) 2 (nI 8)) 3 (nI 10)))), (q8_1, .inl (E.2.1, 293, .inl zf)), (q8_2, .inl (E.2.1, 1758, .inl zf)), (q8_3, .inl (E.2.1, 586, .inl zf)), (q8_4, .inl (E.2.1, 2, .inl zf)), (q8_5, .inl (E.2.1, 80, .inl zf)), (q8_6, .inl (E.2.1, 4, .inl zf))]) [0, 1, 2, 3, 4, 5, 6, 7, 8, 9, 10, 11, 12, 13, 14, 15, 16, 17, 18, 19, 20, 21, 22] rfl
  have hD' := hD.sub (ws' := [(q0, .inr (4, [.ref q0_0, .ref q0_2, .ref q0_4, .ref q0_6, .ref q0_9, .ref q0_12, .int (nI 0)])), (q0_0, .inr (2, [.ref q0_1])), (q0_1, .inl (E.2.1, 293, .inl (va_cpy (fun j => ([1, 1, 8, 10] : List Int32).getD j 0) zf 0 0 4))), (q0_2, .inr (2, [.ref q0_3])), (q0_3, .inl (E.2.1, 293, .inl (va_cpy (fun j => ([1, 1, 8, 10] : List Int32).getD j 0) zf 0 0 4))), (q0_4, .inr (2, [.ref q0_5])), (q0_5, .inl (E.2.1, 293, .inl (va_cpy (fun j => ([1, 1, 8, 10] : List Int32).getD j 0) zf 0 0 4))), (q0_6, .inr (1, [.ref q0_7, .ref q0_8, .int (nI 0), .int (nI 0), .int (nI 0), .int (nI 0), .int (nI 0), .int (nI 0)])), (q0_7, .inl (E.2.2.1, 80, .inl zf)), (q0_8, .inl (E.2.1, 4, .inl zf)), (q0_9, .inr (0, [.ref q0_10, .int (nI 0), .int (nI 0)])), (q0_10, .inr (3, [.ref q0_11])), (q0_11, .inl (E.2.1, (6 * 293), .inl zf)), (q0_12, .inr (3, [.ref q0_13])), (q0_13, .inl (E.2.1, (2 * 293), .inl zf)), (q8, .inr (5, [.ref q8_0, .ref q8_1, .ref q8_2, .int (nI 0), .ref q8_3, .ref q8_4, .ref q8_5, .int (nI 0), .int (nI 0), .int (nI 0), .ref q8_6])), (q8_0, .inl (E.2.1, 293, .inl (upd (upd (upd (upd zf 0 (nI 1)) 1 (nI 1)) 2 (nI 8)) 3 (nI 10)))), (q8_1, .inl (E.2.1, 293, .inl zf)), (q8_2, .inl (E.2.1, 1758, .inl zf)), (q8_3, .inl (E.2.1, 586, .inl zf)), (q8_4, .inl (E.2.1, 2, .inl zf)), (q8_5, .inl (E.2.1, 80, .inl zf)), (q8_6, .inl (E.2.1, 4, .inl zf))]) [0, 1, 2, 3, 4, 5, 6, 7, 8, 9, 10, 11, 12, 13, 14, 15, 16, 17, 18, 19, 20, 21, 22] (by decide) rfl
  have hDa : va_Da (fun q => s.heap.size ≤ q) [q0, q0_0, q0_1, q0_2, q0_3, q0_4, q0_5, q0_6, q0_7, q0_8, q0_9, q0_10, q0_11, q0_12, q0_13, q8, q8_0, q8_1, q8_2, q8_3, q8_4, q8_5, q8_6] := ⟨_, hD', rfl⟩
  refine lw_loop (Q := lw_Z below #[Value.ref b] s) S hE hA ⟨Nat.le_of_ble_eq_true rfl, Nat.le_of_ble_eq_true rfl⟩ hX hbl hbA hL hDa (fun H locs hS ls => ?_) (L + 6 + 1) 0 (by omega) (Nat.zero_le _) (nI 0) (va_cpy (fun j => ([1, 1, 8, 10] : List Int32).getD j 0) zf 0 0 4) (va_cpy (fun j => ([1, 1, 8, 10] : List Int32).getD j 0) zf 0 0 4) (va_cpy (fun j => ([1, 1, 8, 10] : List Int32).getD j 0) zf 0 0 4) 0 (nI 0) (nI 0) (nI 0) (nI 0) (nI 0) zf zf 0 0 zf zf 0 0 0 (nI 0) (upd (upd (upd (upd zf 0 (nI 1)) 1 (nI 1)) 2 (nI 8)) 3 (nI 10)) zf zf zf zf zf zf lst_0 H locs hP' hS ls hl
  refine lv_iconst (v := 1) hx hb dL_law_1014 (by decide) ?_
  refine va_forget (fun q hq => hS.2.2 q hq) ?_
  refine W.widen (k := 600000) (n := 7302250) (Nat.le_of_ble_eq_true rfl) (Nat.le_of_ble_eq_true rfl) ?_
  exact lw_ret hx hb hrt hlocks dL_law_1015
-- ===== YOUR PART ENDS =====
set_option maxHeartbeats 4000000 in
theorem lw_walk (l : Launch) (hflags : l.flags = flags0) (b : Addr) (xs : List Int32) : MetFree l x (headSpec (Jvm.Cond.code x code maxLocals ret :: tables_1) room_1) (lw_P b xs) (fun _ _ _ _ _ => True) lw_Q := by
  refine MetFree.of_bodyS (code := code) (maxLocals := maxLocals) (ret := ret) (by decide) ?_ ?_
  · intro args s m h hn
    obtain ⟨meth, c, h1, h2, h3, h4, h5, h6, -, -⟩ := Cond.code_spec hn (atoms_spec (ws := Jvm.Cond.code x code maxLocals ret :: tables_1) h _ List.mem_cons_self)
    exact ⟨meth, c, h1, h2, h3, h4, h5, h6⟩
  · intro p e s m args below meth c s₁ B hml0 hP _
    obtain ⟨rfl, hx, hbd, hgv⟩ := hP
    obtain ⟨scr, harrAt, hlist, hof, hsmall⟩ := hx
    obtain ⟨hcb, hkn, -, -⟩ := State.arrayAt?_spec harrAt
    have hown : s.vm.findClass R_law = some m.cls := findClass_of_methodNamed B.named
    have hts0 : ∀ c ∈ (Jvm.Cond.code x code maxLocals ret :: tables_1), c.before #[Value.ref b] s = true := atoms_spec (ws := Jvm.Cond.code x code maxLocals ret :: tables_1) B.pre
    have hts : ∀ w ∈ lw_tbl, w.before #[Value.ref b] s = true := k2_hts_sels lw_privs (fun w hw => hts0 w (List.mem_cons_of_mem _ hw)) lw_privs_ok
    have hml : c.maxLocals = 4 := B.maxLocals_eq (hts0 _ List.mem_cons_self)
    have X₀ : Stand p l e room_1 s m #[Value.ref b] below meth c s₁ [] 0 0 := Stand.of_body B
    have hh0 : s₁.heap = s.heap := by rw [B.state]; rfl
    have hsz : scr.slots.size = xs.length := by rw [← Array.length_toList, hlist, List.length_map]
    have hval : ∀ j : Nat, j < xs.length → scr.slots[j]? = some (.int (xs.getD j 0)) := fun j hj => by
      rw [← Array.getElem?_toList, hlist]
      simp [hj]
    have hbl : b < s.heap.size := (Array.getElem?_eq_some_iff.mp hcb).1
    have hX : va_X b xs.length (fun j => xs.getD j 0) s s.heap := ⟨scr, hcb, hof, hkn, hsz, hval⟩
    have K : W p l e room_1 s m #[Value.ref b] below meth c s₁.heap [] 0 0 (lw_Z below #[Value.ref b] s) (entryFrame m ([Value.ref b] : List Value).toArray 4) := by
      rw [hh0]
      exact whole_start l hflags hbd ⟨B.exec, B.bytes, B.returns, hml, hown, hts, hX, hbl, B.notSynchronized, hgv⟩
    obtain ⟨t, a1, o, b1, b2, b3⟩ := K s₁ rfl X₀
    exact ⟨t, o, a1, b1, b2, b3⟩
theorem lw_pre_spec {args : Array Value} {s : State} (h : (Jvm.Cond.and given_1 narrow_1).before args s = true) (hr : rest_1_c.before args s = true) : ∃ (b : Addr) (xs : List Int32), lw_P b xs args s := by
  have hs := flat_of_before _ h
  have hq := flat_of_before _ hr
  have hc : (Cond.count 1).before args s = true := hs _ (by decide +kernel)
  have harr : (Cond.arrayOf (.arg 0) .int).before args s = true := hs _ (by decide +kernel)
  have hle : (Cond.le (.length (.arg 0)) (.int 3072)).before args s = true := hs _ (by decide +kernel)
  have hlen : (Cond.isInt (.length (.arg 0))).before args s = true := hq _ (by decide +kernel)
  have hall : (Cond.all (.arg 0) (.isInt (.elem (.arg 0) (.index 0)))).before args s = true := hq _ (by decide +kernel)
  obtain ⟨b, xs, hb, hx⟩ := State.ints_of_pre rfl harr hlen hall
  have hsm : xs.length < 2 ^ 31 := hx.choose_spec.2.2.2
  have hev : (Term.length (.arg 0)).eval args s none [] s = some (.int xs.length.toInt32) := hx.length_eval hb
  have hv := Cond.le_ints hev (show (Term.int 3072).eval args s none [] s = some (.int 3072) from rfl)
  have hd : xs.length.toInt32 ≤ 3072 := by
    simpa [Cond.before, Cond.holds, hv] using hle
  have hN : xs.length ≤ 3072 := (Int32.ofNat_le_ofNat hsm (by decide)).mp (show Int32.ofNat xs.length ≤ Int32.ofNat 3072 from hd)
  exact ⟨b, xs, Cond.one_arg hc (show args[0]? = some (.ref b) from hb), hx, hN, h⟩
theorem lw_comes (l : Launch) (hflags : l.flags = flags0) : Comes l x (Jvm.Cond.code x code maxLocals ret :: tables_1) room_1 (fun tb e args s => Calls_1 tb e args s ∧ rest_1 tb e args s ∧ Pre_1 tb e args s)
    (fun _ _ args s o t => lw_Q args s o t) := by
  intro p e ha hc hk s m args below hf hfit hheap happ hpre
  obtain ⟨b, xs, hP⟩ := lw_pre_spec hpre.2.2 hpre.2.1
  obtain ⟨k, o, h1, h2, h3, hQ⟩ := lw_walk l hflags b xs p e ha hc hk s m args below hf ((Spec.applies_iff_loose hf).mp happ).1 hP trivial
  exact ⟨k, o, h1, h2, h3, hQ⟩
theorem lw_frame {s t : State} {o : Outcome} {args : Array Value} (h : Framed s o t [] 600000 7302250) :
    Framed s o t (fieldLocs frame_1_writes args s ++ arrayLocs frame_1_arrays args s ++ staticLocs frame_1_statics s) 600000 7302250 := h
theorem lw_limb (L : Cond) (hL : ∀ (args : Array Value) (s t : State), L.after args s (.returned (some (.int 1))) t = true) :
    ArmFor flags0 classFile x code maxLocals ret World_1 tables_1 room_1 Calls_1 rest_1 Pre_1
      (fun tb e a s o t => postC L tb e a s o t ∧ Framed s o t (fieldLocs frame_1_writes a s ++ arrayLocs frame_1_arrays a s ++ staticLocs frame_1_statics s) 600000 7302250) := by
  intro l hflags _ _ p e ha hc hk s m args below hf hfit hheap happ hpre
  obtain ⟨k, o, h1, h2, h3, rfl, hF⟩ := lw_comes l hflags p e ha hc hk s m args below hf hfit hheap happ hpre
  exact ⟨k, _, h1, h2, h3, hL args s _, lw_frame hF⟩
theorem i_vc : Claimed_1_1 ∧ Claimed_1_2 := ⟨lw_limb limb_1_1 (fun args s t => by simp [limb_1_1, Cond.after, Cond.holds, Cond.value]), lw_limb limb_1_2 (fun args s t => Cond.after_iff.mpr (by
  first | (rw [show limb_1_2 = Cond.eq .result (.int 1) from rfl, Cond.eq_ints (x := 1) (y := 1) rfl rfl]; simp; done) | (simp [limb_1_2, Cond.value, Term.eval]; done)))⟩
