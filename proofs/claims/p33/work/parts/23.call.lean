/-! the law asks and calls the class -/
def k0V (f : Nat → Int32) (n a b : Nat) (x : Int32) : Int32 := cAv f n (nI a) (nI (1 + lowN x 99)) (nI (lowN (x >>> (nI 7 &&& 31)) 51)) (nI (lowN (x >>> (nI 9 &&& 31)) 51)) (nI (lowN (x >>> (nI 11 &&& 31)) 51))
def k0W (f : Nat → Int32) (n a b : Nat) (x : Int32) : Nat → Int32 := cAw f n (nI a) (nI (1 + lowN x 99)) (nI (lowN (x >>> (nI 7 &&& 31)) 51)) (nI (lowN (x >>> (nI 9 &&& 31)) 51)) (nI (lowN (x >>> (nI 11 &&& 31)) 51))
theorem cd_L_call : cdS yL_call cL_call 5 (some .int) 5 := ⟨⟨bw_146, bw_1, by decide, by decide, by decide +kernel⟩, bw_145⟩
set_option maxHeartbeats 4000000 in
set_option maxRecDepth 100000 in
theorem c_L_call_0 (l : Launch) (E : EV) (xo : Nat) (r : Nat) (r2 : Nat) (r3 : Nat) (d : Nat) (y : Nat) (q2 : Nat) (sf : Int32) (rc : Nat) (f : Nat → Int32) (rc2 : Nat) (fb : Nat → Int32) (q : Nat) (w : Nat) (o : Nat) (z : Nat) (h : Nat → Int32) (n : Nat) (a : Nat) (b : Nat) (x : Int32) (hf : f 12 = nI n) (hn : n ≤ 20) (ho : o < 6) (hz : z ≤ 6) : rcI l E yL_call cL_call 5 .int 8 [.ref xo, .int (nI 0), .int (nI a), .int (nI b), .int x] [(xo, .inr (4, [.ref r, .ref r2, .ref r3, .ref d, .ref y, .ref q2, .int sf])), (r, .inr (2, [.ref rc])), (rc, .inl (E.2.1, 293, .inl f)), (r2, .inr (2, [.ref rc2])), (rc2, .inl (E.2.1, 293, .inl fb)), (y, .inr (0, [.ref q, .int (nI o), .int (nI z)])), (q, .inr (3, [.ref w])), (w, .inl (E.2.1, 1758, .inl h))] (k0V f n a b x) [(xo, .inr (4, [.ref r, .ref r2, .ref r3, .ref d, .ref y, .ref q2, .int sf])), (r, .inr (2, [.ref rc])), (rc, .inl (E.2.1, 293, .inl (k0W f n a b x))), (r2, .inr (2, [.ref rc2])), (rc2, .inl (E.2.1, 293, .inl (cp293 f fb))), (y, .inr (0, [.ref q, .int (nI (recO (k0V f n a b x) o z)), .int (nI (recZ (k0V f n a b x) z))])), (q, .inr (3, [.ref w])), (w, .inl (E.2.1, 1758, .inl (recH (k0V f n a b x) (cp293 f fb) h o z)))] := by
  refine rcI_of (by decide) (Nat.le_of_ble_eq_true rfl) ?_
  intro pg e s m below meth c Q A ls S hP hD0 hE hA hl hret
  have hx := S.1
  have hb := S.2.1
  have hown := S.2.2.2.1
  have hts := S.2.2.2.2
  have hK := hE.1
  have hS : va_S A s.heap s.heap [] := va_S.rf
  have hDa : va_Da A [xo, r, rc, r2, rc2, y, q, w] := ⟨_, hD0, rfl⟩
  have hl : lv_has ls 5 [(0, .ref xo), (1, .int (nI 0)), (2, .int (nI a)), (3, .int (nI b)), (4, .int x)] := hl
  refine lv_iload_n hx hb dL_call_0 rfl (lv_at hl 1 rfl) ?_
  refine lv_tableIn (tgt := 68) hx hb dL_call_1 (by decide) (by decide) rfl (by decide) ?_
  refine lv_aload_n hx hb dL_call_68 rfl (lv_at hl 0 rfl) ?_
  refine lv_iload_n hx hb dL_call_69 rfl (lv_at hl 2 rfl) ?_
  refine lv_iconst (v := nI 1) hx hb dL_call_70 (by decide) ?_
  refine lv_iload hx hb dL_call_71 (lv_at hl 4 rfl) ?_
  refine lv_bipush (v := nI 99) hx hb dL_call_73 (by decide) ?_
  refine rwS2 (rest := [.int (nI 1), .int (nI a), .ref xo]) S (c_L_low l E x 99 (by omega) (by omega)) cd_L_low bw_140 ⟨Nat.le_of_ble_eq_true rfl, Nat.le_of_ble_eq_true rfl⟩ ⟨Nat.zero_le _, Nat.zero_le _⟩ hP (hDa.to rfl) hE hA hS [] rfl rfl [] rfl rfl (Nat.le_of_ble_eq_true rfl) hl.1 dL_call_75 (fun H locs hP _ hS => ?_)
  have hP : va_P E.1 vwCl [(xo, .inr (4, [.ref r, .ref r2, .ref r3, .ref d, .ref y, .ref q2, .int sf])), (r, .inr (2, [.ref rc])), (rc, .inl (E.2.1, 293, .inl f)), (r2, .inr (2, [.ref rc2])), (rc2, .inl (E.2.1, 293, .inl fb)), (y, .inr (0, [.ref q, .int (nI o), .int (nI z)])), (q, .inr (3, [.ref w])), (w, .inl (E.2.1, 1758, .inl h))] H := hP
  refine rn_add (a := 1) (b := lowN x 99) hx hb dL_call_78 ?_
  refine lv_iload hx hb dL_call_79 (lv_at hl 4 rfl) ?_
  refine lv_bipush (v := nI 7) hx hb dL_call_81 (by decide) ?_
  refine lv_ishr hx hb dL_call_83 ?_
  refine lv_bipush (v := nI 51) hx hb dL_call_84 (by decide) ?_
  refine rwS2 (rest := [.int (nI (1 + lowN x 99)), .int (nI a), .ref xo]) S (c_L_low l E (x >>> (nI 7 &&& 31)) 51 (by omega) (by omega)) cd_L_low bw_140 ⟨Nat.le_of_ble_eq_true rfl, Nat.le_of_ble_eq_true rfl⟩ ⟨Nat.zero_le _, Nat.zero_le _⟩ hP (hDa.to rfl) hE hA hS [] rfl rfl [] rfl rfl (Nat.le_of_ble_eq_true rfl) hl.1 dL_call_86 (fun H locs hP _ hS => ?_)
  have hP : va_P E.1 vwCl [(xo, .inr (4, [.ref r, .ref r2, .ref r3, .ref d, .ref y, .ref q2, .int sf])), (r, .inr (2, [.ref rc])), (rc, .inl (E.2.1, 293, .inl f)), (r2, .inr (2, [.ref rc2])), (rc2, .inl (E.2.1, 293, .inl fb)), (y, .inr (0, [.ref q, .int (nI o), .int (nI z)])), (q, .inr (3, [.ref w])), (w, .inl (E.2.1, 1758, .inl h))] H := hP
  refine lv_iload hx hb dL_call_89 (lv_at hl 4 rfl) ?_
  refine lv_bipush (v := nI 9) hx hb dL_call_91 (by decide) ?_
  refine lv_ishr hx hb dL_call_93 ?_
  refine lv_bipush (v := nI 51) hx hb dL_call_94 (by decide) ?_
  refine rwS2 (rest := [.int (nI (lowN (x >>> (nI 7 &&& 31)) 51)), .int (nI (1 + lowN x 99)), .int (nI a), .ref xo]) S (c_L_low l E (x >>> (nI 9 &&& 31)) 51 (by omega) (by omega)) cd_L_low bw_140 ⟨Nat.le_of_ble_eq_true rfl, Nat.le_of_ble_eq_true rfl⟩ ⟨Nat.zero_le _, Nat.zero_le _⟩ hP (hDa.to rfl) hE hA hS [] rfl rfl [] rfl rfl (Nat.le_of_ble_eq_true rfl) hl.1 dL_call_96 (fun H locs hP _ hS => ?_)
  have hP : va_P E.1 vwCl [(xo, .inr (4, [.ref r, .ref r2, .ref r3, .ref d, .ref y, .ref q2, .int sf])), (r, .inr (2, [.ref rc])), (rc, .inl (E.2.1, 293, .inl f)), (r2, .inr (2, [.ref rc2])), (rc2, .inl (E.2.1, 293, .inl fb)), (y, .inr (0, [.ref q, .int (nI o), .int (nI z)])), (q, .inr (3, [.ref w])), (w, .inl (E.2.1, 1758, .inl h))] H := hP
  refine lv_iload hx hb dL_call_99 (lv_at hl 4 rfl) ?_
  refine lv_bipush (v := nI 11) hx hb dL_call_101 (by decide) ?_
  refine lv_ishr hx hb dL_call_103 ?_
  refine lv_bipush (v := nI 51) hx hb dL_call_104 (by decide) ?_
  refine rwS2 (rest := [.int (nI (lowN (x >>> (nI 9 &&& 31)) 51)), .int (nI (lowN (x >>> (nI 7 &&& 31)) 51)), .int (nI (1 + lowN x 99)), .int (nI a), .ref xo]) S (c_L_low l E (x >>> (nI 11 &&& 31)) 51 (by omega) (by omega)) cd_L_low bw_140 ⟨Nat.le_of_ble_eq_true rfl, Nat.le_of_ble_eq_true rfl⟩ ⟨Nat.zero_le _, Nat.zero_le _⟩ hP (hDa.to rfl) hE hA hS [] rfl rfl [] rfl rfl (Nat.le_of_ble_eq_true rfl) hl.1 dL_call_106 (fun H locs hP _ hS => ?_)
  have hP : va_P E.1 vwCl [(xo, .inr (4, [.ref r, .ref r2, .ref r3, .ref d, .ref y, .ref q2, .int sf])), (r, .inr (2, [.ref rc])), (rc, .inl (E.2.1, 293, .inl f)), (r2, .inr (2, [.ref rc2])), (rc2, .inl (E.2.1, 293, .inl fb)), (y, .inr (0, [.ref q, .int (nI o), .int (nI z)])), (q, .inr (3, [.ref w])), (w, .inl (E.2.1, 1758, .inl h))] H := hP
  refine rwV5 (rest := []) S (c_X7_shot l E xo r r2 r3 d y q2 sf rc f rc2 fb q w o z h n (nI a) (nI (1 + lowN x 99)) (nI (lowN (x >>> (nI 7 &&& 31)) 51)) (nI (lowN (x >>> (nI 9 &&& 31)) 51)) (nI (lowN (x >>> (nI 11 &&& 31)) 51)) hf hn ho hz) cd_X7_shot bw_147 ⟨Nat.le_of_ble_eq_true rfl, Nat.le_of_ble_eq_true rfl⟩ ⟨Nat.zero_le _, Nat.zero_le _⟩ hP (hDa.to rfl) hE hA hS [0, 1, 2, 3, 4, 5, 6, 7] rfl rfl [xo, r, rc, r2, rc2, y, q, w] rfl rfl (ci := 4) rfl (q0 := 0) rfl (Nat.le_of_ble_eq_true rfl) hl.1 dL_call_109 (fun H locs hP _ hS => ?_)
  have hP : va_P E.1 vwCl [(xo, .inr (4, [.ref r, .ref r2, .ref r3, .ref d, .ref y, .ref q2, .int sf])), (r, .inr (2, [.ref rc])), (rc, .inl (E.2.1, 293, .inl (cAw f n (nI a) (nI (1 + lowN x 99)) (nI (lowN (x >>> (nI 7 &&& 31)) 51)) (nI (lowN (x >>> (nI 9 &&& 31)) 51)) (nI (lowN (x >>> (nI 11 &&& 31)) 51))))), (r2, .inr (2, [.ref rc2])), (rc2, .inl (E.2.1, 293, .inl (cp293 f fb))), (y, .inr (0, [.ref q, .int (nI (recO (cAv f n (nI a) (nI (1 + lowN x 99)) (nI (lowN (x >>> (nI 7 &&& 31)) 51)) (nI (lowN (x >>> (nI 9 &&& 31)) 51)) (nI (lowN (x >>> (nI 11 &&& 31)) 51))) o z)), .int (nI (recZ (cAv f n (nI a) (nI (1 + lowN x 99)) (nI (lowN (x >>> (nI 7 &&& 31)) 51)) (nI (lowN (x >>> (nI 9 &&& 31)) 51)) (nI (lowN (x >>> (nI 11 &&& 31)) 51))) z))])), (q, .inr (3, [.ref w])), (w, .inl (E.2.1, 1758, .inl (recH (cAv f n (nI a) (nI (1 + lowN x 99)) (nI (lowN (x >>> (nI 7 &&& 31)) 51)) (nI (lowN (x >>> (nI 9 &&& 31)) 51)) (nI (lowN (x >>> (nI 11 &&& 31)) 51))) (cp293 f fb) h o z)))] H := hP
  exact hret _ _ _ _ _ _ rfl rfl rfl hP hS dL_call_112

def k1V (f : Nat → Int32) (n a b : Nat) (x : Int32) : Int32 := cLv f n (nI a) (nI b) (nI (lowN x 51))
def k1W (f : Nat → Int32) (n a b : Nat) (x : Int32) : Nat → Int32 := cLw f n (nI a) (nI b) (nI (lowN x 51))
set_option maxHeartbeats 4000000 in
set_option maxRecDepth 100000 in
theorem c_L_call_1 (l : Launch) (E : EV) (xo : Nat) (r : Nat) (r2 : Nat) (r3 : Nat) (d : Nat) (y : Nat) (q2 : Nat) (sf : Int32) (rc : Nat) (f : Nat → Int32) (rc2 : Nat) (fb : Nat → Int32) (q : Nat) (w : Nat) (o : Nat) (z : Nat) (h : Nat → Int32) (n : Nat) (a : Nat) (b : Nat) (x : Int32) (hf : f 12 = nI n) (hn : n ≤ 20) (ho : o < 6) (hz : z ≤ 6) : rcI l E yL_call cL_call 5 .int 8 [.ref xo, .int (nI 1), .int (nI a), .int (nI b), .int x] [(xo, .inr (4, [.ref r, .ref r2, .ref r3, .ref d, .ref y, .ref q2, .int sf])), (r, .inr (2, [.ref rc])), (rc, .inl (E.2.1, 293, .inl f)), (r2, .inr (2, [.ref rc2])), (rc2, .inl (E.2.1, 293, .inl fb)), (y, .inr (0, [.ref q, .int (nI o), .int (nI z)])), (q, .inr (3, [.ref w])), (w, .inl (E.2.1, 1758, .inl h))] (k1V f n a b x) [(xo, .inr (4, [.ref r, .ref r2, .ref r3, .ref d, .ref y, .ref q2, .int sf])), (r, .inr (2, [.ref rc])), (rc, .inl (E.2.1, 293, .inl (k1W f n a b x))), (r2, .inr (2, [.ref rc2])), (rc2, .inl (E.2.1, 293, .inl (cp293 f fb))), (y, .inr (0, [.ref q, .int (nI (recO (k1V f n a b x) o z)), .int (nI (recZ (k1V f n a b x) z))])), (q, .inr (3, [.ref w])), (w, .inl (E.2.1, 1758, .inl (recH (k1V f n a b x) (cp293 f fb) h o z)))] := by
  refine rcI_of (by decide) (Nat.le_of_ble_eq_true rfl) ?_
  intro pg e s m below meth c Q A ls S hP hD0 hE hA hl hret
  have hx := S.1
  have hb := S.2.1
  have hown := S.2.2.2.1
  have hts := S.2.2.2.2
  have hK := hE.1
  have hS : va_S A s.heap s.heap [] := va_S.rf
  have hDa : va_Da A [xo, r, rc, r2, rc2, y, q, w] := ⟨_, hD0, rfl⟩
  have hl : lv_has ls 5 [(0, .ref xo), (1, .int (nI 1)), (2, .int (nI a)), (3, .int (nI b)), (4, .int x)] := hl
  refine lv_iload_n hx hb dL_call_0 rfl (lv_at hl 1 rfl) ?_
  refine lv_tableIn (tgt := 113) hx hb dL_call_1 (by decide) (by decide) rfl (by decide) ?_
  refine lv_aload_n hx hb dL_call_113 rfl (lv_at hl 0 rfl) ?_
  refine lv_iload_n hx hb dL_call_114 rfl (lv_at hl 2 rfl) ?_
  refine lv_iload_n hx hb dL_call_115 rfl (lv_at hl 3 rfl) ?_
  refine lv_iload hx hb dL_call_116 (lv_at hl 4 rfl) ?_
  refine lv_bipush (v := nI 51) hx hb dL_call_118 (by decide) ?_
  refine rwS2 (rest := [.int (nI b), .int (nI a), .ref xo]) S (c_L_low l E x 51 (by omega) (by omega)) cd_L_low bw_140 ⟨Nat.le_of_ble_eq_true rfl, Nat.le_of_ble_eq_true rfl⟩ ⟨Nat.zero_le _, Nat.zero_le _⟩ hP (hDa.to rfl) hE hA hS [] rfl rfl [] rfl rfl (Nat.le_of_ble_eq_true rfl) hl.1 dL_call_120 (fun H locs hP _ hS => ?_)
  have hP : va_P E.1 vwCl [(xo, .inr (4, [.ref r, .ref r2, .ref r3, .ref d, .ref y, .ref q2, .int sf])), (r, .inr (2, [.ref rc])), (rc, .inl (E.2.1, 293, .inl f)), (r2, .inr (2, [.ref rc2])), (rc2, .inl (E.2.1, 293, .inl fb)), (y, .inr (0, [.ref q, .int (nI o), .int (nI z)])), (q, .inr (3, [.ref w])), (w, .inl (E.2.1, 1758, .inl h))] H := hP
  refine rwV3 (rest := []) S (c_X7_light l E xo r r2 r3 d y q2 sf rc f rc2 fb q w o z h n (nI a) (nI b) (nI (lowN x 51)) hf hn ho hz) cd_X7_light bw_214 ⟨Nat.le_of_ble_eq_true rfl, Nat.le_of_ble_eq_true rfl⟩ ⟨Nat.zero_le _, Nat.zero_le _⟩ hP (hDa.to rfl) hE hA hS [0, 1, 2, 3, 4, 5, 6, 7] rfl rfl [xo, r, rc, r2, rc2, y, q, w] rfl rfl (ci := 4) rfl (q0 := 0) rfl (Nat.le_of_ble_eq_true rfl) hl.1 dL_call_123 (fun H locs hP _ hS => ?_)
  have hP : va_P E.1 vwCl [(xo, .inr (4, [.ref r, .ref r2, .ref r3, .ref d, .ref y, .ref q2, .int sf])), (r, .inr (2, [.ref rc])), (rc, .inl (E.2.1, 293, .inl (cLw f n (nI a) (nI b) (nI (lowN x 51))))), (r2, .inr (2, [.ref rc2])), (rc2, .inl (E.2.1, 293, .inl (cp293 f fb))), (y, .inr (0, [.ref q, .int (nI (recO (cLv f n (nI a) (nI b) (nI (lowN x 51))) o z)), .int (nI (recZ (cLv f n (nI a) (nI b) (nI (lowN x 51))) z))])), (q, .inr (3, [.ref w])), (w, .inl (E.2.1, 1758, .inl (recH (cLv f n (nI a) (nI b) (nI (lowN x 51))) (cp293 f fb) h o z)))] H := hP
  exact hret _ _ _ _ _ _ rfl rfl rfl hP hS dL_call_126

def k2V (f : Nat → Int32) (n a b : Nat) (x : Int32) : Int32 := cWv f n (nI a) (nI b) (nI (lowN x 21) - (nI 10))
def k2W (f : Nat → Int32) (n a b : Nat) (x : Int32) : Nat → Int32 := cWw f n (nI a) (nI b) (nI (lowN x 21) - (nI 10))
set_option maxHeartbeats 4000000 in
set_option maxRecDepth 100000 in
theorem c_L_call_2 (l : Launch) (E : EV) (xo : Nat) (r : Nat) (r2 : Nat) (r3 : Nat) (d : Nat) (y : Nat) (q2 : Nat) (sf : Int32) (rc : Nat) (f : Nat → Int32) (rc2 : Nat) (fb : Nat → Int32) (q : Nat) (w : Nat) (o : Nat) (z : Nat) (h : Nat → Int32) (n : Nat) (a : Nat) (b : Nat) (x : Int32) (hf : f 12 = nI n) (hn : n ≤ 20) (ho : o < 6) (hz : z ≤ 6) : rcI l E yL_call cL_call 5 .int 8 [.ref xo, .int (nI 2), .int (nI a), .int (nI b), .int x] [(xo, .inr (4, [.ref r, .ref r2, .ref r3, .ref d, .ref y, .ref q2, .int sf])), (r, .inr (2, [.ref rc])), (rc, .inl (E.2.1, 293, .inl f)), (r2, .inr (2, [.ref rc2])), (rc2, .inl (E.2.1, 293, .inl fb)), (y, .inr (0, [.ref q, .int (nI o), .int (nI z)])), (q, .inr (3, [.ref w])), (w, .inl (E.2.1, 1758, .inl h))] (k2V f n a b x) [(xo, .inr (4, [.ref r, .ref r2, .ref r3, .ref d, .ref y, .ref q2, .int sf])), (r, .inr (2, [.ref rc])), (rc, .inl (E.2.1, 293, .inl (k2W f n a b x))), (r2, .inr (2, [.ref rc2])), (rc2, .inl (E.2.1, 293, .inl (cp293 f fb))), (y, .inr (0, [.ref q, .int (nI (recO (k2V f n a b x) o z)), .int (nI (recZ (k2V f n a b x) z))])), (q, .inr (3, [.ref w])), (w, .inl (E.2.1, 1758, .inl (recH (k2V f n a b x) (cp293 f fb) h o z)))] := by
  refine rcI_of (by decide) (Nat.le_of_ble_eq_true rfl) ?_
  intro pg e s m below meth c Q A ls S hP hD0 hE hA hl hret
  have hx := S.1
  have hb := S.2.1
  have hown := S.2.2.2.1
  have hts := S.2.2.2.2
  have hK := hE.1
  have hS : va_S A s.heap s.heap [] := va_S.rf
  have hDa : va_Da A [xo, r, rc, r2, rc2, y, q, w] := ⟨_, hD0, rfl⟩
  have hl : lv_has ls 5 [(0, .ref xo), (1, .int (nI 2)), (2, .int (nI a)), (3, .int (nI b)), (4, .int x)] := hl
  refine lv_iload_n hx hb dL_call_0 rfl (lv_at hl 1 rfl) ?_
  refine lv_tableIn (tgt := 127) hx hb dL_call_1 (by decide) (by decide) rfl (by decide) ?_
  refine lv_aload_n hx hb dL_call_127 rfl (lv_at hl 0 rfl) ?_
  refine lv_iload_n hx hb dL_call_128 rfl (lv_at hl 2 rfl) ?_
  refine lv_iload_n hx hb dL_call_129 rfl (lv_at hl 3 rfl) ?_
  refine lv_iload hx hb dL_call_130 (lv_at hl 4 rfl) ?_
  refine lv_bipush (v := nI 21) hx hb dL_call_132 (by decide) ?_
  refine rwS2 (rest := [.int (nI b), .int (nI a), .ref xo]) S (c_L_low l E x 21 (by omega) (by omega)) cd_L_low bw_140 ⟨Nat.le_of_ble_eq_true rfl, Nat.le_of_ble_eq_true rfl⟩ ⟨Nat.zero_le _, Nat.zero_le _⟩ hP (hDa.to rfl) hE hA hS [] rfl rfl [] rfl rfl (Nat.le_of_ble_eq_true rfl) hl.1 dL_call_134 (fun H locs hP _ hS => ?_)
  have hP : va_P E.1 vwCl [(xo, .inr (4, [.ref r, .ref r2, .ref r3, .ref d, .ref y, .ref q2, .int sf])), (r, .inr (2, [.ref rc])), (rc, .inl (E.2.1, 293, .inl f)), (r2, .inr (2, [.ref rc2])), (rc2, .inl (E.2.1, 293, .inl fb)), (y, .inr (0, [.ref q, .int (nI o), .int (nI z)])), (q, .inr (3, [.ref w])), (w, .inl (E.2.1, 1758, .inl h))] H := hP
  refine lv_bipush (v := nI 10) hx hb dL_call_137 (by decide) ?_
  refine lv_isub hx hb dL_call_139 ?_
  refine rwV3 (rest := []) S (c_X7_wish l E xo r r2 r3 d y q2 sf rc f rc2 fb q w o z h n (nI a) (nI b) (nI (lowN x 21) - (nI 10)) hf hn ho hz) cd_X7_wish bw_229 ⟨Nat.le_of_ble_eq_true rfl, Nat.le_of_ble_eq_true rfl⟩ ⟨Nat.zero_le _, Nat.zero_le _⟩ hP (hDa.to rfl) hE hA hS [0, 1, 2, 3, 4, 5, 6, 7] rfl rfl [xo, r, rc, r2, rc2, y, q, w] rfl rfl (ci := 4) rfl (q0 := 0) rfl (Nat.le_of_ble_eq_true rfl) hl.1 dL_call_140 (fun H locs hP _ hS => ?_)
  have hP : va_P E.1 vwCl [(xo, .inr (4, [.ref r, .ref r2, .ref r3, .ref d, .ref y, .ref q2, .int sf])), (r, .inr (2, [.ref rc])), (rc, .inl (E.2.1, 293, .inl (cWw f n (nI a) (nI b) (nI (lowN x 21) - (nI 10))))), (r2, .inr (2, [.ref rc2])), (rc2, .inl (E.2.1, 293, .inl (cp293 f fb))), (y, .inr (0, [.ref q, .int (nI (recO (cWv f n (nI a) (nI b) (nI (lowN x 21) - (nI 10))) o z)), .int (nI (recZ (cWv f n (nI a) (nI b) (nI (lowN x 21) - (nI 10))) z))])), (q, .inr (3, [.ref w])), (w, .inl (E.2.1, 1758, .inl (recH (cWv f n (nI a) (nI b) (nI (lowN x 21) - (nI 10))) (cp293 f fb) h o z)))] H := hP
  exact hret _ _ _ _ _ _ rfl rfl rfl hP hS dL_call_143

def k3V (f : Nat → Int32) (n a b : Nat) (x : Int32) : Int32 := cMv f n (nI a) (nI (lowN x 21))
def k3W (f : Nat → Int32) (n a b : Nat) (x : Int32) : Nat → Int32 := cMw f n (nI a) (nI (lowN x 21))
set_option maxHeartbeats 4000000 in
set_option maxRecDepth 100000 in
theorem c_L_call_3 (l : Launch) (E : EV) (xo : Nat) (r : Nat) (r2 : Nat) (r3 : Nat) (d : Nat) (y : Nat) (q2 : Nat) (sf : Int32) (rc : Nat) (f : Nat → Int32) (rc2 : Nat) (fb : Nat → Int32) (q : Nat) (w : Nat) (o : Nat) (z : Nat) (h : Nat → Int32) (n : Nat) (a : Nat) (b : Nat) (x : Int32) (hf : f 12 = nI n) (hn : n ≤ 20) (ho : o < 6) (hz : z ≤ 6) : rcI l E yL_call cL_call 5 .int 8 [.ref xo, .int (nI 3), .int (nI a), .int (nI b), .int x] [(xo, .inr (4, [.ref r, .ref r2, .ref r3, .ref d, .ref y, .ref q2, .int sf])), (r, .inr (2, [.ref rc])), (rc, .inl (E.2.1, 293, .inl f)), (r2, .inr (2, [.ref rc2])), (rc2, .inl (E.2.1, 293, .inl fb)), (y, .inr (0, [.ref q, .int (nI o), .int (nI z)])), (q, .inr (3, [.ref w])), (w, .inl (E.2.1, 1758, .inl h))] (k3V f n a b x) [(xo, .inr (4, [.ref r, .ref r2, .ref r3, .ref d, .ref y, .ref q2, .int sf])), (r, .inr (2, [.ref rc])), (rc, .inl (E.2.1, 293, .inl (k3W f n a b x))), (r2, .inr (2, [.ref rc2])), (rc2, .inl (E.2.1, 293, .inl (cp293 f fb))), (y, .inr (0, [.ref q, .int (nI (recO (k3V f n a b x) o z)), .int (nI (recZ (k3V f n a b x) z))])), (q, .inr (3, [.ref w])), (w, .inl (E.2.1, 1758, .inl (recH (k3V f n a b x) (cp293 f fb) h o z)))] := by
  refine rcI_of (by decide) (Nat.le_of_ble_eq_true rfl) ?_
  intro pg e s m below meth c Q A ls S hP hD0 hE hA hl hret
  have hx := S.1
  have hb := S.2.1
  have hown := S.2.2.2.1
  have hts := S.2.2.2.2
  have hK := hE.1
  have hS : va_S A s.heap s.heap [] := va_S.rf
  have hDa : va_Da A [xo, r, rc, r2, rc2, y, q, w] := ⟨_, hD0, rfl⟩
  have hl : lv_has ls 5 [(0, .ref xo), (1, .int (nI 3)), (2, .int (nI a)), (3, .int (nI b)), (4, .int x)] := hl
  refine lv_iload_n hx hb dL_call_0 rfl (lv_at hl 1 rfl) ?_
  refine lv_tableIn (tgt := 144) hx hb dL_call_1 (by decide) (by decide) rfl (by decide) ?_
  refine lv_aload_n hx hb dL_call_144 rfl (lv_at hl 0 rfl) ?_
  refine lv_iload_n hx hb dL_call_145 rfl (lv_at hl 2 rfl) ?_
  refine lv_iload hx hb dL_call_146 (lv_at hl 4 rfl) ?_
  refine lv_bipush (v := nI 21) hx hb dL_call_148 (by decide) ?_
  refine rwS2 (rest := [.int (nI a), .ref xo]) S (c_L_low l E x 21 (by omega) (by omega)) cd_L_low bw_140 ⟨Nat.le_of_ble_eq_true rfl, Nat.le_of_ble_eq_true rfl⟩ ⟨Nat.zero_le _, Nat.zero_le _⟩ hP (hDa.to rfl) hE hA hS [] rfl rfl [] rfl rfl (Nat.le_of_ble_eq_true rfl) hl.1 dL_call_150 (fun H locs hP _ hS => ?_)
  have hP : va_P E.1 vwCl [(xo, .inr (4, [.ref r, .ref r2, .ref r3, .ref d, .ref y, .ref q2, .int sf])), (r, .inr (2, [.ref rc])), (rc, .inl (E.2.1, 293, .inl f)), (r2, .inr (2, [.ref rc2])), (rc2, .inl (E.2.1, 293, .inl fb)), (y, .inr (0, [.ref q, .int (nI o), .int (nI z)])), (q, .inr (3, [.ref w])), (w, .inl (E.2.1, 1758, .inl h))] H := hP
  refine rwV2 (rest := []) S (c_X7_move l E xo r r2 r3 d y q2 sf rc f rc2 fb q w o z h n (nI a) (nI (lowN x 21)) hf hn ho hz) cd_X7_move bw_236 ⟨Nat.le_of_ble_eq_true rfl, Nat.le_of_ble_eq_true rfl⟩ ⟨Nat.zero_le _, Nat.zero_le _⟩ hP (hDa.to rfl) hE hA hS [0, 1, 2, 3, 4, 5, 6, 7] rfl rfl [xo, r, rc, r2, rc2, y, q, w] rfl rfl (ci := 4) rfl (q0 := 0) rfl (Nat.le_of_ble_eq_true rfl) hl.1 dL_call_153 (fun H locs hP _ hS => ?_)
  have hP : va_P E.1 vwCl [(xo, .inr (4, [.ref r, .ref r2, .ref r3, .ref d, .ref y, .ref q2, .int sf])), (r, .inr (2, [.ref rc])), (rc, .inl (E.2.1, 293, .inl (cMw f n (nI a) (nI (lowN x 21))))), (r2, .inr (2, [.ref rc2])), (rc2, .inl (E.2.1, 293, .inl (cp293 f fb))), (y, .inr (0, [.ref q, .int (nI (recO (cMv f n (nI a) (nI (lowN x 21))) o z)), .int (nI (recZ (cMv f n (nI a) (nI (lowN x 21))) z))])), (q, .inr (3, [.ref w])), (w, .inl (E.2.1, 1758, .inl (recH (cMv f n (nI a) (nI (lowN x 21))) (cp293 f fb) h o z)))] H := hP
  exact hret _ _ _ _ _ _ rfl rfl rfl hP hS dL_call_156

def k4V (f : Nat → Int32) (n a b : Nat) (x : Int32) : Int32 := cPv f n (nI a) (nI (1 + lowN x 98))
def k4W (f : Nat → Int32) (n a b : Nat) (x : Int32) : Nat → Int32 := cPw f n (nI a) (nI (1 + lowN x 98))
set_option maxHeartbeats 4000000 in
set_option maxRecDepth 100000 in
theorem c_L_call_4 (l : Launch) (E : EV) (xo : Nat) (r : Nat) (r2 : Nat) (r3 : Nat) (d : Nat) (y : Nat) (q2 : Nat) (sf : Int32) (rc : Nat) (f : Nat → Int32) (rc2 : Nat) (fb : Nat → Int32) (q : Nat) (w : Nat) (o : Nat) (z : Nat) (h : Nat → Int32) (n : Nat) (a : Nat) (b : Nat) (x : Int32) (hf : f 12 = nI n) (hn : n ≤ 20) (ho : o < 6) (hz : z ≤ 6) : rcI l E yL_call cL_call 5 .int 8 [.ref xo, .int (nI 4), .int (nI a), .int (nI b), .int x] [(xo, .inr (4, [.ref r, .ref r2, .ref r3, .ref d, .ref y, .ref q2, .int sf])), (r, .inr (2, [.ref rc])), (rc, .inl (E.2.1, 293, .inl f)), (r2, .inr (2, [.ref rc2])), (rc2, .inl (E.2.1, 293, .inl fb)), (y, .inr (0, [.ref q, .int (nI o), .int (nI z)])), (q, .inr (3, [.ref w])), (w, .inl (E.2.1, 1758, .inl h))] (k4V f n a b x) [(xo, .inr (4, [.ref r, .ref r2, .ref r3, .ref d, .ref y, .ref q2, .int sf])), (r, .inr (2, [.ref rc])), (rc, .inl (E.2.1, 293, .inl (k4W f n a b x))), (r2, .inr (2, [.ref rc2])), (rc2, .inl (E.2.1, 293, .inl (cp293 f fb))), (y, .inr (0, [.ref q, .int (nI (recO (k4V f n a b x) o z)), .int (nI (recZ (k4V f n a b x) z))])), (q, .inr (3, [.ref w])), (w, .inl (E.2.1, 1758, .inl (recH (k4V f n a b x) (cp293 f fb) h o z)))] := by
  refine rcI_of (by decide) (Nat.le_of_ble_eq_true rfl) ?_
  intro pg e s m below meth c Q A ls S hP hD0 hE hA hl hret
  have hx := S.1
  have hb := S.2.1
  have hown := S.2.2.2.1
  have hts := S.2.2.2.2
  have hK := hE.1
  have hS : va_S A s.heap s.heap [] := va_S.rf
  have hDa : va_Da A [xo, r, rc, r2, rc2, y, q, w] := ⟨_, hD0, rfl⟩
  have hl : lv_has ls 5 [(0, .ref xo), (1, .int (nI 4)), (2, .int (nI a)), (3, .int (nI b)), (4, .int x)] := hl
  refine lv_iload_n hx hb dL_call_0 rfl (lv_at hl 1 rfl) ?_
  refine lv_tableIn (tgt := 157) hx hb dL_call_1 (by decide) (by decide) rfl (by decide) ?_
  refine lv_aload_n hx hb dL_call_157 rfl (lv_at hl 0 rfl) ?_
  refine lv_iload_n hx hb dL_call_158 rfl (lv_at hl 2 rfl) ?_
  refine lv_iconst (v := nI 1) hx hb dL_call_159 (by decide) ?_
  refine lv_iload hx hb dL_call_160 (lv_at hl 4 rfl) ?_
  refine lv_bipush (v := nI 98) hx hb dL_call_162 (by decide) ?_
  refine rwS2 (rest := [.int (nI 1), .int (nI a), .ref xo]) S (c_L_low l E x 98 (by omega) (by omega)) cd_L_low bw_140 ⟨Nat.le_of_ble_eq_true rfl, Nat.le_of_ble_eq_true rfl⟩ ⟨Nat.zero_le _, Nat.zero_le _⟩ hP (hDa.to rfl) hE hA hS [] rfl rfl [] rfl rfl (Nat.le_of_ble_eq_true rfl) hl.1 dL_call_164 (fun H locs hP _ hS => ?_)
  have hP : va_P E.1 vwCl [(xo, .inr (4, [.ref r, .ref r2, .ref r3, .ref d, .ref y, .ref q2, .int sf])), (r, .inr (2, [.ref rc])), (rc, .inl (E.2.1, 293, .inl f)), (r2, .inr (2, [.ref rc2])), (rc2, .inl (E.2.1, 293, .inl fb)), (y, .inr (0, [.ref q, .int (nI o), .int (nI z)])), (q, .inr (3, [.ref w])), (w, .inl (E.2.1, 1758, .inl h))] H := hP
  refine rn_add (a := 1) (b := lowN x 98) hx hb dL_call_167 ?_
  refine rwV2 (rest := []) S (c_X7_split l E xo r r2 r3 d y q2 sf rc f rc2 fb q w o z h n (nI a) (nI (1 + lowN x 98)) hf hn ho hz) cd_X7_split bw_250 ⟨Nat.le_of_ble_eq_true rfl, Nat.le_of_ble_eq_true rfl⟩ ⟨Nat.zero_le _, Nat.zero_le _⟩ hP (hDa.to rfl) hE hA hS [0, 1, 2, 3, 4, 5, 6, 7] rfl rfl [xo, r, rc, r2, rc2, y, q, w] rfl rfl (ci := 4) rfl (q0 := 0) rfl (Nat.le_of_ble_eq_true rfl) hl.1 dL_call_168 (fun H locs hP _ hS => ?_)
  have hP : va_P E.1 vwCl [(xo, .inr (4, [.ref r, .ref r2, .ref r3, .ref d, .ref y, .ref q2, .int sf])), (r, .inr (2, [.ref rc])), (rc, .inl (E.2.1, 293, .inl (cPw f n (nI a) (nI (1 + lowN x 98))))), (r2, .inr (2, [.ref rc2])), (rc2, .inl (E.2.1, 293, .inl (cp293 f fb))), (y, .inr (0, [.ref q, .int (nI (recO (cPv f n (nI a) (nI (1 + lowN x 98))) o z)), .int (nI (recZ (cPv f n (nI a) (nI (1 + lowN x 98))) z))])), (q, .inr (3, [.ref w])), (w, .inl (E.2.1, 1758, .inl (recH (cPv f n (nI a) (nI (1 + lowN x 98))) (cp293 f fb) h o z)))] H := hP
  exact hret _ _ _ _ _ _ rfl rfl rfl hP hS dL_call_171

def k5V (f : Nat → Int32) (n a b : Nat) (x : Int32) : Int32 := cJv f n (nI a)
def k5W (f : Nat → Int32) (n a b : Nat) (x : Int32) : Nat → Int32 := cJw f n (nI a)
set_option maxHeartbeats 4000000 in
set_option maxRecDepth 100000 in
theorem c_L_call_5 (l : Launch) (E : EV) (xo : Nat) (r : Nat) (r2 : Nat) (r3 : Nat) (d : Nat) (y : Nat) (q2 : Nat) (sf : Int32) (rc : Nat) (f : Nat → Int32) (rc2 : Nat) (fb : Nat → Int32) (q : Nat) (w : Nat) (o : Nat) (z : Nat) (h : Nat → Int32) (n : Nat) (a : Nat) (b : Nat) (x : Int32) (hf : f 12 = nI n) (hn : n ≤ 20) (ho : o < 6) (hz : z ≤ 6) : rcI l E yL_call cL_call 5 .int 8 [.ref xo, .int (nI 5), .int (nI a), .int (nI b), .int x] [(xo, .inr (4, [.ref r, .ref r2, .ref r3, .ref d, .ref y, .ref q2, .int sf])), (r, .inr (2, [.ref rc])), (rc, .inl (E.2.1, 293, .inl f)), (r2, .inr (2, [.ref rc2])), (rc2, .inl (E.2.1, 293, .inl fb)), (y, .inr (0, [.ref q, .int (nI o), .int (nI z)])), (q, .inr (3, [.ref w])), (w, .inl (E.2.1, 1758, .inl h))] (k5V f n a b x) [(xo, .inr (4, [.ref r, .ref r2, .ref r3, .ref d, .ref y, .ref q2, .int sf])), (r, .inr (2, [.ref rc])), (rc, .inl (E.2.1, 293, .inl (k5W f n a b x))), (r2, .inr (2, [.ref rc2])), (rc2, .inl (E.2.1, 293, .inl (cp293 f fb))), (y, .inr (0, [.ref q, .int (nI (recO (k5V f n a b x) o z)), .int (nI (recZ (k5V f n a b x) z))])), (q, .inr (3, [.ref w])), (w, .inl (E.2.1, 1758, .inl (recH (k5V f n a b x) (cp293 f fb) h o z)))] := by
  refine rcI_of (by decide) (Nat.le_of_ble_eq_true rfl) ?_
  intro pg e s m below meth c Q A ls S hP hD0 hE hA hl hret
  have hx := S.1
  have hb := S.2.1
  have hown := S.2.2.2.1
  have hts := S.2.2.2.2
  have hK := hE.1
  have hS : va_S A s.heap s.heap [] := va_S.rf
  have hDa : va_Da A [xo, r, rc, r2, rc2, y, q, w] := ⟨_, hD0, rfl⟩
  have hl : lv_has ls 5 [(0, .ref xo), (1, .int (nI 5)), (2, .int (nI a)), (3, .int (nI b)), (4, .int x)] := hl
  refine lv_iload_n hx hb dL_call_0 rfl (lv_at hl 1 rfl) ?_
  refine lv_tableIn (tgt := 172) hx hb dL_call_1 (by decide) (by decide) rfl (by decide) ?_
  refine lv_aload_n hx hb dL_call_172 rfl (lv_at hl 0 rfl) ?_
  refine lv_iload_n hx hb dL_call_173 rfl (lv_at hl 2 rfl) ?_
  refine rwV1 (rest := []) S (c_X7_join l E xo r r2 r3 d y q2 sf rc f rc2 fb q w o z h n (nI a) hf hn ho hz) cd_X7_join bw_257 ⟨Nat.le_of_ble_eq_true rfl, Nat.le_of_ble_eq_true rfl⟩ ⟨Nat.zero_le _, Nat.zero_le _⟩ hP (hDa.to rfl) hE hA hS [0, 1, 2, 3, 4, 5, 6, 7] rfl rfl [xo, r, rc, r2, rc2, y, q, w] rfl rfl (ci := 4) rfl (q0 := 0) rfl (Nat.le_of_ble_eq_true rfl) hl.1 dL_call_174 (fun H locs hP _ hS => ?_)
  have hP : va_P E.1 vwCl [(xo, .inr (4, [.ref r, .ref r2, .ref r3, .ref d, .ref y, .ref q2, .int sf])), (r, .inr (2, [.ref rc])), (rc, .inl (E.2.1, 293, .inl (cJw f n (nI a)))), (r2, .inr (2, [.ref rc2])), (rc2, .inl (E.2.1, 293, .inl (cp293 f fb))), (y, .inr (0, [.ref q, .int (nI (recO (cJv f n (nI a)) o z)), .int (nI (recZ (cJv f n (nI a)) z))])), (q, .inr (3, [.ref w])), (w, .inl (E.2.1, 1758, .inl (recH (cJv f n (nI a)) (cp293 f fb) h o z)))] H := hP
  exact hret _ _ _ _ _ _ rfl rfl rfl hP hS dL_call_177

def k6V (f : Nat → Int32) (n a b : Nat) (x : Int32) : Int32 := cKv f n
def k6W (f : Nat → Int32) (n a b : Nat) (x : Int32) : Nat → Int32 := cKw f n
set_option maxHeartbeats 4000000 in
set_option maxRecDepth 100000 in
theorem c_L_call_6 (l : Launch) (E : EV) (xo : Nat) (r : Nat) (r2 : Nat) (r3 : Nat) (d : Nat) (y : Nat) (q2 : Nat) (sf : Int32) (rc : Nat) (f : Nat → Int32) (rc2 : Nat) (fb : Nat → Int32) (q : Nat) (w : Nat) (o : Nat) (z : Nat) (h : Nat → Int32) (n : Nat) (a : Nat) (b : Nat) (x : Int32) (hf : f 12 = nI n) (hn : n ≤ 20) (ho : o < 6) (hz : z ≤ 6) : rcI l E yL_call cL_call 5 .int 8 [.ref xo, .int (nI 6), .int (nI a), .int (nI b), .int x] [(xo, .inr (4, [.ref r, .ref r2, .ref r3, .ref d, .ref y, .ref q2, .int sf])), (r, .inr (2, [.ref rc])), (rc, .inl (E.2.1, 293, .inl f)), (r2, .inr (2, [.ref rc2])), (rc2, .inl (E.2.1, 293, .inl fb)), (y, .inr (0, [.ref q, .int (nI o), .int (nI z)])), (q, .inr (3, [.ref w])), (w, .inl (E.2.1, 1758, .inl h))] (k6V f n a b x) [(xo, .inr (4, [.ref r, .ref r2, .ref r3, .ref d, .ref y, .ref q2, .int sf])), (r, .inr (2, [.ref rc])), (rc, .inl (E.2.1, 293, .inl (k6W f n a b x))), (r2, .inr (2, [.ref rc2])), (rc2, .inl (E.2.1, 293, .inl (cp293 f fb))), (y, .inr (0, [.ref q, .int (nI (recO (k6V f n a b x) o z)), .int (nI (recZ (k6V f n a b x) z))])), (q, .inr (3, [.ref w])), (w, .inl (E.2.1, 1758, .inl (recH (k6V f n a b x) (cp293 f fb) h o z)))] := by
  refine rcI_of (by decide) (Nat.le_of_ble_eq_true rfl) ?_
  intro pg e s m below meth c Q A ls S hP hD0 hE hA hl hret
  have hx := S.1
  have hb := S.2.1
  have hown := S.2.2.2.1
  have hts := S.2.2.2.2
  have hK := hE.1
  have hS : va_S A s.heap s.heap [] := va_S.rf
  have hDa : va_Da A [xo, r, rc, r2, rc2, y, q, w] := ⟨_, hD0, rfl⟩
  have hl : lv_has ls 5 [(0, .ref xo), (1, .int (nI 6)), (2, .int (nI a)), (3, .int (nI b)), (4, .int x)] := hl
  refine lv_iload_n hx hb dL_call_0 rfl (lv_at hl 1 rfl) ?_
  refine lv_tableIn (tgt := 178) hx hb dL_call_1 (by decide) (by decide) rfl (by decide) ?_
  refine lv_aload_n hx hb dL_call_178 rfl (lv_at hl 0 rfl) ?_
  refine rwV0 (rest := []) S (c_X7_print l E xo r r2 r3 d y q2 sf rc f rc2 fb q w o z h n hf hn ho hz) cd_X7_print bw_271 ⟨Nat.le_of_ble_eq_true rfl, Nat.le_of_ble_eq_true rfl⟩ ⟨Nat.zero_le _, Nat.zero_le _⟩ hP (hDa.to rfl) hE hA hS [0, 1, 2, 3, 4, 5, 6, 7] rfl rfl [xo, r, rc, r2, rc2, y, q, w] rfl rfl (ci := 4) rfl (q0 := 0) rfl (Nat.le_of_ble_eq_true rfl) hl.1 dL_call_179 (fun H locs hP _ hS => ?_)
  have hP : va_P E.1 vwCl [(xo, .inr (4, [.ref r, .ref r2, .ref r3, .ref d, .ref y, .ref q2, .int sf])), (r, .inr (2, [.ref rc])), (rc, .inl (E.2.1, 293, .inl (cKw f n))), (r2, .inr (2, [.ref rc2])), (rc2, .inl (E.2.1, 293, .inl (cp293 f fb))), (y, .inr (0, [.ref q, .int (nI (recO (cKv f n) o z)), .int (nI (recZ (cKv f n) z))])), (q, .inr (3, [.ref w])), (w, .inl (E.2.1, 1758, .inl (recH (cKv f n) (cp293 f fb) h o z)))] H := hP
  exact hret _ _ _ _ _ _ rfl rfl rfl hP hS dL_call_182

def k7V (f : Nat → Int32) (n a b : Nat) (x : Int32) : Int32 := cCv f n (nI a)
def k7W (f : Nat → Int32) (n a b : Nat) (x : Int32) : Nat → Int32 := cCw f n (nI a)
set_option maxHeartbeats 4000000 in
set_option maxRecDepth 100000 in
theorem c_L_call_7 (l : Launch) (E : EV) (xo : Nat) (r : Nat) (r2 : Nat) (r3 : Nat) (d : Nat) (y : Nat) (q2 : Nat) (sf : Int32) (rc : Nat) (f : Nat → Int32) (rc2 : Nat) (fb : Nat → Int32) (q : Nat) (w : Nat) (o : Nat) (z : Nat) (h : Nat → Int32) (n : Nat) (a : Nat) (b : Nat) (x : Int32) (hf : f 12 = nI n) (hn : n ≤ 20) (ho : o < 6) (hz : z ≤ 6) : rcI l E yL_call cL_call 5 .int 8 [.ref xo, .int (nI 7), .int (nI a), .int (nI b), .int x] [(xo, .inr (4, [.ref r, .ref r2, .ref r3, .ref d, .ref y, .ref q2, .int sf])), (r, .inr (2, [.ref rc])), (rc, .inl (E.2.1, 293, .inl f)), (r2, .inr (2, [.ref rc2])), (rc2, .inl (E.2.1, 293, .inl fb)), (y, .inr (0, [.ref q, .int (nI o), .int (nI z)])), (q, .inr (3, [.ref w])), (w, .inl (E.2.1, 1758, .inl h))] (k7V f n a b x) [(xo, .inr (4, [.ref r, .ref r2, .ref r3, .ref d, .ref y, .ref q2, .int sf])), (r, .inr (2, [.ref rc])), (rc, .inl (E.2.1, 293, .inl (k7W f n a b x))), (r2, .inr (2, [.ref rc2])), (rc2, .inl (E.2.1, 293, .inl (cp293 f fb))), (y, .inr (0, [.ref q, .int (nI (recO (k7V f n a b x) o z)), .int (nI (recZ (k7V f n a b x) z))])), (q, .inr (3, [.ref w])), (w, .inl (E.2.1, 1758, .inl (recH (k7V f n a b x) (cp293 f fb) h o z)))] := by
  refine rcI_of (by decide) (Nat.le_of_ble_eq_true rfl) ?_
  intro pg e s m below meth c Q A ls S hP hD0 hE hA hl hret
  have hx := S.1
  have hb := S.2.1
  have hown := S.2.2.2.1
  have hts := S.2.2.2.2
  have hK := hE.1
  have hS : va_S A s.heap s.heap [] := va_S.rf
  have hDa : va_Da A [xo, r, rc, r2, rc2, y, q, w] := ⟨_, hD0, rfl⟩
  have hl : lv_has ls 5 [(0, .ref xo), (1, .int (nI 7)), (2, .int (nI a)), (3, .int (nI b)), (4, .int x)] := hl
  refine lv_iload_n hx hb dL_call_0 rfl (lv_at hl 1 rfl) ?_
  refine lv_tableIn (tgt := 183) hx hb dL_call_1 (by decide) (by decide) rfl (by decide) ?_
  refine lv_aload_n hx hb dL_call_183 rfl (lv_at hl 0 rfl) ?_
  refine lv_iload_n hx hb dL_call_184 rfl (lv_at hl 2 rfl) ?_
  refine rwV1 (rest := []) S (c_X7_correct l E xo r r2 r3 d y q2 sf rc f rc2 fb q w o z h n (nI a) hf hn ho hz) cd_X7_correct bw_312 ⟨Nat.le_of_ble_eq_true rfl, Nat.le_of_ble_eq_true rfl⟩ ⟨Nat.zero_le _, Nat.zero_le _⟩ hP (hDa.to rfl) hE hA hS [0, 1, 2, 3, 4, 5, 6, 7] rfl rfl [xo, r, rc, r2, rc2, y, q, w] rfl rfl (ci := 4) rfl (q0 := 0) rfl (Nat.le_of_ble_eq_true rfl) hl.1 dL_call_185 (fun H locs hP _ hS => ?_)
  have hP : va_P E.1 vwCl [(xo, .inr (4, [.ref r, .ref r2, .ref r3, .ref d, .ref y, .ref q2, .int sf])), (r, .inr (2, [.ref rc])), (rc, .inl (E.2.1, 293, .inl (cCw f n (nI a)))), (r2, .inr (2, [.ref rc2])), (rc2, .inl (E.2.1, 293, .inl (cp293 f fb))), (y, .inr (0, [.ref q, .int (nI (recO (cCv f n (nI a)) o z)), .int (nI (recZ (cCv f n (nI a)) z))])), (q, .inr (3, [.ref w])), (w, .inl (E.2.1, 1758, .inl (recH (cCv f n (nI a)) (cp293 f fb) h o z)))] H := hP
  exact hret _ _ _ _ _ _ rfl rfl rfl hP hS dL_call_188

def k8V (f : Nat → Int32) (n a b : Nat) (x : Int32) : Int32 := cZv f n
def k8W (f : Nat → Int32) (n a b : Nat) (x : Int32) : Nat → Int32 := cZw f n
set_option maxHeartbeats 4000000 in
set_option maxRecDepth 100000 in
theorem c_L_call_8 (l : Launch) (E : EV) (xo : Nat) (r : Nat) (r2 : Nat) (r3 : Nat) (d : Nat) (y : Nat) (q2 : Nat) (sf : Int32) (rc : Nat) (f : Nat → Int32) (rc2 : Nat) (fb : Nat → Int32) (q : Nat) (w : Nat) (o : Nat) (z : Nat) (h : Nat → Int32) (n : Nat) (a : Nat) (b : Nat) (x : Int32) (hf : f 12 = nI n) (hn : n ≤ 20) (ho : o < 6) (hz : z ≤ 6) : rcI l E yL_call cL_call 5 .int 8 [.ref xo, .int (nI 8), .int (nI a), .int (nI b), .int x] [(xo, .inr (4, [.ref r, .ref r2, .ref r3, .ref d, .ref y, .ref q2, .int sf])), (r, .inr (2, [.ref rc])), (rc, .inl (E.2.1, 293, .inl f)), (r2, .inr (2, [.ref rc2])), (rc2, .inl (E.2.1, 293, .inl fb)), (y, .inr (0, [.ref q, .int (nI o), .int (nI z)])), (q, .inr (3, [.ref w])), (w, .inl (E.2.1, 1758, .inl h))] (k8V f n a b x) [(xo, .inr (4, [.ref r, .ref r2, .ref r3, .ref d, .ref y, .ref q2, .int sf])), (r, .inr (2, [.ref rc])), (rc, .inl (E.2.1, 293, .inl (k8W f n a b x))), (r2, .inr (2, [.ref rc2])), (rc2, .inl (E.2.1, 293, .inl (cp293 f fb))), (y, .inr (0, [.ref q, .int (nI (recO (k8V f n a b x) o z)), .int (nI (recZ (k8V f n a b x) z))])), (q, .inr (3, [.ref w])), (w, .inl (E.2.1, 1758, .inl (recH (k8V f n a b x) (cp293 f fb) h o z)))] := by
  refine rcI_of (by decide) (Nat.le_of_ble_eq_true rfl) ?_
  intro pg e s m below meth c Q A ls S hP hD0 hE hA hl hret
  have hx := S.1
  have hb := S.2.1
  have hown := S.2.2.2.1
  have hts := S.2.2.2.2
  have hK := hE.1
  have hS : va_S A s.heap s.heap [] := va_S.rf
  have hDa : va_Da A [xo, r, rc, r2, rc2, y, q, w] := ⟨_, hD0, rfl⟩
  have hl : lv_has ls 5 [(0, .ref xo), (1, .int (nI 8)), (2, .int (nI a)), (3, .int (nI b)), (4, .int x)] := hl
  refine lv_iload_n hx hb dL_call_0 rfl (lv_at hl 1 rfl) ?_
  refine lv_tableIn (tgt := 189) hx hb dL_call_1 (by decide) (by decide) rfl (by decide) ?_
  refine lv_aload_n hx hb dL_call_189 rfl (lv_at hl 0 rfl) ?_
  refine rwV0 (rest := []) S (c_X7_correctAll l E xo r r2 r3 d y q2 sf rc f rc2 fb q w o z h n hf hn ho hz) cd_X7_correctAll bw_325 ⟨Nat.le_of_ble_eq_true rfl, Nat.le_of_ble_eq_true rfl⟩ ⟨Nat.zero_le _, Nat.zero_le _⟩ hP (hDa.to rfl) hE hA hS [0, 1, 2, 3, 4, 5, 6, 7] rfl rfl [xo, r, rc, r2, rc2, y, q, w] rfl rfl (ci := 4) rfl (q0 := 0) rfl (Nat.le_of_ble_eq_true rfl) hl.1 dL_call_190 (fun H locs hP _ hS => ?_)
  have hP : va_P E.1 vwCl [(xo, .inr (4, [.ref r, .ref r2, .ref r3, .ref d, .ref y, .ref q2, .int sf])), (r, .inr (2, [.ref rc])), (rc, .inl (E.2.1, 293, .inl (cZw f n))), (r2, .inr (2, [.ref rc2])), (rc2, .inl (E.2.1, 293, .inl (cp293 f fb))), (y, .inr (0, [.ref q, .int (nI (recO (cZv f n) o z)), .int (nI (recZ (cZv f n) z))])), (q, .inr (3, [.ref w])), (w, .inl (E.2.1, 1758, .inl (recH (cZv f n) (cp293 f fb) h o z)))] H := hP
  exact hret _ _ _ _ _ _ rfl rfl rfl hP hS dL_call_193

def k9V (f : Nat → Int32) (n a b : Nat) (x : Int32) : Int32 := cTv f
def k9W (f : Nat → Int32) (n a b : Nat) (x : Int32) : Nat → Int32 := cTw f
set_option maxHeartbeats 4000000 in
set_option maxRecDepth 100000 in
theorem c_L_call_9 (l : Launch) (E : EV) (xo : Nat) (r : Nat) (r2 : Nat) (r3 : Nat) (d : Nat) (y : Nat) (q2 : Nat) (sf : Int32) (rc : Nat) (f : Nat → Int32) (rc2 : Nat) (fb : Nat → Int32) (q : Nat) (w : Nat) (o : Nat) (z : Nat) (h : Nat → Int32) (n : Nat) (a : Nat) (b : Nat) (x : Int32) (hf : f 12 = nI n) (hn : n ≤ 20) (ho : o < 6) (hz : z ≤ 6) : rcI l E yL_call cL_call 5 .int 8 [.ref xo, .int (nI 9), .int (nI a), .int (nI b), .int x] [(xo, .inr (4, [.ref r, .ref r2, .ref r3, .ref d, .ref y, .ref q2, .int sf])), (r, .inr (2, [.ref rc])), (rc, .inl (E.2.1, 293, .inl f)), (r2, .inr (2, [.ref rc2])), (rc2, .inl (E.2.1, 293, .inl fb)), (y, .inr (0, [.ref q, .int (nI o), .int (nI z)])), (q, .inr (3, [.ref w])), (w, .inl (E.2.1, 1758, .inl h))] (k9V f n a b x) [(xo, .inr (4, [.ref r, .ref r2, .ref r3, .ref d, .ref y, .ref q2, .int sf])), (r, .inr (2, [.ref rc])), (rc, .inl (E.2.1, 293, .inl (k9W f n a b x))), (r2, .inr (2, [.ref rc2])), (rc2, .inl (E.2.1, 293, .inl (cp293 f fb))), (y, .inr (0, [.ref q, .int (nI (recO (k9V f n a b x) o z)), .int (nI (recZ (k9V f n a b x) z))])), (q, .inr (3, [.ref w])), (w, .inl (E.2.1, 1758, .inl (recH (k9V f n a b x) (cp293 f fb) h o z)))] := by
  refine rcI_of (by decide) (Nat.le_of_ble_eq_true rfl) ?_
  intro pg e s m below meth c Q A ls S hP hD0 hE hA hl hret
  have hx := S.1
  have hb := S.2.1
  have hown := S.2.2.2.1
  have hts := S.2.2.2.2
  have hK := hE.1
  have hS : va_S A s.heap s.heap [] := va_S.rf
  have hDa : va_Da A [xo, r, rc, r2, rc2, y, q, w] := ⟨_, hD0, rfl⟩
  have hl : lv_has ls 5 [(0, .ref xo), (1, .int (nI 9)), (2, .int (nI a)), (3, .int (nI b)), (4, .int x)] := hl
  refine lv_iload_n hx hb dL_call_0 rfl (lv_at hl 1 rfl) ?_
  refine lv_tableIn (tgt := 194) hx hb dL_call_1 (by decide) (by decide) rfl (by decide) ?_
  refine lv_aload_n hx hb dL_call_194 rfl (lv_at hl 0 rfl) ?_
  refine rwV0 (rest := []) S (c_X7_card l E xo r r2 r3 d y q2 sf rc f rc2 fb q w o z h ho hz) cd_X7_card bw_333 ⟨Nat.le_of_ble_eq_true rfl, Nat.le_of_ble_eq_true rfl⟩ ⟨Nat.zero_le _, Nat.zero_le _⟩ hP (hDa.to rfl) hE hA hS [0, 1, 2, 3, 4, 5, 6, 7] rfl rfl [xo, r, rc, r2, rc2, y, q, w] rfl rfl (ci := 4) rfl (q0 := 0) rfl (Nat.le_of_ble_eq_true rfl) hl.1 dL_call_195 (fun H locs hP _ hS => ?_)
  have hP : va_P E.1 vwCl [(xo, .inr (4, [.ref r, .ref r2, .ref r3, .ref d, .ref y, .ref q2, .int sf])), (r, .inr (2, [.ref rc])), (rc, .inl (E.2.1, 293, .inl (cTw f))), (r2, .inr (2, [.ref rc2])), (rc2, .inl (E.2.1, 293, .inl (cp293 f fb))), (y, .inr (0, [.ref q, .int (nI (recO (cTv f) o z)), .int (nI (recZ (cTv f) z))])), (q, .inr (3, [.ref w])), (w, .inl (E.2.1, 1758, .inl (recH (cTv f) (cp293 f fb) h o z)))] H := hP
  exact hret _ _ _ _ _ _ rfl rfl rfl hP hS dL_call_198

def k10V (f : Nat → Int32) (n a b : Nat) (x : Int32) : Int32 := cUv f (nI b) (nI (lowN x 41) - (nI 20))
def k10W (f : Nat → Int32) (n a b : Nat) (x : Int32) : Nat → Int32 := cUw f (nI b) (nI (lowN x 41) - (nI 20))
set_option maxHeartbeats 4000000 in
set_option maxRecDepth 100000 in
theorem c_L_call_10 (l : Launch) (E : EV) (xo : Nat) (r : Nat) (r2 : Nat) (r3 : Nat) (d : Nat) (y : Nat) (q2 : Nat) (sf : Int32) (rc : Nat) (f : Nat → Int32) (rc2 : Nat) (fb : Nat → Int32) (q : Nat) (w : Nat) (o : Nat) (z : Nat) (h : Nat → Int32) (n : Nat) (a : Nat) (b : Nat) (x : Int32) (hf : f 12 = nI n) (hn : n ≤ 20) (ho : o < 6) (hz : z ≤ 6) : rcI l E yL_call cL_call 5 .int 8 [.ref xo, .int (nI 10), .int (nI a), .int (nI b), .int x] [(xo, .inr (4, [.ref r, .ref r2, .ref r3, .ref d, .ref y, .ref q2, .int sf])), (r, .inr (2, [.ref rc])), (rc, .inl (E.2.1, 293, .inl f)), (r2, .inr (2, [.ref rc2])), (rc2, .inl (E.2.1, 293, .inl fb)), (y, .inr (0, [.ref q, .int (nI o), .int (nI z)])), (q, .inr (3, [.ref w])), (w, .inl (E.2.1, 1758, .inl h))] (k10V f n a b x) [(xo, .inr (4, [.ref r, .ref r2, .ref r3, .ref d, .ref y, .ref q2, .int sf])), (r, .inr (2, [.ref rc])), (rc, .inl (E.2.1, 293, .inl (k10W f n a b x))), (r2, .inr (2, [.ref rc2])), (rc2, .inl (E.2.1, 293, .inl (cp293 f fb))), (y, .inr (0, [.ref q, .int (nI (recO (k10V f n a b x) o z)), .int (nI (recZ (k10V f n a b x) z))])), (q, .inr (3, [.ref w])), (w, .inl (E.2.1, 1758, .inl (recH (k10V f n a b x) (cp293 f fb) h o z)))] := by
  refine rcI_of (by decide) (Nat.le_of_ble_eq_true rfl) ?_
  intro pg e s m below meth c Q A ls S hP hD0 hE hA hl hret
  have hx := S.1
  have hb := S.2.1
  have hown := S.2.2.2.1
  have hts := S.2.2.2.2
  have hK := hE.1
  have hS : va_S A s.heap s.heap [] := va_S.rf
  have hDa : va_Da A [xo, r, rc, r2, rc2, y, q, w] := ⟨_, hD0, rfl⟩
  have hl : lv_has ls 5 [(0, .ref xo), (1, .int (nI 10)), (2, .int (nI a)), (3, .int (nI b)), (4, .int x)] := hl
  refine lv_iload_n hx hb dL_call_0 rfl (lv_at hl 1 rfl) ?_
  refine lv_tableIn (tgt := 199) hx hb dL_call_1 (by decide) (by decide) rfl (by decide) ?_
  refine lv_aload_n hx hb dL_call_199 rfl (lv_at hl 0 rfl) ?_
  refine lv_iload_n hx hb dL_call_200 rfl (lv_at hl 3 rfl) ?_
  refine lv_iload hx hb dL_call_201 (lv_at hl 4 rfl) ?_
  refine lv_bipush (v := nI 41) hx hb dL_call_203 (by decide) ?_
  refine rwS2 (rest := [.int (nI b), .ref xo]) S (c_L_low l E x 41 (by omega) (by omega)) cd_L_low bw_140 ⟨Nat.le_of_ble_eq_true rfl, Nat.le_of_ble_eq_true rfl⟩ ⟨Nat.zero_le _, Nat.zero_le _⟩ hP (hDa.to rfl) hE hA hS [] rfl rfl [] rfl rfl (Nat.le_of_ble_eq_true rfl) hl.1 dL_call_205 (fun H locs hP _ hS => ?_)
  have hP : va_P E.1 vwCl [(xo, .inr (4, [.ref r, .ref r2, .ref r3, .ref d, .ref y, .ref q2, .int sf])), (r, .inr (2, [.ref rc])), (rc, .inl (E.2.1, 293, .inl f)), (r2, .inr (2, [.ref rc2])), (rc2, .inl (E.2.1, 293, .inl fb)), (y, .inr (0, [.ref q, .int (nI o), .int (nI z)])), (q, .inr (3, [.ref w])), (w, .inl (E.2.1, 1758, .inl h))] H := hP
  refine lv_bipush (v := nI 20) hx hb dL_call_208 (by decide) ?_
  refine lv_isub hx hb dL_call_210 ?_
  refine rwV2 (rest := []) S (c_X7_trim l E xo r r2 r3 d y q2 sf rc f rc2 fb q w o z h (nI b) (nI (lowN x 41) - (nI 20)) ho hz) cd_X7_trim bw_342 ⟨Nat.le_of_ble_eq_true rfl, Nat.le_of_ble_eq_true rfl⟩ ⟨Nat.zero_le _, Nat.zero_le _⟩ hP (hDa.to rfl) hE hA hS [0, 1, 2, 3, 4, 5, 6, 7] rfl rfl [xo, r, rc, r2, rc2, y, q, w] rfl rfl (ci := 4) rfl (q0 := 0) rfl (Nat.le_of_ble_eq_true rfl) hl.1 dL_call_211 (fun H locs hP _ hS => ?_)
  have hP : va_P E.1 vwCl [(xo, .inr (4, [.ref r, .ref r2, .ref r3, .ref d, .ref y, .ref q2, .int sf])), (r, .inr (2, [.ref rc])), (rc, .inl (E.2.1, 293, .inl (cUw f (nI b) (nI (lowN x 41) - (nI 20))))), (r2, .inr (2, [.ref rc2])), (rc2, .inl (E.2.1, 293, .inl (cp293 f fb))), (y, .inr (0, [.ref q, .int (nI (recO (cUv f (nI b) (nI (lowN x 41) - (nI 20))) o z)), .int (nI (recZ (cUv f (nI b) (nI (lowN x 41) - (nI 20))) z))])), (q, .inr (3, [.ref w])), (w, .inl (E.2.1, 1758, .inl (recH (cUv f (nI b) (nI (lowN x 41) - (nI 20))) (cp293 f fb) h o z)))] H := hP
  exact hret _ _ _ _ _ _ rfl rfl rfl hP hS dL_call_214

def k11V (f : Nat → Int32) (n a b : Nat) (x : Int32) : Int32 := cQv f (nI b)
def k11W (f : Nat → Int32) (n a b : Nat) (x : Int32) : Nat → Int32 := cQw f (nI b)
set_option maxHeartbeats 4000000 in
set_option maxRecDepth 100000 in
theorem c_L_call_11 (l : Launch) (E : EV) (xo : Nat) (r : Nat) (r2 : Nat) (r3 : Nat) (d : Nat) (y : Nat) (q2 : Nat) (sf : Int32) (rc : Nat) (f : Nat → Int32) (rc2 : Nat) (fb : Nat → Int32) (q : Nat) (w : Nat) (o : Nat) (z : Nat) (h : Nat → Int32) (n : Nat) (a : Nat) (b : Nat) (x : Int32) (hf : f 12 = nI n) (hn : n ≤ 20) (ho : o < 6) (hz : z ≤ 6) : rcI l E yL_call cL_call 5 .int 8 [.ref xo, .int (nI 11), .int (nI a), .int (nI b), .int x] [(xo, .inr (4, [.ref r, .ref r2, .ref r3, .ref d, .ref y, .ref q2, .int sf])), (r, .inr (2, [.ref rc])), (rc, .inl (E.2.1, 293, .inl f)), (r2, .inr (2, [.ref rc2])), (rc2, .inl (E.2.1, 293, .inl fb)), (y, .inr (0, [.ref q, .int (nI o), .int (nI z)])), (q, .inr (3, [.ref w])), (w, .inl (E.2.1, 1758, .inl h))] (k11V f n a b x) [(xo, .inr (4, [.ref r, .ref r2, .ref r3, .ref d, .ref y, .ref q2, .int sf])), (r, .inr (2, [.ref rc])), (rc, .inl (E.2.1, 293, .inl (k11W f n a b x))), (r2, .inr (2, [.ref rc2])), (rc2, .inl (E.2.1, 293, .inl (cp293 f fb))), (y, .inr (0, [.ref q, .int (nI (recO (k11V f n a b x) o z)), .int (nI (recZ (k11V f n a b x) z))])), (q, .inr (3, [.ref w])), (w, .inl (E.2.1, 1758, .inl (recH (k11V f n a b x) (cp293 f fb) h o z)))] := by
  refine rcI_of (by decide) (Nat.le_of_ble_eq_true rfl) ?_
  intro pg e s m below meth c Q A ls S hP hD0 hE hA hl hret
  have hx := S.1
  have hb := S.2.1
  have hown := S.2.2.2.1
  have hts := S.2.2.2.2
  have hK := hE.1
  have hS : va_S A s.heap s.heap [] := va_S.rf
  have hDa : va_Da A [xo, r, rc, r2, rc2, y, q, w] := ⟨_, hD0, rfl⟩
  have hl : lv_has ls 5 [(0, .ref xo), (1, .int (nI 11)), (2, .int (nI a)), (3, .int (nI b)), (4, .int x)] := hl
  refine lv_iload_n hx hb dL_call_0 rfl (lv_at hl 1 rfl) ?_
  refine lv_tableIn (tgt := 215) hx hb dL_call_1 (by decide) (by decide) rfl (by decide) ?_
  refine lv_aload_n hx hb dL_call_215 rfl (lv_at hl 0 rfl) ?_
  refine lv_iload_n hx hb dL_call_216 rfl (lv_at hl 3 rfl) ?_
  refine rwV1 (rest := []) S (c_X7_lamp l E xo r r2 r3 d y q2 sf rc f rc2 fb q w o z h (nI b) ho hz) cd_X7_lamp bw_352 ⟨Nat.le_of_ble_eq_true rfl, Nat.le_of_ble_eq_true rfl⟩ ⟨Nat.zero_le _, Nat.zero_le _⟩ hP (hDa.to rfl) hE hA hS [0, 1, 2, 3, 4, 5, 6, 7] rfl rfl [xo, r, rc, r2, rc2, y, q, w] rfl rfl (ci := 4) rfl (q0 := 0) rfl (Nat.le_of_ble_eq_true rfl) hl.1 dL_call_217 (fun H locs hP _ hS => ?_)
  have hP : va_P E.1 vwCl [(xo, .inr (4, [.ref r, .ref r2, .ref r3, .ref d, .ref y, .ref q2, .int sf])), (r, .inr (2, [.ref rc])), (rc, .inl (E.2.1, 293, .inl (cQw f (nI b)))), (r2, .inr (2, [.ref rc2])), (rc2, .inl (E.2.1, 293, .inl (cp293 f fb))), (y, .inr (0, [.ref q, .int (nI (recO (cQv f (nI b)) o z)), .int (nI (recZ (cQv f (nI b)) z))])), (q, .inr (3, [.ref w])), (w, .inl (E.2.1, 1758, .inl (recH (cQv f (nI b)) (cp293 f fb) h o z)))] H := hP
  exact hret _ _ _ _ _ _ rfl rfl rfl hP hS dL_call_220

def k12V (f : Nat → Int32) (n a b : Nat) (x : Int32) : Int32 := cDv f n (nI a)
def k12W (f : Nat → Int32) (n a b : Nat) (x : Int32) : Nat → Int32 := cDw f n (nI a)
set_option maxHeartbeats 4000000 in
set_option maxRecDepth 100000 in
theorem c_L_call_12 (l : Launch) (E : EV) (xo : Nat) (r : Nat) (r2 : Nat) (r3 : Nat) (d : Nat) (y : Nat) (q2 : Nat) (sf : Int32) (rc : Nat) (f : Nat → Int32) (rc2 : Nat) (fb : Nat → Int32) (q : Nat) (w : Nat) (o : Nat) (z : Nat) (h : Nat → Int32) (n : Nat) (a : Nat) (b : Nat) (x : Int32) (hf : f 12 = nI n) (hn : n ≤ 20) (ho : o < 6) (hz : z ≤ 6) : rcI l E yL_call cL_call 5 .int 8 [.ref xo, .int (nI 12), .int (nI a), .int (nI b), .int x] [(xo, .inr (4, [.ref r, .ref r2, .ref r3, .ref d, .ref y, .ref q2, .int sf])), (r, .inr (2, [.ref rc])), (rc, .inl (E.2.1, 293, .inl f)), (r2, .inr (2, [.ref rc2])), (rc2, .inl (E.2.1, 293, .inl fb)), (y, .inr (0, [.ref q, .int (nI o), .int (nI z)])), (q, .inr (3, [.ref w])), (w, .inl (E.2.1, 1758, .inl h))] (k12V f n a b x) [(xo, .inr (4, [.ref r, .ref r2, .ref r3, .ref d, .ref y, .ref q2, .int sf])), (r, .inr (2, [.ref rc])), (rc, .inl (E.2.1, 293, .inl (k12W f n a b x))), (r2, .inr (2, [.ref rc2])), (rc2, .inl (E.2.1, 293, .inl (cp293 f fb))), (y, .inr (0, [.ref q, .int (nI (recO (k12V f n a b x) o z)), .int (nI (recZ (k12V f n a b x) z))])), (q, .inr (3, [.ref w])), (w, .inl (E.2.1, 1758, .inl (recH (k12V f n a b x) (cp293 f fb) h o z)))] := by
  refine rcI_of (by decide) (Nat.le_of_ble_eq_true rfl) ?_
  intro pg e s m below meth c Q A ls S hP hD0 hE hA hl hret
  have hx := S.1
  have hb := S.2.1
  have hown := S.2.2.2.1
  have hts := S.2.2.2.2
  have hK := hE.1
  have hS : va_S A s.heap s.heap [] := va_S.rf
  have hDa : va_Da A [xo, r, rc, r2, rc2, y, q, w] := ⟨_, hD0, rfl⟩
  have hl : lv_has ls 5 [(0, .ref xo), (1, .int (nI 12)), (2, .int (nI a)), (3, .int (nI b)), (4, .int x)] := hl
  refine lv_iload_n hx hb dL_call_0 rfl (lv_at hl 1 rfl) ?_
  refine lv_tableIn (tgt := 221) hx hb dL_call_1 (by decide) (by decide) rfl (by decide) ?_
  refine lv_aload_n hx hb dL_call_221 rfl (lv_at hl 0 rfl) ?_
  refine lv_iload_n hx hb dL_call_222 rfl (lv_at hl 2 rfl) ?_
  refine rwV1 (rest := []) S (c_X7_takeOut l E xo r r2 r3 d y q2 sf rc f rc2 fb q w o z h n (nI a) hf hn ho hz) cd_X7_takeOut bw_359 ⟨Nat.le_of_ble_eq_true rfl, Nat.le_of_ble_eq_true rfl⟩ ⟨Nat.zero_le _, Nat.zero_le _⟩ hP (hDa.to rfl) hE hA hS [0, 1, 2, 3, 4, 5, 6, 7] rfl rfl [xo, r, rc, r2, rc2, y, q, w] rfl rfl (ci := 4) rfl (q0 := 0) rfl (Nat.le_of_ble_eq_true rfl) hl.1 dL_call_223 (fun H locs hP _ hS => ?_)
  have hP : va_P E.1 vwCl [(xo, .inr (4, [.ref r, .ref r2, .ref r3, .ref d, .ref y, .ref q2, .int sf])), (r, .inr (2, [.ref rc])), (rc, .inl (E.2.1, 293, .inl (cDw f n (nI a)))), (r2, .inr (2, [.ref rc2])), (rc2, .inl (E.2.1, 293, .inl (cp293 f fb))), (y, .inr (0, [.ref q, .int (nI (recO (cDv f n (nI a)) o z)), .int (nI (recZ (cDv f n (nI a)) z))])), (q, .inr (3, [.ref w])), (w, .inl (E.2.1, 1758, .inl (recH (cDv f n (nI a)) (cp293 f fb) h o z)))] H := hP
  exact hret _ _ _ _ _ _ rfl rfl rfl hP hS dL_call_226

def k13V (f : Nat → Int32) (n a b : Nat) (x : Int32) : Int32 := cSv f (nI (lowN (nI a) 4)) (nI (1 + lowN x 5))
def k13W (f : Nat → Int32) (n a b : Nat) (x : Int32) : Nat → Int32 := cSw f (nI (lowN (nI a) 4)) (nI (1 + lowN x 5))
set_option maxHeartbeats 4000000 in
set_option maxRecDepth 100000 in
theorem c_L_call_13 (l : Launch) (E : EV) (xo : Nat) (r : Nat) (r2 : Nat) (r3 : Nat) (d : Nat) (y : Nat) (q2 : Nat) (sf : Int32) (rc : Nat) (f : Nat → Int32) (rc2 : Nat) (fb : Nat → Int32) (q : Nat) (w : Nat) (o : Nat) (z : Nat) (h : Nat → Int32) (n : Nat) (a : Nat) (b : Nat) (x : Int32) (hf : f 12 = nI n) (hn : n ≤ 20) (ho : o < 6) (hz : z ≤ 6) : rcI l E yL_call cL_call 5 .int 8 [.ref xo, .int (nI 13), .int (nI a), .int (nI b), .int x] [(xo, .inr (4, [.ref r, .ref r2, .ref r3, .ref d, .ref y, .ref q2, .int sf])), (r, .inr (2, [.ref rc])), (rc, .inl (E.2.1, 293, .inl f)), (r2, .inr (2, [.ref rc2])), (rc2, .inl (E.2.1, 293, .inl fb)), (y, .inr (0, [.ref q, .int (nI o), .int (nI z)])), (q, .inr (3, [.ref w])), (w, .inl (E.2.1, 1758, .inl h))] (k13V f n a b x) [(xo, .inr (4, [.ref r, .ref r2, .ref r3, .ref d, .ref y, .ref q2, .int sf])), (r, .inr (2, [.ref rc])), (rc, .inl (E.2.1, 293, .inl (k13W f n a b x))), (r2, .inr (2, [.ref rc2])), (rc2, .inl (E.2.1, 293, .inl (cp293 f fb))), (y, .inr (0, [.ref q, .int (nI (recO (k13V f n a b x) o z)), .int (nI (recZ (k13V f n a b x) z))])), (q, .inr (3, [.ref w])), (w, .inl (E.2.1, 1758, .inl (recH (k13V f n a b x) (cp293 f fb) h o z)))] := by
  refine rcI_of (by decide) (Nat.le_of_ble_eq_true rfl) ?_
  intro pg e s m below meth c Q A ls S hP hD0 hE hA hl hret
  have hx := S.1
  have hb := S.2.1
  have hown := S.2.2.2.1
  have hts := S.2.2.2.2
  have hK := hE.1
  have hS : va_S A s.heap s.heap [] := va_S.rf
  have hDa : va_Da A [xo, r, rc, r2, rc2, y, q, w] := ⟨_, hD0, rfl⟩
  have hl : lv_has ls 5 [(0, .ref xo), (1, .int (nI 13)), (2, .int (nI a)), (3, .int (nI b)), (4, .int x)] := hl
  refine lv_iload_n hx hb dL_call_0 rfl (lv_at hl 1 rfl) ?_
  refine lv_tableOut (tgt := 227) hx hb dL_call_1 (by decide) (by decide) ?_
  refine lv_aload_n hx hb dL_call_227 rfl (lv_at hl 0 rfl) ?_
  refine lv_iload_n hx hb dL_call_228 rfl (lv_at hl 2 rfl) ?_
  refine lv_iconst (v := nI 4) hx hb dL_call_229 (by decide) ?_
  refine rwS2 (rest := [.ref xo]) S (c_L_low l E (nI a) 4 (by omega) (by omega)) cd_L_low bw_140 ⟨Nat.le_of_ble_eq_true rfl, Nat.le_of_ble_eq_true rfl⟩ ⟨Nat.zero_le _, Nat.zero_le _⟩ hP (hDa.to rfl) hE hA hS [] rfl rfl [] rfl rfl (Nat.le_of_ble_eq_true rfl) hl.1 dL_call_230 (fun H locs hP _ hS => ?_)
  have hP : va_P E.1 vwCl [(xo, .inr (4, [.ref r, .ref r2, .ref r3, .ref d, .ref y, .ref q2, .int sf])), (r, .inr (2, [.ref rc])), (rc, .inl (E.2.1, 293, .inl f)), (r2, .inr (2, [.ref rc2])), (rc2, .inl (E.2.1, 293, .inl fb)), (y, .inr (0, [.ref q, .int (nI o), .int (nI z)])), (q, .inr (3, [.ref w])), (w, .inl (E.2.1, 1758, .inl h))] H := hP
  refine lv_iconst (v := nI 1) hx hb dL_call_233 (by decide) ?_
  refine lv_iload hx hb dL_call_234 (lv_at hl 4 rfl) ?_
  refine lv_iconst (v := nI 5) hx hb dL_call_236 (by decide) ?_
  refine rwS2 (rest := [.int (nI 1), .int (nI (lowN (nI a) 4)), .ref xo]) S (c_L_low l E x 5 (by omega) (by omega)) cd_L_low bw_140 ⟨Nat.le_of_ble_eq_true rfl, Nat.le_of_ble_eq_true rfl⟩ ⟨Nat.zero_le _, Nat.zero_le _⟩ hP (hDa.to rfl) hE hA hS [] rfl rfl [] rfl rfl (Nat.le_of_ble_eq_true rfl) hl.1 dL_call_237 (fun H locs hP _ hS => ?_)
  have hP : va_P E.1 vwCl [(xo, .inr (4, [.ref r, .ref r2, .ref r3, .ref d, .ref y, .ref q2, .int sf])), (r, .inr (2, [.ref rc])), (rc, .inl (E.2.1, 293, .inl f)), (r2, .inr (2, [.ref rc2])), (rc2, .inl (E.2.1, 293, .inl fb)), (y, .inr (0, [.ref q, .int (nI o), .int (nI z)])), (q, .inr (3, [.ref w])), (w, .inl (E.2.1, 1758, .inl h))] H := hP
  refine rn_add (a := 1) (b := lowN x 5) hx hb dL_call_240 ?_
  refine rwV2 (rest := []) S (c_X7_set l E xo r r2 r3 d y q2 sf rc f rc2 fb q w o z h (nI (lowN (nI a) 4)) (nI (1 + lowN x 5)) ho hz) cd_X7_set bw_366 ⟨Nat.le_of_ble_eq_true rfl, Nat.le_of_ble_eq_true rfl⟩ ⟨Nat.zero_le _, Nat.zero_le _⟩ hP (hDa.to rfl) hE hA hS [0, 1, 2, 3, 4, 5, 6, 7] rfl rfl [xo, r, rc, r2, rc2, y, q, w] rfl rfl (ci := 4) rfl (q0 := 0) rfl (Nat.le_of_ble_eq_true rfl) hl.1 dL_call_241 (fun H locs hP _ hS => ?_)
  have hP : va_P E.1 vwCl [(xo, .inr (4, [.ref r, .ref r2, .ref r3, .ref d, .ref y, .ref q2, .int sf])), (r, .inr (2, [.ref rc])), (rc, .inl (E.2.1, 293, .inl (cSw f (nI (lowN (nI a) 4)) (nI (1 + lowN x 5))))), (r2, .inr (2, [.ref rc2])), (rc2, .inl (E.2.1, 293, .inl (cp293 f fb))), (y, .inr (0, [.ref q, .int (nI (recO (cSv f (nI (lowN (nI a) 4)) (nI (1 + lowN x 5))) o z)), .int (nI (recZ (cSv f (nI (lowN (nI a) 4)) (nI (1 + lowN x 5))) z))])), (q, .inr (3, [.ref w])), (w, .inl (E.2.1, 1758, .inl (recH (cSv f (nI (lowN (nI a) 4)) (nI (1 + lowN x 5))) (cp293 f fb) h o z)))] H := hP
  exact hret _ _ _ _ _ _ rfl rfl rfl hP hS dL_call_244

def kV (f : Nat → Int32) (n a b : Nat) (x : Int32) (k : Nat) : Int32 := match k with
  | 0 => k0V f n a b x
  | 1 => k1V f n a b x
  | 2 => k2V f n a b x
  | 3 => k3V f n a b x
  | 4 => k4V f n a b x
  | 5 => k5V f n a b x
  | 6 => k6V f n a b x
  | 7 => k7V f n a b x
  | 8 => k8V f n a b x
  | 9 => k9V f n a b x
  | 10 => k10V f n a b x
  | 11 => k11V f n a b x
  | 12 => k12V f n a b x
  | _ => k13V f n a b x
def kW (f : Nat → Int32) (n a b : Nat) (x : Int32) (k : Nat) : Nat → Int32 := match k with
  | 0 => k0W f n a b x
  | 1 => k1W f n a b x
  | 2 => k2W f n a b x
  | 3 => k3W f n a b x
  | 4 => k4W f n a b x
  | 5 => k5W f n a b x
  | 6 => k6W f n a b x
  | 7 => k7W f n a b x
  | 8 => k8W f n a b x
  | 9 => k9W f n a b x
  | 10 => k10W f n a b x
  | 11 => k11W f n a b x
  | 12 => k12W f n a b x
  | _ => k13W f n a b x
