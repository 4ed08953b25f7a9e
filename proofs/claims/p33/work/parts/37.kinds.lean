/-! the calls, whatever their kind -/
def uV (vq vf vd vw vl vr : Nat → Int32) (n a b : Nat) (x : Int32) (kd : Nat) : Int32 := match kd with
  | 0 => u0V vq vf vd vw vl vr n a b x
  | 1 => u1V vq vf vd vw vl vr n a b x
  | 2 => u2V vq vf vd vw vl vr n a b x
  | 3 => u3V vq vf vd vw vl vr n a b x
  | 4 => u4V vq vf vd vw vl vr n a b x
  | 5 => u5V vq vf vd vw vl vr n a b x
  | 6 => u6V vq vf vd vw vl vr n a b x
  | 7 => u7V vq vf vd vw vl vr n a b x
  | 8 => u8V vq vf vd vw vl vr n a b x
  | 9 => u9V vq vf vd vw vl vr n a b x
  | 10 => u10V vq vf vd vw vl vr n a b x
  | 11 => u11V vq vf vd vw vl vr n a b x
  | 12 => u12V vq vf vd vw vl vr n a b x
  | _ => u13V vq vf vd vw vl vr n a b x
def uQ (vq vf vd vw vl vr : Nat → Int32) (n a b : Nat) (x : Int32) (kd : Nat) : Nat → Int32 := match kd with
  | 0 => u0Q vq vf vd vw vl vr n a b x
  | 1 => u1Q vq vf vd vw vl vr n a b x
  | 2 => u2Q vq vf vd vw vl vr n a b x
  | 3 => u3Q vq vf vd vw vl vr n a b x
  | 4 => u4Q vq vf vd vw vl vr n a b x
  | 5 => u5Q vq vf vd vw vl vr n a b x
  | 6 => u6Q vq vf vd vw vl vr n a b x
  | 7 => u7Q vq vf vd vw vl vr n a b x
  | 8 => u8Q vq vf vd vw vl vr n a b x
  | 9 => u9Q vq vf vd vw vl vr n a b x
  | 10 => u10Q vq vf vd vw vl vr n a b x
  | 11 => u11Q vq vf vd vw vl vr n a b x
  | 12 => u12Q vq vf vd vw vl vr n a b x
  | _ => u13Q vq vf vd vw vl vr n a b x
def uF (vq vf vd vw vl vr : Nat → Int32) (n a b : Nat) (x : Int32) (kd : Nat) : Nat → Int32 := match kd with
  | 0 => u0F vq vf vd vw vl vr n a b x
  | 1 => u1F vq vf vd vw vl vr n a b x
  | 2 => u2F vq vf vd vw vl vr n a b x
  | 3 => u3F vq vf vd vw vl vr n a b x
  | 4 => u4F vq vf vd vw vl vr n a b x
  | 5 => u5F vq vf vd vw vl vr n a b x
  | 6 => u6F vq vf vd vw vl vr n a b x
  | 7 => u7F vq vf vd vw vl vr n a b x
  | 8 => u8F vq vf vd vw vl vr n a b x
  | 9 => u9F vq vf vd vw vl vr n a b x
  | 10 => u10F vq vf vd vw vl vr n a b x
  | 11 => u11F vq vf vd vw vl vr n a b x
  | 12 => u12F vq vf vd vw vl vr n a b x
  | _ => u13F vq vf vd vw vl vr n a b x
def uD (vq vf vd vw vl vr : Nat → Int32) (n a b : Nat) (x : Int32) (kd : Nat) : Nat → Int32 := match kd with
  | 0 => u0D vq vf vd vw vl vr n a b x
  | 1 => u1D vq vf vd vw vl vr n a b x
  | 2 => u2D vq vf vd vw vl vr n a b x
  | 3 => u3D vq vf vd vw vl vr n a b x
  | 4 => u4D vq vf vd vw vl vr n a b x
  | 5 => u5D vq vf vd vw vl vr n a b x
  | 6 => u6D vq vf vd vw vl vr n a b x
  | 7 => u7D vq vf vd vw vl vr n a b x
  | 8 => u8D vq vf vd vw vl vr n a b x
  | 9 => u9D vq vf vd vw vl vr n a b x
  | 10 => u10D vq vf vd vw vl vr n a b x
  | 11 => u11D vq vf vd vw vl vr n a b x
  | 12 => u12D vq vf vd vw vl vr n a b x
  | _ => u13D vq vf vd vw vl vr n a b x
def uW (vq vf vd vw vl vr : Nat → Int32) (n a b : Nat) (x : Int32) (kd : Nat) : Nat → Int32 := match kd with
  | 0 => u0W vq vf vd vw vl vr n a b x
  | 1 => u1W vq vf vd vw vl vr n a b x
  | 2 => u2W vq vf vd vw vl vr n a b x
  | 3 => u3W vq vf vd vw vl vr n a b x
  | 4 => u4W vq vf vd vw vl vr n a b x
  | 5 => u5W vq vf vd vw vl vr n a b x
  | 6 => u6W vq vf vd vw vl vr n a b x
  | 7 => u7W vq vf vd vw vl vr n a b x
  | 8 => u8W vq vf vd vw vl vr n a b x
  | 9 => u9W vq vf vd vw vl vr n a b x
  | 10 => u10W vq vf vd vw vl vr n a b x
  | 11 => u11W vq vf vd vw vl vr n a b x
  | 12 => u12W vq vf vd vw vl vr n a b x
  | _ => u13W vq vf vd vw vl vr n a b x
def uL (vq vf vd vw vl vr : Nat → Int32) (n a b : Nat) (x : Int32) (kd : Nat) : Nat → Int32 := match kd with
  | 0 => u0L vq vf vd vw vl vr n a b x
  | 1 => u1L vq vf vd vw vl vr n a b x
  | 2 => u2L vq vf vd vw vl vr n a b x
  | 3 => u3L vq vf vd vw vl vr n a b x
  | 4 => u4L vq vf vd vw vl vr n a b x
  | 5 => u5L vq vf vd vw vl vr n a b x
  | 6 => u6L vq vf vd vw vl vr n a b x
  | 7 => u7L vq vf vd vw vl vr n a b x
  | 8 => u8L vq vf vd vw vl vr n a b x
  | 9 => u9L vq vf vd vw vl vr n a b x
  | 10 => u10L vq vf vd vw vl vr n a b x
  | 11 => u11L vq vf vd vw vl vr n a b x
  | 12 => u12L vq vf vd vw vl vr n a b x
  | _ => u13L vq vf vd vw vl vr n a b x
def uR (vq vf vd vw vl vr : Nat → Int32) (n a b : Nat) (x : Int32) (kd : Nat) : Nat → Int32 := match kd with
  | 0 => u0R vq vf vd vw vl vr n a b x
  | 1 => u1R vq vf vd vw vl vr n a b x
  | 2 => u2R vq vf vd vw vl vr n a b x
  | 3 => u3R vq vf vd vw vl vr n a b x
  | 4 => u4R vq vf vd vw vl vr n a b x
  | 5 => u5R vq vf vd vw vl vr n a b x
  | 6 => u6R vq vf vd vw vl vr n a b x
  | 7 => u7R vq vf vd vw vl vr n a b x
  | 8 => u8R vq vf vd vw vl vr n a b x
  | 9 => u9R vq vf vd vw vl vr n a b x
  | 10 => u10R vq vf vd vw vl vr n a b x
  | 11 => u11R vq vf vd vw vl vr n a b x
  | 12 => u12R vq vf vd vw vl vr n a b x
  | _ => u13R vq vf vd vw vl vr n a b x
theorem c_L_call (l : Launch) (E : EV) (xo : Nat) (r : Nat) (r2 : Nat) (r3 : Nat) (d : Nat) (y : Nat) (q2 : Nat) (sf : Int32) (rc : Nat) (f : Nat → Int32) (rc2 : Nat) (fb : Nat → Int32) (q : Nat) (w : Nat) (o : Nat) (z : Nat) (h : Nat → Int32) (n : Nat) (a : Nat) (b : Nat) (x : Int32) (kd : Nat) (hf : f 12 = nI n) (hn : n ≤ 20) (ho : o < 6) (hz : z ≤ 6) (hkd : kd < 14) : rcI l E yL_call cL_call 5 .int 8 [.ref xo, .int (nI kd), .int (nI a), .int (nI b), .int x] [(xo, .inr (4, [.ref r, .ref r2, .ref r3, .ref d, .ref y, .ref q2, .int sf])), (r, .inr (2, [.ref rc])), (rc, .inl (E.2.1, 293, .inl f)), (r2, .inr (2, [.ref rc2])), (rc2, .inl (E.2.1, 293, .inl fb)), (y, .inr (0, [.ref q, .int (nI o), .int (nI z)])), (q, .inr (3, [.ref w])), (w, .inl (E.2.1, 1758, .inl h))] (kV f n a b x kd) [(xo, .inr (4, [.ref r, .ref r2, .ref r3, .ref d, .ref y, .ref q2, .int sf])), (r, .inr (2, [.ref rc])), (rc, .inl (E.2.1, 293, .inl (kW f n a b x kd))), (r2, .inr (2, [.ref rc2])), (rc2, .inl (E.2.1, 293, .inl (cp293 f fb))), (y, .inr (0, [.ref q, .int (nI (recO (kV f n a b x kd) o z)), .int (nI (recZ (kV f n a b x kd) z))])), (q, .inr (3, [.ref w])), (w, .inl (E.2.1, 1758, .inl (recH (kV f n a b x kd) (cp293 f fb) h o z)))] := by
  rcases (by omega : kd = 0 ∨ kd = 1 ∨ kd = 2 ∨ kd = 3 ∨ kd = 4 ∨ kd = 5 ∨ kd = 6 ∨ kd = 7 ∨ kd = 8 ∨ kd = 9 ∨ kd = 10 ∨ kd = 11 ∨ kd = 12 ∨ kd = 13) with e | e | e | e | e | e | e | e | e | e | e | e | e | e <;> subst e
  · exact c_L_call_0 l E xo r r2 r3 d y q2 sf rc f rc2 fb q w o z h n a b x hf hn ho hz
  · exact c_L_call_1 l E xo r r2 r3 d y q2 sf rc f rc2 fb q w o z h n a b x hf hn ho hz
  · exact c_L_call_2 l E xo r r2 r3 d y q2 sf rc f rc2 fb q w o z h n a b x hf hn ho hz
  · exact c_L_call_3 l E xo r r2 r3 d y q2 sf rc f rc2 fb q w o z h n a b x hf hn ho hz
  · exact c_L_call_4 l E xo r r2 r3 d y q2 sf rc f rc2 fb q w o z h n a b x hf hn ho hz
  · exact c_L_call_5 l E xo r r2 r3 d y q2 sf rc f rc2 fb q w o z h n a b x hf hn ho hz
  · exact c_L_call_6 l E xo r r2 r3 d y q2 sf rc f rc2 fb q w o z h n a b x hf hn ho hz
  · exact c_L_call_7 l E xo r r2 r3 d y q2 sf rc f rc2 fb q w o z h n a b x hf hn ho hz
  · exact c_L_call_8 l E xo r r2 r3 d y q2 sf rc f rc2 fb q w o z h n a b x hf hn ho hz
  · exact c_L_call_9 l E xo r r2 r3 d y q2 sf rc f rc2 fb q w o z h n a b x hf hn ho hz
  · exact c_L_call_10 l E xo r r2 r3 d y q2 sf rc f rc2 fb q w o z h n a b x hf hn ho hz
  · exact c_L_call_11 l E xo r r2 r3 d y q2 sf rc f rc2 fb q w o z h n a b x hf hn ho hz
  · exact c_L_call_12 l E xo r r2 r3 d y q2 sf rc f rc2 fb q w o z h n a b x hf hn ho hz
  · exact c_L_call_13 l E xo r r2 r3 d y q2 sf rc f rc2 fb q w o z h n a b x hf hn ho hz
theorem c_L_due (l : Launch) (E : EV) (a : Nat) (b : Nat) (x : Int32) (aq : Nat) (af : Nat) (ad : Nat) (aw : Nat) (al : Nat) (ar : Nat) (vq : Nat → Int32) (vf : Nat → Int32) (vd : Nat → Int32) (vw : Nat → Int32) (vl : Nat → Int32) (vr : Nat → Int32) (n : Nat) (kd : Nat) (hf : vq 4 = nI n) (hn : n ≤ 20) (ha9 : a < 21) (hb3 : b < 3) (hst : ¬ vq 0 = 0) (hkd : kd < 14) : rcI l E yL_due cL_due 13 .int 4 [.int (nI kd), .int (nI a), .int (nI b), .int x, .ref aq, .ref af, .ref ad, .ref aw, .ref al, .ref ar] [(aq, .inl (E.2.1, 13, .inl vq)), (af, .inl (E.2.1, 21, .inl vf)), (ad, .inl (E.2.1, 63, .inl vd)), (aw, .inl (E.2.1, 63, .inl vw)), (al, .inl (E.2.1, 63, .inl vl)), (ar, .inl (E.2.1, 63, .inl vr))] (uV vq vf vd vw vl vr n a b x kd) [(aq, .inl (E.2.1, 13, .inl (uQ vq vf vd vw vl vr n a b x kd))), (af, .inl (E.2.1, 21, .inl (uF vq vf vd vw vl vr n a b x kd))), (ad, .inl (E.2.1, 63, .inl (uD vq vf vd vw vl vr n a b x kd))), (aw, .inl (E.2.1, 63, .inl (uW vq vf vd vw vl vr n a b x kd))), (al, .inl (E.2.1, 63, .inl (uL vq vf vd vw vl vr n a b x kd))), (ar, .inl (E.2.1, 63, .inl (uR vq vf vd vw vl vr n a b x kd)))] := by
  rcases (by omega : kd = 0 ∨ kd = 1 ∨ kd = 2 ∨ kd = 3 ∨ kd = 4 ∨ kd = 5 ∨ kd = 6 ∨ kd = 7 ∨ kd = 8 ∨ kd = 9 ∨ kd = 10 ∨ kd = 11 ∨ kd = 12 ∨ kd = 13) with e | e | e | e | e | e | e | e | e | e | e | e | e | e <;> subst e
  · exact c_L_due_0 l E a b x aq af ad aw al ar vq vf vd vw vl vr n hf hn ha9
  · exact c_L_due_1 l E a b x aq af ad aw al ar vq vf vd vw vl vr n hf hn ha9 hb3
  · exact c_L_due_2 l E a b x aq af ad aw al ar vq vf vd vw vl vr n hf hn ha9 hb3
  · exact c_L_due_3 l E a b x aq af ad aw al ar vq vf vd vw vl vr n hf hn ha9
  · exact c_L_due_4 l E a b x aq af ad aw al ar vq vf vd vw vl vr n hf hn ha9
  · exact c_L_due_5 l E a b x aq af ad aw al ar vq vf vd vw vl vr n hf hn ha9
  · exact c_L_due_6 l E a b x aq af ad aw al ar vq vf vd vw vl vr n hf hn ha9
  · exact c_L_due_7 l E a b x aq af ad aw al ar vq vf vd vw vl vr n hf hn ha9 hst
  · exact c_L_due_8 l E a b x aq af ad aw al ar vq vf vd vw vl vr n hf hn ha9 hst
  · exact c_L_due_9 l E a b x aq af ad aw al ar vq vf vd vw vl vr n hf hn ha9
  · exact c_L_due_10 l E a b x aq af ad aw al ar vq vf vd vw vl vr n hf hn ha9 hb3
  · exact c_L_due_11 l E a b x aq af ad aw al ar vq vf vd vw vl vr n hf hn ha9 hb3
  · exact c_L_due_12 l E a b x aq af ad aw al ar vq vf vd vw vl vr n hf hn ha9
  · exact c_L_due_13 l E a b x aq af ad aw al ar vq vf vd vw vl vr n hf hn ha9
theorem P_all {n : Nat} {f vq vf vd vw vl vr : Nat → Int32} {a b kd : Nat} {x : Int32} (h : Re n f vq vf vd vw vl vr) (hkd : kd < 14) (ha : a < 21) (ha0 : kd = 0 → a ≤ n) (hb : b < 3) : StpL f (kV f n a b x kd) (uV vq vf vd vw vl vr n a b x kd) (kW f n a b x kd) (uQ vq vf vd vw vl vr n a b x kd) (uF vq vf vd vw vl vr n a b x kd) (uD vq vf vd vw vl vr n a b x kd) (uW vq vf vd vw vl vr n a b x kd) (uL vq vf vd vw vl vr n a b x kd) (uR vq vf vd vw vl vr n a b x kd) := by
  rcases (by omega : kd = 0 ∨ kd = 1 ∨ kd = 2 ∨ kd = 3 ∨ kd = 4 ∨ kd = 5 ∨ kd = 6 ∨ kd = 7 ∨ kd = 8 ∨ kd = 9 ∨ kd = 10 ∨ kd = 11 ∨ kd = 12 ∨ kd = 13) with e | e | e | e | e | e | e | e | e | e | e | e | e | e <;> subst e
  · exact P0 (a := a) (b := b) (x := x) h (ha0 rfl)
  · exact P1 (a := a) (b := b) (x := x) h ha hb
  · exact P2 (a := a) (b := b) (x := x) h ha hb
  · exact P3 (a := a) (b := b) (x := x) h ha
  · exact P4 (a := a) (b := b) (x := x) h ha
  · exact P5 (a := a) (b := b) (x := x) h ha
  · exact P6 (a := a) (b := b) (x := x) h
  · exact P7 (a := a) (b := b) (x := x) h ha
  · exact P8 (a := a) (b := b) (x := x) h
  · exact P9 (a := a) (b := b) (x := x) h
  · exact P10 (a := a) (b := b) (x := x) h hb
  · exact P11 (a := a) (b := b) (x := x) h hb
  · exact P12 (a := a) (b := b) (x := x) h ha
  · exact P13 (a := a) (b := b) (x := x) h
