/-! ===== the reference: its object, longs ===== -/
abbrev lw (z : Int) : Value := Value.long (Int64.ofInt z)
def RGL (g : Nat → Int) (w : Int) : List Value := [iv (g 0), iv (g 1), iv (g 2), iv (g 3), .ref 69, .ref 70, .ref 71, .ref 72, iv (g 8), iv (g 9), iv (g 10), .ref 73, iv (g 12), iv (g 13), iv (g 14), iv (g 15), iv (g 16), iv (g 17), iv (g 18), lw w, iv (g 20), iv (g 21), iv (g 22), iv (g 23), iv (g 24), .ref 74, .ref 75, .ref 76, .ref 77, .ref 78, iv (g 30), iv (g 31), .ref 79, iv (g 33), .ref 80, .ref 81, iv (g 36), .ref 82, iv (g 38), .ref 83, .ref 84, iv (g 41), iv (g 42), .ref 85, iv (g 44), .ref 86, .ref 87, .ref 88, .ref 89, .ref 90, .ref 91, iv (g 51), iv (g 52), iv (g 53), .ref 92, .ref 93, .ref 94, .ref 95]
abbrev RG (g : Nat → Int) (w : Int) : aE := .inr (9, RGL g w)
theorem r_getR {own name : String} {cc : ByteArray} {mL : Nat} {rt : Option FieldType} {d mc ms : Nat} {Q : Option Value → Nat → aH → Prop} {X : String → Nat → aH → Prop} {n : Nat} {h : aH} {pc : Nat} {lv : List (Nat × Value)} {st : List Value} {idx k a : Nat} {g : Nat → Int} {w z : Int} (hd : decode cc pc = .ok (.getfield idx, 3)) (hf : FL own idx 9 k) (hi : a < n) (hc : h a = RG g w) (hv : (RGL g w)[k]? = some (iv z)) (kk : Ev own name cc mL rt d mc ms Q X n h (pc + 3) lv (iv z :: st)) : Ev own name cc mL rt d mc ms Q X n h pc lv (.ref a :: st) := r_get (fs := RGL g w) hd hf hi hc hv kk
theorem r_putR {own name : String} {cc : ByteArray} {mL : Nat} {rt : Option FieldType} {d mc ms : Nat} {Q : Option Value → Nat → aH → Prop} {X : String → Nat → aH → Prop} {n : Nat} {h : aH} {pc : Nat} {lv : List (Nat × Value)} {st : List Value} {idx k a : Nat} {g : Nat → Int} {w x : Int} {ty : FieldType} (hd : decode cc pc = .ok (.putfield idx, 3)) (hf : FP own idx 9 k ty) (hi : a < n) (hc : h a = RG g w) (hnar : ∀ ad : Nat → Nat, narrow ty (cV ad (iv x)) = cV ad (iv x) ∧ fits ty (cV ad (iv x)) = true) (hlen : k < (RGL g w).length) (hs : ∀ (g : Nat → Int) (w x : Int), (RGL g w).set k (iv x) = RGL (va_up g k x) w) (kk : ∀ z, z = x → Ev own name cc mL rt d mc ms Q X n (va_up h a (RG (va_up g k z) w)) (pc + 3) lv st) : Ev own name cc mL rt d mc ms Q X n h pc lv (iv x :: .ref a :: st) := r_put (fs := RGL g w) (fs2 := RGL (va_up g k x) w) hd hf hi hc hnar hlen (hs g w x) (kk x rfl)
theorem nar_lng (z : Int) (ad : Nat → Nat) : narrow .long (cV ad (lw z)) = cV ad (lw z) ∧ fits .long (cV ad (lw z)) = true := ⟨rfl, rfl⟩
theorem setR_19 (g : Nat → Int) (w x : Int) : (RGL g w).set 19 (lw x) = RGL g x := rfl
theorem r_putJ {own name : String} {cc : ByteArray} {mL : Nat} {rt : Option FieldType} {d mc ms : Nat} {Q : Option Value → Nat → aH → Prop} {X : String → Nat → aH → Prop} {n : Nat} {h : aH} {pc : Nat} {lv : List (Nat × Value)} {st : List Value} {idx a : Nat} {g : Nat → Int} {w x : Int} (hd : decode cc pc = .ok (.putfield idx, 3)) (hf : FP own idx 9 19 .long) (hi : a < n) (hc : h a = RG g w) (kk : Ev own name cc mL rt d mc ms Q X n (va_up h a (RG g x)) (pc + 3) lv st) : Ev own name cc mL rt d mc ms Q X n h pc lv (lw x :: .ref a :: st) := r_put (fs := RGL g w) (fs2 := RGL g x) hd hf hi hc (nar_lng x) (Nat.le_of_ble_eq_true rfl) (setR_19 g w x) kk
theorem setR_0 (g : Nat → Int) (w x : Int) : (RGL g w).set 0 (iv x) = RGL (va_up g 0 x) w := rfl
theorem setR_1 (g : Nat → Int) (w x : Int) : (RGL g w).set 1 (iv x) = RGL (va_up g 1 x) w := rfl
theorem setR_2 (g : Nat → Int) (w x : Int) : (RGL g w).set 2 (iv x) = RGL (va_up g 2 x) w := rfl
theorem setR_3 (g : Nat → Int) (w x : Int) : (RGL g w).set 3 (iv x) = RGL (va_up g 3 x) w := rfl
theorem setR_8 (g : Nat → Int) (w x : Int) : (RGL g w).set 8 (iv x) = RGL (va_up g 8 x) w := rfl
theorem setR_9 (g : Nat → Int) (w x : Int) : (RGL g w).set 9 (iv x) = RGL (va_up g 9 x) w := rfl
theorem setR_10 (g : Nat → Int) (w x : Int) : (RGL g w).set 10 (iv x) = RGL (va_up g 10 x) w := rfl
theorem setR_12 (g : Nat → Int) (w x : Int) : (RGL g w).set 12 (iv x) = RGL (va_up g 12 x) w := rfl
theorem setR_13 (g : Nat → Int) (w x : Int) : (RGL g w).set 13 (iv x) = RGL (va_up g 13 x) w := rfl
theorem setR_14 (g : Nat → Int) (w x : Int) : (RGL g w).set 14 (iv x) = RGL (va_up g 14 x) w := rfl
theorem setR_15 (g : Nat → Int) (w x : Int) : (RGL g w).set 15 (iv x) = RGL (va_up g 15 x) w := rfl
theorem setR_16 (g : Nat → Int) (w x : Int) : (RGL g w).set 16 (iv x) = RGL (va_up g 16 x) w := rfl
theorem setR_17 (g : Nat → Int) (w x : Int) : (RGL g w).set 17 (iv x) = RGL (va_up g 17 x) w := rfl
theorem setR_18 (g : Nat → Int) (w x : Int) : (RGL g w).set 18 (iv x) = RGL (va_up g 18 x) w := rfl
theorem setR_20 (g : Nat → Int) (w x : Int) : (RGL g w).set 20 (iv x) = RGL (va_up g 20 x) w := rfl
theorem setR_21 (g : Nat → Int) (w x : Int) : (RGL g w).set 21 (iv x) = RGL (va_up g 21 x) w := rfl
theorem setR_22 (g : Nat → Int) (w x : Int) : (RGL g w).set 22 (iv x) = RGL (va_up g 22 x) w := rfl
theorem setR_23 (g : Nat → Int) (w x : Int) : (RGL g w).set 23 (iv x) = RGL (va_up g 23 x) w := rfl
theorem setR_24 (g : Nat → Int) (w x : Int) : (RGL g w).set 24 (iv x) = RGL (va_up g 24 x) w := rfl
theorem setR_30 (g : Nat → Int) (w x : Int) : (RGL g w).set 30 (iv x) = RGL (va_up g 30 x) w := rfl
theorem setR_31 (g : Nat → Int) (w x : Int) : (RGL g w).set 31 (iv x) = RGL (va_up g 31 x) w := rfl
theorem setR_33 (g : Nat → Int) (w x : Int) : (RGL g w).set 33 (iv x) = RGL (va_up g 33 x) w := rfl
theorem setR_36 (g : Nat → Int) (w x : Int) : (RGL g w).set 36 (iv x) = RGL (va_up g 36 x) w := rfl
theorem setR_38 (g : Nat → Int) (w x : Int) : (RGL g w).set 38 (iv x) = RGL (va_up g 38 x) w := rfl
theorem setR_41 (g : Nat → Int) (w x : Int) : (RGL g w).set 41 (iv x) = RGL (va_up g 41 x) w := rfl
theorem setR_42 (g : Nat → Int) (w x : Int) : (RGL g w).set 42 (iv x) = RGL (va_up g 42 x) w := rfl
theorem setR_44 (g : Nat → Int) (w x : Int) : (RGL g w).set 44 (iv x) = RGL (va_up g 44 x) w := rfl
theorem setR_51 (g : Nat → Int) (w x : Int) : (RGL g w).set 51 (iv x) = RGL (va_up g 51 x) w := rfl
theorem setR_52 (g : Nat → Int) (w x : Int) : (RGL g w).set 52 (iv x) = RGL (va_up g 52 x) w := rfl
theorem setR_53 (g : Nat → Int) (w x : Int) : (RGL g w).set 53 (iv x) = RGL (va_up g 53 x) w := rfl
theorem i2lI {x : Int} (hx : inR x) : (Int32.ofInt x).toInt64 = Int64.ofInt x := by
  rw [← Int64.toInt_inj, Int32.toInt_toInt64, tI hx, Int64.toInt_ofInt_of_le (by unfold inR at hx; omega) (by unfold inR at hx; omega)]
theorem r_i2l {own name : String} {cc : ByteArray} {mL : Nat} {rt : Option FieldType} {d mc ms : Nat} {Q : Option Value → Nat → aH → Prop} {X : String → Nat → aH → Prop} {n : Nat} {h : aH} {pc : Nat} {lv : List (Nat × Value)} {st : List Value} {x : Int} (hd : decode cc pc = .ok (.i2l, 1)) (hx : inR x) (k : Ev own name cc mL rt d mc ms Q X n h (pc + 1) lv (lw x :: st)) : Ev own name cc mL rt d mc ms Q X n h pc lv (iv x :: st) := by
  intro p l e R s m args below meth c D tc n0 ad0 ad adK A H locs cells slots MC MS ls fx rm wd hn he hl
  have k1 := k p l e R s m args below meth c D tc n0 ad0 ad adK A H locs cells slots MC MS ls fx rm wd hn he hl
  exact lv_i2l fx.1 fx.2.1 hd (i2lI hx) k1
theorem r_lconst {own name : String} {cc : ByteArray} {mL : Nat} {rt : Option FieldType} {d mc ms : Nat} {Q : Option Value → Nat → aH → Prop} {X : String → Nat → aH → Prop} {n : Nat} {h : aH} {pc : Nat} {lv : List (Nat × Value)} {st : List Value} {z : Nat} {j : Fin 2} (hd : decode cc pc = .ok (.lconst j, 1)) (hj : (j : Nat) = z) (hz : Int64.ofNat z = Int64.ofInt (z : Int)) (k : Ev own name cc mL rt d mc ms Q X n h (pc + 1) lv (lw (z : Int) :: st)) : Ev own name cc mL rt d mc ms Q X n h pc lv st := by
  intro p l e R s m args below meth c D tc n0 ad0 ad adK A H locs cells slots MC MS ls fx rm wd hn he hl
  have k1 := k p l e R s m args below meth c D tc n0 ad0 ad adK A H locs cells slots MC MS ls fx rm wd hn he hl
  exact lv_lconst (v := Int64.ofInt (z : Int)) fx.1 fx.2.1 hd (by rw [hj]; exact hz) k1
theorem r_lsub {own name : String} {cc : ByteArray} {mL : Nat} {rt : Option FieldType} {d mc ms : Nat} {Q : Option Value → Nat → aH → Prop} {X : String → Nat → aH → Prop} {n : Nat} {h : aH} {pc : Nat} {lv : List (Nat × Value)} {st : List Value} {x y : Int} (hd : decode cc pc = .ok (.lsub, 1)) (k : Ev own name cc mL rt d mc ms Q X n h (pc + 1) lv (lw (x - y) :: st)) : Ev own name cc mL rt d mc ms Q X n h pc lv (lw y :: lw x :: st) := by
  intro p l e R s m args below meth c D tc n0 ad0 ad adK A H locs cells slots MC MS ls fx rm wd hn he hl
  have k1 := k p l e R s m args below meth c D tc n0 ad0 ad adK A H locs cells slots MC MS ls fx rm wd hn he hl
  rw [List.map_cons, show cV ad (lw (x - y)) = .long (Int64.ofInt (x - y)) from rfl, Int64.ofInt_sub] at k1
  exact lv_lsub fx.1 fx.2.1 hd k1
theorem r_lshl {own name : String} {cc : ByteArray} {mL : Nat} {rt : Option FieldType} {d mc ms : Nat} {Q : Option Value → Nat → aH → Prop} {X : String → Nat → aH → Prop} {n : Nat} {h : aH} {pc : Nat} {lv : List (Nat × Value)} {st : List Value} {x y : Int} (z : Int) (hd : decode cc pc = .ok (.lshl, 1)) (hz : Int64.ofInt x <<< ((Int32.ofInt y).toInt64 &&& 63) = Int64.ofInt z) (k : Ev own name cc mL rt d mc ms Q X n h (pc + 1) lv (lw z :: st)) : Ev own name cc mL rt d mc ms Q X n h pc lv (iv y :: lw x :: st) := by
  intro p l e R s m args below meth c D tc n0 ad0 ad adK A H locs cells slots MC MS ls fx rm wd hn he hl
  have k1 := k p l e R s m args below meth c D tc n0 ad0 ad adK A H locs cells slots MC MS ls fx rm wd hn he hl
  exact lv_lshl fx.1 fx.2.1 hd hz k1
theorem r_lor {own name : String} {cc : ByteArray} {mL : Nat} {rt : Option FieldType} {d mc ms : Nat} {Q : Option Value → Nat → aH → Prop} {X : String → Nat → aH → Prop} {n : Nat} {h : aH} {pc : Nat} {lv : List (Nat × Value)} {st : List Value} {x y : Int} (z : Int) (hd : decode cc pc = .ok (.lor, 1)) (hz : Int64.ofInt x ||| Int64.ofInt y = Int64.ofInt z) (k : Ev own name cc mL rt d mc ms Q X n h (pc + 1) lv (lw z :: st)) : Ev own name cc mL rt d mc ms Q X n h pc lv (lw y :: lw x :: st) := by
  intro p l e R s m args below meth c D tc n0 ad0 ad adK A H locs cells slots MC MS ls fx rm wd hn he hl
  have k1 := k p l e R s m args below meth c D tc n0 ad0 ad adK A H locs cells slots MC MS ls fx rm wd hn he hl
  rw [List.map_cons, show cV ad (lw z) = .long (Int64.ofInt z) from rfl, ← hz] at k1
  exact lv_lor fx.1 fx.2.1 hd k1
theorem r_ldc2 {own name : String} {cc : ByteArray} {mL : Nat} {rt : Option FieldType} {d mc ms : Nat} {Q : Option Value → Nat → aH → Prop} {X : String → Nat → aH → Prop} {n : Nat} {h : aH} {pc : Nat} {lv : List (Nat × Value)} {st : List Value} {idx : Nat} {z : Int} (hd : decode cc pc = .ok (.ldc2_w idx, 3)) (hc : Cond.constantLong own idx (Int64.ofInt z) ∈ Gw) (k : Ev own name cc mL rt d mc ms Q X n h (pc + 3) lv (lw z :: st)) : Ev own name cc mL rt d mc ms Q X n h pc lv st := by
  intro p l e R s m args below meth c D tc n0 ad0 ad adK A H locs cells slots MC MS ls fx rm wd hn he hl
  exact lv_ldc2 fx.1 fx.2.1 fx.2.2.2.2.1 (fx.2.2.2.2.2.1 _ hc) hd (k p l e R s m args below meth c D tc n0 ad0 ad adK A H locs cells slots MC MS ls fx rm wd hn he hl)
theorem r_lload {own name : String} {cc : ByteArray} {mL : Nat} {rt : Option FieldType} {d mc ms : Nat} {Q : Option Value → Nat → aH → Prop} {X : String → Nat → aH → Prop} {n : Nat} {h : aH} {pc : Nat} {lv : List (Nat × Value)} {st : List Value} {i : Nat} {z : Int} (hd : decode cc pc = .ok (.lload i, 2)) (hv : lg i lv = some (lw z)) (k : Ev own name cc mL rt d mc ms Q X n h (pc + 2) lv (lw z :: st)) : Ev own name cc mL rt d mc ms Q X n h pc lv st := by
  intro p l e R s m args below meth c D tc n0 ad0 ad adK A H locs cells slots MC MS ls fx rm wd hn he hl
  exact lv_lload fx.1 fx.2.1 hd (lg_at hl hv) (k p l e R s m args below meth c D tc n0 ad0 ad adK A H locs cells slots MC MS ls fx rm wd hn he hl)
theorem r_lret {own name : String} {cc : ByteArray} {mL : Nat} {d mc ms : Nat} {Q : Option Value → Nat → aH → Prop} {X : String → Nat → aH → Prop} {n : Nat} {h : aH} {pc : Nat} {lv : List (Nat × Value)} {z : Int} (hd : decode cc pc = .ok (.lreturn, 1)) (q : Q (some (lw z)) n h) : Ev own name cc mL (some .long) d mc ms Q X n h pc lv [lw z] := by
  intro p l e R s m args below meth c D tc n0 ad0 ad adK A H locs cells slots MC MS ls fx rm wd hn he hl
  refine vx_ret (W.widen (k := MC) (n := MS) (Nat.le_trans (Nat.le_add_right _ _) rm.2.2.2.2.1) (Nat.le_trans (Nat.le_add_right _ _) rm.2.2.2.2.2) ?_)
  exact W.lret fx.1 fx.2.1 fx.2.2.1 (fun t ht hW => ⟨⟨some (lw z), n, h, ad, rfl, q, hn, he, (wd.end ht).1⟩, (wd.end ht).2⟩) wd.2.2.1.2.2 hd fx.2.2.2.2.2.2.1
