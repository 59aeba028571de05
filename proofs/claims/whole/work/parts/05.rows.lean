/-! locals by their numbers -/
def lg (i : Nat) : List (Nat × Value) → Option Value
  | [] => none
  | q :: r => if q.1 = i then some q.2 else lg i r
def lst (i : Nat) (v : Value) : List (Nat × Value) → List (Nat × Value)
  | [] => [(i, v)]
  | q :: r => if q.1 = i then (i, v) :: r.filter (fun z => !(z.1 == i)) else q :: lst i v r
theorem lg_mem {i : Nat} {v : Value} : ∀ {lv : List (Nat × Value)}, lg i lv = some v → (i, v) ∈ lv := by
  intro lv
  induction lv with
  | nil => intro h; cases h
  | cons q r ih =>
    intro h
    unfold lg at h
    split at h
    · next e => cases h; subst e; exact List.mem_cons_self
    · exact List.mem_cons_of_mem _ (ih h)
theorem lg_at {ad : Nat → Nat} {ls : Array Slot} {mL i : Nat} {v : Value} {lv : List (Nat × Value)} (hl : lv_has ls mL (lv.map (fun q => (q.1, cV ad q.2)))) (h : lg i lv = some v) : ls[i]? = some (.val (cV ad v)) :=
  hl.2.2 (i, cV ad v) (List.mem_map.mpr ⟨(i, v), lg_mem h, rfl⟩)
theorem lg_ix (ad : Nat → Nat) {i : Nat} {z : Int} {lv : List (Nat × Value)} (h : lg i lv = some (iv z)) : ∃ j : Nat, (lv.map (fun q => (q.1, cV ad q.2)))[j]? = some (i, iv z) := by
  obtain ⟨j, hj⟩ := List.mem_iff_getElem?.mp (lg_mem h)
  exact ⟨j, by rw [List.getElem?_map, hj]; rfl⟩
theorem lst_mem {i : Nat} {v : Value} : ∀ {lv : List (Nat × Value)} {q : Nat × Value}, q ∈ lst i v lv → (∀ z ∈ lv, z.1 = i → True) → q = (i, v) ∨ q ∈ lv ∧ (q.1 ≠ i) := by
  intro lv
  induction lv with
  | nil => intro q h _; exact Or.inl (List.mem_singleton.mp h)
  | cons z r ih =>
    intro q h _
    unfold lst at h
    split at h
    · next e =>
      rcases List.mem_cons.mp h with h | h
      · exact Or.inl h
      · have h2 := List.mem_filter.mp h
        exact Or.inr ⟨List.mem_cons_of_mem _ h2.1, by simpa using h2.2⟩
    · next e =>
      rcases List.mem_cons.mp h with h | h
      · subst h; exact Or.inr ⟨List.mem_cons_self, e⟩
      · rcases ih h (fun _ _ _ => trivial) with h3 | h3
        · exact Or.inl h3
        · exact Or.inr ⟨List.mem_cons_of_mem _ h3.1, h3.2⟩
theorem lst_has {ad : Nat → Nat} {ls : Array Slot} {mL i : Nat} {v : Value} {lv : List (Nat × Value)} (hl : lv_has ls mL ((i, cV ad v) :: (lv.map (fun q => (q.1, cV ad q.2))).filter (fun q => !(q.1 == i) && !(q.1 + 1 == i && q.2.category == 2)))) (hc : lv.all (fun q => !(q.1 + 1 == i && q.2.category == 2)) = true) : lv_has ls mL ((lst i v lv).map (fun q => (q.1, cV ad q.2))) := by
  refine ⟨hl.1, hl.2.1, fun q hq => hl.2.2 q ?_⟩
  obtain ⟨z, hz, rfl⟩ := List.mem_map.mp hq
  rcases lst_mem hz (fun _ _ _ => trivial) with rfl | ⟨h1, h2⟩
  · exact List.mem_cons_self
  · refine List.mem_cons_of_mem _ (List.mem_filter.mpr ⟨List.mem_map.mpr ⟨z, h1, rfl⟩, ?_⟩)
    have h3 := List.all_eq_true.mp hc z h1
    dsimp only
    rw [cV_cat]
    simp only [Bool.and_eq_true]
    exact ⟨by simpa using h2, h3⟩
theorem tDiv {x y : Int} (hx : inR x) (hy : inR y) (h0 : ¬ y = 0) (hq : inR (x.tdiv y)) : Int32.ofInt x / Int32.ofInt y = Int32.ofInt (x.tdiv y) := by
  apply Int32.toInt_inj.mp
  rw [Int32.toInt_div, tI hx, tI hy, tI hq]
  apply Int.bmod_eq_of_le <;> (obtain ⟨h1, h2⟩ := hq; omega)
theorem tRem {x y : Int} (hx : inR x) (hy : inR y) (h0 : ¬ y = 0) (hq : inR (x.tdiv y)) : Int32.ofInt x - Int32.ofInt x / Int32.ofInt y * Int32.ofInt y = Int32.ofInt (x.tmod y) := by
  rw [tDiv hx hy h0 hq, ← Int32.ofInt_mul, ← Int32.ofInt_sub]
  congr 1
  have := Int.tmod_add_mul_tdiv x y
  rw [Int.mul_comm] at this
  omega
/-! an instruction, a row -/
theorem r_iconst {own name : String} {cc : ByteArray} {mL : Nat} {rt : Option FieldType} {d mc ms : Nat} {Q : Option Value → Nat → aH → Prop} {X : String → Nat → aH → Prop} {n : Nat} {h : aH} {pc : Nat} {lv : List (Nat × Value)} {st : List Value} {z : Int} (hd : decode cc pc = .ok (.iconst z, 1)) (k : Ev own name cc mL rt d mc ms Q X n h (pc + 1) lv (iv z :: st)) : Ev own name cc mL rt d mc ms Q X n h pc lv st := by
  intro p l e R s m args below meth c D tc n0 ad0 ad adK A H locs cells slots MC MS ls fx rm wd hn he hl
  have k1 := k p l e R s m args below meth c D tc n0 ad0 ad adK A H locs cells slots MC MS ls fx rm wd hn he hl
  exact lv_iconst (v := Int32.ofInt z) fx.1 fx.2.1 hd rfl k1
theorem r_bipush {own name : String} {cc : ByteArray} {mL : Nat} {rt : Option FieldType} {d mc ms : Nat} {Q : Option Value → Nat → aH → Prop} {X : String → Nat → aH → Prop} {n : Nat} {h : aH} {pc : Nat} {lv : List (Nat × Value)} {st : List Value} {z : Int} (hd : decode cc pc = .ok (.bipush z, 2)) (hz : (Int8.ofInt z).toInt32 = Int32.ofInt z) (k : Ev own name cc mL rt d mc ms Q X n h (pc + 2) lv (iv z :: st)) : Ev own name cc mL rt d mc ms Q X n h pc lv st := by
  intro p l e R s m args below meth c D tc n0 ad0 ad adK A H locs cells slots MC MS ls fx rm wd hn he hl
  have k1 := k p l e R s m args below meth c D tc n0 ad0 ad adK A H locs cells slots MC MS ls fx rm wd hn he hl
  exact lv_bipush (v := Int32.ofInt z) fx.1 fx.2.1 hd hz k1
theorem r_sipush {own name : String} {cc : ByteArray} {mL : Nat} {rt : Option FieldType} {d mc ms : Nat} {Q : Option Value → Nat → aH → Prop} {X : String → Nat → aH → Prop} {n : Nat} {h : aH} {pc : Nat} {lv : List (Nat × Value)} {st : List Value} {z : Int} (hd : decode cc pc = .ok (.sipush z, 3)) (hz : (Int16.ofInt z).toInt32 = Int32.ofInt z) (k : Ev own name cc mL rt d mc ms Q X n h (pc + 3) lv (iv z :: st)) : Ev own name cc mL rt d mc ms Q X n h pc lv st := by
  intro p l e R s m args below meth c D tc n0 ad0 ad adK A H locs cells slots MC MS ls fx rm wd hn he hl
  have k1 := k p l e R s m args below meth c D tc n0 ad0 ad adK A H locs cells slots MC MS ls fx rm wd hn he hl
  exact lv_sipush (v := Int32.ofInt z) fx.1 fx.2.1 hd hz k1
theorem r_dup {own name : String} {cc : ByteArray} {mL : Nat} {rt : Option FieldType} {d mc ms : Nat} {Q : Option Value → Nat → aH → Prop} {X : String → Nat → aH → Prop} {n : Nat} {h : aH} {pc : Nat} {lv : List (Nat × Value)} {st : List Value} {v : Value} (hd : decode cc pc = .ok (.dup, 1)) (hc : v.category = 1) (k : Ev own name cc mL rt d mc ms Q X n h (pc + 1) lv (v :: v :: st)) : Ev own name cc mL rt d mc ms Q X n h pc lv (v :: st) := by
  intro p l e R s m args below meth c D tc n0 ad0 ad adK A H locs cells slots MC MS ls fx rm wd hn he hl
  have k1 := k p l e R s m args below meth c D tc n0 ad0 ad adK A H locs cells slots MC MS ls fx rm wd hn he hl
  exact lv_dup fx.1 fx.2.1 hd (by rw [cV_cat]; exact hc) k1
theorem r_pop {own name : String} {cc : ByteArray} {mL : Nat} {rt : Option FieldType} {d mc ms : Nat} {Q : Option Value → Nat → aH → Prop} {X : String → Nat → aH → Prop} {n : Nat} {h : aH} {pc : Nat} {lv : List (Nat × Value)} {st : List Value} {v : Value} (hd : decode cc pc = .ok (.pop, 1)) (hc : v.category = 1) (k : Ev own name cc mL rt d mc ms Q X n h (pc + 1) lv st) : Ev own name cc mL rt d mc ms Q X n h pc lv (v :: st) := by
  intro p l e R s m args below meth c D tc n0 ad0 ad adK A H locs cells slots MC MS ls fx rm wd hn he hl
  have k1 := k p l e R s m args below meth c D tc n0 ad0 ad adK A H locs cells slots MC MS ls fx rm wd hn he hl
  exact lv_pop fx.1 fx.2.1 hd (by rw [cV_cat]; exact hc) k1
theorem r_null {own name : String} {cc : ByteArray} {mL : Nat} {rt : Option FieldType} {d mc ms : Nat} {Q : Option Value → Nat → aH → Prop} {X : String → Nat → aH → Prop} {n : Nat} {h : aH} {pc : Nat} {lv : List (Nat × Value)} {st : List Value}  (hd : decode cc pc = .ok (.aconst_null, 1)) (k : Ev own name cc mL rt d mc ms Q X n h (pc + 1) lv (.null :: st)) : Ev own name cc mL rt d mc ms Q X n h pc lv st := by
  intro p l e R s m args below meth c D tc n0 ad0 ad adK A H locs cells slots MC MS ls fx rm wd hn he hl
  have k1 := k p l e R s m args below meth c D tc n0 ad0 ad adK A H locs cells slots MC MS ls fx rm wd hn he hl
  exact lv_null fx.1 fx.2.1 hd k1
theorem r_iadd {own name : String} {cc : ByteArray} {mL : Nat} {rt : Option FieldType} {d mc ms : Nat} {Q : Option Value → Nat → aH → Prop} {X : String → Nat → aH → Prop} {n : Nat} {h : aH} {pc : Nat} {lv : List (Nat × Value)} {st : List Value} {x y : Int} (hd : decode cc pc = .ok (.iadd, 1)) (k : Ev own name cc mL rt d mc ms Q X n h (pc + 1) lv (iv (x + y) :: st)) : Ev own name cc mL rt d mc ms Q X n h pc lv (iv y :: iv x :: st) := by
  intro p l e R s m args below meth c D tc n0 ad0 ad adK A H locs cells slots MC MS ls fx rm wd hn he hl
  have k1 := k p l e R s m args below meth c D tc n0 ad0 ad adK A H locs cells slots MC MS ls fx rm wd hn he hl
  rw [List.map_cons, cV_int, Int32.ofInt_add] at k1
  exact lv_iadd fx.1 fx.2.1 hd k1
theorem r_isub {own name : String} {cc : ByteArray} {mL : Nat} {rt : Option FieldType} {d mc ms : Nat} {Q : Option Value → Nat → aH → Prop} {X : String → Nat → aH → Prop} {n : Nat} {h : aH} {pc : Nat} {lv : List (Nat × Value)} {st : List Value} {x y : Int} (hd : decode cc pc = .ok (.isub, 1)) (k : Ev own name cc mL rt d mc ms Q X n h (pc + 1) lv (iv (x - y) :: st)) : Ev own name cc mL rt d mc ms Q X n h pc lv (iv y :: iv x :: st) := by
  intro p l e R s m args below meth c D tc n0 ad0 ad adK A H locs cells slots MC MS ls fx rm wd hn he hl
  have k1 := k p l e R s m args below meth c D tc n0 ad0 ad adK A H locs cells slots MC MS ls fx rm wd hn he hl
  rw [List.map_cons, cV_int, Int32.ofInt_sub] at k1
  exact lv_isub fx.1 fx.2.1 hd k1
theorem r_imul {own name : String} {cc : ByteArray} {mL : Nat} {rt : Option FieldType} {d mc ms : Nat} {Q : Option Value → Nat → aH → Prop} {X : String → Nat → aH → Prop} {n : Nat} {h : aH} {pc : Nat} {lv : List (Nat × Value)} {st : List Value} {x y : Int} (hd : decode cc pc = .ok (.imul, 1)) (k : Ev own name cc mL rt d mc ms Q X n h (pc + 1) lv (iv (x * y) :: st)) : Ev own name cc mL rt d mc ms Q X n h pc lv (iv y :: iv x :: st) := by
  intro p l e R s m args below meth c D tc n0 ad0 ad adK A H locs cells slots MC MS ls fx rm wd hn he hl
  have k1 := k p l e R s m args below meth c D tc n0 ad0 ad adK A H locs cells slots MC MS ls fx rm wd hn he hl
  rw [List.map_cons, cV_int, Int32.ofInt_mul] at k1
  exact lv_imul fx.1 fx.2.1 hd k1
theorem r_ineg {own name : String} {cc : ByteArray} {mL : Nat} {rt : Option FieldType} {d mc ms : Nat} {Q : Option Value → Nat → aH → Prop} {X : String → Nat → aH → Prop} {n : Nat} {h : aH} {pc : Nat} {lv : List (Nat × Value)} {st : List Value} {x : Int} (hd : decode cc pc = .ok (.ineg, 1)) (k : Ev own name cc mL rt d mc ms Q X n h (pc + 1) lv (iv (-x) :: st)) : Ev own name cc mL rt d mc ms Q X n h pc lv (iv x :: st) := by
  intro p l e R s m args below meth c D tc n0 ad0 ad adK A H locs cells slots MC MS ls fx rm wd hn he hl
  have k1 := k p l e R s m args below meth c D tc n0 ad0 ad adK A H locs cells slots MC MS ls fx rm wd hn he hl
  rw [List.map_cons, cV_int, Int32.ofInt_neg] at k1
  exact lv_ineg fx.1 fx.2.1 hd k1
theorem r_idiv {own name : String} {cc : ByteArray} {mL : Nat} {rt : Option FieldType} {d mc ms : Nat} {Q : Option Value → Nat → aH → Prop} {X : String → Nat → aH → Prop} {n : Nat} {h : aH} {pc : Nat} {lv : List (Nat × Value)} {st : List Value} {x y : Int} (hd : decode cc pc = .ok (.idiv, 1)) (hx : inR x) (hy : inR y) (h0 : ¬ y = 0) (hq : inR (x.tdiv y)) (k : Ev own name cc mL rt d mc ms Q X n h (pc + 1) lv (iv (x.tdiv y) :: st)) : Ev own name cc mL rt d mc ms Q X n h pc lv (iv y :: iv x :: st) := by
  intro p l e R s m args below meth c D tc n0 ad0 ad adK A H locs cells slots MC MS ls fx rm wd hn he hl
  have k1 := k p l e R s m args below meth c D tc n0 ad0 ad adK A H locs cells slots MC MS ls fx rm wd hn he hl
  rw [List.map_cons, cV_int, ← tDiv hx hy h0 hq] at k1
  exact lv_idiv fx.1 fx.2.1 hd (by rw [show (0 : Int32) = Int32.ofInt 0 from rfl, tEq hy (by decide)]; exact h0) k1
theorem r_irem {own name : String} {cc : ByteArray} {mL : Nat} {rt : Option FieldType} {d mc ms : Nat} {Q : Option Value → Nat → aH → Prop} {X : String → Nat → aH → Prop} {n : Nat} {h : aH} {pc : Nat} {lv : List (Nat × Value)} {st : List Value} {x y : Int} (hd : decode cc pc = .ok (.irem, 1)) (hx : inR x) (hy : inR y) (h0 : ¬ y = 0) (hq : inR (x.tdiv y)) (k : Ev own name cc mL rt d mc ms Q X n h (pc + 1) lv (iv (x.tmod y) :: st)) : Ev own name cc mL rt d mc ms Q X n h pc lv (iv y :: iv x :: st) := by
  intro p l e R s m args below meth c D tc n0 ad0 ad adK A H locs cells slots MC MS ls fx rm wd hn he hl
  have k1 := k p l e R s m args below meth c D tc n0 ad0 ad adK A H locs cells slots MC MS ls fx rm wd hn he hl
  rw [List.map_cons, cV_int, ← tRem hx hy h0 hq] at k1
  exact lv_irem fx.1 fx.2.1 hd (by rw [show (0 : Int32) = Int32.ofInt 0 from rfl, tEq hy (by decide)]; exact h0) k1
theorem r_iand {own name : String} {cc : ByteArray} {mL : Nat} {rt : Option FieldType} {d mc ms : Nat} {Q : Option Value → Nat → aH → Prop} {X : String → Nat → aH → Prop} {n : Nat} {h : aH} {pc : Nat} {lv : List (Nat × Value)} {st : List Value} {x y : Int} (z : Int) (hd : decode cc pc = .ok (.iand, 1)) (hz : Int32.ofInt x &&& Int32.ofInt y = Int32.ofInt z) (k : Ev own name cc mL rt d mc ms Q X n h (pc + 1) lv (iv z :: st)) : Ev own name cc mL rt d mc ms Q X n h pc lv (iv y :: iv x :: st) := by
  intro p l e R s m args below meth c D tc n0 ad0 ad adK A H locs cells slots MC MS ls fx rm wd hn he hl
  have k1 := k p l e R s m args below meth c D tc n0 ad0 ad adK A H locs cells slots MC MS ls fx rm wd hn he hl
  rw [List.map_cons, cV_int, ← hz] at k1
  exact lv_iand fx.1 fx.2.1 hd k1
theorem r_ior {own name : String} {cc : ByteArray} {mL : Nat} {rt : Option FieldType} {d mc ms : Nat} {Q : Option Value → Nat → aH → Prop} {X : String → Nat → aH → Prop} {n : Nat} {h : aH} {pc : Nat} {lv : List (Nat × Value)} {st : List Value} {x y : Int} (z : Int) (hd : decode cc pc = .ok (.ior, 1)) (hz : Int32.ofInt x ||| Int32.ofInt y = Int32.ofInt z) (k : Ev own name cc mL rt d mc ms Q X n h (pc + 1) lv (iv z :: st)) : Ev own name cc mL rt d mc ms Q X n h pc lv (iv y :: iv x :: st) := by
  intro p l e R s m args below meth c D tc n0 ad0 ad adK A H locs cells slots MC MS ls fx rm wd hn he hl
  have k1 := k p l e R s m args below meth c D tc n0 ad0 ad adK A H locs cells slots MC MS ls fx rm wd hn he hl
  rw [List.map_cons, cV_int, ← hz] at k1
  exact lv_ior fx.1 fx.2.1 hd k1
theorem r_ixor {own name : String} {cc : ByteArray} {mL : Nat} {rt : Option FieldType} {d mc ms : Nat} {Q : Option Value → Nat → aH → Prop} {X : String → Nat → aH → Prop} {n : Nat} {h : aH} {pc : Nat} {lv : List (Nat × Value)} {st : List Value} {x y : Int} (z : Int) (hd : decode cc pc = .ok (.ixor, 1)) (hz : Int32.ofInt x ^^^ Int32.ofInt y = Int32.ofInt z) (k : Ev own name cc mL rt d mc ms Q X n h (pc + 1) lv (iv z :: st)) : Ev own name cc mL rt d mc ms Q X n h pc lv (iv y :: iv x :: st) := by
  intro p l e R s m args below meth c D tc n0 ad0 ad adK A H locs cells slots MC MS ls fx rm wd hn he hl
  have k1 := k p l e R s m args below meth c D tc n0 ad0 ad adK A H locs cells slots MC MS ls fx rm wd hn he hl
  rw [List.map_cons, cV_int, ← hz] at k1
  exact lv_ixor fx.1 fx.2.1 hd k1
theorem r_ishl {own name : String} {cc : ByteArray} {mL : Nat} {rt : Option FieldType} {d mc ms : Nat} {Q : Option Value → Nat → aH → Prop} {X : String → Nat → aH → Prop} {n : Nat} {h : aH} {pc : Nat} {lv : List (Nat × Value)} {st : List Value} {x y : Int} (z : Int) (hd : decode cc pc = .ok (.ishl, 1)) (hz : Int32.ofInt x <<< (Int32.ofInt y &&& 31) = Int32.ofInt z) (k : Ev own name cc mL rt d mc ms Q X n h (pc + 1) lv (iv z :: st)) : Ev own name cc mL rt d mc ms Q X n h pc lv (iv y :: iv x :: st) := by
  intro p l e R s m args below meth c D tc n0 ad0 ad adK A H locs cells slots MC MS ls fx rm wd hn he hl
  have k1 := k p l e R s m args below meth c D tc n0 ad0 ad adK A H locs cells slots MC MS ls fx rm wd hn he hl
  rw [List.map_cons, cV_int, ← hz] at k1
  exact lv_ishl fx.1 fx.2.1 hd k1
theorem r_ishr {own name : String} {cc : ByteArray} {mL : Nat} {rt : Option FieldType} {d mc ms : Nat} {Q : Option Value → Nat → aH → Prop} {X : String → Nat → aH → Prop} {n : Nat} {h : aH} {pc : Nat} {lv : List (Nat × Value)} {st : List Value} {x y : Int} (z : Int) (hd : decode cc pc = .ok (.ishr, 1)) (hz : Int32.ofInt x >>> (Int32.ofInt y &&& 31) = Int32.ofInt z) (k : Ev own name cc mL rt d mc ms Q X n h (pc + 1) lv (iv z :: st)) : Ev own name cc mL rt d mc ms Q X n h pc lv (iv y :: iv x :: st) := by
  intro p l e R s m args below meth c D tc n0 ad0 ad adK A H locs cells slots MC MS ls fx rm wd hn he hl
  have k1 := k p l e R s m args below meth c D tc n0 ad0 ad adK A H locs cells slots MC MS ls fx rm wd hn he hl
  rw [List.map_cons, cV_int, ← hz] at k1
  exact lv_ishr fx.1 fx.2.1 hd k1
theorem r_i2b {own name : String} {cc : ByteArray} {mL : Nat} {rt : Option FieldType} {d mc ms : Nat} {Q : Option Value → Nat → aH → Prop} {X : String → Nat → aH → Prop} {n : Nat} {h : aH} {pc : Nat} {lv : List (Nat × Value)} {st : List Value} {x : Int} (z : Int) (hd : decode cc pc = .ok (.i2b, 1)) (hz : (Int32.ofInt x).toInt8.toInt32 = Int32.ofInt z) (k : Ev own name cc mL rt d mc ms Q X n h (pc + 1) lv (iv z :: st)) : Ev own name cc mL rt d mc ms Q X n h pc lv (iv x :: st) := by
  intro p l e R s m args below meth c D tc n0 ad0 ad adK A H locs cells slots MC MS ls fx rm wd hn he hl
  have k1 := k p l e R s m args below meth c D tc n0 ad0 ad adK A H locs cells slots MC MS ls fx rm wd hn he hl
  exact lv_i2b fx.1 fx.2.1 hd hz k1
theorem r_i2c {own name : String} {cc : ByteArray} {mL : Nat} {rt : Option FieldType} {d mc ms : Nat} {Q : Option Value → Nat → aH → Prop} {X : String → Nat → aH → Prop} {n : Nat} {h : aH} {pc : Nat} {lv : List (Nat × Value)} {st : List Value} {x : Int} (z : Int) (hd : decode cc pc = .ok (.i2c, 1)) (hz : ((Int32.ofInt x).toUInt32 % 65536).toInt32 = Int32.ofInt z) (k : Ev own name cc mL rt d mc ms Q X n h (pc + 1) lv (iv z :: st)) : Ev own name cc mL rt d mc ms Q X n h pc lv (iv x :: st) := by
  intro p l e R s m args below meth c D tc n0 ad0 ad adK A H locs cells slots MC MS ls fx rm wd hn he hl
  have k1 := k p l e R s m args below meth c D tc n0 ad0 ad adK A H locs cells slots MC MS ls fx rm wd hn he hl
  exact lv_i2c fx.1 fx.2.1 hd hz k1
theorem r_iload_n {own name : String} {cc : ByteArray} {mL : Nat} {rt : Option FieldType} {d mc ms : Nat} {Q : Option Value → Nat → aH → Prop} {X : String → Nat → aH → Prop} {n : Nat} {h : aH} {pc : Nat} {lv : List (Nat × Value)} {st : List Value} {i : Nat} {z : Int} {j : Fin 4} (hd : decode cc pc = .ok (.iload_n j, 1)) (hj : (j : Nat) = i) (hv : lg i lv = some (iv z)) (k : Ev own name cc mL rt d mc ms Q X n h (pc + 1) lv (iv z :: st)) : Ev own name cc mL rt d mc ms Q X n h pc lv st := by
  intro p l e R s m args below meth c D tc n0 ad0 ad adK A H locs cells slots MC MS ls fx rm wd hn he hl
  exact lv_iload_n fx.1 fx.2.1 hd hj (lg_at hl hv) (k p l e R s m args below meth c D tc n0 ad0 ad adK A H locs cells slots MC MS ls fx rm wd hn he hl)
theorem r_iload {own name : String} {cc : ByteArray} {mL : Nat} {rt : Option FieldType} {d mc ms : Nat} {Q : Option Value → Nat → aH → Prop} {X : String → Nat → aH → Prop} {n : Nat} {h : aH} {pc : Nat} {lv : List (Nat × Value)} {st : List Value} {i : Nat} {z : Int} (hd : decode cc pc = .ok (.iload i, 2)) (hv : lg i lv = some (iv z)) (k : Ev own name cc mL rt d mc ms Q X n h (pc + 2) lv (iv z :: st)) : Ev own name cc mL rt d mc ms Q X n h pc lv st := by
  intro p l e R s m args below meth c D tc n0 ad0 ad adK A H locs cells slots MC MS ls fx rm wd hn he hl
  exact lv_iload fx.1 fx.2.1 hd (lg_at hl hv) (k p l e R s m args below meth c D tc n0 ad0 ad adK A H locs cells slots MC MS ls fx rm wd hn he hl)
theorem r_aload_n {own name : String} {cc : ByteArray} {mL : Nat} {rt : Option FieldType} {d mc ms : Nat} {Q : Option Value → Nat → aH → Prop} {X : String → Nat → aH → Prop} {n : Nat} {h : aH} {pc : Nat} {lv : List (Nat × Value)} {st : List Value} {i a : Nat} {j : Fin 4} (hd : decode cc pc = .ok (.aload_n j, 1)) (hj : (j : Nat) = i) (hv : lg i lv = some (.ref a)) (k : Ev own name cc mL rt d mc ms Q X n h (pc + 1) lv (.ref a :: st)) : Ev own name cc mL rt d mc ms Q X n h pc lv st := by
  intro p l e R s m args below meth c D tc n0 ad0 ad adK A H locs cells slots MC MS ls fx rm wd hn he hl
  exact lv_aload_n fx.1 fx.2.1 hd hj (lg_at hl hv) (k p l e R s m args below meth c D tc n0 ad0 ad adK A H locs cells slots MC MS ls fx rm wd hn he hl)
theorem r_aload {own name : String} {cc : ByteArray} {mL : Nat} {rt : Option FieldType} {d mc ms : Nat} {Q : Option Value → Nat → aH → Prop} {X : String → Nat → aH → Prop} {n : Nat} {h : aH} {pc : Nat} {lv : List (Nat × Value)} {st : List Value} {i a : Nat} (hd : decode cc pc = .ok (.aload i, 2)) (hv : lg i lv = some (.ref a)) (k : Ev own name cc mL rt d mc ms Q X n h (pc + 2) lv (.ref a :: st)) : Ev own name cc mL rt d mc ms Q X n h pc lv st := by
  intro p l e R s m args below meth c D tc n0 ad0 ad adK A H locs cells slots MC MS ls fx rm wd hn he hl
  exact lv_aload fx.1 fx.2.1 hd (lg_at hl hv) (k p l e R s m args below meth c D tc n0 ad0 ad adK A H locs cells slots MC MS ls fx rm wd hn he hl)
theorem r_istore_n {own name : String} {cc : ByteArray} {mL : Nat} {rt : Option FieldType} {d mc ms : Nat} {Q : Option Value → Nat → aH → Prop} {X : String → Nat → aH → Prop} {n : Nat} {h : aH} {pc : Nat} {lv : List (Nat × Value)} {st : List Value} {i : Nat} {j : Fin 4} {z : Int} {lv2 : List (Nat × Value)} (hd : decode cc pc = .ok (.istore_n j, 1)) (hj : (j : Nat) = i) (hm : i < mL) (hc : lv.all (fun q => !(q.1 + 1 == i && q.2.category == 2)) = true) (hs : lst i (iv z) lv = lv2) (k : Ev own name cc mL rt d mc ms Q X n h (pc + 1) lv2 st) : Ev own name cc mL rt d mc ms Q X n h pc lv (iv z :: st) := by
  intro p l e R s m args below meth c D tc n0 ad0 ad adK A H locs cells slots MC MS ls fx rm wd hn he hl
  subst hs
  exact lv_istore_n fx.1 fx.2.1 hd hj hl hm rfl (fun ls2 hl2 => k p l e R s m args below meth c D tc n0 ad0 ad adK A H locs cells slots MC MS ls2 fx rm wd hn he (lst_has hl2 hc))
theorem r_istore {own name : String} {cc : ByteArray} {mL : Nat} {rt : Option FieldType} {d mc ms : Nat} {Q : Option Value → Nat → aH → Prop} {X : String → Nat → aH → Prop} {n : Nat} {h : aH} {pc : Nat} {lv : List (Nat × Value)} {st : List Value} {i : Nat} {z : Int} {lv2 : List (Nat × Value)} (hd : decode cc pc = .ok (.istore i, 2)) (hm : i < mL) (hc : lv.all (fun q => !(q.1 + 1 == i && q.2.category == 2)) = true) (hs : lst i (iv z) lv = lv2) (k : Ev own name cc mL rt d mc ms Q X n h (pc + 2) lv2 st) : Ev own name cc mL rt d mc ms Q X n h pc lv (iv z :: st) := by
  intro p l e R s m args below meth c D tc n0 ad0 ad adK A H locs cells slots MC MS ls fx rm wd hn he hl
  subst hs
  exact lv_istore fx.1 fx.2.1 hd hl hm rfl (fun ls2 hl2 => k p l e R s m args below meth c D tc n0 ad0 ad adK A H locs cells slots MC MS ls2 fx rm wd hn he (lst_has hl2 hc))
theorem r_astore_n {own name : String} {cc : ByteArray} {mL : Nat} {rt : Option FieldType} {d mc ms : Nat} {Q : Option Value → Nat → aH → Prop} {X : String → Nat → aH → Prop} {n : Nat} {h : aH} {pc : Nat} {lv : List (Nat × Value)} {st : List Value} {i : Nat} {j : Fin 4} {a : Nat} {lv2 : List (Nat × Value)} (hd : decode cc pc = .ok (.astore_n j, 1)) (hj : (j : Nat) = i) (hm : i < mL) (hc : lv.all (fun q => !(q.1 + 1 == i && q.2.category == 2)) = true) (hs : lst i (.ref a) lv = lv2) (k : Ev own name cc mL rt d mc ms Q X n h (pc + 1) lv2 st) : Ev own name cc mL rt d mc ms Q X n h pc lv (.ref a :: st) := by
  intro p l e R s m args below meth c D tc n0 ad0 ad adK A H locs cells slots MC MS ls fx rm wd hn he hl
  subst hs
  exact lv_astore_n fx.1 fx.2.1 hd hj hl hm rfl (fun ls2 hl2 => k p l e R s m args below meth c D tc n0 ad0 ad adK A H locs cells slots MC MS ls2 fx rm wd hn he (lst_has hl2 hc))
theorem r_astore {own name : String} {cc : ByteArray} {mL : Nat} {rt : Option FieldType} {d mc ms : Nat} {Q : Option Value → Nat → aH → Prop} {X : String → Nat → aH → Prop} {n : Nat} {h : aH} {pc : Nat} {lv : List (Nat × Value)} {st : List Value} {i : Nat} {a : Nat} {lv2 : List (Nat × Value)} (hd : decode cc pc = .ok (.astore i, 2)) (hm : i < mL) (hc : lv.all (fun q => !(q.1 + 1 == i && q.2.category == 2)) = true) (hs : lst i (.ref a) lv = lv2) (k : Ev own name cc mL rt d mc ms Q X n h (pc + 2) lv2 st) : Ev own name cc mL rt d mc ms Q X n h pc lv (.ref a :: st) := by
  intro p l e R s m args below meth c D tc n0 ad0 ad adK A H locs cells slots MC MS ls fx rm wd hn he hl
  subst hs
  exact lv_astore fx.1 fx.2.1 hd hl hm rfl (fun ls2 hl2 => k p l e R s m args below meth c D tc n0 ad0 ad adK A H locs cells slots MC MS ls2 fx rm wd hn he (lst_has hl2 hc))
theorem r_iinc {own name : String} {cc : ByteArray} {mL : Nat} {rt : Option FieldType} {d mc ms : Nat} {Q : Option Value → Nat → aH → Prop} {X : String → Nat → aH → Prop} {n : Nat} {h : aH} {pc : Nat} {lv : List (Nat × Value)} {st : List Value} {i : Nat} {z w : Int} {lv2 : List (Nat × Value)} (hd : decode cc pc = .ok (.iinc i w, 3)) (hm : i < mL) (hc : lv.all (fun q => !(q.1 + 1 == i && q.2.category == 2)) = true) (hv : lg i lv = some (iv z)) (hs : lst i (iv (z + w)) lv = lv2) (k : Ev own name cc mL rt d mc ms Q X n h (pc + 3) lv2 st) : Ev own name cc mL rt d mc ms Q X n h pc lv st := by
  intro p l e R s m args below meth c D tc n0 ad0 ad adK A H locs cells slots MC MS ls fx rm wd hn he hl
  subst hs
  obtain ⟨j, hj⟩ := lg_ix ad hv
  exact lv_iinc fx.1 fx.2.1 hd hl hj (Int32.ofInt_add z w).symm hm rfl (fun ls2 hl2 => k p l e R s m args below meth c D tc n0 ad0 ad adK A H locs cells slots MC MS ls2 fx rm wd hn he (lst_has hl2 hc))
theorem r_if_eq {own name : String} {cc : ByteArray} {mL : Nat} {rt : Option FieldType} {d mc ms : Nat} {Q : Option Value → Nat → aH → Prop} {X : String → Nat → aH → Prop} {n : Nat} {h : aH} {pc : Nat} {lv : List (Nat × Value)} {st : List Value} {x off : Int} {tgt : Nat} (hd : decode cc pc = .ok (.ifCond .eq off, 3)) (ht : (pc : Int) + off = (tgt : Int)) (hx : inR x) (kt : x = 0 → Ev own name cc mL rt d mc ms Q X n h tgt lv st) (kf : ¬ x = 0 → Ev own name cc mL rt d mc ms Q X n h (pc + 3) lv st) : Ev own name cc mL rt d mc ms Q X n h pc lv (iv x :: st) := by
  intro p l e R s m args below meth c D tc n0 ad0 ad adK A H locs cells slots MC MS ls fx rm wd hn he hl
  exact lv_if_eq fx.1 fx.2.1 hd ht (fun q => kt ((tEq hx (b := 0) (by decide)).mp q) p l e R s m args below meth c D tc n0 ad0 ad adK A H locs cells slots MC MS ls fx rm wd hn he hl) (fun q => kf (fun q2 => q ((tEq hx (b := 0) (by decide)).mpr q2)) p l e R s m args below meth c D tc n0 ad0 ad adK A H locs cells slots MC MS ls fx rm wd hn he hl)
theorem r_if_ne {own name : String} {cc : ByteArray} {mL : Nat} {rt : Option FieldType} {d mc ms : Nat} {Q : Option Value → Nat → aH → Prop} {X : String → Nat → aH → Prop} {n : Nat} {h : aH} {pc : Nat} {lv : List (Nat × Value)} {st : List Value} {x off : Int} {tgt : Nat} (hd : decode cc pc = .ok (.ifCond .ne off, 3)) (ht : (pc : Int) + off = (tgt : Int)) (hx : inR x) (kt : ¬ x = 0 → Ev own name cc mL rt d mc ms Q X n h tgt lv st) (kf : x = 0 → Ev own name cc mL rt d mc ms Q X n h (pc + 3) lv st) : Ev own name cc mL rt d mc ms Q X n h pc lv (iv x :: st) := by
  intro p l e R s m args below meth c D tc n0 ad0 ad adK A H locs cells slots MC MS ls fx rm wd hn he hl
  exact lv_if_ne fx.1 fx.2.1 hd ht (fun q => kt (fun q3 => q ((tEq hx (b := 0) (by decide)).mpr q3)) p l e R s m args below meth c D tc n0 ad0 ad adK A H locs cells slots MC MS ls fx rm wd hn he hl) (fun q => kf ((tEq hx (b := 0) (by decide)).mp q) p l e R s m args below meth c D tc n0 ad0 ad adK A H locs cells slots MC MS ls fx rm wd hn he hl)
theorem r_if_lt {own name : String} {cc : ByteArray} {mL : Nat} {rt : Option FieldType} {d mc ms : Nat} {Q : Option Value → Nat → aH → Prop} {X : String → Nat → aH → Prop} {n : Nat} {h : aH} {pc : Nat} {lv : List (Nat × Value)} {st : List Value} {x off : Int} {tgt : Nat} (hd : decode cc pc = .ok (.ifCond .lt off, 3)) (ht : (pc : Int) + off = (tgt : Int)) (hx : inR x) (kt : x < 0 → Ev own name cc mL rt d mc ms Q X n h tgt lv st) (kf : ¬ x < 0 → Ev own name cc mL rt d mc ms Q X n h (pc + 3) lv st) : Ev own name cc mL rt d mc ms Q X n h pc lv (iv x :: st) := by
  intro p l e R s m args below meth c D tc n0 ad0 ad adK A H locs cells slots MC MS ls fx rm wd hn he hl
  exact lv_if_lt fx.1 fx.2.1 hd ht (fun q => kt ((tLt hx (b := 0) (by decide)).mp q) p l e R s m args below meth c D tc n0 ad0 ad adK A H locs cells slots MC MS ls fx rm wd hn he hl) (fun q => kf (fun q2 => q ((tLt hx (b := 0) (by decide)).mpr q2)) p l e R s m args below meth c D tc n0 ad0 ad adK A H locs cells slots MC MS ls fx rm wd hn he hl)
theorem r_if_ge {own name : String} {cc : ByteArray} {mL : Nat} {rt : Option FieldType} {d mc ms : Nat} {Q : Option Value → Nat → aH → Prop} {X : String → Nat → aH → Prop} {n : Nat} {h : aH} {pc : Nat} {lv : List (Nat × Value)} {st : List Value} {x off : Int} {tgt : Nat} (hd : decode cc pc = .ok (.ifCond .ge off, 3)) (ht : (pc : Int) + off = (tgt : Int)) (hx : inR x) (kt : 0 ≤ x → Ev own name cc mL rt d mc ms Q X n h tgt lv st) (kf : ¬ 0 ≤ x → Ev own name cc mL rt d mc ms Q X n h (pc + 3) lv st) : Ev own name cc mL rt d mc ms Q X n h pc lv (iv x :: st) := by
  intro p l e R s m args below meth c D tc n0 ad0 ad adK A H locs cells slots MC MS ls fx rm wd hn he hl
  exact lv_if_ge fx.1 fx.2.1 hd ht (fun q => kt ((tLe (a := 0) (by decide) hx).mp q) p l e R s m args below meth c D tc n0 ad0 ad adK A H locs cells slots MC MS ls fx rm wd hn he hl) (fun q => kf (fun q2 => q ((tLe (a := 0) (by decide) hx).mpr q2)) p l e R s m args below meth c D tc n0 ad0 ad adK A H locs cells slots MC MS ls fx rm wd hn he hl)
theorem r_if_gt {own name : String} {cc : ByteArray} {mL : Nat} {rt : Option FieldType} {d mc ms : Nat} {Q : Option Value → Nat → aH → Prop} {X : String → Nat → aH → Prop} {n : Nat} {h : aH} {pc : Nat} {lv : List (Nat × Value)} {st : List Value} {x off : Int} {tgt : Nat} (hd : decode cc pc = .ok (.ifCond .gt off, 3)) (ht : (pc : Int) + off = (tgt : Int)) (hx : inR x) (kt : 0 < x → Ev own name cc mL rt d mc ms Q X n h tgt lv st) (kf : ¬ 0 < x → Ev own name cc mL rt d mc ms Q X n h (pc + 3) lv st) : Ev own name cc mL rt d mc ms Q X n h pc lv (iv x :: st) := by
  intro p l e R s m args below meth c D tc n0 ad0 ad adK A H locs cells slots MC MS ls fx rm wd hn he hl
  exact lv_if_gt fx.1 fx.2.1 hd ht (fun q => kt ((tLt (a := 0) (by decide) hx).mp q) p l e R s m args below meth c D tc n0 ad0 ad adK A H locs cells slots MC MS ls fx rm wd hn he hl) (fun q => kf (fun q2 => q ((tLt (a := 0) (by decide) hx).mpr q2)) p l e R s m args below meth c D tc n0 ad0 ad adK A H locs cells slots MC MS ls fx rm wd hn he hl)
theorem r_if_le {own name : String} {cc : ByteArray} {mL : Nat} {rt : Option FieldType} {d mc ms : Nat} {Q : Option Value → Nat → aH → Prop} {X : String → Nat → aH → Prop} {n : Nat} {h : aH} {pc : Nat} {lv : List (Nat × Value)} {st : List Value} {x off : Int} {tgt : Nat} (hd : decode cc pc = .ok (.ifCond .le off, 3)) (ht : (pc : Int) + off = (tgt : Int)) (hx : inR x) (kt : x ≤ 0 → Ev own name cc mL rt d mc ms Q X n h tgt lv st) (kf : ¬ x ≤ 0 → Ev own name cc mL rt d mc ms Q X n h (pc + 3) lv st) : Ev own name cc mL rt d mc ms Q X n h pc lv (iv x :: st) := by
  intro p l e R s m args below meth c D tc n0 ad0 ad adK A H locs cells slots MC MS ls fx rm wd hn he hl
  exact lv_if_le fx.1 fx.2.1 hd ht (fun q => kt ((tLe hx (b := 0) (by decide)).mp q) p l e R s m args below meth c D tc n0 ad0 ad adK A H locs cells slots MC MS ls fx rm wd hn he hl) (fun q => kf (fun q2 => q ((tLe hx (b := 0) (by decide)).mpr q2)) p l e R s m args below meth c D tc n0 ad0 ad adK A H locs cells slots MC MS ls fx rm wd hn he hl)
theorem r_icmp_eq {own name : String} {cc : ByteArray} {mL : Nat} {rt : Option FieldType} {d mc ms : Nat} {Q : Option Value → Nat → aH → Prop} {X : String → Nat → aH → Prop} {n : Nat} {h : aH} {pc : Nat} {lv : List (Nat × Value)} {st : List Value} {x y off : Int} {tgt : Nat} (hd : decode cc pc = .ok (.if_icmp .eq off, 3)) (ht : (pc : Int) + off = (tgt : Int)) (hx : inR x) (hy : inR y) (kt : x = y → Ev own name cc mL rt d mc ms Q X n h tgt lv st) (kf : ¬ x = y → Ev own name cc mL rt d mc ms Q X n h (pc + 3) lv st) : Ev own name cc mL rt d mc ms Q X n h pc lv (iv y :: iv x :: st) := by
  intro p l e R s m args below meth c D tc n0 ad0 ad adK A H locs cells slots MC MS ls fx rm wd hn he hl
  exact lv_icmp_eq fx.1 fx.2.1 hd ht (fun q => kt ((tEq hx hy).mp q) p l e R s m args below meth c D tc n0 ad0 ad adK A H locs cells slots MC MS ls fx rm wd hn he hl) (fun q => kf (fun q2 => q ((tEq hx hy).mpr q2)) p l e R s m args below meth c D tc n0 ad0 ad adK A H locs cells slots MC MS ls fx rm wd hn he hl)
theorem r_icmp_ne {own name : String} {cc : ByteArray} {mL : Nat} {rt : Option FieldType} {d mc ms : Nat} {Q : Option Value → Nat → aH → Prop} {X : String → Nat → aH → Prop} {n : Nat} {h : aH} {pc : Nat} {lv : List (Nat × Value)} {st : List Value} {x y off : Int} {tgt : Nat} (hd : decode cc pc = .ok (.if_icmp .ne off, 3)) (ht : (pc : Int) + off = (tgt : Int)) (hx : inR x) (hy : inR y) (kt : ¬ x = y → Ev own name cc mL rt d mc ms Q X n h tgt lv st) (kf : x = y → Ev own name cc mL rt d mc ms Q X n h (pc + 3) lv st) : Ev own name cc mL rt d mc ms Q X n h pc lv (iv y :: iv x :: st) := by
  intro p l e R s m args below meth c D tc n0 ad0 ad adK A H locs cells slots MC MS ls fx rm wd hn he hl
  exact lv_icmp_ne fx.1 fx.2.1 hd ht (fun q => kt (fun q3 => q ((tEq hx hy).mpr q3)) p l e R s m args below meth c D tc n0 ad0 ad adK A H locs cells slots MC MS ls fx rm wd hn he hl) (fun q => kf ((tEq hx hy).mp q) p l e R s m args below meth c D tc n0 ad0 ad adK A H locs cells slots MC MS ls fx rm wd hn he hl)
theorem r_icmp_lt {own name : String} {cc : ByteArray} {mL : Nat} {rt : Option FieldType} {d mc ms : Nat} {Q : Option Value → Nat → aH → Prop} {X : String → Nat → aH → Prop} {n : Nat} {h : aH} {pc : Nat} {lv : List (Nat × Value)} {st : List Value} {x y off : Int} {tgt : Nat} (hd : decode cc pc = .ok (.if_icmp .lt off, 3)) (ht : (pc : Int) + off = (tgt : Int)) (hx : inR x) (hy : inR y) (kt : x < y → Ev own name cc mL rt d mc ms Q X n h tgt lv st) (kf : ¬ x < y → Ev own name cc mL rt d mc ms Q X n h (pc + 3) lv st) : Ev own name cc mL rt d mc ms Q X n h pc lv (iv y :: iv x :: st) := by
  intro p l e R s m args below meth c D tc n0 ad0 ad adK A H locs cells slots MC MS ls fx rm wd hn he hl
  exact lv_icmp_lt fx.1 fx.2.1 hd ht (fun q => kt ((tLt hx hy).mp q) p l e R s m args below meth c D tc n0 ad0 ad adK A H locs cells slots MC MS ls fx rm wd hn he hl) (fun q => kf (fun q2 => q ((tLt hx hy).mpr q2)) p l e R s m args below meth c D tc n0 ad0 ad adK A H locs cells slots MC MS ls fx rm wd hn he hl)
theorem r_icmp_ge {own name : String} {cc : ByteArray} {mL : Nat} {rt : Option FieldType} {d mc ms : Nat} {Q : Option Value → Nat → aH → Prop} {X : String → Nat → aH → Prop} {n : Nat} {h : aH} {pc : Nat} {lv : List (Nat × Value)} {st : List Value} {x y off : Int} {tgt : Nat} (hd : decode cc pc = .ok (.if_icmp .ge off, 3)) (ht : (pc : Int) + off = (tgt : Int)) (hx : inR x) (hy : inR y) (kt : y ≤ x → Ev own name cc mL rt d mc ms Q X n h tgt lv st) (kf : ¬ y ≤ x → Ev own name cc mL rt d mc ms Q X n h (pc + 3) lv st) : Ev own name cc mL rt d mc ms Q X n h pc lv (iv y :: iv x :: st) := by
  intro p l e R s m args below meth c D tc n0 ad0 ad adK A H locs cells slots MC MS ls fx rm wd hn he hl
  exact lv_icmp_ge fx.1 fx.2.1 hd ht (fun q => kt ((tLe hy hx).mp q) p l e R s m args below meth c D tc n0 ad0 ad adK A H locs cells slots MC MS ls fx rm wd hn he hl) (fun q => kf (fun q2 => q ((tLe hy hx).mpr q2)) p l e R s m args below meth c D tc n0 ad0 ad adK A H locs cells slots MC MS ls fx rm wd hn he hl)
theorem r_icmp_gt {own name : String} {cc : ByteArray} {mL : Nat} {rt : Option FieldType} {d mc ms : Nat} {Q : Option Value → Nat → aH → Prop} {X : String → Nat → aH → Prop} {n : Nat} {h : aH} {pc : Nat} {lv : List (Nat × Value)} {st : List Value} {x y off : Int} {tgt : Nat} (hd : decode cc pc = .ok (.if_icmp .gt off, 3)) (ht : (pc : Int) + off = (tgt : Int)) (hx : inR x) (hy : inR y) (kt : y < x → Ev own name cc mL rt d mc ms Q X n h tgt lv st) (kf : ¬ y < x → Ev own name cc mL rt d mc ms Q X n h (pc + 3) lv st) : Ev own name cc mL rt d mc ms Q X n h pc lv (iv y :: iv x :: st) := by
  intro p l e R s m args below meth c D tc n0 ad0 ad adK A H locs cells slots MC MS ls fx rm wd hn he hl
  exact lv_icmp_gt fx.1 fx.2.1 hd ht (fun q => kt ((tLt hy hx).mp q) p l e R s m args below meth c D tc n0 ad0 ad adK A H locs cells slots MC MS ls fx rm wd hn he hl) (fun q => kf (fun q2 => q ((tLt hy hx).mpr q2)) p l e R s m args below meth c D tc n0 ad0 ad adK A H locs cells slots MC MS ls fx rm wd hn he hl)
theorem r_icmp_le {own name : String} {cc : ByteArray} {mL : Nat} {rt : Option FieldType} {d mc ms : Nat} {Q : Option Value → Nat → aH → Prop} {X : String → Nat → aH → Prop} {n : Nat} {h : aH} {pc : Nat} {lv : List (Nat × Value)} {st : List Value} {x y off : Int} {tgt : Nat} (hd : decode cc pc = .ok (.if_icmp .le off, 3)) (ht : (pc : Int) + off = (tgt : Int)) (hx : inR x) (hy : inR y) (kt : x ≤ y → Ev own name cc mL rt d mc ms Q X n h tgt lv st) (kf : ¬ x ≤ y → Ev own name cc mL rt d mc ms Q X n h (pc + 3) lv st) : Ev own name cc mL rt d mc ms Q X n h pc lv (iv y :: iv x :: st) := by
  intro p l e R s m args below meth c D tc n0 ad0 ad adK A H locs cells slots MC MS ls fx rm wd hn he hl
  exact lv_icmp_le fx.1 fx.2.1 hd ht (fun q => kt ((tLe hx hy).mp q) p l e R s m args below meth c D tc n0 ad0 ad adK A H locs cells slots MC MS ls fx rm wd hn he hl) (fun q => kf (fun q2 => q ((tLe hx hy).mpr q2)) p l e R s m args below meth c D tc n0 ad0 ad adK A H locs cells slots MC MS ls fx rm wd hn he hl)
theorem r_goto {own name : String} {cc : ByteArray} {mL : Nat} {rt : Option FieldType} {d mc ms : Nat} {Q : Option Value → Nat → aH → Prop} {X : String → Nat → aH → Prop} {n : Nat} {h : aH} {pc : Nat} {lv : List (Nat × Value)} {st : List Value} {off : Int} {tgt : Nat} (hd : decode cc pc = .ok (.goto off, 3)) (ht : (pc : Int) + off = (tgt : Int)) (k : Ev own name cc mL rt d mc ms Q X n h tgt lv st) : Ev own name cc mL rt d mc ms Q X n h pc lv st := by
  intro p l e R s m args below meth c D tc n0 ad0 ad adK A H locs cells slots MC MS ls fx rm wd hn he hl
  exact lv_goto fx.1 fx.2.1 hd ht (k p l e R s m args below meth c D tc n0 ad0 ad adK A H locs cells slots MC MS ls fx rm wd hn he hl)
theorem r_ifnull_r {own name : String} {cc : ByteArray} {mL : Nat} {rt : Option FieldType} {d mc ms : Nat} {Q : Option Value → Nat → aH → Prop} {X : String → Nat → aH → Prop} {n : Nat} {h : aH} {pc : Nat} {lv : List (Nat × Value)} {st : List Value} {off : Int} {a : Nat} (hd : decode cc pc = .ok (.ifnull off, 3)) (k : Ev own name cc mL rt d mc ms Q X n h (pc + 3) lv st) : Ev own name cc mL rt d mc ms Q X n h pc lv (.ref a :: st) := by
  intro p l e R s m args below meth c D tc n0 ad0 ad adK A H locs cells slots MC MS ls fx rm wd hn he hl
  exact lv_ifnull fx.1 fx.2.1 hd (k p l e R s m args below meth c D tc n0 ad0 ad adK A H locs cells slots MC MS ls fx rm wd hn he hl)
theorem r_ifnonnull_r {own name : String} {cc : ByteArray} {mL : Nat} {rt : Option FieldType} {d mc ms : Nat} {Q : Option Value → Nat → aH → Prop} {X : String → Nat → aH → Prop} {n : Nat} {h : aH} {pc : Nat} {lv : List (Nat × Value)} {st : List Value} {off : Int} {tgt a : Nat} (hd : decode cc pc = .ok (.ifnonnull off, 3)) (ht : (pc : Int) + off = (tgt : Int)) (k : Ev own name cc mL rt d mc ms Q X n h tgt lv st) : Ev own name cc mL rt d mc ms Q X n h pc lv (.ref a :: st) := by
  intro p l e R s m args below meth c D tc n0 ad0 ad adK A H locs cells slots MC MS ls fx rm wd hn he hl
  exact lv_ifnonnull fx.1 fx.2.1 hd ht (k p l e R s m args below meth c D tc n0 ad0 ad adK A H locs cells slots MC MS ls fx rm wd hn he hl)
