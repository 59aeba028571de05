/-! ===== switches; the law: what a tree of nodes tells ===== -/
theorem r_tsw3 {own name : String} {cc : ByteArray} {mL : Nat} {rt : Option FieldType} {d mc ms : Nat} {Q : Option Value → Nat → aH → Prop} {X : String → Nat → aH → Prop} {n : Nat} {h : aH} {pc : Nat} {lv : List (Nat × Value)} {st : List Value} {dflt lo hi o0 o1 o2 : Int} {len : Nat} {x : Int} {td t0 t1 t2 : Nat} (hd : decode cc pc = .ok (.tableswitch dflt lo hi #[o0, o1, o2], len)) (hh : hi = lo + 2) (hx : inR x) (ed : (pc : Int) + dflt = td) (e0 : (pc : Int) + o0 = t0) (e1 : (pc : Int) + o1 = t1) (e2 : (pc : Int) + o2 = t2) (kd : x < lo ∨ hi < x → Ev own name cc mL rt d mc ms Q X n h td lv st) (k0 : x = lo + 0 → Ev own name cc mL rt d mc ms Q X n h t0 lv st) (k1 : x = lo + 1 → Ev own name cc mL rt d mc ms Q X n h t1 lv st) (k2 : x = lo + 2 → Ev own name cc mL rt d mc ms Q X n h t2 lv st) : Ev own name cc mL rt d mc ms Q X n h pc lv (iv x :: st) := by
  by_cases h1 : x < lo ∨ hi < x
  · exact r_tout hd hx h1 ed (kd h1)
  · rcases (show x = lo + 0 ∨ x = lo + 1 ∨ x = lo + 2 by omega) with g | g | g
    · exact r_tin hd hx (by omega) (by omega) (by rw [show (x - lo).toNat = 0 by omega]; rfl) e0 (k0 g)
    · exact r_tin hd hx (by omega) (by omega) (by rw [show (x - lo).toNat = 1 by omega]; rfl) e1 (k1 g)
    · exact r_tin hd hx (by omega) (by omega) (by rw [show (x - lo).toNat = 2 by omega]; rfl) e2 (k2 g)

theorem r_tsw4 {own name : String} {cc : ByteArray} {mL : Nat} {rt : Option FieldType} {d mc ms : Nat} {Q : Option Value → Nat → aH → Prop} {X : String → Nat → aH → Prop} {n : Nat} {h : aH} {pc : Nat} {lv : List (Nat × Value)} {st : List Value} {dflt lo hi o0 o1 o2 o3 : Int} {len : Nat} {x : Int} {td t0 t1 t2 t3 : Nat} (hd : decode cc pc = .ok (.tableswitch dflt lo hi #[o0, o1, o2, o3], len)) (hh : hi = lo + 3) (hx : inR x) (ed : (pc : Int) + dflt = td) (e0 : (pc : Int) + o0 = t0) (e1 : (pc : Int) + o1 = t1) (e2 : (pc : Int) + o2 = t2) (e3 : (pc : Int) + o3 = t3) (kd : x < lo ∨ hi < x → Ev own name cc mL rt d mc ms Q X n h td lv st) (k0 : x = lo + 0 → Ev own name cc mL rt d mc ms Q X n h t0 lv st) (k1 : x = lo + 1 → Ev own name cc mL rt d mc ms Q X n h t1 lv st) (k2 : x = lo + 2 → Ev own name cc mL rt d mc ms Q X n h t2 lv st) (k3 : x = lo + 3 → Ev own name cc mL rt d mc ms Q X n h t3 lv st) : Ev own name cc mL rt d mc ms Q X n h pc lv (iv x :: st) := by
  by_cases h1 : x < lo ∨ hi < x
  · exact r_tout hd hx h1 ed (kd h1)
  · rcases (show x = lo + 0 ∨ x = lo + 1 ∨ x = lo + 2 ∨ x = lo + 3 by omega) with g | g | g | g
    · exact r_tin hd hx (by omega) (by omega) (by rw [show (x - lo).toNat = 0 by omega]; rfl) e0 (k0 g)
    · exact r_tin hd hx (by omega) (by omega) (by rw [show (x - lo).toNat = 1 by omega]; rfl) e1 (k1 g)
    · exact r_tin hd hx (by omega) (by omega) (by rw [show (x - lo).toNat = 2 by omega]; rfl) e2 (k2 g)
    · exact r_tin hd hx (by omega) (by omega) (by rw [show (x - lo).toNat = 3 by omega]; rfl) e3 (k3 g)

theorem r_tsw6 {own name : String} {cc : ByteArray} {mL : Nat} {rt : Option FieldType} {d mc ms : Nat} {Q : Option Value → Nat → aH → Prop} {X : String → Nat → aH → Prop} {n : Nat} {h : aH} {pc : Nat} {lv : List (Nat × Value)} {st : List Value} {dflt lo hi o0 o1 o2 o3 o4 o5 : Int} {len : Nat} {x : Int} {td t0 t1 t2 t3 t4 t5 : Nat} (hd : decode cc pc = .ok (.tableswitch dflt lo hi #[o0, o1, o2, o3, o4, o5], len)) (hh : hi = lo + 5) (hx : inR x) (ed : (pc : Int) + dflt = td) (e0 : (pc : Int) + o0 = t0) (e1 : (pc : Int) + o1 = t1) (e2 : (pc : Int) + o2 = t2) (e3 : (pc : Int) + o3 = t3) (e4 : (pc : Int) + o4 = t4) (e5 : (pc : Int) + o5 = t5) (kd : x < lo ∨ hi < x → Ev own name cc mL rt d mc ms Q X n h td lv st) (k0 : x = lo + 0 → Ev own name cc mL rt d mc ms Q X n h t0 lv st) (k1 : x = lo + 1 → Ev own name cc mL rt d mc ms Q X n h t1 lv st) (k2 : x = lo + 2 → Ev own name cc mL rt d mc ms Q X n h t2 lv st) (k3 : x = lo + 3 → Ev own name cc mL rt d mc ms Q X n h t3 lv st) (k4 : x = lo + 4 → Ev own name cc mL rt d mc ms Q X n h t4 lv st) (k5 : x = lo + 5 → Ev own name cc mL rt d mc ms Q X n h t5 lv st) : Ev own name cc mL rt d mc ms Q X n h pc lv (iv x :: st) := by
  by_cases h1 : x < lo ∨ hi < x
  · exact r_tout hd hx h1 ed (kd h1)
  · rcases (show x = lo + 0 ∨ x = lo + 1 ∨ x = lo + 2 ∨ x = lo + 3 ∨ x = lo + 4 ∨ x = lo + 5 by omega) with g | g | g | g | g | g
    · exact r_tin hd hx (by omega) (by omega) (by rw [show (x - lo).toNat = 0 by omega]; rfl) e0 (k0 g)
    · exact r_tin hd hx (by omega) (by omega) (by rw [show (x - lo).toNat = 1 by omega]; rfl) e1 (k1 g)
    · exact r_tin hd hx (by omega) (by omega) (by rw [show (x - lo).toNat = 2 by omega]; rfl) e2 (k2 g)
    · exact r_tin hd hx (by omega) (by omega) (by rw [show (x - lo).toNat = 3 by omega]; rfl) e3 (k3 g)
    · exact r_tin hd hx (by omega) (by omega) (by rw [show (x - lo).toNat = 4 by omega]; rfl) e4 (k4 g)
    · exact r_tin hd hx (by omega) (by omega) (by rw [show (x - lo).toNat = 5 by omega]; rfl) e5 (k5 g)

theorem r_tsw7 {own name : String} {cc : ByteArray} {mL : Nat} {rt : Option FieldType} {d mc ms : Nat} {Q : Option Value → Nat → aH → Prop} {X : String → Nat → aH → Prop} {n : Nat} {h : aH} {pc : Nat} {lv : List (Nat × Value)} {st : List Value} {dflt lo hi o0 o1 o2 o3 o4 o5 o6 : Int} {len : Nat} {x : Int} {td t0 t1 t2 t3 t4 t5 t6 : Nat} (hd : decode cc pc = .ok (.tableswitch dflt lo hi #[o0, o1, o2, o3, o4, o5, o6], len)) (hh : hi = lo + 6) (hx : inR x) (ed : (pc : Int) + dflt = td) (e0 : (pc : Int) + o0 = t0) (e1 : (pc : Int) + o1 = t1) (e2 : (pc : Int) + o2 = t2) (e3 : (pc : Int) + o3 = t3) (e4 : (pc : Int) + o4 = t4) (e5 : (pc : Int) + o5 = t5) (e6 : (pc : Int) + o6 = t6) (kd : x < lo ∨ hi < x → Ev own name cc mL rt d mc ms Q X n h td lv st) (k0 : x = lo + 0 → Ev own name cc mL rt d mc ms Q X n h t0 lv st) (k1 : x = lo + 1 → Ev own name cc mL rt d mc ms Q X n h t1 lv st) (k2 : x = lo + 2 → Ev own name cc mL rt d mc ms Q X n h t2 lv st) (k3 : x = lo + 3 → Ev own name cc mL rt d mc ms Q X n h t3 lv st) (k4 : x = lo + 4 → Ev own name cc mL rt d mc ms Q X n h t4 lv st) (k5 : x = lo + 5 → Ev own name cc mL rt d mc ms Q X n h t5 lv st) (k6 : x = lo + 6 → Ev own name cc mL rt d mc ms Q X n h t6 lv st) : Ev own name cc mL rt d mc ms Q X n h pc lv (iv x :: st) := by
  by_cases h1 : x < lo ∨ hi < x
  · exact r_tout hd hx h1 ed (kd h1)
  · rcases (show x = lo + 0 ∨ x = lo + 1 ∨ x = lo + 2 ∨ x = lo + 3 ∨ x = lo + 4 ∨ x = lo + 5 ∨ x = lo + 6 by omega) with g | g | g | g | g | g | g
    · exact r_tin hd hx (by omega) (by omega) (by rw [show (x - lo).toNat = 0 by omega]; rfl) e0 (k0 g)
    · exact r_tin hd hx (by omega) (by omega) (by rw [show (x - lo).toNat = 1 by omega]; rfl) e1 (k1 g)
    · exact r_tin hd hx (by omega) (by omega) (by rw [show (x - lo).toNat = 2 by omega]; rfl) e2 (k2 g)
    · exact r_tin hd hx (by omega) (by omega) (by rw [show (x - lo).toNat = 3 by omega]; rfl) e3 (k3 g)
    · exact r_tin hd hx (by omega) (by omega) (by rw [show (x - lo).toNat = 4 by omega]; rfl) e4 (k4 g)
    · exact r_tin hd hx (by omega) (by omega) (by rw [show (x - lo).toNat = 5 by omega]; rfl) e5 (k5 g)
    · exact r_tin hd hx (by omega) (by omega) (by rw [show (x - lo).toNat = 6 by omega]; rfl) e6 (k6 g)

theorem r_tsw22 {own name : String} {cc : ByteArray} {mL : Nat} {rt : Option FieldType} {d mc ms : Nat} {Q : Option Value → Nat → aH → Prop} {X : String → Nat → aH → Prop} {n : Nat} {h : aH} {pc : Nat} {lv : List (Nat × Value)} {st : List Value} {dflt lo hi o0 o1 o2 o3 o4 o5 o6 o7 o8 o9 o10 o11 o12 o13 o14 o15 o16 o17 o18 o19 o20 o21 : Int} {len : Nat} {x : Int} {td t0 t1 t2 t3 t4 t5 t6 t7 t8 t9 t10 t11 t12 t13 t14 t15 t16 t17 t18 t19 t20 t21 : Nat} (hd : decode cc pc = .ok (.tableswitch dflt lo hi #[o0, o1, o2, o3, o4, o5, o6, o7, o8, o9, o10, o11, o12, o13, o14, o15, o16, o17, o18, o19, o20, o21], len)) (hh : hi = lo + 21) (hx : inR x) (ed : (pc : Int) + dflt = td) (e0 : (pc : Int) + o0 = t0) (e1 : (pc : Int) + o1 = t1) (e2 : (pc : Int) + o2 = t2) (e3 : (pc : Int) + o3 = t3) (e4 : (pc : Int) + o4 = t4) (e5 : (pc : Int) + o5 = t5) (e6 : (pc : Int) + o6 = t6) (e7 : (pc : Int) + o7 = t7) (e8 : (pc : Int) + o8 = t8) (e9 : (pc : Int) + o9 = t9) (e10 : (pc : Int) + o10 = t10) (e11 : (pc : Int) + o11 = t11) (e12 : (pc : Int) + o12 = t12) (e13 : (pc : Int) + o13 = t13) (e14 : (pc : Int) + o14 = t14) (e15 : (pc : Int) + o15 = t15) (e16 : (pc : Int) + o16 = t16) (e17 : (pc : Int) + o17 = t17) (e18 : (pc : Int) + o18 = t18) (e19 : (pc : Int) + o19 = t19) (e20 : (pc : Int) + o20 = t20) (e21 : (pc : Int) + o21 = t21) (kd : x < lo ∨ hi < x → Ev own name cc mL rt d mc ms Q X n h td lv st) (k0 : x = lo + 0 → Ev own name cc mL rt d mc ms Q X n h t0 lv st) (k1 : x = lo + 1 → Ev own name cc mL rt d mc ms Q X n h t1 lv st) (k2 : x = lo + 2 → Ev own name cc mL rt d mc ms Q X n h t2 lv st) (k3 : x = lo + 3 → Ev own name cc mL rt d mc ms Q X n h t3 lv st) (k4 : x = lo + 4 → Ev own name cc mL rt d mc ms Q X n h t4 lv st) (k5 : x = lo + 5 → Ev own name cc mL rt d mc ms Q X n h t5 lv st) (k6 : x = lo + 6 → Ev own name cc mL rt d mc ms Q X n h t6 lv st) (k7 : x = lo + 7 → Ev own name cc mL rt d mc ms Q X n h t7 lv st) (k8 : x = lo + 8 → Ev own name cc mL rt d mc ms Q X n h t8 lv st) (k9 : x = lo + 9 → Ev own name cc mL rt d mc ms Q X n h t9 lv st) (k10 : x = lo + 10 → Ev own name cc mL rt d mc ms Q X n h t10 lv st) (k11 : x = lo + 11 → Ev own name cc mL rt d mc ms Q X n h t11 lv st) (k12 : x = lo + 12 → Ev own name cc mL rt d mc ms Q X n h t12 lv st) (k13 : x = lo + 13 → Ev own name cc mL rt d mc ms Q X n h t13 lv st) (k14 : x = lo + 14 → Ev own name cc mL rt d mc ms Q X n h t14 lv st) (k15 : x = lo + 15 → Ev own name cc mL rt d mc ms Q X n h t15 lv st) (k16 : x = lo + 16 → Ev own name cc mL rt d mc ms Q X n h t16 lv st) (k17 : x = lo + 17 → Ev own name cc mL rt d mc ms Q X n h t17 lv st) (k18 : x = lo + 18 → Ev own name cc mL rt d mc ms Q X n h t18 lv st) (k19 : x = lo + 19 → Ev own name cc mL rt d mc ms Q X n h t19 lv st) (k20 : x = lo + 20 → Ev own name cc mL rt d mc ms Q X n h t20 lv st) (k21 : x = lo + 21 → Ev own name cc mL rt d mc ms Q X n h t21 lv st) : Ev own name cc mL rt d mc ms Q X n h pc lv (iv x :: st) := by
  by_cases h1 : x < lo ∨ hi < x
  · exact r_tout hd hx h1 ed (kd h1)
  · rcases (show x = lo + 0 ∨ x = lo + 1 ∨ x = lo + 2 ∨ x = lo + 3 ∨ x = lo + 4 ∨ x = lo + 5 ∨ x = lo + 6 ∨ x = lo + 7 ∨ x = lo + 8 ∨ x = lo + 9 ∨ x = lo + 10 ∨ x = lo + 11 ∨ x = lo + 12 ∨ x = lo + 13 ∨ x = lo + 14 ∨ x = lo + 15 ∨ x = lo + 16 ∨ x = lo + 17 ∨ x = lo + 18 ∨ x = lo + 19 ∨ x = lo + 20 ∨ x = lo + 21 by omega) with g | g | g | g | g | g | g | g | g | g | g | g | g | g | g | g | g | g | g | g | g | g
    · exact r_tin hd hx (by omega) (by omega) (by rw [show (x - lo).toNat = 0 by omega]; rfl) e0 (k0 g)
    · exact r_tin hd hx (by omega) (by omega) (by rw [show (x - lo).toNat = 1 by omega]; rfl) e1 (k1 g)
    · exact r_tin hd hx (by omega) (by omega) (by rw [show (x - lo).toNat = 2 by omega]; rfl) e2 (k2 g)
    · exact r_tin hd hx (by omega) (by omega) (by rw [show (x - lo).toNat = 3 by omega]; rfl) e3 (k3 g)
    · exact r_tin hd hx (by omega) (by omega) (by rw [show (x - lo).toNat = 4 by omega]; rfl) e4 (k4 g)
    · exact r_tin hd hx (by omega) (by omega) (by rw [show (x - lo).toNat = 5 by omega]; rfl) e5 (k5 g)
    · exact r_tin hd hx (by omega) (by omega) (by rw [show (x - lo).toNat = 6 by omega]; rfl) e6 (k6 g)
    · exact r_tin hd hx (by omega) (by omega) (by rw [show (x - lo).toNat = 7 by omega]; rfl) e7 (k7 g)
    · exact r_tin hd hx (by omega) (by omega) (by rw [show (x - lo).toNat = 8 by omega]; rfl) e8 (k8 g)
    · exact r_tin hd hx (by omega) (by omega) (by rw [show (x - lo).toNat = 9 by omega]; rfl) e9 (k9 g)
    · exact r_tin hd hx (by omega) (by omega) (by rw [show (x - lo).toNat = 10 by omega]; rfl) e10 (k10 g)
    · exact r_tin hd hx (by omega) (by omega) (by rw [show (x - lo).toNat = 11 by omega]; rfl) e11 (k11 g)
    · exact r_tin hd hx (by omega) (by omega) (by rw [show (x - lo).toNat = 12 by omega]; rfl) e12 (k12 g)
    · exact r_tin hd hx (by omega) (by omega) (by rw [show (x - lo).toNat = 13 by omega]; rfl) e13 (k13 g)
    · exact r_tin hd hx (by omega) (by omega) (by rw [show (x - lo).toNat = 14 by omega]; rfl) e14 (k14 g)
    · exact r_tin hd hx (by omega) (by omega) (by rw [show (x - lo).toNat = 15 by omega]; rfl) e15 (k15 g)
    · exact r_tin hd hx (by omega) (by omega) (by rw [show (x - lo).toNat = 16 by omega]; rfl) e16 (k16 g)
    · exact r_tin hd hx (by omega) (by omega) (by rw [show (x - lo).toNat = 17 by omega]; rfl) e17 (k17 g)
    · exact r_tin hd hx (by omega) (by omega) (by rw [show (x - lo).toNat = 18 by omega]; rfl) e18 (k18 g)
    · exact r_tin hd hx (by omega) (by omega) (by rw [show (x - lo).toNat = 19 by omega]; rfl) e19 (k19 g)
    · exact r_tin hd hx (by omega) (by omega) (by rw [show (x - lo).toNat = 20 by omega]; rfl) e20 (k20 g)
    · exact r_tin hd hx (by omega) (by omega) (by rw [show (x - lo).toNat = 21 by omega]; rfl) e21 (k21 g)

theorem r_lk2 {own name : String} {cc : ByteArray} {mL : Nat} {rt : Option FieldType} {d mc ms : Nat} {Q : Option Value → Nat → aH → Prop} {X : String → Nat → aH → Prop} {n : Nat} {h : aH} {pc : Nat} {lv : List (Nat × Value)} {st : List Value} {dflt o0 o1 : Int} {len : Nat} {x : Int} {td t0 t1 : Nat} (hd : decode cc pc = .ok (.lookupswitch dflt #[(0, o0), (1, o1)], len)) (hh : True = True) (hx : inR x) (ed : (pc : Int) + dflt = td) (e0 : (pc : Int) + o0 = t0) (e1 : (pc : Int) + o1 = t1) (kd : ¬ x = 0 ∧ ¬ x = 1 → Ev own name cc mL rt d mc ms Q X n h td lv st) (k0 : x = 0 → Ev own name cc mL rt d mc ms Q X n h t0 lv st) (k1 : x = 1 → Ev own name cc mL rt d mc ms Q X n h t1 lv st) : Ev own name cc mL rt d mc ms Q X n h pc lv (iv x :: st) := by
  by_cases h0 : x = 0
  · subst h0
    exact r_lookup hd rfl hx (by simp [Op.lookupswitch.offset]) e0 (k0 rfl)
  · by_cases h1 : x = 1
    · subst h1
      exact r_lookup hd rfl hx (by simp [Op.lookupswitch.offset]) e1 (k1 rfl)
    · refine r_lookup hd rfl hx ?_ ed (kd ⟨h0, h1⟩)
      simp [Op.lookupswitch.offset, Ne.symm h0, Ne.symm h1]
