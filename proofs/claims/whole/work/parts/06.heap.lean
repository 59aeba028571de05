/-! ===== rows of the heap, the ends, the calls ===== -/
theorem wd_K {own name : String} {cc : ByteArray} {mL : Nat} {rt : Option FieldType} {p : Program} {l : Launch} {s : State} {m : MethodId} {args : Array Value} {meth : Method} {c : Code} {D : va_G} {tc : Nat → ClassId} {adK : Nat → Nat} {A : Nat → Prop} (fx : Fx own name cc mL rt p l s m args meth c D tc adK A) : va_K D vwCl (tyL tc) s := fx.2.2.2.2.2.2.2.2.2.2.1.1
/-- a field that own's entry idx names: field k of objects of class ci -/
def FL (own : String) (idx ci k : Nat) : Prop := ∃ (C : String) (T : u_T) (N : Nat), vwCl[ci]? = some (C, T, N) ∧ k < N ∧ (∀ w ∈ u_ws C T N, w ∈ Gw) ∧ Cond.fieldLink own idx (T k).1 (T k).2.1 (T k).2.2.1 ∈ Gw
theorem r_get {own name : String} {cc : ByteArray} {mL : Nat} {rt : Option FieldType} {d mc ms : Nat} {Q : Option Value → Nat → aH → Prop} {X : String → Nat → aH → Prop} {n : Nat} {h : aH} {pc : Nat} {lv : List (Nat × Value)} {st : List Value} {idx ci k a : Nat} {fs : List Value} {v : Value}
    (hd : decode cc pc = .ok (.getfield idx, 3)) (hf : FL own idx ci k) (hi : a < n) (hc : h a = .inr (ci, fs)) (hv : fs[k]? = some v) (kk : Ev own name cc mL rt d mc ms Q X n h (pc + 3) lv (v :: st)) : Ev own name cc mL rt d mc ms Q X n h pc lv (.ref a :: st) := by
  intro p l e R s m args below meth c D tc n0 ad0 ad adK A H locs cells slots MC MS ls fx rm wd hn he hl
  obtain ⟨C, T, N, h1, h2, h3, h4⟩ := hf
  refine va_get (D := D) (cl := vwCl) (tys := tyL tc) (C := C) (T := T) (N := N) (ref := (T k).1) (v := cV ad v) (fs := fs.map (cV ad)) fx.1 fx.2.1 fx.2.2.2.2.2.1 h3 fx.2.2.2.2.1 (wd_K fx) wd.1 a ?_ h1 k h2 (fx.2.2.2.2.2.1 _ h4) (fun _ h9 => h9) ?_ hd (kk p l e R s m args below meth c D tc n0 ad0 ad adK A H locs cells slots MC MS ls fx rm wd hn he hl)
  · rw [cW_get hi, hc]; rfl
  · rw [List.getElem?_map, hv]; rfl
def FP (own : String) (idx ci k : Nat) (ty : FieldType) : Prop := ∃ (C : String) (T : u_T) (N : Nat) (ty0 : Nat → FieldType), vwCl[ci]? = some (C, T, N) ∧ k < N ∧ (∀ w ∈ u_ws C T N, w ∈ Gw) ∧ Cond.fieldLink own idx (T k).1 (T k).2.1 (T k).2.2.1 ∈ Gw ∧ (T k).2.2.2 = false ∧ parseFieldDescriptor (T k).2.2.1 = some ty ∧ (∀ k, k < N → parseFieldDescriptor (T k).2.2.1 = some (ty0 k)) ∧ ∀ a, a < N → ∀ b, b < N → a ≠ b → (T a).2.1 ≠ (T b).2.1
theorem r_put {own name : String} {cc : ByteArray} {mL : Nat} {rt : Option FieldType} {d mc ms : Nat} {Q : Option Value → Nat → aH → Prop} {X : String → Nat → aH → Prop} {n : Nat} {h : aH} {pc : Nat} {lv : List (Nat × Value)} {st : List Value} {idx ci k a : Nat} {fs fs2 : List Value} {v : Value} {ty : FieldType}
    (hd : decode cc pc = .ok (.putfield idx, 3)) (hf : FP own idx ci k ty) (hi : a < n) (hc : h a = .inr (ci, fs)) (hnar : ∀ ad : Nat → Nat, narrow ty (cV ad v) = cV ad v ∧ fits ty (cV ad v) = true) (hlen : k < fs.length) (hs : fs.set k v = fs2) (kk : Ev own name cc mL rt d mc ms Q X n (va_up h a (.inr (ci, fs2))) (pc + 3) lv st) : Ev own name cc mL rt d mc ms Q X n h pc lv (v :: .ref a :: st) := by
  intro p l e R s m args below meth c D tc n0 ad0 ad adK A H locs cells slots MC MS ls fx rm wd hn he hl
  obtain ⟨C, T, N, ty0, h1, h2, h3, h4, h5, h6, h7, h8⟩ := hf
  subst hs
  refine va_put (D := D) (cl := vwCl) (tys := tyL tc) (C := C) (T := T) (N := N) (ref := (T k).1) (fs := fs.map (cV ad)) fx.1 fx.2.1 fx.2.2.2.2.2.1 h3 ty0 h7 h8 fx.2.2.2.2.1 (wd_K fx) wd.1 wd.2.1 wd.2.2.1 a ?_ h1 k h2 (fx.2.2.2.2.2.1 _ h4) (fun _ h9 => h9) h5 h6 (hnar ad).1 (hnar ad).2 (by rw [List.length_map]; exact hlen) hd (fun H1 locs1 hP hD hS => kk p l e R s m args below meth c D tc n0 ad0 ad adK A H1 locs1 cells slots MC MS ls fx rm ⟨?_, ?_, hS, wd.2.2.2⟩ hn he hl)
  · rw [cW_get hi, hc]; rfl
  · have e1 : (Sum.inr (ci, (fs.map (cV ad)).set k (cV ad v)) : va_E) = cE ad tc (.inr (ci, fs.set k v)) := by simp [cE, List.map_set]
    rw [e1, cW_set] at hP
    exact hP
  · have e1 : (Sum.inr (ci, (fs.map (cV ad)).set k (cV ad v)) : va_E) = cE ad tc (.inr (ci, fs.set k v)) := by simp [cE, List.map_set]
    rw [e1, cW_set] at hD
    exact hD
theorem nar_int (z : Int) (ad : Nat → Nat) : narrow .int (cV ad (iv z)) = cV ad (iv z) ∧ fits .int (cV ad (iv z)) = true := ⟨rfl, rfl⟩
/-- an array's element -/
theorem r_ald {own name : String} {cc : ByteArray} {mL : Nat} {rt : Option FieldType} {d mc ms : Nat} {Q : Option Value → Nat → aH → Prop} {X : String → Nat → aH → Prop} {n : Nat} {h : aH} {pc : Nat} {lv : List (Nat × Value)} {st : List Value} {a N : Nat} {f : Nat → Int} {z : Int}
    (hd : decode cc pc = .ok (.iaload, 1)) (hi : a < n) (hc : h a = .inl (0, N, f)) (h0 : 0 ≤ z) (h1 : z < N) (hN : N < 2147483648) (kk : Ev own name cc mL rt d mc ms Q X n h (pc + 1) lv (iv (f z.toNat) :: st)) : Ev own name cc mL rt d mc ms Q X n h pc lv (iv z :: .ref a :: st) := by
  intro p l e R s m args below meth c D tc n0 ad0 ad adK A H locs cells slots MC MS ls fx rm wd hn he hl
  have k1 := kk p l e R s m args below meth c D tc n0 ad0 ad adK A H locs cells slots MC MS ls fx rm wd hn he hl
  refine va_iald (D := D) (cl := vwCl) (tys := tyL tc) (cA := tc 0) (n := N) (f := fun j => Int32.ofInt (f j)) fx.1 fx.2.1 (wd_K fx) wd.1 a 0 ?_ rfl (tIn h0 h1 hN) hd ?_
  · rw [cW_get hi, hc]; rfl
  · rw [tCl h0 (by omega)]; exact k1
theorem r_bald {own name : String} {cc : ByteArray} {mL : Nat} {rt : Option FieldType} {d mc ms : Nat} {Q : Option Value → Nat → aH → Prop} {X : String → Nat → aH → Prop} {n : Nat} {h : aH} {pc : Nat} {lv : List (Nat × Value)} {st : List Value} {a N : Nat} {f : Nat → Int} {z : Int}
    (hd : decode cc pc = .ok (.baload, 1)) (hi : a < n) (hc : h a = .inl (1, N, f)) (h0 : 0 ≤ z) (h1 : z < N) (hN : N < 2147483648) (kk : Ev own name cc mL rt d mc ms Q X n h (pc + 1) lv (iv (f z.toNat) :: st)) : Ev own name cc mL rt d mc ms Q X n h pc lv (iv z :: .ref a :: st) := by
  intro p l e R s m args below meth c D tc n0 ad0 ad adK A H locs cells slots MC MS ls fx rm wd hn he hl
  have k1 := kk p l e R s m args below meth c D tc n0 ad0 ad adK A H locs cells slots MC MS ls fx rm wd hn he hl
  refine va_bald (D := D) (cl := vwCl) (tys := tyL tc) (cA := tc 1) (n := N) (f := fun j => Int32.ofInt (f j)) fx.1 fx.2.1 (wd_K fx) wd.1 a 1 ?_ rfl (tIn h0 h1 hN) hd ?_
  · rw [cW_get hi, hc]; rfl
  · rw [tCl h0 (by omega)]; exact k1
theorem r_zald {own name : String} {cc : ByteArray} {mL : Nat} {rt : Option FieldType} {d mc ms : Nat} {Q : Option Value → Nat → aH → Prop} {X : String → Nat → aH → Prop} {n : Nat} {h : aH} {pc : Nat} {lv : List (Nat × Value)} {st : List Value} {a N : Nat} {f : Nat → Int} {z : Int}
    (hd : decode cc pc = .ok (.baload, 1)) (hi : a < n) (hc : h a = .inl (2, N, f)) (h0 : 0 ≤ z) (h1 : z < N) (hN : N < 2147483648) (kk : Ev own name cc mL rt d mc ms Q X n h (pc + 1) lv (iv (f z.toNat) :: st)) : Ev own name cc mL rt d mc ms Q X n h pc lv (iv z :: .ref a :: st) := by
  intro p l e R s m args below meth c D tc n0 ad0 ad adK A H locs cells slots MC MS ls fx rm wd hn he hl
  have k1 := kk p l e R s m args below meth c D tc n0 ad0 ad adK A H locs cells slots MC MS ls fx rm wd hn he hl
  refine va_zald (D := D) (cl := vwCl) (tys := tyL tc) (cA := tc 2) (n := N) (f := fun j => Int32.ofInt (f j)) fx.1 fx.2.1 (wd_K fx) wd.1 a 2 ?_ rfl (tIn h0 h1 hN) hd ?_
  · rw [cW_get hi, hc]; rfl
  · rw [tCl h0 (by omega)]; exact k1
theorem upd_ofInt (f : Nat → Int) (i : Nat) (x : Int) : upd (fun j => Int32.ofInt (f j)) i (Int32.ofInt x) = fun j => Int32.ofInt (va_up f i x j) := by
  funext j
  by_cases hj : j = i
  · simp [upd, va_up, hj]
  · simp [upd, va_up, hj]
theorem r_ast {own name : String} {cc : ByteArray} {mL : Nat} {rt : Option FieldType} {d mc ms : Nat} {Q : Option Value → Nat → aH → Prop} {X : String → Nat → aH → Prop} {n : Nat} {h : aH} {pc : Nat} {lv : List (Nat × Value)} {st : List Value} {a N : Nat} {f : Nat → Int} {z x : Int}
    (hd : decode cc pc = .ok (.iastore, 1)) (hi : a < n) (hc : h a = .inl (0, N, f)) (h0 : 0 ≤ z) (h1 : z < N) (hN : N < 2147483648) (kk : Ev own name cc mL rt d mc ms Q X n (va_up h a (.inl (0, N, va_up f z.toNat x))) (pc + 1) lv st) : Ev own name cc mL rt d mc ms Q X n h pc lv (iv x :: iv z :: .ref a :: st) := by
  intro p l e R s m args below meth c D tc n0 ad0 ad adK A H locs cells slots MC MS ls fx rm wd hn he hl
  refine va_iast (D := D) (cl := vwCl) (tys := tyL tc) (cA := tc 0) (n := N) (f := fun j => Int32.ofInt (f j)) fx.1 fx.2.1 (wd_K fx) wd.1 wd.2.1 wd.2.2.1 a 0 ?_ rfl (tIn h0 h1 hN) hd (fun H1 locs1 hP hD hS => kk p l e R s m args below meth c D tc n0 ad0 ad adK A H1 locs1 cells slots MC MS ls fx rm ⟨?_, ?_, hS, wd.2.2.2⟩ hn he hl)
  · rw [cW_get hi, hc]; rfl
  · rw [tCl h0 (by omega), upd_ofInt, show (Sum.inl (tc 0, N, Sum.inl fun j => Int32.ofInt (va_up f z.toNat x j)) : va_E) = cE ad tc (.inl (0, N, va_up f z.toNat x)) from rfl, cW_set] at hP
    exact hP
  · rw [tCl h0 (by omega), upd_ofInt, show (Sum.inl (tc 0, N, Sum.inl fun j => Int32.ofInt (va_up f z.toNat x j)) : va_E) = cE ad tc (.inl (0, N, va_up f z.toNat x)) from rfl, cW_set] at hD
    exact hD
theorem r_bast {own name : String} {cc : ByteArray} {mL : Nat} {rt : Option FieldType} {d mc ms : Nat} {Q : Option Value → Nat → aH → Prop} {X : String → Nat → aH → Prop} {n : Nat} {h : aH} {pc : Nat} {lv : List (Nat × Value)} {st : List Value} {a N : Nat} {f : Nat → Int} {z x : Int}
    (hd : decode cc pc = .ok (.bastore, 1)) (hi : a < n) (hc : h a = .inl (1, N, f)) (h0 : 0 ≤ z) (h1 : z < N) (hN : N < 2147483648) (hx : vp_nar .byte (Int32.ofInt x) = Int32.ofInt x) (kk : Ev own name cc mL rt d mc ms Q X n (va_up h a (.inl (1, N, va_up f z.toNat x))) (pc + 1) lv st) : Ev own name cc mL rt d mc ms Q X n h pc lv (iv x :: iv z :: .ref a :: st) := by
  intro p l e R s m args below meth c D tc n0 ad0 ad adK A H locs cells slots MC MS ls fx rm wd hn he hl
  refine va_bast (D := D) (cl := vwCl) (tys := tyL tc) (cA := tc 1) (n := N) (f := fun j => Int32.ofInt (f j)) fx.1 fx.2.1 (wd_K fx) wd.1 wd.2.1 wd.2.2.1 a 1 ?_ rfl (tIn h0 h1 hN) hd (fun H1 locs1 hP hD hS => kk p l e R s m args below meth c D tc n0 ad0 ad adK A H1 locs1 cells slots MC MS ls fx rm ⟨?_, ?_, hS, wd.2.2.2⟩ hn he hl)
  · rw [cW_get hi, hc]; rfl
  · rw [tCl h0 (by omega), hx, upd_ofInt, show (Sum.inl (tc 1, N, Sum.inl fun j => Int32.ofInt (va_up f z.toNat x j)) : va_E) = cE ad tc (.inl (1, N, va_up f z.toNat x)) from rfl, cW_set] at hP
    exact hP
  · rw [tCl h0 (by omega), hx, upd_ofInt, show (Sum.inl (tc 1, N, Sum.inl fun j => Int32.ofInt (va_up f z.toNat x j)) : va_E) = cE ad tc (.inl (1, N, va_up f z.toNat x)) from rfl, cW_set] at hD
    exact hD
theorem r_zast {own name : String} {cc : ByteArray} {mL : Nat} {rt : Option FieldType} {d mc ms : Nat} {Q : Option Value → Nat → aH → Prop} {X : String → Nat → aH → Prop} {n : Nat} {h : aH} {pc : Nat} {lv : List (Nat × Value)} {st : List Value} {a N : Nat} {f : Nat → Int} {z x : Int}
    (hd : decode cc pc = .ok (.bastore, 1)) (hi : a < n) (hc : h a = .inl (2, N, f)) (h0 : 0 ≤ z) (h1 : z < N) (hN : N < 2147483648) (hx : x = 0 ∨ x = 1) (kk : Ev own name cc mL rt d mc ms Q X n (va_up h a (.inl (2, N, va_up f z.toNat x))) (pc + 1) lv st) : Ev own name cc mL rt d mc ms Q X n h pc lv (iv x :: iv z :: .ref a :: st) := by
  intro p l e R s m args below meth c D tc n0 ad0 ad adK A H locs cells slots MC MS ls fx rm wd hn he hl
  have hx : vp_nar .boolean (Int32.ofInt x) = Int32.ofInt x := by rcases hx with rfl | rfl <;> decide
  refine va_zast (D := D) (cl := vwCl) (tys := tyL tc) (cA := tc 2) (n := N) (f := fun j => Int32.ofInt (f j)) fx.1 fx.2.1 (wd_K fx) wd.1 wd.2.1 wd.2.2.1 a 2 ?_ rfl (tIn h0 h1 hN) hd (fun H1 locs1 hP hD hS => kk p l e R s m args below meth c D tc n0 ad0 ad adK A H1 locs1 cells slots MC MS ls fx rm ⟨?_, ?_, hS, wd.2.2.2⟩ hn he hl)
  · rw [cW_get hi, hc]; rfl
  · rw [tCl h0 (by omega), hx, upd_ofInt, show (Sum.inl (tc 2, N, Sum.inl fun j => Int32.ofInt (va_up f z.toNat x j)) : va_E) = cE ad tc (.inl (2, N, va_up f z.toNat x)) from rfl, cW_set] at hP
    exact hP
  · rw [tCl h0 (by omega), hx, upd_ofInt, show (Sum.inl (tc 2, N, Sum.inl fun j => Int32.ofInt (va_up f z.toNat x j)) : va_E) = cE ad tc (.inl (2, N, va_up f z.toNat x)) from rfl, cW_set] at hD
    exact hD
theorem ofInt_nat (N : Nat) : Int32.ofNat N = Int32.ofInt (N : Int) := by
  apply Int32.toBitVec_inj.mp
  simp [Int32.ofNat, Int32.ofInt]
theorem r_alen {own name : String} {cc : ByteArray} {mL : Nat} {rt : Option FieldType} {d mc ms : Nat} {Q : Option Value → Nat → aH → Prop} {X : String → Nat → aH → Prop} {n : Nat} {h : aH} {pc : Nat} {lv : List (Nat × Value)} {st : List Value} {a t N : Nat} {f : Nat → Int}
    (hd : decode cc pc = .ok (.arraylength, 1)) (hi : a < n) (hc : h a = .inl (t, N, f)) (ht : t < 4) (kk : Ev own name cc mL rt d mc ms Q X n h (pc + 1) lv (iv N :: st)) : Ev own name cc mL rt d mc ms Q X n h pc lv (.ref a :: st) := by
  intro p l e R s m args below meth c D tc n0 ad0 ad adK A H locs cells slots MC MS ls fx rm wd hn he hl
  have k1 := kk p l e R s m args below meth c D tc n0 ad0 ad adK A H locs cells slots MC MS ls fx rm wd hn he hl
  have hw : (cW ad tc n h)[a]? = some (ad a, .inl (tc t, N, cF t f)) := by rw [cW_get hi, hc]; rfl
  have hty : ∃ ty, (tyL tc)[t]? = some (tc t, ty) := by
    rcases (show t = 0 ∨ t = 1 ∨ t = 2 ∨ t = 3 by omega) with rfl | rfl | rfl | rfl <;> exact ⟨_, rfl⟩
  obtain ⟨ty, hty⟩ := hty
  exact va_alen (D := D) (cl := vwCl) (tys := tyL tc) fx.1 fx.2.1 (wd_K fx) wd.1 a t hw hty (v := Int32.ofInt N) (ofInt_nat N) hd k1
/-! the ends -/
section
variable {own name : String} {cc : ByteArray} {mL : Nat} {rt : Option FieldType} {d mc ms : Nat} {Q : Option Value → Nat → aH → Prop} {X : String → Nat → aH → Prop} {n : Nat} {h : aH} {pc : Nat} {lv : List (Nat × Value)} {st : List Value}
theorem r_iret {z : Int} (hd : decode cc pc = .ok (.ireturn, 1)) (q : Q (some (iv z)) n h) : Ev own name cc mL (some .int) d mc ms Q X n h pc lv [iv z] := by
  intro p l e R s m args below meth c D tc n0 ad0 ad adK A H locs cells slots MC MS ls fx rm wd hn he hl
  refine vx_ret (W.widen (k := MC) (n := MS) (Nat.le_trans (Nat.le_add_right _ _) rm.2.2.2.2.1) (Nat.le_trans (Nat.le_add_right _ _) rm.2.2.2.2.2) ?_)
  exact W.iret fx.1 fx.2.1 fx.2.2.1 (fun t ht hW => ⟨⟨some (iv z), n, h, ad, rfl, q, hn, he, (wd.end ht).1⟩, (wd.end ht).2⟩) wd.2.2.1.2.2 hd fx.2.2.2.2.2.2.1
theorem r_zret {z : Int} {ty : FieldType} (hd : decode cc pc = .ok (.ireturn, 1)) (hz : narrow ty (iv z) = iv z) (q : Q (some (iv z)) n h) : Ev own name cc mL (some ty) d mc ms Q X n h pc lv [iv z] := by
  intro p l e R s m args below meth c D tc n0 ad0 ad adK A H locs cells slots MC MS ls fx rm wd hn he hl
  refine vx_ret (W.widen (k := MC) (n := MS) (Nat.le_trans (Nat.le_add_right _ _) rm.2.2.2.2.1) (Nat.le_trans (Nat.le_add_right _ _) rm.2.2.2.2.2) ?_)
  exact W.zret fx.1 fx.2.1 fx.2.2.1 hz (fun t ht hW => ⟨⟨some (iv z), n, h, ad, rfl, q, hn, he, (wd.end ht).1⟩, (wd.end ht).2⟩) wd.2.2.1.2.2 hd fx.2.2.2.2.2.2.1
theorem nar_z {z : Int} (hz : z = 0 ∨ z = 1) : narrow .boolean (iv z) = iv z := by rcases hz with rfl | rfl <;> rfl
theorem r_vret (hd : decode cc pc = .ok (.return_, 1)) (q : Q none n h) : Ev own name cc mL none d mc ms Q X n h pc lv [] := by
  intro p l e R s m args below meth c D tc n0 ad0 ad adK A H locs cells slots MC MS ls fx rm wd hn he hl
  refine vx_ret (W.widen (k := MC) (n := MS) (Nat.le_trans (Nat.le_add_right _ _) rm.2.2.2.2.1) (Nat.le_trans (Nat.le_add_right _ _) rm.2.2.2.2.2) ?_)
  exact W.vret fx.1 fx.2.1 fx.2.2.1 (fun t ht hW => ⟨⟨none, n, h, ad, rfl, q, hn, he, (wd.end ht).1⟩, (wd.end ht).2⟩) wd.2.2.1.2.2 hd fx.2.2.2.2.2.2.1
/-- fewer locals -/
theorem r_lv {lv2 : List (Nat × Value)} (hs : lv2.map (fun q => lg q.1 lv) = lv2.map (fun q => some q.2)) (k : Ev own name cc mL rt d mc ms Q X n h pc lv2 st) : Ev own name cc mL rt d mc ms Q X n h pc lv st := by
  intro p l e R s m args below meth c D tc n0 ad0 ad adK A H locs cells slots MC MS ls fx rm wd hn he hl
  refine k p l e R s m args below meth c D tc n0 ad0 ad adK A H locs cells slots MC MS ls fx rm wd hn he ⟨hl.1, hl.2.1, fun q hq => ?_⟩
  obtain ⟨z, hz, rfl⟩ := List.mem_map.mp hq
  obtain ⟨j, hj⟩ := List.mem_iff_getElem?.mp hz
  have h1 := congrArg (fun L => L[j]?) hs
  simp only [List.getElem?_map, hj, Option.map_some, Option.some.injEq] at h1
  exact lg_at hl h1
/-! the calls -/
def CS (own : String) (idx : Nat) (y : MethodName) (cc : ByteArray) (mL : Nat) (rt : Option FieldType) (np : Nat) : Prop := Cond.methodLink own idx y ∈ Gw ∧ Cond.code y cc mL rt ∈ Gw ∧ Cond.initialized y.cls ∈ Gw ∧ (y.cls ≠ "java/lang/invoke/MethodHandle" ∧ y.cls ≠ "java/lang/invoke/VarHandle" ∧ (parseMethodDescriptor y.desc).map (fun d => d.parameters.length) = some np) ∧ mL ≤ 41
theorem Gw_in {y : MethodName} {cc : ByteArray} {mL : Nat} {rt : Option FieldType} (hc : Cond.code y cc mL rt ∈ Gw) : GoodIn Gw (wsO y cc mL rt) := by
  intro w hw
  have h1 : w ∈ Gw := by
    rcases List.mem_cons.mp hw with h | h
    · rw [h]; exact hc
    · exact h
  exact ⟨h1, good_of_word (List.mem_filter.mp h1).2⟩
theorem CS.callB {idx : Nat} {y : MethodName} {c1 : ByteArray} {m1 : Nat} {r1 : Option FieldType} {np d1 mc1 ms1 : Nat} {p : Program} {l : Launch} {s : State} {m : MethodId} {args : Array Value} {meth : Method} {c : Code} {D : va_G} {tc : Nat → ClassId} {adK : Nat → Nat} {A : Nat → Prop} {R : Room} {cells slots MC MS : Nat}
    (hcs : CS own idx y c1 m1 r1 np) (fx : Fx own name cc mL rt p l s m args meth c D tc adK A) (rm : Rm d mc ms R cells slots MC MS) (hd1 : d1 + 1 ≤ d) : CallB R s args own idx y c1 m1 r1 (wsO y c1 m1 r1) (rmO d1 mc1 ms1) mc1 ms1 np :=
  callB_of np fx.2.2.2.2.2.1 (Gw_in hcs.2.1) rfl rfl rfl (fx.2.2.2.2.2.1 _ hcs.2.2.1) (fx.2.2.2.2.2.1 _ hcs.1) hcs.2.2.2.1 ⟨by have h1 := rm.1; show d1 + 1 ≤ R.frames; omega, by
    have h1 := rm.2.1
    have h2 := hcs.2.2.2.2
    show 8 + (m1 + 11) + 60 * d1 ≤ R.locals
    omega⟩
theorem sp_at {p : Program} {l : Launch} {s : State} {m : MethodId} {args : Array Value} {meth : Method} {c : Code} {D : va_G} {tc : Nat → ClassId} {ad adK : Nat → Nat} {A : Nat → Prop} {H : Heap} {locs : List Loc} (av : List Value)
    (fx : Fx own name cc mL rt p l s m args meth c D tc adK A) (wd : Wd D tc ad adK A s n h H locs) : (∀ q, va_A (cW ad tc n h) H.size q → A q) ∧ ∀ U : State, U.heap = H → s.WarmedH U.vm → SP av n h D tc ad adK H.size (av.map (cV ad)).toArray U := by
  obtain ⟨hP, hD, hS, hk⟩ := wd
  have hAA : ∀ q, va_A (cW ad tc n h) H.size q → A q := by
    intro q hq
    rcases hq with ⟨k, e, hke⟩ | hq
    · exact hD.2 k _ hke
    · exact fx.2.2.2.2.2.2.2.2.2.2.2 q (Nat.le_trans hS.1 hq)
  refine ⟨hAA, fun U hU hW => ⟨rfl, by rw [hU], fx.2.2.2.2.2.2.2.2.2.2.1.pass hW (fun a h1 h2 => by rw [hU]; exact hS.2.1 a h1 h2) hAA, by rw [hU]; exact hP, hD.self, hk⟩⟩
/-- behind a call that makes nothing new -/
theorem ev_call {p : Program} {l : Launch} {e : Env} {R : Room} {s : State} {m : MethodId} {args : Array Value} {below : List Frame} {meth : Method} {c : Code} {D : va_G} {tc : Nat → ClassId} {n0 : Nat} {ad0 ad adK : Nat → Nat} {A : Nat → Prop} {H : Heap} {locs : List Loc} {cells slots MC MS : Nat} {ls : Array Slot} {st0 : List Value} {mc1 ms1 : Nat} {Q1 : Option Value → Nat → aH → Prop} {X1 : String → Nat → aH → Prop} {a : Array Value}
    (fx : Fx own name cc mL rt p l s m args meth c D tc adK A) (rm : Rm d mc ms R cells slots MC MS) (wd : Wd D tc ad adK A s n h H locs) (hn : n0 ≤ n) (he : ext n0 n ad0 ad) (hl : lv_has ls mL (lv.map (fun q => (q.1, cV ad q.2))))
    (hr : vx_Run p l e R s m args below meth c H locs cells slots mc1 ms1 (F0 m pc ls st0) (st.map (cV ad)) (SQ Q1 n D tc ad adK (va_A (cW ad tc n h) H.size) a) (SX X1 n D tc ad adK (va_A (cW ad tc n h) H.size)) (va_A (cW ad tc n h) H.size))
    (hmc : mc1 ≤ mc) (hms : ms1 ≤ ms) (hAA : ∀ q, va_A (cW ad tc n h) H.size q → A q)
    (kk : ∀ v n2 h2, Q1 v n2 h2 → n2 = n ∧ Ev own name cc mL rt d (mc - mc1) (ms - ms1) Q X n h2 (pc + 3) lv (v.toList ++ st)) (kx : ∀ E n2 h2, X1 E n2 h2 → n2 = n ∧ X E n h2) :
    W p l e R s m args below meth c H locs cells slots (vx_MQ below (SQ Q n0 D tc ad0 adK A) (SX X n0 D tc ad0 adK A) args s MC MS A) (F0 m pc ls st0) := by
  intro T hT XX
  have rm2 : Rm d (mc - mc1) (ms - ms1) R (cells + mc1) (slots + ms1) MC MS := ⟨rm.1, rm.2.1, by have := rm.2.2.1; omega, by have := rm.2.2.2.1; omega, by have := rm.2.2.2.2.1; omega, by have := rm.2.2.2.2.2; omega⟩
  rcases hr T hT XX with ⟨v, st₀, t, T', L, h0, X', hL, e1, e2, ⟨⟨v2, n2, h2, ad2, hv, hq, hn2, hx2, hP2, hD2, hk2⟩, hF⟩, stp⟩ | ⟨q, st₀, t, T', L, E, ce, h0, X', hL, e1, e2, ⟨⟨n2, h2, ad2, hq, hn2, hx2, hP2, hD2, hk2⟩, hF⟩, hce, hcv, hcl, stp⟩
  · obtain ⟨rfl, kk2⟩ := kk v2 n2 h2 hq
    obtain rfl := hx2.1 rfl
    obtain ⟨-, -, hS2⟩ := vx_keep h0 e1 wd.2.2.1 (fun q _ h => hAA q h) hAA hL hF
    cases hv
    obtain ⟨t2, a1, b1⟩ := kk2 p l e R s m args below meth c D tc n0 ad0 ad2 adK A T'.heap (locs ++ L) (cells + mc1) (slots + ms1) MC MS ls fx rm2 ⟨by rw [e1]; exact hP2, hD2.weaken (fun _ _ _ hz => hAA _ hz), hS2, hk2⟩ hn he hl T' rfl X'
    refine ⟨t2, stp t2 ?_, b1⟩
    cases v2 with
    | none => exact a1
    | some w => exact a1
  · obtain ⟨rfl, kx2⟩ := kx E n2 h2 hq
    obtain rfl := hx2.1 rfl
    obtain ⟨-, -, hS2⟩ := vx_keep h0 e1 wd.2.2.1 (fun q _ h => hAA q h) hAA hL hF
    have w2 : Wd D tc ad2 adK A s n2 h2 T'.heap (locs ++ L) := ⟨by rw [e1]; exact hP2, hD2.weaken (fun _ _ _ hz => hAA _ hz), hS2, hk2⟩
    have hout := vx_out (p := p) (l := l) (e := e) (R := R) (s := s) (m := m) (args := args) (below := below) (meth := meth) (c := c) (H := T'.heap) (locs := locs ++ L) (cells := cells + mc1) (slots := slots + ms1) (ls := ls) (rest := st.map (cV ad2)) (pc := pc) (E := E) (ce := ce) (q := q) (mc := MC) (ms := MS) (free := A) (Qc := SQ Q n0 D tc ad0 adK A) (XC := SX X n0 D tc ad0 adK A) (fun x hx => absurd (fx.2.2.2.2.2.2.2.2.2.1 x hx) id) fx.2.2.2.2.2.2.1 (by rw [e1]; exact hce) hcv hcl
      (fun t9 ht9 _ => ⟨⟨n2, h2, ad2, kx2, hn, he, (w2.end ht9).1⟩, (w2.end ht9).2⟩) hS2.2.2 (by have := rm2.2.2.2.2.1; omega) (by have := rm2.2.2.2.2.2; omega) T' rfl X'
    obtain ⟨t2, a1, b1⟩ := hout
    exact ⟨t2, stp.trans a1, b1⟩
end
