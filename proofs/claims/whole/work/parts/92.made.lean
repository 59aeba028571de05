/-! ===== bodies that make objects, that catch, that read the script: the judgement with a premise of its own ===== -/
abbrev ZT : Type := State → Array Value → Code → (Nat → Nat) → (Nat → Prop) → Prop
def FxG (Z : ZT) (own name : String) (cc : ByteArray) (mL : Nat) (rt : Option FieldType) (p : Program) (l : Launch) (s : State) (m : MethodId) (args : Array Value) (meth : Method) (c : Code) (D : va_G) (tc : Nat → ClassId) (adK : Nat → Nat) (A : Nat → Prop) : Prop :=
  p.tables.exec = Jvm.exec ∧ c.code = cc ∧ meth.sig.returnType = rt ∧ c.maxLocals = mL ∧ s.vm.findClass own = some m.cls ∧ (∀ w ∈ Gw, w.before args s = true) ∧ meth.locks = false ∧ meth.name = name ∧ l.stackTraces = false ∧ Z s args c adK A ∧ Ent D tc adK A s ∧ ∀ q : Nat, s.heap.size ≤ q → A q
/-- the judgement Ev, but for the premise Z where Ev has: no table -/
def EvG (Z : ZT) (own name : String) (cc : ByteArray) (mL : Nat) (rt : Option FieldType) (d mc ms : Nat) (Q : Option Value → Nat → aH → Prop) (X : String → Nat → aH → Prop) (n : Nat) (h : aH) (pc : Nat) (lv : List (Nat × Value)) (st : List Value) : Prop :=
  ∀ (p : Program) (l : Launch) (e : Env) (R : Room) (s : State) (m : MethodId) (args : Array Value) (below : List Frame) (meth : Method) (c : Code) (D : va_G) (tc : Nat → ClassId) (n0 : Nat) (ad0 ad adK : Nat → Nat) (A : Nat → Prop) (H : Heap) (locs : List Loc) (cells slots MC MS : Nat) (ls : Array Slot),
    FxG Z own name cc mL rt p l s m args meth c D tc adK A → Rm d mc ms R cells slots MC MS → Wd D tc ad adK A s n h H locs → n0 ≤ n → ext n0 n ad0 ad → lv_has ls mL (lv.map (fun q => (q.1, cV ad q.2))) →
    W p l e R s m args below meth c H locs cells slots (vx_MQ below (SQ Q n0 D tc ad0 adK A) (SX X n0 D tc ad0 adK A) args s MC MS A) (F0 m pc ls (st.map (cV ad)))
abbrev noT : ZT := fun _ _ c _ _ => ∀ x ∈ c.exceptionTable.toList, False
theorem ev_G {own name : String} {cc : ByteArray} {mL : Nat} {rt : Option FieldType} {d mc ms : Nat} {Q : Option Value → Nat → aH → Prop} {X : String → Nat → aH → Prop} {n : Nat} {h : aH} {pc : Nat} {lv : List (Nat × Value)} {st : List Value} (k : EvG noT own name cc mL rt d mc ms Q X n h pc lv st) : Ev own name cc mL rt d mc ms Q X n h pc lv st := k
theorem gK {Z : ZT} {own name : String} {cc : ByteArray} {mL : Nat} {rt : Option FieldType} {p : Program} {l : Launch} {s : State} {m : MethodId} {args : Array Value} {meth : Method} {c : Code} {D : va_G} {tc : Nat → ClassId} {adK : Nat → Nat} {A : Nat → Prop} (fx : FxG Z own name cc mL rt p l s m args meth c D tc adK A) : va_K D vwCl (tyL tc) s := fx.2.2.2.2.2.2.2.2.2.2.1.1
theorem g_iconst {Z : ZT} {own name : String} {cc : ByteArray} {mL : Nat} {rt : Option FieldType} {d mc ms : Nat} {Q : Option Value → Nat → aH → Prop} {X : String → Nat → aH → Prop} {n : Nat} {h : aH} {pc : Nat} {lv : List (Nat × Value)} {st : List Value} {z : Int} (hd : decode cc pc = .ok (.iconst z, 1)) (k : EvG Z own name cc mL rt d mc ms Q X n h (pc + 1) lv (iv z :: st)) : EvG Z own name cc mL rt d mc ms Q X n h pc lv st := by
  intro p l e R s m args below meth c D tc n0 ad0 ad adK A H locs cells slots MC MS ls fx rm wd hn he hl
  have k1 := k p l e R s m args below meth c D tc n0 ad0 ad adK A H locs cells slots MC MS ls fx rm wd hn he hl
  exact lv_iconst (v := Int32.ofInt z) fx.1 fx.2.1 hd rfl k1
theorem g_bipush {Z : ZT} {own name : String} {cc : ByteArray} {mL : Nat} {rt : Option FieldType} {d mc ms : Nat} {Q : Option Value → Nat → aH → Prop} {X : String → Nat → aH → Prop} {n : Nat} {h : aH} {pc : Nat} {lv : List (Nat × Value)} {st : List Value} {z : Int} (hd : decode cc pc = .ok (.bipush z, 2)) (hz : (Int8.ofInt z).toInt32 = Int32.ofInt z) (k : EvG Z own name cc mL rt d mc ms Q X n h (pc + 2) lv (iv z :: st)) : EvG Z own name cc mL rt d mc ms Q X n h pc lv st := by
  intro p l e R s m args below meth c D tc n0 ad0 ad adK A H locs cells slots MC MS ls fx rm wd hn he hl
  have k1 := k p l e R s m args below meth c D tc n0 ad0 ad adK A H locs cells slots MC MS ls fx rm wd hn he hl
  exact lv_bipush (v := Int32.ofInt z) fx.1 fx.2.1 hd hz k1
theorem g_sipush {Z : ZT} {own name : String} {cc : ByteArray} {mL : Nat} {rt : Option FieldType} {d mc ms : Nat} {Q : Option Value → Nat → aH → Prop} {X : String → Nat → aH → Prop} {n : Nat} {h : aH} {pc : Nat} {lv : List (Nat × Value)} {st : List Value} {z : Int} (hd : decode cc pc = .ok (.sipush z, 3)) (hz : (Int16.ofInt z).toInt32 = Int32.ofInt z) (k : EvG Z own name cc mL rt d mc ms Q X n h (pc + 3) lv (iv z :: st)) : EvG Z own name cc mL rt d mc ms Q X n h pc lv st := by
  intro p l e R s m args below meth c D tc n0 ad0 ad adK A H locs cells slots MC MS ls fx rm wd hn he hl
  have k1 := k p l e R s m args below meth c D tc n0 ad0 ad adK A H locs cells slots MC MS ls fx rm wd hn he hl
  exact lv_sipush (v := Int32.ofInt z) fx.1 fx.2.1 hd hz k1
theorem g_dup {Z : ZT} {own name : String} {cc : ByteArray} {mL : Nat} {rt : Option FieldType} {d mc ms : Nat} {Q : Option Value → Nat → aH → Prop} {X : String → Nat → aH → Prop} {n : Nat} {h : aH} {pc : Nat} {lv : List (Nat × Value)} {st : List Value} {v : Value} (hd : decode cc pc = .ok (.dup, 1)) (hc : v.category = 1) (k : EvG Z own name cc mL rt d mc ms Q X n h (pc + 1) lv (v :: v :: st)) : EvG Z own name cc mL rt d mc ms Q X n h pc lv (v :: st) := by
  intro p l e R s m args below meth c D tc n0 ad0 ad adK A H locs cells slots MC MS ls fx rm wd hn he hl
  have k1 := k p l e R s m args below meth c D tc n0 ad0 ad adK A H locs cells slots MC MS ls fx rm wd hn he hl
  exact lv_dup fx.1 fx.2.1 hd (by rw [cV_cat]; exact hc) k1
theorem g_pop {Z : ZT} {own name : String} {cc : ByteArray} {mL : Nat} {rt : Option FieldType} {d mc ms : Nat} {Q : Option Value → Nat → aH → Prop} {X : String → Nat → aH → Prop} {n : Nat} {h : aH} {pc : Nat} {lv : List (Nat × Value)} {st : List Value} {v : Value} (hd : decode cc pc = .ok (.pop, 1)) (hc : v.category = 1) (k : EvG Z own name cc mL rt d mc ms Q X n h (pc + 1) lv st) : EvG Z own name cc mL rt d mc ms Q X n h pc lv (v :: st) := by
  intro p l e R s m args below meth c D tc n0 ad0 ad adK A H locs cells slots MC MS ls fx rm wd hn he hl
  have k1 := k p l e R s m args below meth c D tc n0 ad0 ad adK A H locs cells slots MC MS ls fx rm wd hn he hl
  exact lv_pop fx.1 fx.2.1 hd (by rw [cV_cat]; exact hc) k1
theorem g_null {Z : ZT} {own name : String} {cc : ByteArray} {mL : Nat} {rt : Option FieldType} {d mc ms : Nat} {Q : Option Value → Nat → aH → Prop} {X : String → Nat → aH → Prop} {n : Nat} {h : aH} {pc : Nat} {lv : List (Nat × Value)} {st : List Value}  (hd : decode cc pc = .ok (.aconst_null, 1)) (k : EvG Z own name cc mL rt d mc ms Q X n h (pc + 1) lv (.null :: st)) : EvG Z own name cc mL rt d mc ms Q X n h pc lv st := by
  intro p l e R s m args below meth c D tc n0 ad0 ad adK A H locs cells slots MC MS ls fx rm wd hn he hl
  have k1 := k p l e R s m args below meth c D tc n0 ad0 ad adK A H locs cells slots MC MS ls fx rm wd hn he hl
  exact lv_null fx.1 fx.2.1 hd k1
theorem g_iadd {Z : ZT} {own name : String} {cc : ByteArray} {mL : Nat} {rt : Option FieldType} {d mc ms : Nat} {Q : Option Value → Nat → aH → Prop} {X : String → Nat → aH → Prop} {n : Nat} {h : aH} {pc : Nat} {lv : List (Nat × Value)} {st : List Value} {x y : Int} (hd : decode cc pc = .ok (.iadd, 1)) (k : EvG Z own name cc mL rt d mc ms Q X n h (pc + 1) lv (iv (x + y) :: st)) : EvG Z own name cc mL rt d mc ms Q X n h pc lv (iv y :: iv x :: st) := by
  intro p l e R s m args below meth c D tc n0 ad0 ad adK A H locs cells slots MC MS ls fx rm wd hn he hl
  have k1 := k p l e R s m args below meth c D tc n0 ad0 ad adK A H locs cells slots MC MS ls fx rm wd hn he hl
  rw [List.map_cons, cV_int, Int32.ofInt_add] at k1
  exact lv_iadd fx.1 fx.2.1 hd k1
theorem g_isub {Z : ZT} {own name : String} {cc : ByteArray} {mL : Nat} {rt : Option FieldType} {d mc ms : Nat} {Q : Option Value → Nat → aH → Prop} {X : String → Nat → aH → Prop} {n : Nat} {h : aH} {pc : Nat} {lv : List (Nat × Value)} {st : List Value} {x y : Int} (hd : decode cc pc = .ok (.isub, 1)) (k : EvG Z own name cc mL rt d mc ms Q X n h (pc + 1) lv (iv (x - y) :: st)) : EvG Z own name cc mL rt d mc ms Q X n h pc lv (iv y :: iv x :: st) := by
  intro p l e R s m args below meth c D tc n0 ad0 ad adK A H locs cells slots MC MS ls fx rm wd hn he hl
  have k1 := k p l e R s m args below meth c D tc n0 ad0 ad adK A H locs cells slots MC MS ls fx rm wd hn he hl
  rw [List.map_cons, cV_int, Int32.ofInt_sub] at k1
  exact lv_isub fx.1 fx.2.1 hd k1
theorem g_iand {Z : ZT} {own name : String} {cc : ByteArray} {mL : Nat} {rt : Option FieldType} {d mc ms : Nat} {Q : Option Value → Nat → aH → Prop} {X : String → Nat → aH → Prop} {n : Nat} {h : aH} {pc : Nat} {lv : List (Nat × Value)} {st : List Value} {x y : Int} (z : Int) (hd : decode cc pc = .ok (.iand, 1)) (hz : Int32.ofInt x &&& Int32.ofInt y = Int32.ofInt z) (k : EvG Z own name cc mL rt d mc ms Q X n h (pc + 1) lv (iv z :: st)) : EvG Z own name cc mL rt d mc ms Q X n h pc lv (iv y :: iv x :: st) := by
  intro p l e R s m args below meth c D tc n0 ad0 ad adK A H locs cells slots MC MS ls fx rm wd hn he hl
  have k1 := k p l e R s m args below meth c D tc n0 ad0 ad adK A H locs cells slots MC MS ls fx rm wd hn he hl
  rw [List.map_cons, cV_int, ← hz] at k1
  exact lv_iand fx.1 fx.2.1 hd k1
theorem g_iload_n {Z : ZT} {own name : String} {cc : ByteArray} {mL : Nat} {rt : Option FieldType} {d mc ms : Nat} {Q : Option Value → Nat → aH → Prop} {X : String → Nat → aH → Prop} {n : Nat} {h : aH} {pc : Nat} {lv : List (Nat × Value)} {st : List Value} {i : Nat} {z : Int} {j : Fin 4} (hd : decode cc pc = .ok (.iload_n j, 1)) (hj : (j : Nat) = i) (hv : lg i lv = some (iv z)) (k : EvG Z own name cc mL rt d mc ms Q X n h (pc + 1) lv (iv z :: st)) : EvG Z own name cc mL rt d mc ms Q X n h pc lv st := by
  intro p l e R s m args below meth c D tc n0 ad0 ad adK A H locs cells slots MC MS ls fx rm wd hn he hl
  exact lv_iload_n fx.1 fx.2.1 hd hj (lg_at hl hv) (k p l e R s m args below meth c D tc n0 ad0 ad adK A H locs cells slots MC MS ls fx rm wd hn he hl)
theorem g_iload {Z : ZT} {own name : String} {cc : ByteArray} {mL : Nat} {rt : Option FieldType} {d mc ms : Nat} {Q : Option Value → Nat → aH → Prop} {X : String → Nat → aH → Prop} {n : Nat} {h : aH} {pc : Nat} {lv : List (Nat × Value)} {st : List Value} {i : Nat} {z : Int} (hd : decode cc pc = .ok (.iload i, 2)) (hv : lg i lv = some (iv z)) (k : EvG Z own name cc mL rt d mc ms Q X n h (pc + 2) lv (iv z :: st)) : EvG Z own name cc mL rt d mc ms Q X n h pc lv st := by
  intro p l e R s m args below meth c D tc n0 ad0 ad adK A H locs cells slots MC MS ls fx rm wd hn he hl
  exact lv_iload fx.1 fx.2.1 hd (lg_at hl hv) (k p l e R s m args below meth c D tc n0 ad0 ad adK A H locs cells slots MC MS ls fx rm wd hn he hl)
theorem g_aload_n {Z : ZT} {own name : String} {cc : ByteArray} {mL : Nat} {rt : Option FieldType} {d mc ms : Nat} {Q : Option Value → Nat → aH → Prop} {X : String → Nat → aH → Prop} {n : Nat} {h : aH} {pc : Nat} {lv : List (Nat × Value)} {st : List Value} {i a : Nat} {j : Fin 4} (hd : decode cc pc = .ok (.aload_n j, 1)) (hj : (j : Nat) = i) (hv : lg i lv = some (.ref a)) (k : EvG Z own name cc mL rt d mc ms Q X n h (pc + 1) lv (.ref a :: st)) : EvG Z own name cc mL rt d mc ms Q X n h pc lv st := by
  intro p l e R s m args below meth c D tc n0 ad0 ad adK A H locs cells slots MC MS ls fx rm wd hn he hl
  exact lv_aload_n fx.1 fx.2.1 hd hj (lg_at hl hv) (k p l e R s m args below meth c D tc n0 ad0 ad adK A H locs cells slots MC MS ls fx rm wd hn he hl)
theorem g_aload {Z : ZT} {own name : String} {cc : ByteArray} {mL : Nat} {rt : Option FieldType} {d mc ms : Nat} {Q : Option Value → Nat → aH → Prop} {X : String → Nat → aH → Prop} {n : Nat} {h : aH} {pc : Nat} {lv : List (Nat × Value)} {st : List Value} {i a : Nat} (hd : decode cc pc = .ok (.aload i, 2)) (hv : lg i lv = some (.ref a)) (k : EvG Z own name cc mL rt d mc ms Q X n h (pc + 2) lv (.ref a :: st)) : EvG Z own name cc mL rt d mc ms Q X n h pc lv st := by
  intro p l e R s m args below meth c D tc n0 ad0 ad adK A H locs cells slots MC MS ls fx rm wd hn he hl
  exact lv_aload fx.1 fx.2.1 hd (lg_at hl hv) (k p l e R s m args below meth c D tc n0 ad0 ad adK A H locs cells slots MC MS ls fx rm wd hn he hl)
theorem g_istore_n {Z : ZT} {own name : String} {cc : ByteArray} {mL : Nat} {rt : Option FieldType} {d mc ms : Nat} {Q : Option Value → Nat → aH → Prop} {X : String → Nat → aH → Prop} {n : Nat} {h : aH} {pc : Nat} {lv : List (Nat × Value)} {st : List Value} {i : Nat} {j : Fin 4} {z : Int} {lv2 : List (Nat × Value)} (hd : decode cc pc = .ok (.istore_n j, 1)) (hj : (j : Nat) = i) (hm : i < mL) (hc : lv.all (fun q => !(q.1 + 1 == i && q.2.category == 2)) = true) (hs : lst i (iv z) lv = lv2) (k : EvG Z own name cc mL rt d mc ms Q X n h (pc + 1) lv2 st) : EvG Z own name cc mL rt d mc ms Q X n h pc lv (iv z :: st) := by
  intro p l e R s m args below meth c D tc n0 ad0 ad adK A H locs cells slots MC MS ls fx rm wd hn he hl
  subst hs
  exact lv_istore_n fx.1 fx.2.1 hd hj hl hm rfl (fun ls2 hl2 => k p l e R s m args below meth c D tc n0 ad0 ad adK A H locs cells slots MC MS ls2 fx rm wd hn he (lst_has hl2 hc))
theorem g_istore {Z : ZT} {own name : String} {cc : ByteArray} {mL : Nat} {rt : Option FieldType} {d mc ms : Nat} {Q : Option Value → Nat → aH → Prop} {X : String → Nat → aH → Prop} {n : Nat} {h : aH} {pc : Nat} {lv : List (Nat × Value)} {st : List Value} {i : Nat} {z : Int} {lv2 : List (Nat × Value)} (hd : decode cc pc = .ok (.istore i, 2)) (hm : i < mL) (hc : lv.all (fun q => !(q.1 + 1 == i && q.2.category == 2)) = true) (hs : lst i (iv z) lv = lv2) (k : EvG Z own name cc mL rt d mc ms Q X n h (pc + 2) lv2 st) : EvG Z own name cc mL rt d mc ms Q X n h pc lv (iv z :: st) := by
  intro p l e R s m args below meth c D tc n0 ad0 ad adK A H locs cells slots MC MS ls fx rm wd hn he hl
  subst hs
  exact lv_istore fx.1 fx.2.1 hd hl hm rfl (fun ls2 hl2 => k p l e R s m args below meth c D tc n0 ad0 ad adK A H locs cells slots MC MS ls2 fx rm wd hn he (lst_has hl2 hc))
theorem g_astore_n {Z : ZT} {own name : String} {cc : ByteArray} {mL : Nat} {rt : Option FieldType} {d mc ms : Nat} {Q : Option Value → Nat → aH → Prop} {X : String → Nat → aH → Prop} {n : Nat} {h : aH} {pc : Nat} {lv : List (Nat × Value)} {st : List Value} {i : Nat} {j : Fin 4} {a : Nat} {lv2 : List (Nat × Value)} (hd : decode cc pc = .ok (.astore_n j, 1)) (hj : (j : Nat) = i) (hm : i < mL) (hc : lv.all (fun q => !(q.1 + 1 == i && q.2.category == 2)) = true) (hs : lst i (.ref a) lv = lv2) (k : EvG Z own name cc mL rt d mc ms Q X n h (pc + 1) lv2 st) : EvG Z own name cc mL rt d mc ms Q X n h pc lv (.ref a :: st) := by
  intro p l e R s m args below meth c D tc n0 ad0 ad adK A H locs cells slots MC MS ls fx rm wd hn he hl
  subst hs
  exact lv_astore_n fx.1 fx.2.1 hd hj hl hm rfl (fun ls2 hl2 => k p l e R s m args below meth c D tc n0 ad0 ad adK A H locs cells slots MC MS ls2 fx rm wd hn he (lst_has hl2 hc))
theorem g_astore {Z : ZT} {own name : String} {cc : ByteArray} {mL : Nat} {rt : Option FieldType} {d mc ms : Nat} {Q : Option Value → Nat → aH → Prop} {X : String → Nat → aH → Prop} {n : Nat} {h : aH} {pc : Nat} {lv : List (Nat × Value)} {st : List Value} {i : Nat} {a : Nat} {lv2 : List (Nat × Value)} (hd : decode cc pc = .ok (.astore i, 2)) (hm : i < mL) (hc : lv.all (fun q => !(q.1 + 1 == i && q.2.category == 2)) = true) (hs : lst i (.ref a) lv = lv2) (k : EvG Z own name cc mL rt d mc ms Q X n h (pc + 2) lv2 st) : EvG Z own name cc mL rt d mc ms Q X n h pc lv (.ref a :: st) := by
  intro p l e R s m args below meth c D tc n0 ad0 ad adK A H locs cells slots MC MS ls fx rm wd hn he hl
  subst hs
  exact lv_astore fx.1 fx.2.1 hd hl hm rfl (fun ls2 hl2 => k p l e R s m args below meth c D tc n0 ad0 ad adK A H locs cells slots MC MS ls2 fx rm wd hn he (lst_has hl2 hc))
theorem g_iinc {Z : ZT} {own name : String} {cc : ByteArray} {mL : Nat} {rt : Option FieldType} {d mc ms : Nat} {Q : Option Value → Nat → aH → Prop} {X : String → Nat → aH → Prop} {n : Nat} {h : aH} {pc : Nat} {lv : List (Nat × Value)} {st : List Value} {i : Nat} {z w : Int} {lv2 : List (Nat × Value)} (hd : decode cc pc = .ok (.iinc i w, 3)) (hm : i < mL) (hc : lv.all (fun q => !(q.1 + 1 == i && q.2.category == 2)) = true) (hv : lg i lv = some (iv z)) (hs : lst i (iv (z + w)) lv = lv2) (k : EvG Z own name cc mL rt d mc ms Q X n h (pc + 3) lv2 st) : EvG Z own name cc mL rt d mc ms Q X n h pc lv st := by
  intro p l e R s m args below meth c D tc n0 ad0 ad adK A H locs cells slots MC MS ls fx rm wd hn he hl
  subst hs
  obtain ⟨j, hj⟩ := lg_ix ad hv
  exact lv_iinc fx.1 fx.2.1 hd hl hj (Int32.ofInt_add z w).symm hm rfl (fun ls2 hl2 => k p l e R s m args below meth c D tc n0 ad0 ad adK A H locs cells slots MC MS ls2 fx rm wd hn he (lst_has hl2 hc))
theorem g_if_eq {Z : ZT} {own name : String} {cc : ByteArray} {mL : Nat} {rt : Option FieldType} {d mc ms : Nat} {Q : Option Value → Nat → aH → Prop} {X : String → Nat → aH → Prop} {n : Nat} {h : aH} {pc : Nat} {lv : List (Nat × Value)} {st : List Value} {x off : Int} {tgt : Nat} (hd : decode cc pc = .ok (.ifCond .eq off, 3)) (ht : (pc : Int) + off = (tgt : Int)) (hx : inR x) (kt : x = 0 → EvG Z own name cc mL rt d mc ms Q X n h tgt lv st) (kf : ¬ x = 0 → EvG Z own name cc mL rt d mc ms Q X n h (pc + 3) lv st) : EvG Z own name cc mL rt d mc ms Q X n h pc lv (iv x :: st) := by
  intro p l e R s m args below meth c D tc n0 ad0 ad adK A H locs cells slots MC MS ls fx rm wd hn he hl
  exact lv_if_eq fx.1 fx.2.1 hd ht (fun q => kt ((tEq hx (b := 0) (by decide)).mp q) p l e R s m args below meth c D tc n0 ad0 ad adK A H locs cells slots MC MS ls fx rm wd hn he hl) (fun q => kf (fun q2 => q ((tEq hx (b := 0) (by decide)).mpr q2)) p l e R s m args below meth c D tc n0 ad0 ad adK A H locs cells slots MC MS ls fx rm wd hn he hl)
theorem g_if_ne {Z : ZT} {own name : String} {cc : ByteArray} {mL : Nat} {rt : Option FieldType} {d mc ms : Nat} {Q : Option Value → Nat → aH → Prop} {X : String → Nat → aH → Prop} {n : Nat} {h : aH} {pc : Nat} {lv : List (Nat × Value)} {st : List Value} {x off : Int} {tgt : Nat} (hd : decode cc pc = .ok (.ifCond .ne off, 3)) (ht : (pc : Int) + off = (tgt : Int)) (hx : inR x) (kt : ¬ x = 0 → EvG Z own name cc mL rt d mc ms Q X n h tgt lv st) (kf : x = 0 → EvG Z own name cc mL rt d mc ms Q X n h (pc + 3) lv st) : EvG Z own name cc mL rt d mc ms Q X n h pc lv (iv x :: st) := by
  intro p l e R s m args below meth c D tc n0 ad0 ad adK A H locs cells slots MC MS ls fx rm wd hn he hl
  exact lv_if_ne fx.1 fx.2.1 hd ht (fun q => kt (fun q3 => q ((tEq hx (b := 0) (by decide)).mpr q3)) p l e R s m args below meth c D tc n0 ad0 ad adK A H locs cells slots MC MS ls fx rm wd hn he hl) (fun q => kf ((tEq hx (b := 0) (by decide)).mp q) p l e R s m args below meth c D tc n0 ad0 ad adK A H locs cells slots MC MS ls fx rm wd hn he hl)
theorem g_icmp_eq {Z : ZT} {own name : String} {cc : ByteArray} {mL : Nat} {rt : Option FieldType} {d mc ms : Nat} {Q : Option Value → Nat → aH → Prop} {X : String → Nat → aH → Prop} {n : Nat} {h : aH} {pc : Nat} {lv : List (Nat × Value)} {st : List Value} {x y off : Int} {tgt : Nat} (hd : decode cc pc = .ok (.if_icmp .eq off, 3)) (ht : (pc : Int) + off = (tgt : Int)) (hx : inR x) (hy : inR y) (kt : x = y → EvG Z own name cc mL rt d mc ms Q X n h tgt lv st) (kf : ¬ x = y → EvG Z own name cc mL rt d mc ms Q X n h (pc + 3) lv st) : EvG Z own name cc mL rt d mc ms Q X n h pc lv (iv y :: iv x :: st) := by
  intro p l e R s m args below meth c D tc n0 ad0 ad adK A H locs cells slots MC MS ls fx rm wd hn he hl
  exact lv_icmp_eq fx.1 fx.2.1 hd ht (fun q => kt ((tEq hx hy).mp q) p l e R s m args below meth c D tc n0 ad0 ad adK A H locs cells slots MC MS ls fx rm wd hn he hl) (fun q => kf (fun q2 => q ((tEq hx hy).mpr q2)) p l e R s m args below meth c D tc n0 ad0 ad adK A H locs cells slots MC MS ls fx rm wd hn he hl)
theorem g_icmp_gt {Z : ZT} {own name : String} {cc : ByteArray} {mL : Nat} {rt : Option FieldType} {d mc ms : Nat} {Q : Option Value → Nat → aH → Prop} {X : String → Nat → aH → Prop} {n : Nat} {h : aH} {pc : Nat} {lv : List (Nat × Value)} {st : List Value} {x y off : Int} {tgt : Nat} (hd : decode cc pc = .ok (.if_icmp .gt off, 3)) (ht : (pc : Int) + off = (tgt : Int)) (hx : inR x) (hy : inR y) (kt : y < x → EvG Z own name cc mL rt d mc ms Q X n h tgt lv st) (kf : ¬ y < x → EvG Z own name cc mL rt d mc ms Q X n h (pc + 3) lv st) : EvG Z own name cc mL rt d mc ms Q X n h pc lv (iv y :: iv x :: st) := by
  intro p l e R s m args below meth c D tc n0 ad0 ad adK A H locs cells slots MC MS ls fx rm wd hn he hl
  exact lv_icmp_gt fx.1 fx.2.1 hd ht (fun q => kt ((tLt hy hx).mp q) p l e R s m args below meth c D tc n0 ad0 ad adK A H locs cells slots MC MS ls fx rm wd hn he hl) (fun q => kf (fun q2 => q ((tLt hy hx).mpr q2)) p l e R s m args below meth c D tc n0 ad0 ad adK A H locs cells slots MC MS ls fx rm wd hn he hl)
theorem g_goto {Z : ZT} {own name : String} {cc : ByteArray} {mL : Nat} {rt : Option FieldType} {d mc ms : Nat} {Q : Option Value → Nat → aH → Prop} {X : String → Nat → aH → Prop} {n : Nat} {h : aH} {pc : Nat} {lv : List (Nat × Value)} {st : List Value} {off : Int} {tgt : Nat} (hd : decode cc pc = .ok (.goto off, 3)) (ht : (pc : Int) + off = (tgt : Int)) (k : EvG Z own name cc mL rt d mc ms Q X n h tgt lv st) : EvG Z own name cc mL rt d mc ms Q X n h pc lv st := by
  intro p l e R s m args below meth c D tc n0 ad0 ad adK A H locs cells slots MC MS ls fx rm wd hn he hl
  exact lv_goto fx.1 fx.2.1 hd ht (k p l e R s m args below meth c D tc n0 ad0 ad adK A H locs cells slots MC MS ls fx rm wd hn he hl)
theorem g_get {Z : ZT} {own name : String} {cc : ByteArray} {mL : Nat} {rt : Option FieldType} {d mc ms : Nat} {Q : Option Value → Nat → aH → Prop} {X : String → Nat → aH → Prop} {n : Nat} {h : aH} {pc : Nat} {lv : List (Nat × Value)} {st : List Value} {idx ci k a : Nat} {fs : List Value} {v : Value}
    (hd : decode cc pc = .ok (.getfield idx, 3)) (hf : FL own idx ci k) (hi : a < n) (hc : h a = .inr (ci, fs)) (hv : fs[k]? = some v) (kk : EvG Z own name cc mL rt d mc ms Q X n h (pc + 3) lv (v :: st)) : EvG Z own name cc mL rt d mc ms Q X n h pc lv (.ref a :: st) := by
  intro p l e R s m args below meth c D tc n0 ad0 ad adK A H locs cells slots MC MS ls fx rm wd hn he hl
  obtain ⟨C, T, N, h1, h2, h3, h4⟩ := hf
  refine va_get (D := D) (cl := vwCl) (tys := tyL tc) (C := C) (T := T) (N := N) (ref := (T k).1) (v := cV ad v) (fs := fs.map (cV ad)) fx.1 fx.2.1 fx.2.2.2.2.2.1 h3 fx.2.2.2.2.1 (gK fx) wd.1 a ?_ h1 k h2 (fx.2.2.2.2.2.1 _ h4) (fun _ h9 => h9) ?_ hd (kk p l e R s m args below meth c D tc n0 ad0 ad adK A H locs cells slots MC MS ls fx rm wd hn he hl)
  · rw [cW_get hi, hc]; rfl
  · rw [List.getElem?_map, hv]; rfl
theorem g_put {Z : ZT} {own name : String} {cc : ByteArray} {mL : Nat} {rt : Option FieldType} {d mc ms : Nat} {Q : Option Value → Nat → aH → Prop} {X : String → Nat → aH → Prop} {n : Nat} {h : aH} {pc : Nat} {lv : List (Nat × Value)} {st : List Value} {idx ci k a : Nat} {fs fs2 : List Value} {v : Value} {ty : FieldType}
    (hd : decode cc pc = .ok (.putfield idx, 3)) (hf : FP own idx ci k ty) (hi : a < n) (hc : h a = .inr (ci, fs)) (hnar : ∀ ad : Nat → Nat, narrow ty (cV ad v) = cV ad v ∧ fits ty (cV ad v) = true) (hlen : k < fs.length) (hs : fs.set k v = fs2) (kk : EvG Z own name cc mL rt d mc ms Q X n (va_up h a (.inr (ci, fs2))) (pc + 3) lv st) : EvG Z own name cc mL rt d mc ms Q X n h pc lv (v :: .ref a :: st) := by
  intro p l e R s m args below meth c D tc n0 ad0 ad adK A H locs cells slots MC MS ls fx rm wd hn he hl
  obtain ⟨C, T, N, ty0, h1, h2, h3, h4, h5, h6, h7, h8⟩ := hf
  subst hs
  refine va_put (D := D) (cl := vwCl) (tys := tyL tc) (C := C) (T := T) (N := N) (ref := (T k).1) (fs := fs.map (cV ad)) fx.1 fx.2.1 fx.2.2.2.2.2.1 h3 ty0 h7 h8 fx.2.2.2.2.1 (gK fx) wd.1 wd.2.1 wd.2.2.1 a ?_ h1 k h2 (fx.2.2.2.2.2.1 _ h4) (fun _ h9 => h9) h5 h6 (hnar ad).1 (hnar ad).2 (by rw [List.length_map]; exact hlen) hd (fun H1 locs1 hP hD hS => kk p l e R s m args below meth c D tc n0 ad0 ad adK A H1 locs1 cells slots MC MS ls fx rm ⟨?_, ?_, hS, wd.2.2.2⟩ hn he hl)
  · rw [cW_get hi, hc]; rfl
  · have e1 : (Sum.inr (ci, (fs.map (cV ad)).set k (cV ad v)) : va_E) = cE ad tc (.inr (ci, fs.set k v)) := by simp [cE, List.map_set]
    rw [e1, cW_set] at hP
    exact hP
  · have e1 : (Sum.inr (ci, (fs.map (cV ad)).set k (cV ad v)) : va_E) = cE ad tc (.inr (ci, fs.set k v)) := by simp [cE, List.map_set]
    rw [e1, cW_set] at hD
    exact hD
theorem g_ald {Z : ZT} {own name : String} {cc : ByteArray} {mL : Nat} {rt : Option FieldType} {d mc ms : Nat} {Q : Option Value → Nat → aH → Prop} {X : String → Nat → aH → Prop} {n : Nat} {h : aH} {pc : Nat} {lv : List (Nat × Value)} {st : List Value} {a N : Nat} {f : Nat → Int} {z : Int}
    (hd : decode cc pc = .ok (.iaload, 1)) (hi : a < n) (hc : h a = .inl (0, N, f)) (h0 : 0 ≤ z) (h1 : z < N) (hN : N < 2147483648) (kk : EvG Z own name cc mL rt d mc ms Q X n h (pc + 1) lv (iv (f z.toNat) :: st)) : EvG Z own name cc mL rt d mc ms Q X n h pc lv (iv z :: .ref a :: st) := by
  intro p l e R s m args below meth c D tc n0 ad0 ad adK A H locs cells slots MC MS ls fx rm wd hn he hl
  have k1 := kk p l e R s m args below meth c D tc n0 ad0 ad adK A H locs cells slots MC MS ls fx rm wd hn he hl
  refine va_iald (D := D) (cl := vwCl) (tys := tyL tc) (cA := tc 0) (n := N) (f := fun j => Int32.ofInt (f j)) fx.1 fx.2.1 (gK fx) wd.1 a 0 ?_ rfl (tIn h0 h1 hN) hd ?_
  · rw [cW_get hi, hc]; rfl
  · rw [tCl h0 (by omega)]; exact k1
theorem g_ast {Z : ZT} {own name : String} {cc : ByteArray} {mL : Nat} {rt : Option FieldType} {d mc ms : Nat} {Q : Option Value → Nat → aH → Prop} {X : String → Nat → aH → Prop} {n : Nat} {h : aH} {pc : Nat} {lv : List (Nat × Value)} {st : List Value} {a N : Nat} {f : Nat → Int} {z x : Int}
    (hd : decode cc pc = .ok (.iastore, 1)) (hi : a < n) (hc : h a = .inl (0, N, f)) (h0 : 0 ≤ z) (h1 : z < N) (hN : N < 2147483648) (kk : EvG Z own name cc mL rt d mc ms Q X n (va_up h a (.inl (0, N, va_up f z.toNat x))) (pc + 1) lv st) : EvG Z own name cc mL rt d mc ms Q X n h pc lv (iv x :: iv z :: .ref a :: st) := by
  intro p l e R s m args below meth c D tc n0 ad0 ad adK A H locs cells slots MC MS ls fx rm wd hn he hl
  refine va_iast (D := D) (cl := vwCl) (tys := tyL tc) (cA := tc 0) (n := N) (f := fun j => Int32.ofInt (f j)) fx.1 fx.2.1 (gK fx) wd.1 wd.2.1 wd.2.2.1 a 0 ?_ rfl (tIn h0 h1 hN) hd (fun H1 locs1 hP hD hS => kk p l e R s m args below meth c D tc n0 ad0 ad adK A H1 locs1 cells slots MC MS ls fx rm ⟨?_, ?_, hS, wd.2.2.2⟩ hn he hl)
  · rw [cW_get hi, hc]; rfl
  · rw [tCl h0 (by omega), upd_ofInt, show (Sum.inl (tc 0, N, Sum.inl fun j => Int32.ofInt (va_up f z.toNat x j)) : va_E) = cE ad tc (.inl (0, N, va_up f z.toNat x)) from rfl, cW_set] at hP
    exact hP
  · rw [tCl h0 (by omega), upd_ofInt, show (Sum.inl (tc 0, N, Sum.inl fun j => Int32.ofInt (va_up f z.toNat x j)) : va_E) = cE ad tc (.inl (0, N, va_up f z.toNat x)) from rfl, cW_set] at hD
    exact hD
section
variable {Z : ZT} {own name : String} {cc : ByteArray} {mL : Nat} {rt : Option FieldType} {d mc ms : Nat} {Q : Option Value → Nat → aH → Prop} {X : String → Nat → aH → Prop} {n : Nat} {h : aH} {pc : Nat} {lv : List (Nat × Value)} {st : List Value}
theorem g_iret {z : Int} (hd : decode cc pc = .ok (.ireturn, 1)) (q : Q (some (iv z)) n h) : EvG Z own name cc mL (some .int) d mc ms Q X n h pc lv [iv z] := by
  intro p l e R s m args below meth c D tc n0 ad0 ad adK A H locs cells slots MC MS ls fx rm wd hn he hl
  refine vx_ret (W.widen (k := MC) (n := MS) (Nat.le_trans (Nat.le_add_right _ _) rm.2.2.2.2.1) (Nat.le_trans (Nat.le_add_right _ _) rm.2.2.2.2.2) ?_)
  exact W.iret fx.1 fx.2.1 fx.2.2.1 (fun t ht hW => ⟨⟨some (iv z), n, h, ad, rfl, q, hn, he, (wd.end ht).1⟩, (wd.end ht).2⟩) wd.2.2.1.2.2 hd fx.2.2.2.2.2.2.1
theorem g_zret {z : Int} {ty : FieldType} (hd : decode cc pc = .ok (.ireturn, 1)) (hz : narrow ty (iv z) = iv z) (q : Q (some (iv z)) n h) : EvG Z own name cc mL (some ty) d mc ms Q X n h pc lv [iv z] := by
  intro p l e R s m args below meth c D tc n0 ad0 ad adK A H locs cells slots MC MS ls fx rm wd hn he hl
  refine vx_ret (W.widen (k := MC) (n := MS) (Nat.le_trans (Nat.le_add_right _ _) rm.2.2.2.2.1) (Nat.le_trans (Nat.le_add_right _ _) rm.2.2.2.2.2) ?_)
  exact W.zret fx.1 fx.2.1 fx.2.2.1 hz (fun t ht hW => ⟨⟨some (iv z), n, h, ad, rfl, q, hn, he, (wd.end ht).1⟩, (wd.end ht).2⟩) wd.2.2.1.2.2 hd fx.2.2.2.2.2.2.1
theorem g_vret (hd : decode cc pc = .ok (.return_, 1)) (q : Q none n h) : EvG Z own name cc mL none d mc ms Q X n h pc lv [] := by
  intro p l e R s m args below meth c D tc n0 ad0 ad adK A H locs cells slots MC MS ls fx rm wd hn he hl
  refine vx_ret (W.widen (k := MC) (n := MS) (Nat.le_trans (Nat.le_add_right _ _) rm.2.2.2.2.1) (Nat.le_trans (Nat.le_add_right _ _) rm.2.2.2.2.2) ?_)
  exact W.vret fx.1 fx.2.1 fx.2.2.1 (fun t ht hW => ⟨⟨none, n, h, ad, rfl, q, hn, he, (wd.end ht).1⟩, (wd.end ht).2⟩) wd.2.2.1.2.2 hd fx.2.2.2.2.2.2.1
theorem CS.callG {idx : Nat} {y : MethodName} {c1 : ByteArray} {m1 : Nat} {r1 : Option FieldType} {np d1 mc1 ms1 : Nat} {p : Program} {l : Launch} {s : State} {m : MethodId} {args : Array Value} {meth : Method} {c : Code} {D : va_G} {tc : Nat → ClassId} {adK : Nat → Nat} {A : Nat → Prop} {R : Room} {cells slots MC MS : Nat}
    (hcs : CS own idx y c1 m1 r1 np) (fx : FxG Z own name cc mL rt p l s m args meth c D tc adK A) (rm : Rm d mc ms R cells slots MC MS) (hd1 : d1 + 1 ≤ d) : CallB R s args own idx y c1 m1 r1 (wsO y c1 m1 r1) (rmO d1 mc1 ms1) mc1 ms1 np :=
  callB_of np fx.2.2.2.2.2.1 (Gw_in hcs.2.1) rfl rfl rfl (fx.2.2.2.2.2.1 _ hcs.2.2.1) (fx.2.2.2.2.2.1 _ hcs.1) hcs.2.2.2.1 ⟨by have h1 := rm.1; show d1 + 1 ≤ R.frames; omega, by
    have h1 := rm.2.1
    have h2 := hcs.2.2.2.2
    show 8 + (m1 + 11) + 60 * d1 ≤ R.locals
    omega⟩
theorem sp_atG {p : Program} {l : Launch} {s : State} {m : MethodId} {args : Array Value} {meth : Method} {c : Code} {D : va_G} {tc : Nat → ClassId} {ad adK : Nat → Nat} {A : Nat → Prop} {H : Heap} {locs : List Loc} (av : List Value)
    (fx : FxG Z own name cc mL rt p l s m args meth c D tc adK A) (wd : Wd D tc ad adK A s n h H locs) : (∀ q, va_A (cW ad tc n h) H.size q → A q) ∧ ∀ U : State, U.heap = H → s.WarmedH U.vm → SP av n h D tc ad adK H.size (av.map (cV ad)).toArray U := by
  obtain ⟨hP, hD, hS, hk⟩ := wd
  have hAA : ∀ q, va_A (cW ad tc n h) H.size q → A q := by
    intro q hq
    rcases hq with ⟨k, e, hke⟩ | hq
    · exact hD.2 k _ hke
    · exact fx.2.2.2.2.2.2.2.2.2.2.2 q (Nat.le_trans hS.1 hq)
  refine ⟨hAA, fun U hU hW => ⟨rfl, by rw [hU], fx.2.2.2.2.2.2.2.2.2.2.1.pass hW (fun a h1 h2 => by rw [hU]; exact hS.2.1 a h1 h2) hAA, by rw [hU]; exact hP, hD.self, hk⟩⟩
/-- numbers of things that stand -/
def okV (n : Nat) (v : Value) : Bool := match v with
  | .ref i => decide (i < n) || decide (1000 ≤ i)
  | _ => true
def okE (n : Nat) (e : aE) : Bool := match e with
  | .inl _ => true
  | .inr o => o.2.all (okV n)
def WF (n : Nat) (h : aH) : Prop := ∀ i, i < n → okE n (h i) = true
theorem okV_mono {n n2 : Nat} (hn : n ≤ n2) {v : Value} (h : okV n v = true) : okV n2 v = true := by
  cases v <;> simp only [okV] at h ⊢
  simp only [Bool.or_eq_true, decide_eq_true_eq] at h ⊢
  rcases h with h | h
  · exact Or.inl (Nat.lt_of_lt_of_le h hn)
  · exact Or.inr h
theorem okE_mono {n n2 : Nat} (hn : n ≤ n2) {e : aE} (h : okE n e = true) : okE n2 e = true := by
  cases e with
  | inl a => rfl
  | inr o =>
    simp only [okE, List.all_eq_true] at h ⊢
    exact fun v hv => okV_mono hn (h v hv)
theorem WF.up {n : Nat} {h : aH} (w : WF n h) {i : Nat} {e : aE} (he : okE n e = true) : WF n (va_up h i e) := by
  intro j hj
  unfold va_up
  split
  · exact he
  · exact w j hj
theorem WF.new {n : Nat} {h : aH} (w : WF n h) {e : aE} (he : okE (n + 1) e = true) : WF (n + 1) (va_up h n e) := by
  intro j hj
  unfold va_up
  split
  · exact he
  · exact okE_mono (Nat.le_succ n) (w j (by omega))
theorem cV_ok {ad ad2 : Nat → Nat} {n : Nat} (h1 : ∀ i, i < n → ad2 i = ad i) (h2 : ∀ k, ad2 (1000 + k) = ad (1000 + k)) {v : Value} (hv : okV n v = true) : cV ad2 v = cV ad v := by
  cases v <;> try rfl
  rename_i i
  simp only [okV, Bool.or_eq_true, decide_eq_true_eq] at hv
  show Value.ref _ = Value.ref _
  rcases hv with hv | hv
  · rw [h1 i hv]
  · have := h2 (i - 1000)
    rw [show 1000 + (i - 1000) = i from Nat.add_sub_cancel' hv] at this
    rw [this]
theorem cVs_ok {ad ad2 : Nat → Nat} {n : Nat} (h1 : ∀ i, i < n → ad2 i = ad i) (h2 : ∀ k, ad2 (1000 + k) = ad (1000 + k)) {vs : List Value} (hv : vs.all (okV n) = true) : vs.map (cV ad2) = vs.map (cV ad) :=
  List.map_congr_left fun v hm => cV_ok h1 h2 (List.all_eq_true.mp hv v hm)
theorem cLs_ok {ad ad2 : Nat → Nat} {n : Nat} (h1 : ∀ i, i < n → ad2 i = ad i) (h2 : ∀ k, ad2 (1000 + k) = ad (1000 + k)) {lv : List (Nat × Value)} (hv : lv.all (fun q => okV n q.2) = true) : lv.map (fun q => (q.1, cV ad2 q.2)) = lv.map (fun q => (q.1, cV ad q.2)) :=
  List.map_congr_left fun v hm => by rw [cV_ok h1 h2 (List.all_eq_true.mp hv v hm)]
theorem cE_ok {ad ad2 : Nat → Nat} {tc : Nat → ClassId} {n : Nat} (h1 : ∀ i, i < n → ad2 i = ad i) (h2 : ∀ k, ad2 (1000 + k) = ad (1000 + k)) {e : aE} (he : okE n e = true) : cE ad2 tc e = cE ad tc e := by
  cases e with
  | inl a => rfl
  | inr o => show Sum.inr (o.1, o.2.map (cV ad2)) = Sum.inr (o.1, o.2.map (cV ad)); rw [cVs_ok h1 h2 he]
def psh (ad : Nat → Nat) (n q : Nat) : Nat → Nat := fun i => if i = n then q else ad i
theorem psh_lt {ad : Nat → Nat} {n q : Nat} : ∀ i, i < n → psh ad n q i = ad i := fun i hi => by unfold psh; rw [if_neg (by omega)]
theorem psh_k {ad : Nat → Nat} {n q : Nat} (hn : n < 1000) : ∀ k, psh ad n q (1000 + k) = ad (1000 + k) := fun k => by unfold psh; rw [if_neg (by omega)]
theorem psh_n {ad : Nat → Nat} {n q : Nat} : psh ad n q n = q := by unfold psh; rw [if_pos rfl]
theorem cW_push {ad : Nat → Nat} {tc : Nat → ClassId} {n q : Nat} {h : aH} {e : aE} (hn : n < 1000) (w : WF n h) (he : okE n e = true) : cW (psh ad n q) tc (n + 1) (va_up h n e) = cW ad tc n h ++ [(q, cE ad tc e)] := by
  unfold cW
  rw [List.range_succ, List.map_append, List.map_cons, List.map_nil]
  congr 1
  · apply List.map_congr_left
    intro i hi
    have hi : i < n := List.mem_range.mp hi
    rw [psh_lt i hi, show va_up h n e i = h i by unfold va_up; rw [if_neg (by omega)], cE_ok psh_lt (psh_k hn) (w i hi)]
  · rw [psh_n, show va_up h n e n = e by unfold va_up; rw [if_pos rfl], cE_ok psh_lt (psh_k hn) he]
theorem Wd.push {D : va_G} {tc : Nat → ClassId} {ad adK : Nat → Nat} {A : Nat → Prop} {s : State} {n q : Nat} {h : aH} {e : aE} {H1 : Heap} {locs1 : List Loc} (hk : ∀ k, ad (1000 + k) = adK k) (hn : n < 1000) (w : WF n h) (he : okE n e = true) (hP : va_P D vwCl (cW ad tc n h ++ [(q, cE ad tc e)]) H1) (hD : va_D A (cW ad tc n h ++ [(q, cE ad tc e)])) (hS : va_S A s.heap H1 locs1) : Wd D tc (psh ad n q) adK A s (n + 1) (va_up h n e) H1 locs1 := by
  rw [← cW_push hn w he] at hP hD
  exact ⟨hP, hD, hS, fun k => by rw [psh_k hn]; exact hk k⟩
theorem ext_psh {n0 n q : Nat} {ad0 ad : Nat → Nat} (hn : n0 ≤ n) (he : ext n0 n ad0 ad) : ext n0 (n + 1) ad0 (psh ad n q) := ⟨fun h => absurd h (by omega), fun i hi => by rw [psh_lt i (by omega)]; exact he.2 i hi⟩
/-- behind a call that doesn't throw, and may make things -/
theorem ev_callG {p : Program} {l : Launch} {e : Env} {R : Room} {s : State} {m : MethodId} {args : Array Value} {below : List Frame} {meth : Method} {c : Code} {D : va_G} {tc : Nat → ClassId} {n0 : Nat} {ad0 ad adK : Nat → Nat} {A : Nat → Prop} {H : Heap} {locs : List Loc} {cells slots MC MS : Nat} {ls : Array Slot} {st0 : List Value} {mc1 ms1 : Nat} {Q1 : Option Value → Nat → aH → Prop} {a : Array Value}
    (fx : FxG Z own name cc mL rt p l s m args meth c D tc adK A) (rm : Rm d mc ms R cells slots MC MS) (wd : Wd D tc ad adK A s n h H locs) (hn : n0 ≤ n) (he : ext n0 n ad0 ad) (hl : lv_has ls mL (lv.map (fun q => (q.1, cV ad q.2))))
    (hr : va_Run p l e R s m args below meth c H locs cells slots mc1 ms1 (F0 m pc ls st0) (st.map (cV ad)) (SQ Q1 n D tc ad adK (va_A (cW ad tc n h) H.size) a) (va_A (cW ad tc n h) H.size))
    (hmc : mc1 ≤ mc) (hms : ms1 ≤ ms) (hAA : ∀ q, va_A (cW ad tc n h) H.size q → A q) (hlv : lv.all (fun q => okV n q.2) = true) (hst : st.all (okV n) = true)
    (kk : ∀ v n2 h2, Q1 v n2 h2 → EvG Z own name cc mL rt d (mc - mc1) (ms - ms1) Q X n2 h2 (pc + 3) lv (v.toList ++ st)) :
    W p l e R s m args below meth c H locs cells slots (vx_MQ below (SQ Q n0 D tc ad0 adK A) (SX X n0 D tc ad0 adK A) args s MC MS A) (F0 m pc ls st0) := by
  intro T hT XX
  have rm2 : Rm d (mc - mc1) (ms - ms1) R (cells + mc1) (slots + ms1) MC MS := ⟨rm.1, rm.2.1, by have := rm.2.2.1; omega, by have := rm.2.2.2.1; omega, by have := rm.2.2.2.2.1; omega, by have := rm.2.2.2.2.2; omega⟩
  obtain ⟨v, st₀, t, T', L, h0, X', hL, e1, e2, ⟨⟨v2, n2, h2, ad2, hv, hq, hn2, hx2, hP2, hD2, hk2⟩, hF⟩, stp⟩ := hr T hT XX
  have kk2 := kk v2 n2 h2 hq
  obtain ⟨-, -, hS2⟩ := vx_keep h0 e1 wd.2.2.1 (fun q _ h => hAA q h) hAA hL hF
  cases hv
  have hk3 : ∀ k, ad2 (1000 + k) = ad (1000 + k) := fun k => (hk2 k).trans (wd.2.2.2 k).symm
  have he2 : ext n0 n2 ad0 ad2 := ⟨fun h => by
    have e3 : n2 = n := by omega
    have e4 : n = n0 := by omega
    rw [hx2.1 e3]
    exact he.1 e4, fun i hi => (hx2.2 i (by omega)).trans (he.2 i hi)⟩
  obtain ⟨t2, a1, b1⟩ := kk2 p l e R s m args below meth c D tc n0 ad0 ad2 adK A T'.heap (locs ++ L) (cells + mc1) (slots + ms1) MC MS ls fx rm2 ⟨by rw [e1]; exact hP2, hD2.weaken (fun _ _ _ hz => hAA _ hz), hS2, hk2⟩ (Nat.le_trans hn hn2) he2 (by rw [cLs_ok hx2.2 hk3 hlv]; exact hl) T' rfl X'
  refine ⟨t2, stp t2 ?_, b1⟩
  rw [List.map_append, cVs_ok hx2.2 hk3 hst] at a1
  cases v2 with
  | none => exact a1
  | some w => exact a1
end
section
variable {Z : ZT} {own name : String} {cc : ByteArray} {mL : Nat} {rt : Option FieldType} {d mc ms : Nat} {Q : Option Value → Nat → aH → Prop} {X : String → Nat → aH → Prop} {n : Nat} {h : aH} {pc : Nat} {lv : List (Nat × Value)} {st : List Value} {st0 : List Value}
variable {idx : Nat} {y : MethodName} {c1 : ByteArray} {m1 : Nat} {r1 : Option FieldType} {np d1 mc1 ms1 : Nat} {Q1 : Option Value → Nat → aH → Prop} {X1 : String → Nat → aH → Prop}
theorem g_callV (b : Nat) (as : List Value) {ci : Nat} {fs : List Value} (hS : mSem y c1 m1 r1 d1 mc1 ms1 (.ref b :: as) n h Q1 X1) (hX : ∀ E n2 h2, ¬ X1 E n2 h2) (hd : decode cc pc = .ok (.invokevirtual idx, 3)) (hcs : CS own idx y c1 m1 r1 np) (hin : Cond.instanceMethod y ∈ Gw ∧ Cond.selects y.cls y y ∈ Gw) (hb : b < n) (hcell : h b = .inr (ci, fs)) (hci : (vwCl[ci]?).map (fun q => q.1) = some y.cls) (hd1 : d1 + 1 ≤ d) (hmc : mc1 ≤ mc) (hms : ms1 ≤ ms) (hnp : as.length = np) (h0 : st0 = as.reverse ++ .ref b :: st) (hcat : (st.map fun v => v.category).sum ≤ 8) (hlv : lv.all (fun q => okV n q.2) = true) (hst : st.all (okV n) = true)
    (kk : ∀ v n2 h2, Q1 v n2 h2 → EvG Z own name cc mL rt d (mc - mc1) (ms - ms1) Q X n2 h2 (pc + 3) lv (v.toList ++ st)) : EvG Z own name cc mL rt d mc ms Q X n h pc lv st0 := by
  intro p l e R s m args below meth c D tc n0 ad0 ad adK A H locs cells slots MC MS ls fx rm wd hn he hl
  obtain ⟨hAA, hpre⟩ := sp_atG (.ref b :: as) fx wd
  obtain ⟨q, hq, hqc⟩ := Option.map_eq_some_iff.mp hci
  have hrecv := va_recv (gK fx) wd.1 (ci := ci) (q0 := b) (q := q) (a := ad b) (fs := fs.map (cV ad)) hq (by rw [cW_get hb, hcell]; rfl)
  rw [hqc] at hrecv
  refine ev_callG (mc1 := mc1) (ms1 := ms1) fx rm wd hn he hl (va_runV (C := y.cls) (b := ad b) (As := as.map (cV ad)) (rest := st.map (cV ad)) ⟨fx.1, fx.2.1, fx.2.2.2.1, fx.2.2.2.2.1, fx.2.2.2.2.2.1⟩ (mSem_met hS hX fx.2.2.2.2.2.2.2.2.1 D tc ad adK H.size) ⟨hcs.callG fx rm hd1, fx.2.2.2.2.2.1 _ hin.1, fx.2.2.2.2.2.1 _ hin.2⟩ ⟨SP.blind, hrecv, hpre⟩ rfl (by rw [List.length_map]; exact hnp) hl.1 ?_ (lv_room (by rw [cat_map]; exact hcat)) hd ?_) hmc hms hAA hlv hst kk
  · show st0.map (cV ad) = _
    rw [h0, List.map_append, List.map_reverse]
    rfl
  · exact ⟨by have := rm.2.2.1; omega, by have := rm.2.2.2.1; omega⟩
/-- a static method -/
theorem g_callS (as : List Value) (hS : mSem y c1 m1 r1 d1 mc1 ms1 as n h Q1 X1) (hX : ∀ E n2 h2, ¬ X1 E n2 h2) (hd : decode cc pc = .ok (.invokestatic idx, 3)) (hcs : CS own idx y c1 m1 r1 np) (hsta : Cond.static y ∈ Gw) (hd1 : d1 + 1 ≤ d) (hmc : mc1 ≤ mc) (hms : ms1 ≤ ms) (hnp : as.length = np) (h0 : st0 = as.reverse ++ st) (hcat : (st.map fun v => v.category).sum ≤ 8) (hlv : lv.all (fun q => okV n q.2) = true) (hst : st.all (okV n) = true)
    (kk : ∀ v n2 h2, Q1 v n2 h2 → EvG Z own name cc mL rt d (mc - mc1) (ms - ms1) Q X n2 h2 (pc + 3) lv (v.toList ++ st)) : EvG Z own name cc mL rt d mc ms Q X n h pc lv st0 := by
  intro p l e R s m args below meth c D tc n0 ad0 ad adK A H locs cells slots MC MS ls fx rm wd hn he hl
  obtain ⟨hAA, hpre⟩ := sp_atG as fx wd
  refine ev_callG (mc1 := mc1) (ms1 := ms1) fx rm wd hn he hl (va_runS (As := as.map (cV ad)) (rest := st.map (cV ad)) ⟨fx.1, fx.2.1, fx.2.2.2.1, fx.2.2.2.2.1, fx.2.2.2.2.2.1⟩ (mSem_met hS hX fx.2.2.2.2.2.2.2.2.1 D tc ad adK H.size) ⟨hcs.callG fx rm hd1, fx.2.2.2.2.2.1 _ hsta⟩ ⟨SP.blind, hpre⟩ rfl (by rw [List.length_map]; exact hnp) hl.1 ?_ (lv_room (by rw [cat_map]; exact hcat)) hd ?_) hmc hms hAA hlv hst kk
  · show st0.map (cV ad) = _
    rw [h0, List.map_append, List.map_reverse]
  · exact ⟨by have := rm.2.2.1; omega, by have := rm.2.2.2.1; omega⟩
/-- a constructor -/
theorem g_callI (b : Nat) (as : List Value) (hS : mSem y c1 m1 none d1 mc1 ms1 (.ref b :: as) n h Q1 X1) (hX : ∀ E n2 h2, ¬ X1 E n2 h2) (hd : decode cc pc = .ok (.invokespecial idx, 3)) (hcs : CS own idx y c1 m1 none np) (hin : y.name = "<init>" ∧ Cond.instanceMethod y ∈ Gw) (hd1 : d1 + 1 ≤ d) (hmc : mc1 ≤ mc) (hms : ms1 ≤ ms) (hnp : as.length = np) (h0 : st0 = as.reverse ++ .ref b :: st) (hcat : (st.map fun v => v.category).sum ≤ 8) (hlv : lv.all (fun q => okV n q.2) = true) (hst : st.all (okV n) = true)
    (kk : ∀ v n2 h2, Q1 v n2 h2 → EvG Z own name cc mL rt d (mc - mc1) (ms - ms1) Q X n2 h2 (pc + 3) lv (v.toList ++ st)) : EvG Z own name cc mL rt d mc ms Q X n h pc lv st0 := by
  intro p l e R s m args below meth c D tc n0 ad0 ad adK A H locs cells slots MC MS ls fx rm wd hn he hl
  obtain ⟨hAA, hpre⟩ := sp_atG (.ref b :: as) fx wd
  refine ev_callG (mc1 := mc1) (ms1 := ms1) fx rm wd hn he hl (va_runI (b := ad b) (As := as.map (cV ad)) (rest := st.map (cV ad)) ⟨fx.1, fx.2.1, fx.2.2.2.1, fx.2.2.2.2.1, fx.2.2.2.2.2.1⟩ (mSem_met hS hX fx.2.2.2.2.2.2.2.2.1 D tc ad adK H.size) ⟨hcs.callG fx rm hd1, hin.1, fx.2.2.2.2.2.1 _ hin.2⟩ ⟨SP.blind, hpre⟩ rfl (by rw [List.length_map]; exact hnp) hl.1 ?_ (lv_room (by rw [cat_map]; exact hcat)) hd ?_) hmc hms hAA hlv hst kk
  · show st0.map (cV ad) = _
    rw [h0, List.map_append, List.map_reverse]
    rfl
  · exact ⟨by have := rm.2.2.1; omega, by have := rm.2.2.2.1; omega⟩
/-- a nest mate's constructor -/
theorem g_callIN (b : Nat) (as : List Value) (hS : mSem y c1 m1 none d1 mc1 ms1 (.ref b :: as) n h Q1 X1) (hX : ∀ E n2 h2, ¬ X1 E n2 h2) (hd : decode cc pc = .ok (.invokespecial idx, 3)) (host : String) (hN : (own, idx, y, host) ∈ nestW) (hc : Cond.code y c1 m1 none ∈ Gw) (hini : Cond.initialized y.cls ∈ Gw) (hy : y.cls ≠ "java/lang/invoke/MethodHandle" ∧ y.cls ≠ "java/lang/invoke/VarHandle" ∧ (parseMethodDescriptor y.desc).map (fun d => d.parameters.length) = some np) (hmL : m1 ≤ 41) (hin : y.name = "<init>" ∧ Cond.instanceMethod y ∈ Gw) (hd1 : d1 + 1 ≤ d) (hmc : mc1 ≤ mc) (hms : ms1 ≤ ms) (hnp : as.length = np) (h0 : st0 = as.reverse ++ .ref b :: st) (hcat : (st.map fun v => v.category).sum ≤ 8) (hlv : lv.all (fun q => okV n q.2) = true) (hst : st.all (okV n) = true)
    (kk : ∀ v n2 h2, Q1 v n2 h2 → EvG Z own name cc mL rt d (mc - mc1) (ms - ms1) Q X n2 h2 (pc + 3) lv (v.toList ++ st)) : EvG Z own name cc mL rt d mc ms Q X n h pc lv st0 := by
  intro p l e R s m args below meth c D tc n0 ad0 ad adK A H locs cells slots MC MS ls fx rm wd hn he hl
  obtain ⟨hAA, hpre⟩ := sp_atG (.ref b :: as) fx wd
  have hcn : va_CN R s args own idx y host c1 m1 none (wsO y c1 m1 none) (rmO d1 mc1 ms1) mc1 ms1 np := va_cnB np fx.2.2.2.2.2.1 (Gw_in hc) rfl rfl rfl (fx.2.2.2.2.2.2.2.2.2.2.1.2.2.1 _ hN) (fx.2.2.2.2.2.1 _ hini) hy ⟨by have h1 := rm.1; show d1 + 1 ≤ R.frames; omega, by have h1 := rm.2.1; show 8 + (m1 + 11) + 60 * d1 ≤ R.locals; omega⟩
  refine ev_callG (mc1 := mc1) (ms1 := ms1) fx rm wd hn he hl (va_runIN (b := ad b) (As := as.map (cV ad)) (rest := st.map (cV ad)) ⟨fx.1, fx.2.1, fx.2.2.2.1, fx.2.2.2.2.1, fx.2.2.2.2.2.1⟩ (mSem_met hS hX fx.2.2.2.2.2.2.2.2.1 D tc ad adK H.size) ⟨hcn, hin.1, fx.2.2.2.2.2.1 _ hin.2⟩ ⟨SP.blind, hpre⟩ rfl (by rw [List.length_map]; exact hnp) hl.1 ?_ (lv_room (by rw [cat_map]; exact hcat)) hd ?_) hmc hms hAA hlv hst kk
  · show st0.map (cV ad) = _
    rw [h0, List.map_append, List.map_reverse]
    rfl
  · exact ⟨by have := rm.2.2.1; omega, by have := rm.2.2.2.1; omega⟩
/-- Object's constructor -/
theorem g_obj {b : Nat} (hd : decode cc pc = .ok (.invokespecial idx, 3)) (h1 : Cond.methodLink own idx Lib.objectInit ∈ Gw) (h2 : Cond.instanceMethod Lib.objectInit ∈ Gw) (h3 : Cond.code Lib.objectInit ⟨#[0xb1]⟩ 1 none ∈ Gw) (hd1 : 1 ≤ d) (kk : EvG Z own name cc mL rt d mc ms Q X n h (pc + 3) lv []) : EvG Z own name cc mL rt d mc ms Q X n h pc lv [.ref b] := by
  intro p l e R s m args below meth c D tc n0 ad0 ad adK A H locs cells slots MC MS ls fx rm wd hn he hl
  have k1 := kk p l e R s m args below meth c D tc n0 ad0 ad adK A H locs cells slots MC MS ls fx rm wd hn he hl
  refine W.objInit fx.1 fx.2.1 fx.2.2.2.2.1 (fx.2.2.2.2.2.1 _ h1) (fx.2.2.2.2.2.1 _ h2) (fx.2.2.2.2.2.1 _ h3) rfl (by rw [fx.2.2.2.1]; exact hl.1) (rest := []) rfl hd (by have := rm.1; omega) (by have := rm.2.1; show 2 * 0 + 0 + 12 ≤ R.locals; omega) ?_
  exact k1
/-- a new object -/
def NW (own : String) (idx ci N : Nat) (fs : List Value) : Prop := ∃ (C : String) (T : u_T) (ty0 : Nat → FieldType), vwCl[ci]? = some (C, T, N) ∧ (∀ w ∈ u_ws C T N, w ∈ Gw) ∧ (∀ k, k < N → parseFieldDescriptor (T k).2.2.1 = some (ty0 k)) ∧ Cond.classLink own idx C ∈ Gw ∧ Cond.instantiable C N ∈ Gw ∧ Cond.initialized C ∈ Gw ∧ (∀ j, j < N → defaultValue (ty0 j) = vp_V fs j) ∧ (∀ ad : Nat → Nat, fs.map (cV ad) = fs) ∧ ∀ n, fs.all (okV n) = true
theorem g_new {ci N : Nat} {fs : List Value} (hd : decode cc pc = .ok (.new idx, 3)) (hw : NW own idx ci N fs) (hmc : 1 ≤ mc) (hms : N ≤ ms) (hn1 : n < 1000) (hlv : lv.all (fun q => okV n q.2) = true) (hst : st.all (okV n) = true) (w : WF n h) (kk : WF (n + 1) (va_up h n (.inr (ci, fs))) → EvG Z own name cc mL rt d (mc - 1) (ms - N) Q X (n + 1) (va_up h n (.inr (ci, fs))) (pc + 3) lv (.ref n :: st)) : EvG Z own name cc mL rt d mc ms Q X n h pc lv st := by
  intro p l e R s m args below meth c D tc n0 ad0 ad adK A H locs cells slots MC MS ls fx rm wd hn he hl
  obtain ⟨C, T, ty0, h1, h2, h3, h4, h5, h6, h7, h8, h9⟩ := hw
  have kk := kk (w.new (h9 _))
  have rm2 : Rm d (mc - 1) (ms - N) R (cells + 1) (slots + N) MC MS := ⟨rm.1, rm.2.1, by have := rm.2.2.1; omega, by have := rm.2.2.2.1; omega, by have := rm.2.2.2.2.1; omega, by have := rm.2.2.2.2.2; omega⟩
  refine va_new (D := D) (cl := vwCl) (tys := tyL tc) (C := C) (T := T) (N := N) (fs := fs) fx.1 fx.2.1 fx.2.2.2.2.2.1 h2 ty0 h3 fx.2.2.2.2.1 (fx.2.2.2.2.2.1 _ h4) (fx.2.2.2.2.2.1 _ h5) (fx.2.2.2.2.2.1 _ h6) (gK fx) wd.1 wd.2.1 wd.2.2.1 fx.2.2.2.2.2.2.2.2.2.2.2 h1 h7 (by have := rm.2.2.1; omega) (by have := rm.2.2.2.1; omega) hd (fun q H1 hP hD hS => ?_)
  have e1 : (Sum.inr (ci, fs) : va_E) = cE ad tc (.inr (ci, fs)) := by show _ = Sum.inr (ci, fs.map (cV ad)); rw [h8]
  rw [e1] at hP hD
  have k1 := kk p l e R s m args below meth c D tc n0 ad0 (psh ad n q) adK A H1 locs (cells + 1) (slots + N) MC MS ls fx rm2 (Wd.push wd.2.2.2 hn1 w (h9 n) hP hD hS) (by omega) (ext_psh hn he) (by rw [cLs_ok psh_lt (psh_k hn1) hlv]; exact hl)
  rw [List.map_cons, cVs_ok psh_lt (psh_k hn1) hst, cV_ref, psh_n] at k1
  exact k1
theorem g_newaI {N : Nat} (hd : decode cc pc = .ok (.newarray .int, 2)) (harr : Cond.arrayClass .int ∈ Gw) (hN : N < 100000) (hmc : 1 ≤ mc) (hms : N ≤ ms) (hn1 : n < 1000) (hlv : lv.all (fun q => okV n q.2) = true) (hst : st.all (okV n) = true) (w : WF n h) (kk : WF (n + 1) (va_up h n (.inl (0, N, fun _ => 0))) → EvG Z own name cc mL rt d (mc - 1) (ms - N) Q X (n + 1) (va_up h n (.inl (0, N, fun _ => 0))) (pc + 2) lv (.ref n :: st)) : EvG Z own name cc mL rt d mc ms Q X n h pc lv (iv (N : Nat) :: st) := by
  intro p l e R s m args below meth c D tc n0 ad0 ad adK A H locs cells slots MC MS ls fx rm wd hn he hl
  have kk := kk (w.new rfl)
  have rm2 : Rm d (mc - 1) (ms - N) R (cells + 1) (slots + N) MC MS := ⟨rm.1, rm.2.1, by have := rm.2.2.1; omega, by have := rm.2.2.2.1; omega, by have := rm.2.2.2.2.1; omega, by have := rm.2.2.2.2.2; omega⟩
  refine va_newa (atype := .int) (D := D) (cl := vwCl) (tys := tyL tc) (ty := .int) (a0 := (N, cF 0 (fun _ => 0))) (N' := N) fx.1 fx.2.1 (fx.2.2.2.2.2.1 _ harr) rfl (gK fx) wd.1 wd.2.1 wd.2.2.1 fx.2.2.2.2.2.2.2.2.2.2.2 (fun _ => rfl) (by rw [show (0 : Int32) = Int32.ofInt 0 from rfl, tLt ⟨by omega, by omega⟩ (by decide)]; omega) (by rw [tCl (by omega) (by omega)]; omega) (by show N * _ ≤ _; simp only [componentBytes]; omega) (by have := rm.2.2.1; omega) (by have := rm.2.2.2.1; omega) hd (fun q cA H1 hK1 hP hD hS => ?_)
  have e0 : cA = tc 0 := by
    have a1 : va_RA s cA .int := (hK1.2 4 _ rfl).2
    have a2 : va_RA s (tc 0) .int := ((gK fx).2 0 _ rfl).2
    exact Option.some.inj (Eq.trans (Eq.symm a1) a2)
  rw [e0] at hP hD
  have k1 := kk p l e R s m args below meth c D tc n0 ad0 (psh ad n q) adK A H1 locs (cells + 1) (slots + N) MC MS ls fx rm2 (Wd.push (e := .inl (0, N, fun _ => 0)) wd.2.2.2 hn1 w rfl hP hD hS) (by omega) (ext_psh hn he) (by rw [cLs_ok psh_lt (psh_k hn1) hlv]; exact hl)
  rw [List.map_cons, cVs_ok psh_lt (psh_k hn1) hst, cV_ref, psh_n] at k1
  exact k1
theorem g_newaB {N : Nat} (hd : decode cc pc = .ok (.newarray .byte, 2)) (harr : Cond.arrayClass .byte ∈ Gw) (hN : N < 100000) (hmc : 1 ≤ mc) (hms : N ≤ ms) (hn1 : n < 1000) (hlv : lv.all (fun q => okV n q.2) = true) (hst : st.all (okV n) = true) (w : WF n h) (kk : WF (n + 1) (va_up h n (.inl (1, N, fun _ => 0))) → EvG Z own name cc mL rt d (mc - 1) (ms - N) Q X (n + 1) (va_up h n (.inl (1, N, fun _ => 0))) (pc + 2) lv (.ref n :: st)) : EvG Z own name cc mL rt d mc ms Q X n h pc lv (iv (N : Nat) :: st) := by
  intro p l e R s m args below meth c D tc n0 ad0 ad adK A H locs cells slots MC MS ls fx rm wd hn he hl
  have kk := kk (w.new rfl)
  have rm2 : Rm d (mc - 1) (ms - N) R (cells + 1) (slots + N) MC MS := ⟨rm.1, rm.2.1, by have := rm.2.2.1; omega, by have := rm.2.2.2.1; omega, by have := rm.2.2.2.2.1; omega, by have := rm.2.2.2.2.2; omega⟩
  refine va_newa (atype := .byte) (D := D) (cl := vwCl) (tys := tyL tc) (ty := .byte) (a0 := (N, cF 1 (fun _ => 0))) (N' := N) fx.1 fx.2.1 (fx.2.2.2.2.2.1 _ harr) rfl (gK fx) wd.1 wd.2.1 wd.2.2.1 fx.2.2.2.2.2.2.2.2.2.2.2 (fun _ => rfl) (by rw [show (0 : Int32) = Int32.ofInt 0 from rfl, tLt ⟨by omega, by omega⟩ (by decide)]; omega) (by rw [tCl (by omega) (by omega)]; omega) (by show N * _ ≤ _; simp only [componentBytes]; omega) (by have := rm.2.2.1; omega) (by have := rm.2.2.2.1; omega) hd (fun q cA H1 hK1 hP hD hS => ?_)
  have e0 : cA = tc 1 := by
    have a1 : va_RA s cA .byte := (hK1.2 4 _ rfl).2
    have a2 : va_RA s (tc 1) .byte := ((gK fx).2 1 _ rfl).2
    exact Option.some.inj (Eq.trans (Eq.symm a1) a2)
  rw [e0] at hP hD
  have k1 := kk p l e R s m args below meth c D tc n0 ad0 (psh ad n q) adK A H1 locs (cells + 1) (slots + N) MC MS ls fx rm2 (Wd.push (e := .inl (1, N, fun _ => 0)) wd.2.2.2 hn1 w rfl hP hD hS) (by omega) (ext_psh hn he) (by rw [cLs_ok psh_lt (psh_k hn1) hlv]; exact hl)
  rw [List.map_cons, cVs_ok psh_lt (psh_k hn1) hst, cV_ref, psh_n] at k1
  exact k1
theorem g_newaZ {N : Nat} (hd : decode cc pc = .ok (.newarray .boolean, 2)) (harr : Cond.arrayClass .boolean ∈ Gw) (hN : N < 100000) (hmc : 1 ≤ mc) (hms : N ≤ ms) (hn1 : n < 1000) (hlv : lv.all (fun q => okV n q.2) = true) (hst : st.all (okV n) = true) (w : WF n h) (kk : WF (n + 1) (va_up h n (.inl (2, N, fun _ => 0))) → EvG Z own name cc mL rt d (mc - 1) (ms - N) Q X (n + 1) (va_up h n (.inl (2, N, fun _ => 0))) (pc + 2) lv (.ref n :: st)) : EvG Z own name cc mL rt d mc ms Q X n h pc lv (iv (N : Nat) :: st) := by
  intro p l e R s m args below meth c D tc n0 ad0 ad adK A H locs cells slots MC MS ls fx rm wd hn he hl
  have kk := kk (w.new rfl)
  have rm2 : Rm d (mc - 1) (ms - N) R (cells + 1) (slots + N) MC MS := ⟨rm.1, rm.2.1, by have := rm.2.2.1; omega, by have := rm.2.2.2.1; omega, by have := rm.2.2.2.2.1; omega, by have := rm.2.2.2.2.2; omega⟩
  refine va_newa (atype := .boolean) (D := D) (cl := vwCl) (tys := tyL tc) (ty := .boolean) (a0 := (N, cF 2 (fun _ => 0))) (N' := N) fx.1 fx.2.1 (fx.2.2.2.2.2.1 _ harr) rfl (gK fx) wd.1 wd.2.1 wd.2.2.1 fx.2.2.2.2.2.2.2.2.2.2.2 (fun _ => rfl) (by rw [show (0 : Int32) = Int32.ofInt 0 from rfl, tLt ⟨by omega, by omega⟩ (by decide)]; omega) (by rw [tCl (by omega) (by omega)]; omega) (by show N * _ ≤ _; simp only [componentBytes]; omega) (by have := rm.2.2.1; omega) (by have := rm.2.2.2.1; omega) hd (fun q cA H1 hK1 hP hD hS => ?_)
  have e0 : cA = tc 2 := by
    have a1 : va_RA s cA .boolean := (hK1.2 4 _ rfl).2
    have a2 : va_RA s (tc 2) .boolean := ((gK fx).2 2 _ rfl).2
    exact Option.some.inj (Eq.trans (Eq.symm a1) a2)
  rw [e0] at hP hD
  have k1 := kk p l e R s m args below meth c D tc n0 ad0 (psh ad n q) adK A H1 locs (cells + 1) (slots + N) MC MS ls fx rm2 (Wd.push (e := .inl (2, N, fun _ => 0)) wd.2.2.2 hn1 w rfl hP hD hS) (by omega) (ext_psh hn he) (by rw [cLs_ok psh_lt (psh_k hn1) hlv]; exact hl)
  rw [List.map_cons, cVs_ok psh_lt (psh_k hn1) hst, cV_ref, psh_n] at k1
  exact k1
theorem g_newaJ {N : Nat} (hd : decode cc pc = .ok (.newarray .long, 2)) (harr : Cond.arrayClass .long ∈ Gw) (hN : N < 100000) (hmc : 1 ≤ mc) (hms : N ≤ ms) (hn1 : n < 1000) (hlv : lv.all (fun q => okV n q.2) = true) (hst : st.all (okV n) = true) (w : WF n h) (kk : WF (n + 1) (va_up h n (.inl (3, N, fun _ => 0))) → EvG Z own name cc mL rt d (mc - 1) (ms - N) Q X (n + 1) (va_up h n (.inl (3, N, fun _ => 0))) (pc + 2) lv (.ref n :: st)) : EvG Z own name cc mL rt d mc ms Q X n h pc lv (iv (N : Nat) :: st) := by
  intro p l e R s m args below meth c D tc n0 ad0 ad adK A H locs cells slots MC MS ls fx rm wd hn he hl
  have kk := kk (w.new rfl)
  have rm2 : Rm d (mc - 1) (ms - N) R (cells + 1) (slots + N) MC MS := ⟨rm.1, rm.2.1, by have := rm.2.2.1; omega, by have := rm.2.2.2.1; omega, by have := rm.2.2.2.2.1; omega, by have := rm.2.2.2.2.2; omega⟩
  refine va_newa (atype := .long) (D := D) (cl := vwCl) (tys := tyL tc) (ty := .long) (a0 := (N, cF 3 (fun _ => 0))) (N' := N) fx.1 fx.2.1 (fx.2.2.2.2.2.1 _ harr) rfl (gK fx) wd.1 wd.2.1 wd.2.2.1 fx.2.2.2.2.2.2.2.2.2.2.2 (fun _ => rfl) (by rw [show (0 : Int32) = Int32.ofInt 0 from rfl, tLt ⟨by omega, by omega⟩ (by decide)]; omega) (by rw [tCl (by omega) (by omega)]; omega) (by show N * _ ≤ _; simp only [componentBytes]; omega) (by have := rm.2.2.1; omega) (by have := rm.2.2.2.1; omega) hd (fun q cA H1 hK1 hP hD hS => ?_)
  have e0 : cA = tc 3 := by
    have a1 : va_RA s cA .long := (hK1.2 4 _ rfl).2
    have a2 : va_RA s (tc 3) .long := ((gK fx).2 3 _ rfl).2
    exact Option.some.inj (Eq.trans (Eq.symm a1) a2)
  rw [e0] at hP hD
  have k1 := kk p l e R s m args below meth c D tc n0 ad0 (psh ad n q) adK A H1 locs (cells + 1) (slots + N) MC MS ls fx rm2 (Wd.push (e := .inl (3, N, fun _ => 0)) wd.2.2.2 hn1 w rfl hP hD hS) (by omega) (ext_psh hn he) (by rw [cLs_ok psh_lt (psh_k hn1) hlv]; exact hl)
  rw [List.map_cons, cVs_ok psh_lt (psh_k hn1) hst, cV_ref, psh_n] at k1
  exact k1
end
