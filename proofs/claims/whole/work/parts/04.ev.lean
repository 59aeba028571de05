/-! ===== MY OWN LAYER: one abstract heap (cells by number), whole numbers instead of ints ===== -/
abbrev aE : Type := (Nat × Nat × (Nat → Int)) ⊕ (Nat × List Value)
abbrev aH : Type := Nat → aE
abbrev iv (z : Int) : Value := Value.int (Int32.ofInt z)
def cV (ad : Nat → Nat) (v : Value) : Value := match v with
  | .ref i => .ref (ad i)
  | w => w
theorem cV_int (ad : Nat → Nat) (x : Int32) : cV ad (.int x) = .int x := rfl
theorem cV_ref (ad : Nat → Nat) (i : Nat) : cV ad (.ref i) = .ref (ad i) := rfl
theorem cV_cat (ad : Nat → Nat) (v : Value) : (cV ad v).category = v.category := by cases v <;> rfl
def cF (t : Nat) (f : Nat → Int) : (Nat → Int32) ⊕ (Nat → Int64) ⊕ (Nat → UInt32) ⊕ (Nat → UInt64) ⊕ (Nat → Option Nat) := if t = 3 then .inr (.inl (fun j => Int64.ofInt (f j))) else .inl (fun j => Int32.ofInt (f j))
def cE (ad : Nat → Nat) (tc : Nat → ClassId) (e : aE) : va_E := match e with
  | .inl a => .inl (tc a.1, a.2.1, cF a.1 a.2.2)
  | .inr o => .inr (o.1, o.2.map (cV ad))
def cW (ad : Nat → Nat) (tc : Nat → ClassId) (n : Nat) (h : aH) : va_W := (List.range n).map (fun i => (ad i, cE ad tc (h i)))
theorem cW_get {ad : Nat → Nat} {tc : Nat → ClassId} {n : Nat} {h : aH} {i : Nat} (hi : i < n) : (cW ad tc n h)[i]? = some (ad i, cE ad tc (h i)) := by
  simp [cW, hi]
theorem cW_set {ad : Nat → Nat} {tc : Nat → ClassId} {n : Nat} {h : aH} {i : Nat} {e : aE} : (cW ad tc n h).set i (ad i, cE ad tc e) = cW ad tc n (va_up h i e) := by
  apply List.ext_getElem?
  intro k
  by_cases hk : k < n
  · by_cases hki : i = k
    · subst hki
      rw [List.getElem?_set_self (by simp [cW, hk]), cW_get hk]
      simp [va_up]
    · rw [List.getElem?_set_ne hki, cW_get hk, cW_get hk]
      simp [va_up, Ne.symm hki]
  · have h1 : (cW ad tc n (va_up h i e)).length ≤ k := by simp [cW]; omega
    have h2 : ((cW ad tc n h).set i (ad i, cE ad tc e)).length ≤ k := by simp [cW]; omega
    rw [List.getElem?_eq_none h1, List.getElem?_eq_none h2]
def tyL (tc : Nat → ClassId) : List (ClassId × FieldType) := [(tc 0, .int), (tc 1, .byte), (tc 2, .boolean), (tc 3, .long)]
def aT (t : Nat) : FieldType := if t = 0 then .int else if t = 1 then .byte else if t = 2 then .boolean else .long
/-- the words of all methods: the tables' good ones -/
def Gw : List Cond := lw_tbl.filter goodWord
/-- what lies outside and is only read: the statics of Throwable, the String constants (adK: their cells) -/
def strT : List (String × Nat × String × List Int32) := []
def Gl (adK : Nat → Nat) (A : Nat → Prop) (U : State) (H : Heap) : Prop :=
  vx_Zq Bundle.tN "UNASSIGNED_STACK" Bundle.steD A U H ∧ vx_Zq Bundle.tN "SUPPRESSED_SENTINEL" Bundle.listD A U H
theorem Gl.moved {adK : Nat → Nat} {A : Nat → Prop} {u U : State} {H : Heap} (hvm : u.vm.Alike U.vm) (h : Gl adK A u H) : Gl adK A U H := ⟨vx_Zq.moved hvm h.1, vx_Zq.moved hvm h.2⟩
theorem Gl.kept {adK : Nat → Nat} {A : Nat → Prop} {U : State} {H H1 : Heap} (h : Gl adK A U H) (hq : ∀ a : Nat, a < H.size → ¬ A a → H1[a]? = H[a]?) : Gl adK A U H1 := ⟨h.1.kept hq, h.2.kept hq⟩
theorem Gl.narrow {adK : Nat → Nat} {A B : Nat → Prop} {U : State} {H : Heap} (h : Gl adK A U H) (hAB : ∀ q, B q → A q) : Gl adK B U H := ⟨h.1.narrow hAB, h.2.narrow hAB⟩
/-- the fixed surroundings of a body -/
def Fx (own name : String) (cc : ByteArray) (mL : Nat) (rt : Option FieldType) (p : Program) (l : Launch) (s : State) (m : MethodId) (args : Array Value) (meth : Method) (c : Code) : Prop :=
  p.tables.exec = Jvm.exec ∧ c.code = cc ∧ meth.sig.returnType = rt ∧ c.maxLocals = mL ∧ s.vm.findClass own = some m.cls ∧ (∀ w ∈ Gw, w.before args s = true) ∧ meth.locks = false ∧ meth.name = name ∧ l.stackTraces = false ∧ ∀ x ∈ c.exceptionTable.toList, False
def Rm (d mc ms : Nat) (R : Room) (cells slots MC MS : Nat) : Prop := d ≤ R.frames ∧ 60 * d ≤ R.locals ∧ cells + mc ≤ R.cells ∧ slots + ms ≤ R.slots ∧ cells + mc ≤ MC ∧ slots + ms ≤ MS
def Wd (D : va_G) (tc : Nat → ClassId) (ad adK : Nat → Nat) (A : Nat → Prop) (s : State) (n : Nat) (h : aH) (H : Heap) (locs : List Loc) : Prop :=
  va_K D vwCl (tyL tc) s ∧ va_P D vwCl (cW ad tc n h) H ∧ va_D A (cW ad tc n h) ∧ va_S A s.heap H locs ∧ (∀ q : Nat, s.heap.size ≤ q → A q) ∧ Gl adK A s H ∧ ∀ k, ad (1000 + k) = adK k
def ext (n : Nat) (ad ad' : Nat → Nat) : Prop := ∀ i, i < n → ad' i = ad i
/-- the same, seen from the end -/
def Wt (D : va_G) (tc : Nat → ClassId) (ad adK : Nat → Nat) (A : Nat → Prop) (n : Nat) (h : aH) (t : State) : Prop :=
  va_K D vwCl (tyL tc) t ∧ va_P D vwCl (cW ad tc n h) t.heap ∧ va_D A (cW ad tc n h) ∧ Gl adK A t t.heap ∧ ∀ k, ad (1000 + k) = adK k
theorem Wd.end {D : va_G} {tc : Nat → ClassId} {ad adK : Nat → Nat} {A : Nat → Prop} {s : State} {n : Nat} {h : aH} {H : Heap} {locs : List Loc} (w : Wd D tc ad adK A s n h H locs) {t : State} (ht : t.heap = H) (hvm : s.vm.Alike t.vm) : Wt D tc ad adK A n h t ∧ va_F A s t := by
  obtain ⟨hK, hP, hD, hS, hA, hG, hk⟩ := w
  subst ht
  exact ⟨⟨va_K.moved hvm hK, hP, hD, hG.moved hvm, hk⟩, hS.F rfl⟩
def SQ (Q : Option Value → Nat → aH → Prop) (n : Nat) (D : va_G) (tc : Nat → ClassId) (ad adK : Nat → Nat) (A : Nat → Prop) : Array Value → State → Outcome → State → Prop := fun _ st oc t =>
  (∃ (v : Option Value) (n' : Nat) (h' : aH) (ad' : Nat → Nat), oc = .returned (v.map (cV ad')) ∧ Q v n' h' ∧ ext n ad ad' ∧ Wt D tc ad' adK A n' h' t) ∧ va_F A st t
def SX (X : String → Nat → aH → Prop) (n : Nat) (D : va_G) (tc : Nat → ClassId) (ad adK : Nat → Nat) (A : Nat → Prop) : String → State → State → Prop := fun E st t =>
  (∃ (n' : Nat) (h' : aH) (ad' : Nat → Nat), X E n' h' ∧ ext n ad ad' ∧ Wt D tc ad' adK A n' h' t) ∧ va_F A st t
/-- THE JUDGEMENT: from pc on, with these locals, this stack and this heap, the body comes to an end that Q (or X, if it throws) takes -/
def Ev (own name : String) (cc : ByteArray) (mL : Nat) (rt : Option FieldType) (d mc ms : Nat) (Q : Option Value → Nat → aH → Prop) (X : String → Nat → aH → Prop) (n : Nat) (h : aH) (pc : Nat) (lv : List (Nat × Value)) (st : List Value) : Prop :=
  ∀ (p : Program) (l : Launch) (e : Env) (R : Room) (s : State) (m : MethodId) (args : Array Value) (below : List Frame) (meth : Method) (c : Code) (D : va_G) (tc : Nat → ClassId) (n0 : Nat) (ad0 ad adK : Nat → Nat) (A : Nat → Prop) (H : Heap) (locs : List Loc) (cells slots MC MS : Nat) (ls : Array Slot),
    Fx own name cc mL rt p l s m args meth c → Rm d mc ms R cells slots MC MS → Wd D tc ad adK A s n h H locs → n0 ≤ n → ext n0 ad0 ad → lv_has ls mL (lv.map (fun q => (q.1, cV ad q.2))) →
    W p l e R s m args below meth c H locs cells slots (vx_MQ below (SQ Q n0 D tc ad0 adK A) (SX X n0 D tc ad0 adK A) args s MC MS A) (F0 m pc ls (st.map (cV ad)))
def wsO (y : MethodName) (cc : ByteArray) (mL : Nat) (rt : Option FieldType) : List Cond := .code y cc mL rt :: Gw
def rmO (d mc ms : Nat) : Room := { frames := d, cells := mc, slots := ms, locals := 60 * d }
/-- A METHOD's CONTRACT -/
def Sem (y : MethodName) (cc : ByteArray) (mL : Nat) (rt : Option FieldType) (d mc ms : Nat) (av : List Value) (n : Nat) (h : aH) (Q : Option Value → Nat → aH → Prop) (X : String → Nat → aH → Prop) : Prop :=
  ∀ (l : Launch) (D : va_G) (tc : Nat → ClassId) (ad adK : Nat → Nat) (sz : Nat), l.stackTraces = false →
    vx_Met l y (wsO y cc mL rt) (rmO d mc ms) (va_Pc (av.map (cV ad)) (fun U => U.heap.size = sz ∧ Wt D tc ad adK (va_A (cW ad tc n h) sz) n h U)) (SQ Q n D tc ad adK (va_A (cW ad tc n h) sz)) (SX X n D tc ad adK (va_A (cW ad tc n h) sz)) mc ms (va_A (cW ad tc n h) sz)
theorem lv_args_map (ad : Nat → Nat) : ∀ (av : List Value) (i : Nat), lv_args i (av.map (cV ad)) = (lv_args i av).map (fun q => (q.1, cV ad q.2)) := by
  intro av
  induction av with
  | nil => intro i; rfl
  | cons v vs ih => intro i; simp only [List.map_cons, lv_args, cV_cat, ih]
theorem lg_sl_len (ad : Nat → Nat) (av : List Value) : (lg_sl (av.map (cV ad))).length = (lg_sl av).length := by
  induction av with
  | nil => rfl
  | cons v vs ih =>
    simp only [lg_sl, List.map_cons, List.flatMap_cons, List.length_append, cV_cat] at ih ⊢
    rw [ih]
    split <;> rfl
theorem Sem.of {y : MethodName} {own name : String} {cc : ByteArray} {mL : Nat} {rt : Option FieldType} {d mc ms : Nat} {av : List Value} {n : Nat} {h : aH} {Q : Option Value → Nat → aH → Prop} {X : String → Nat → aH → Prop}
    (hy : plainName y.cls = true) (ho : y.cls = own) (hnm : y.name = name) (hlen : (lg_sl av).length ≤ mL) (k : Ev own name cc mL rt d mc ms Q X n h 0 (lv_args 0 av) []) : Sem y cc mL rt d mc ms av n h Q X := by
  intro l D tc ad adK sz hl
  refine vx_ofW (cc := cc) (maxL := mL) (ret := rt) hy rfl ?_
  intro p e s m args below meth c s₁ B hml hx hv
  obtain ⟨rfl, hsz, hK, hP, hD, hG, hk⟩ := hv
  subst hsz
  have hts := atoms_spec (ws := wsO y cc mL rt) B.pre
  have hnames := name_of_methodNamed B.named B.method
  rw [lg_entry_eq]
  have hl0 := lv_entry (av.map (cV ad)) (n := mL) (by rw [lg_sl_len]; exact hlen)
  rw [lv_args_map] at hl0
  refine k p l e _ s m _ below meth c D tc n ad ad adK _ s.heap [] 0 0 mc ms _ ⟨B.exec, B.bytes, B.returns, hml, ?_, fun w hw => hts w (List.mem_cons_of_mem _ hw), B.notSynchronized, ?_, hl, hx⟩ ⟨Nat.le_refl _, Nat.le_refl _, by show 0 + mc ≤ mc; omega, by show 0 + ms ≤ ms; omega, by omega, by omega⟩ ⟨hK, hP, hD, va_S.rf, fun q hq => Or.inr hq, hG, hk⟩ (Nat.le_refl _) (fun _ _ => rfl) hl0
  · rw [← ho]; exact findClass_of_methodNamed B.named
  · rw [← hnm]; exact hnames.1
