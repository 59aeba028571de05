/-! ===== MY OWN LAYER: one abstract heap (cells by number), whole numbers instead of ints ===== -/
abbrev aE : Type := (Nat × Nat × (Nat → Int)) ⊕ (Nat × List Value)
abbrev aH : Type := Nat → aE
abbrev iv (z : Int) : Value := Value.int (Int32.ofInt z)
def cV (ad : Nat → Nat) (v : Value) : Value := match v with
  | .ref i => .ref (ad i)
  | w => w
theorem cV_int (ad : Nat → Nat) (x : Int32) : cV ad (.int x) = .int x := rfl
theorem cV_ref (ad : Nat → Nat) (i : Nat) : cV ad (.ref i) = .ref (ad i) := rfl
theorem cV_cat (ad : Nat → Nat) (v : Value) : (cV ad v).category = v.category := by cases v <;> rfl
def cF (t : Nat) (f : Nat → Int) : (Nat → Int32) ⊕ (Nat → Int64) ⊕ (Nat → UInt32) ⊕ (Nat → UInt64) ⊕ (Nat → Option Nat) := if t = 3 then .inr (.inl (fun j => Int64.ofInt (f j))) else .inl (fun j => Int32.ofInt (f j))
def cE (ad : Nat → Nat) (tc : Nat → ClassId) (e : aE) : va_E := match e with
  | .inl a => .inl (tc a.1, a.2.1, cF a.1 a.2.2)
  | .inr o => .inr (o.1, o.2.map (cV ad))
def cW (ad : Nat → Nat) (tc : Nat → ClassId) (n : Nat) (h : aH) : va_W := (List.range n).map (fun i => (ad i, cE ad tc (h i)))
theorem cW_get {ad : Nat → Nat} {tc : Nat → ClassId} {n : Nat} {h : aH} {i : Nat} (hi : i < n) : (cW ad tc n h)[i]? = some (ad i, cE ad tc (h i)) := by
  simp [cW, hi]
theorem cW_set {ad : Nat → Nat} {tc : Nat → ClassId} {n : Nat} {h : aH} {i : Nat} {e : aE} : (cW ad tc n h).set i (ad i, cE ad tc e) = cW ad tc n (va_up h i e) := by
  apply List.ext_getElem?
  intro k
  by_cases hk : k < n
  · by_cases hki : i = k
    · subst hki
      rw [List.getElem?_set_self (by simp [cW, hk]), cW_get hk]
      simp [va_up]
    · rw [List.getElem?_set_ne hki, cW_get hk, cW_get hk]
      simp [va_up, Ne.symm hki]
  · have h1 : (cW ad tc n (va_up h i e)).length ≤ k := by simp [cW]; omega
    have h2 : ((cW ad tc n h).set i (ad i, cE ad tc e)).length ≤ k := by simp [cW]; omega
    rw [List.getElem?_eq_none h1, List.getElem?_eq_none h2]
def tyL (tc : Nat → ClassId) : List (ClassId × FieldType) := [(tc 0, .int), (tc 1, .byte), (tc 2, .boolean), (tc 3, .long)]
/-- the words of all methods: the tables' good ones -/
def Gw : List Cond := lw_tbl.filter goodWord
theorem inG {w : Cond} (i : Nat) (h : tables_1[i]? = some w) (g : goodWord w = true) : w ∈ Gw := List.mem_filter.mpr ⟨List.mem_append_right _ (List.mem_of_getElem? h), g⟩
theorem inGs {w : Cond} (i : Nat) (h : (k2_sels lw_privs)[i]? = some w) (g : goodWord w = true) : w ∈ Gw := List.mem_filter.mpr ⟨List.mem_append_left _ (List.mem_of_getElem? h), g⟩
def strR : List (String × Nat × String × Nat) := [("LyingDials", 382, "the tape has not so many bytes", 23), ("LyingDials$PortReader", 44, "dial", 0), ("LyingDials$PortReader", 113, "east", 1), ("LyingDials$PortReader", 115, "west", 2), ("LyingDials$PortReader", 117, "bowl", 3), ("LyingDials$PortReader", 119, "moon", 4), ("LyingDials$PortReader", 121, "cannon", 5), ("LyingDials$PortReader", 123, "painted", 6), ("LyingDials$PortReader", 108, "grown", 7), ("LyingDials$PortReader", 53, "limps", 8), ("LyingDials$PortReader", 58, "swing", 9), ("LyingDials$PortReader", 63, "cloud", 10), ("LyingDials$LawReader", 48, "dial", 0), ("LyingDials$LawReader", 58, "middle", 11), ("LyingDials$LawReader", 63, "first", 12), ("LyingDials$LawReader", 68, "mean", 13), ("LyingDials$LawReader", 74, "late", 14), ("LyingDials$LawReader", 79, "if", 15), ("LyingDials$LawReader", 84, "not", 16), ("LyingDials$LawReader", 89, "dark", 17), ("LyingDials$LawReader", 94, "month", 18), ("LyingDials$LawReader", 99, "before", 19), ("LyingDials$LawReader", 147, "then", 20), ("LyingDials$LawReader", 152, "else", 21), ("LyingDials$LawReader", 154, "end", 22), ("LyingDials", 386, "no such day", 24), ("LyingDials", 388, "no such minute", 25), ("LyingDials", 392, "there is no law", 26), ("LyingDials", 390, "no such what", 27), ("LyingDials", 204, "no such count", 28), ("LyingDials", 384, "no such dial", 29), ("LyingDials", 261, "no fault fits", 30), ("LyingDials", 325, "within 0 to 120 minutes", 31), ("LyingDials", 327, "a painted dial is not mended", 32), ("LyingDials", 354, "no such dials", 33)]
def strW : List (List Int) := [[100, 105, 97, 108], [101, 97, 115, 116], [119, 101, 115, 116], [98, 111, 119, 108], [109, 111, 111, 110], [99, 97, 110, 110, 111, 110], [112, 97, 105, 110, 116, 101, 100], [103, 114, 111, 119, 110], [108, 105, 109, 112, 115], [115, 119, 105, 110, 103], [99, 108, 111, 117, 100], [109, 105, 100, 100, 108, 101], [102, 105, 114, 115, 116], [109, 101, 97, 110], [108, 97, 116, 101], [105, 102], [110, 111, 116], [100, 97, 114, 107], [109, 111, 110, 116, 104], [98, 101, 102, 111, 114, 101], [116, 104, 101, 110], [101, 108, 115, 101], [101, 110, 100]]
def nestW : List (String × Nat × MethodName × String) := [("LyingDials", 26, ⟨"LyingDials$Scan", "<init>", "()V"⟩, "LyingDials"), ("LyingDials", 33, ⟨"LyingDials$PortReader", "<init>", "()V"⟩, "LyingDials"), ("LyingDials", 40, ⟨"LyingDials$LawReader", "<init>", "()V"⟩, "LyingDials"), ("LyingDials", 47, ⟨"LyingDials$Port", "<init>", "()V"⟩, "LyingDials"), ("LyingDials", 57, ⟨"LyingDials$Law", "<init>", "()V"⟩, "LyingDials"), ("LyingDials", 84, ⟨"LyingDials$Fits", "<init>", "()V"⟩, "LyingDials"), ("LyingDials", 91, ⟨"LyingDials$Tally", "<init>", "()V"⟩, "LyingDials"), ("LyingDials$Port", 103, ⟨"LyingDials", "around", "(I)I"⟩, "LyingDials"), ("LyingDials$Law", 49, ⟨"LyingDials", "middleOf", "([II[I)I"⟩, "LyingDials"), ("LyingDials$Tally", 43, ⟨"LyingDials", "wrongBy", "(II)I"⟩, "LyingDials"), ("LyingDials$Fits", 53, ⟨"LyingDials", "around", "(I)I"⟩, "LyingDials")]
/-- what lies outside and is only read: the statics of Throwable and String, the String constants (adK: their cells, and from 1000 on their byte rows) -/
def Gl (adK : Nat → Nat) (A : Nat → Prop) (U : State) (H : Heap) : Prop :=
  vx_Zq Bundle.tN "UNASSIGNED_STACK" Bundle.steD A U H ∧ vx_Zq Bundle.tN "SUPPRESSED_SENTINEL" Bundle.listD A U H ∧ va_Z "java/lang/String" "COMPACT_STRINGS" "Z" (.int 1) A U H ∧
  (va_Z "jdk/internal/util/Preconditions" "SIOOBE_FORMATTER" "Ljava/util/function/BiFunction;" .null A U H ∨ va_Z "jdk/internal/util/Preconditions" "SIOOBE_FORMATTER" "Ljava/util/function/BiFunction;" (.ref (adK 2000)) A U H) ∧
  ∀ i, i < 23 → va_O "java/lang/String" (adK i) A U H ∧ va_OF "java/lang/String" "coder" "B" (.int 0) (adK i) A U H ∧ va_OF "java/lang/String" "value" "[B" (.ref (adK (1000 + i))) (adK i) A U H ∧ va_T .byte (adK (1000 + i)) (strW.getD i []).length (fun j => .int (Int32.ofInt ((strW.getD i []).getD j 0))) A U H
theorem Gl.moved {adK : Nat → Nat} {A : Nat → Prop} {u U : State} {H : Heap} (hvm : u.vm.Alike U.vm) (h : Gl adK A u H) : Gl adK A U H := ⟨vx_Zq.moved hvm h.1, vx_Zq.moved hvm h.2.1, va_Z.moved hvm h.2.2.1, h.2.2.2.1.imp (va_Z.moved hvm) (va_Z.moved hvm), fun i hi => ⟨va_O.moved hvm (h.2.2.2.2 i hi).1, va_OF.moved hvm (h.2.2.2.2 i hi).2.1, va_OF.moved hvm (h.2.2.2.2 i hi).2.2.1, va_T.moved hvm (h.2.2.2.2 i hi).2.2.2⟩⟩
theorem Gl.kept {adK : Nat → Nat} {A : Nat → Prop} {U : State} {H H1 : Heap} (h : Gl adK A U H) (hq : ∀ a : Nat, a < H.size → ¬ A a → H1[a]? = H[a]?) : Gl adK A U H1 := ⟨h.1.kept hq, h.2.1.kept hq, h.2.2.1.kept hq, h.2.2.2.1.imp (fun z => z.kept hq) (fun z => z.kept hq), fun i hi => ⟨(h.2.2.2.2 i hi).1.kept hq, (h.2.2.2.2 i hi).2.1.kept hq, (h.2.2.2.2 i hi).2.2.1.kept hq, (h.2.2.2.2 i hi).2.2.2.kept hq⟩⟩
theorem Gl.narrow {adK : Nat → Nat} {A B : Nat → Prop} {U : State} {H : Heap} (h : Gl adK A U H) (hAB : ∀ q, B q → A q) : Gl adK B U H := ⟨h.1.narrow hAB, h.2.1.narrow hAB, h.2.2.1.narrow hAB, h.2.2.2.1.imp (fun z => z.narrow hAB) (fun z => z.narrow hAB), fun i hi => ⟨(h.2.2.2.2 i hi).1.narrow hAB, (h.2.2.2.2 i hi).2.1.narrow hAB, (h.2.2.2.2 i hi).2.2.1.narrow hAB, (h.2.2.2.2 i hi).2.2.2.narrow hAB⟩⟩
def castW : List (String × String) := [("java/lang/IllegalArgumentException", "java/lang/IllegalArgumentException"), ("java/util/NoSuchElementException", "java/util/NoSuchElementException")]
def declW : List MethodName := [⟨"java/lang/RuntimeException", "<init>", "(Ljava/lang/String;)V"⟩, ⟨"java/lang/Exception", "<init>", "(Ljava/lang/String;)V"⟩, ⟨"java/lang/Throwable", "<init>", "(Ljava/lang/String;)V"⟩]
def apartW : List (String × String) := [("java/lang/IllegalArgumentException", "java/util/NoSuchElementException")]
/-- the classes of the arrays -/
def arN (t : Nat) : String := if t = 0 then "[I" else if t = 1 then "[B" else if t = 2 then "[Z" else "[J"
def Tie (tc : Nat → ClassId) (U : State) : Prop := ∀ t, t < 4 → U.vm.findClass (arN t) = some (tc t)
/-- what holds at a method's entry, beside its own cells -/
def Ent (D : va_G) (tc : Nat → ClassId) (adK : Nat → Nat) (A : Nat → Prop) (U : State) : Prop :=
  va_K D vwCl (tyL tc) U ∧ Gl adK A U U.heap ∧ (∀ q ∈ nestW, va_Nw (.methodLinkNest q.1 q.2.1 q.2.2.1 q.2.2.2) U) ∧ (∀ q ∈ strR, vk_R q.1 q.2.1 q.2.2.1 (adK q.2.2.2) U) ∧ (∀ q ∈ castW, va_Nw (.castable q.1 q.2) U) ∧ (∀ q ∈ declW, va_Nw (.declares q) U) ∧ (∀ q ∈ apartW, va_Nc q.1 q.2 U) ∧ Tie tc U
theorem Ent.pass {D : va_G} {tc : Nat → ClassId} {adK : Nat → Nat} {A B : Nat → Prop} {s U : State} (h : Ent D tc adK A s) (hW : s.WarmedH U.vm) (hq : ∀ a : Nat, a < s.heap.size → ¬ A a → U.heap[a]? = s.heap[a]?) (hAB : ∀ q, B q → A q) : Ent D tc adK B U :=
  ⟨va_K.moved hW.alike h.1, ((h.2.1.kept hq).moved hW.alike).narrow hAB, fun q hq => va_Nw.warmM hW (h.2.2.1 q hq), fun q hq => vk_R.warm hW (h.2.2.2.1 q hq), fun q hq => va_tabs rfl (rfl : (s.setVm U.vm).vm = U.vm) (by rw [Cond.castable_setVm hW.alike]; exact h.2.2.2.2.1 q hq), fun q hq => va_Nw.warmD hW (h.2.2.2.2.2.1 q hq), fun q hq => va_Nc.moved hW.alike (h.2.2.2.2.2.2.1 q hq), fun t ht => by rw [hW.alike.findClass]; exact h.2.2.2.2.2.2.2 t ht⟩
theorem Ent.blind {D : va_G} {tc : Nat → ClassId} {adK : Nat → Nat} {A : Nat → Prop} {U : State} (h : Ent D tc adK A U) (g : JFrame) (mk : MethodId) (a : Array Value) : Ent D tc adK A (U.calling g mk a) :=
  ⟨va_K.moved (u := U) (U := U.calling g mk a) (Vm.Alike.refl U.vm) h.1, Gl.moved (u := U) (U := U.calling g mk a) (Vm.Alike.refl U.vm) h.2.1, fun q hq => va_Nw.same rfl (u := U) (U := U.calling g mk a) rfl (h.2.2.1 q hq), fun q hq => vk_R.same (u := U) (U := U.calling g mk a) rfl (h.2.2.2.1 q hq), fun q hq => va_Nw.same rfl (u := U) (U := U.calling g mk a) rfl (h.2.2.2.2.1 q hq), fun q hq => va_Nw.same rfl (u := U) (U := U.calling g mk a) rfl (h.2.2.2.2.2.1 q hq), fun q hq => va_Nc.moved (u := U) (U := U.calling g mk a) (Vm.Alike.refl U.vm) (h.2.2.2.2.2.2.1 q hq), h.2.2.2.2.2.2.2⟩
/-- the fixed surroundings of a body -/
def Fx (own name : String) (cc : ByteArray) (mL : Nat) (rt : Option FieldType) (p : Program) (l : Launch) (s : State) (m : MethodId) (args : Array Value) (meth : Method) (c : Code) (D : va_G) (tc : Nat → ClassId) (adK : Nat → Nat) (A : Nat → Prop) : Prop :=
  p.tables.exec = Jvm.exec ∧ c.code = cc ∧ meth.sig.returnType = rt ∧ c.maxLocals = mL ∧ s.vm.findClass own = some m.cls ∧ (∀ w ∈ Gw, w.before args s = true) ∧ meth.locks = false ∧ meth.name = name ∧ l.stackTraces = false ∧ (∀ x ∈ c.exceptionTable.toList, False) ∧ Ent D tc adK A s ∧ ∀ q : Nat, s.heap.size ≤ q → A q
def Rm (d mc ms : Nat) (R : Room) (cells slots MC MS : Nat) : Prop := d ≤ R.frames ∧ 60 * d ≤ R.locals ∧ cells + mc ≤ R.cells ∧ slots + ms ≤ R.slots ∧ cells + mc ≤ MC ∧ slots + ms ≤ MS
def Wd (D : va_G) (tc : Nat → ClassId) (ad adK : Nat → Nat) (A : Nat → Prop) (s : State) (n : Nat) (h : aH) (H : Heap) (locs : List Loc) : Prop :=
  va_P D vwCl (cW ad tc n h) H ∧ va_D A (cW ad tc n h) ∧ va_S A s.heap H locs ∧ ∀ k, ad (1000 + k) = adK k
def ext (n n' : Nat) (ad ad' : Nat → Nat) : Prop := (n' = n → ad' = ad) ∧ ∀ i, i < n → ad' i = ad i
/-- the same, seen from the end -/
def Wt (D : va_G) (tc : Nat → ClassId) (ad adK : Nat → Nat) (A : Nat → Prop) (n : Nat) (h : aH) (t : State) : Prop :=
  va_P D vwCl (cW ad tc n h) t.heap ∧ va_D A (cW ad tc n h) ∧ ∀ k, ad (1000 + k) = adK k
theorem Wd.end {D : va_G} {tc : Nat → ClassId} {ad adK : Nat → Nat} {A : Nat → Prop} {s : State} {n : Nat} {h : aH} {H : Heap} {locs : List Loc} (w : Wd D tc ad adK A s n h H locs) {t : State} (ht : t.heap = H) : Wt D tc ad adK A n h t ∧ va_F A s t := by
  obtain ⟨hP, hD, hS, hk⟩ := w
  subst ht
  exact ⟨⟨hP, hD, hk⟩, hS.F rfl⟩
def SQ (Q : Option Value → Nat → aH → Prop) (n : Nat) (D : va_G) (tc : Nat → ClassId) (ad adK : Nat → Nat) (A : Nat → Prop) : Array Value → State → Outcome → State → Prop := fun _ st oc t =>
  (∃ (v : Option Value) (n' : Nat) (h' : aH) (ad' : Nat → Nat), oc = .returned (v.map (cV ad')) ∧ Q v n' h' ∧ n ≤ n' ∧ ext n n' ad ad' ∧ Wt D tc ad' adK A n' h' t) ∧ va_F A st t
def SX (X : String → Nat → aH → Prop) (n : Nat) (D : va_G) (tc : Nat → ClassId) (ad adK : Nat → Nat) (A : Nat → Prop) : String → State → State → Prop := fun E st t =>
  (∃ (n' : Nat) (h' : aH) (ad' : Nat → Nat), X E n' h' ∧ n ≤ n' ∧ ext n n' ad ad' ∧ Wt D tc ad' adK A n' h' t) ∧ va_F A st t
/-- THE JUDGEMENT: from pc on, with these locals, this stack and this heap, the body comes to an end that Q (or X, if it throws) takes -/
def Ev (own name : String) (cc : ByteArray) (mL : Nat) (rt : Option FieldType) (d mc ms : Nat) (Q : Option Value → Nat → aH → Prop) (X : String → Nat → aH → Prop) (n : Nat) (h : aH) (pc : Nat) (lv : List (Nat × Value)) (st : List Value) : Prop :=
  ∀ (p : Program) (l : Launch) (e : Env) (R : Room) (s : State) (m : MethodId) (args : Array Value) (below : List Frame) (meth : Method) (c : Code) (D : va_G) (tc : Nat → ClassId) (n0 : Nat) (ad0 ad adK : Nat → Nat) (A : Nat → Prop) (H : Heap) (locs : List Loc) (cells slots MC MS : Nat) (ls : Array Slot),
    Fx own name cc mL rt p l s m args meth c D tc adK A → Rm d mc ms R cells slots MC MS → Wd D tc ad adK A s n h H locs → n0 ≤ n → ext n0 n ad0 ad → lv_has ls mL (lv.map (fun q => (q.1, cV ad q.2))) →
    W p l e R s m args below meth c H locs cells slots (vx_MQ below (SQ Q n0 D tc ad0 adK A) (SX X n0 D tc ad0 adK A) args s MC MS A) (F0 m pc ls (st.map (cV ad)))
def wsO (y : MethodName) (cc : ByteArray) (mL : Nat) (rt : Option FieldType) : List Cond := .code y cc mL rt :: Gw
def rmO (d mc ms : Nat) : Room := { frames := d, cells := mc, slots := ms, locals := 60 * d }
def SP (av : List Value) (n : Nat) (h : aH) (D : va_G) (tc : Nat → ClassId) (ad adK : Nat → Nat) (sz : Nat) : Array Value → State → Prop := va_Pc (av.map (cV ad)) (fun U => U.heap.size = sz ∧ Ent D tc adK (va_A (cW ad tc n h) sz) U ∧ Wt D tc ad adK (va_A (cW ad tc n h) sz) n h U)
/-- A METHOD's CONTRACT -/
def mSem (y : MethodName) (cc : ByteArray) (mL : Nat) (rt : Option FieldType) (d mc ms : Nat) (av : List Value) (n : Nat) (h : aH) (Q : Option Value → Nat → aH → Prop) (X : String → Nat → aH → Prop) : Prop :=
  ∀ (l : Launch) (D : va_G) (tc : Nat → ClassId) (ad adK : Nat → Nat) (sz : Nat), l.stackTraces = false →
    vx_Met l y (wsO y cc mL rt) (rmO d mc ms) (SP av n h D tc ad adK sz) (SQ Q n D tc ad adK (va_A (cW ad tc n h) sz)) (SX X n D tc ad adK (va_A (cW ad tc n h) sz)) mc ms (va_A (cW ad tc n h) sz)
theorem SP.blind {av : List Value} {n : Nat} {h : aH} {D : va_G} {tc : Nat → ClassId} {ad adK : Nat → Nat} {sz : Nat} : FrameBlind (SP av n h D tc ad adK sz) := by
  intro a U g mk q
  obtain ⟨q0, q1, q2, q3, q4, q5⟩ := q
  exact ⟨q0, q1, q2.blind g mk a, q3, q4, q5⟩
theorem lv_args_map (ad : Nat → Nat) : ∀ (av : List Value) (i : Nat), lv_args i (av.map (cV ad)) = (lv_args i av).map (fun q => (q.1, cV ad q.2)) := by
  intro av
  induction av with
  | nil => intro i; rfl
  | cons v vs ih => intro i; simp only [List.map_cons, lv_args, cV_cat, ih]
theorem lg_sl_len (ad : Nat → Nat) (av : List Value) : (lg_sl (av.map (cV ad))).length = (lg_sl av).length := by
  induction av with
  | nil => rfl
  | cons v vs ih =>
    simp only [lg_sl, List.map_cons, List.flatMap_cons, List.length_append, cV_cat] at ih ⊢
    rw [ih]
    split <;> rfl
theorem mSem_of {y : MethodName} {own name : String} {cc : ByteArray} {mL : Nat} {rt : Option FieldType} {d mc ms : Nat} {av : List Value} {n : Nat} {h : aH} {Q : Option Value → Nat → aH → Prop} {X : String → Nat → aH → Prop}
    (hy : plainName y.cls = true) (ho : y.cls = own) (hnm : y.name = name) (hlen : (lg_sl av).length ≤ mL) (k : Ev own name cc mL rt d mc ms Q X n h 0 (lv_args 0 av) []) : mSem y cc mL rt d mc ms av n h Q X := by
  intro l D tc ad adK sz hl
  refine vx_ofW (cc := cc) (maxL := mL) (ret := rt) hy rfl ?_
  intro p e s m args below meth c s₁ B hml hx hv
  obtain ⟨rfl, hsz, hE, hP, hD, hk⟩ := hv
  subst hsz
  have hts := atoms_spec (ws := wsO y cc mL rt) B.pre
  have hnames := name_of_methodNamed B.named B.method
  rw [lg_entry_eq]
  have hl0 := lv_entry (av.map (cV ad)) (n := mL) (by rw [lg_sl_len]; exact hlen)
  rw [lv_args_map] at hl0
  refine k p l e _ s m _ below meth c D tc n ad ad adK _ s.heap [] 0 0 mc ms _ ⟨B.exec, B.bytes, B.returns, hml, ?_, fun w hw => hts w (List.mem_cons_of_mem _ hw), B.notSynchronized, ?_, hl, hx, hE, fun q hq => Or.inr hq⟩ ⟨Nat.le_refl _, Nat.le_refl _, by show 0 + mc ≤ mc; omega, by show 0 + ms ≤ ms; omega, by omega, by omega⟩ ⟨hP, hD, va_S.rf, hk⟩ (Nat.le_refl _) ⟨fun _ => rfl, fun _ _ => rfl⟩ hl0
  · rw [← ho]; exact findClass_of_methodNamed B.named
  · rw [← hnm]; exact hnames.1
/-! numbers -/
abbrev inR (z : Int) : Prop := -2147483648 ≤ z ∧ z ≤ 2147483647
theorem tI {z : Int} (h : inR z) : (Int32.ofInt z).toInt = z := Int32.toInt_ofInt_of_le (by have := h.1; omega) (by have := h.2; omega)
theorem tEq {a b : Int} (ha : inR a) (hb : inR b) : Int32.ofInt a = Int32.ofInt b ↔ a = b := by rw [← Int32.toInt_inj, tI ha, tI hb]
theorem tLt {a b : Int} (ha : inR a) (hb : inR b) : Int32.ofInt a < Int32.ofInt b ↔ a < b := by rw [Int32.lt_iff_toInt_lt, tI ha, tI hb]
theorem tLe {a b : Int} (ha : inR a) (hb : inR b) : Int32.ofInt a ≤ Int32.ofInt b ↔ a ≤ b := by rw [Int32.le_iff_toInt_le, tI ha, tI hb]
theorem tCl {z : Int} (h0 : 0 ≤ z) (h : z ≤ 2147483647) : (Int32.ofInt z).toNatClampNeg = z.toNat := by show (Int32.ofInt z).toInt.toNat = _; rw [tI ⟨by omega, h⟩]
theorem tIn {z : Int} {n : Nat} (h0 : 0 ≤ z) (h1 : z < n) (hn : n < 2147483648) : vp_in (Int32.ofInt z) n := by
  rw [vp_in_iff, tI ⟨by omega, by omega⟩]
  exact ⟨h0, h1⟩
