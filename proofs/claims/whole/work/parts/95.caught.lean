/-! ===== an exception that is caught ===== -/
section
variable {p : Program} {l : Launch} {e : Env} {R : Room} {s : State} {m : MethodId} {args : Array Value} {below : List Frame} {meth : Method} {c : Code} {H : Heap} {locs : List Loc} {cells slots : Nat}
/-- a row that covers: it takes the thing, or the search goes on behind it; its class is then noted -/
theorem cx_row {Q : Handler → Pre} {E : CtlPost} {dd : Bool} {acts : List Action} {S : State} {f : JFrame} {a : Addr} {x : ExceptionTableEntry} {t : List ExceptionTableEntry} {k : ClassId} {cell : Cell} {b : Bool}
    (hx : covers x f.pc = true) (h0 : x.catchType ≠ 0) (hl : S.vm.ClassLinks e.platform f.method.cls x.catchType k) (hcell : S.heap[a]? = some cell) (hob : ∀ q, cell.vm ≠ .statics q) (hk : ∃ q, S.vm.classes[cell.cls]? = some q) (hc : ∃ q, S.vm.classes[k]? = some q) (hb : S.vm.assignable cell.cls k = b) :
    wp (findHandler.go f a (x :: t)) Q E e dd acts S ↔ (if b = true then Q (.found x.handlerPc) dd acts (S.setVm (S.vm.noted f.method.cls x.catchType (.cls k))) else wp (findHandler.go f a t) Q E e dd acts (S.setVm (S.vm.noted f.method.cls x.catchType (.cls k)))) := by
  have hy := hx
  simp only [covers] at hy
  obtain ⟨r1, r2⟩ := (resolveClass_links e.toSetting hl).op (op := VmOp.resolveClass f.method.cls x.catchType) rfl
  have al : S.vm.Alike (S.vm.noted f.method.cls x.catchType (.cls k)) := (Vm.Alike.refl S.vm).noted _ _ _
  obtain ⟨q1, hq1⟩ := hk
  obtain ⟨q2, hq2⟩ := hc
  obtain ⟨q3, hq3, -⟩ := al.2.2 _ _ hq1
  obtain ⟨q4, hq4, -⟩ := al.2.2 _ _ hq2
  have as9 : (S.vm.noted f.method.cls x.catchType (.cls k)).assignable cell.cls k = b := by rw [al.assignable]; exact hb
  cases b <;> simp [findHandler.go, hy, h0, r1, r2, hcell, hob, hq3, hq4, as9, VmOp.dirties, VmOp.acts]
/-- what a row does to a thing of the class k0 -/
def cx_R (pl : Platform) (s : State) (d : ClassId) (pc : Nat) (k0 : ClassId) (b : Bool) (x : ExceptionTableEntry) : Prop := covers x pc = true ∧ x.catchType ≠ 0 ∧ ∃ k, s.vm.ClassLinks pl d x.catchType k ∧ s.vm.assignable k0 k = b
theorem cx_go {f : JFrame} {a : Addr} {cell : Cell} (hob : ∀ q, cell.vm ≠ .statics q) (hk0 : ∃ q, s.vm.classes[cell.cls]? = some q) {x : ExceptionTableEntry} (suf : List ExceptionTableEntry) (hx : cx_R e.platform s f.method.cls f.pc cell.cls true x) :
    ∀ (ys : List ExceptionTableEntry) (S : State), s.WarmedH S.vm → S.heap[a]? = some cell → (∀ y ∈ ys, cx_R e.platform s f.method.cls f.pc cell.cls false y) →
      ∃ vm', s.WarmedH vm' ∧ ∀ (Q : Handler → Pre) (E : CtlPost) (dd : Bool) (acts : List Action), wp (findHandler.go f a (ys ++ x :: suf)) Q E e dd acts S ↔ Q (.found x.handlerPc) dd acts (S.setVm vm') := by
  have one : ∀ (b : Bool) (y : ExceptionTableEntry) (t : List ExceptionTableEntry) (S : State), s.WarmedH S.vm → S.heap[a]? = some cell → cx_R e.platform s f.method.cls f.pc cell.cls b y → ∃ vm', s.WarmedH vm' ∧ ∀ (Q : Handler → Pre) (E : CtlPost) (dd : Bool) (acts : List Action), wp (findHandler.go f a (y :: t)) Q E e dd acts S ↔ (if b = true then Q (.found y.handlerPc) dd acts (S.setVm vm') else wp (findHandler.go f a t) Q E e dd acts (S.setVm vm')) := by
    intro b y t S hW hcell hy
    obtain ⟨h1, h2, k, h3, h4⟩ := hy
    obtain ⟨q0, hq0⟩ := hk0
    obtain ⟨q1, hq1, -⟩ := hW.alike.2.2 _ _ hq0
    obtain ⟨dk, _, _, kt, hd, _, _, _, _, hkt, _, hopen⟩ := h3.here
    obtain ⟨q2, hq2, -⟩ := hW.alike.2.2 _ _ hkt
    exact ⟨_, hW.noted hd hopen (State.rightAt_cls h3), fun Q E dd acts => cx_row h1 h2 (hW.classLinks h3) hcell hob ⟨q1, hq1⟩ ⟨q2, hq2⟩ (by rw [hW.alike.assignable]; exact h4)⟩
  intro ys
  induction ys with
  | nil =>
    intro S hW hcell _
    obtain ⟨v1, hW1, k1⟩ := one true x suf S hW hcell hx
    exact ⟨v1, hW1, fun Q E dd acts => by rw [List.nil_append, k1, if_pos rfl]⟩
  | cons y ys ih =>
    intro S hW hcell hys
    obtain ⟨v1, hW1, k1⟩ := one false y (ys ++ x :: suf) S hW hcell (hys y List.mem_cons_self)
    obtain ⟨v2, hW2, k2⟩ := ih (S.setVm v1) hW1 hcell (fun z hz => hys z (List.mem_cons_of_mem _ hz))
    exact ⟨v2, hW2, fun Q E dd acts => by rw [List.cons_append, k1, if_neg Bool.false_ne_true, k2]; rfl⟩
/-- a step of the search that finds -/
theorem cx_step {T : State} {g : JFrame} {a : Addr} {k : Nat} {vm' : Vm} (X : Stand p l e R s m args below meth c T locs cells slots) (hg : g.method = m)
    (hf : ∀ (Q : Handler → Pre) (E : CtlPost) (dd : Bool) (acts : List Action), wp (findHandler g a) Q E e dd acts ((T.setTop g).pushFrame (.throwing a)) ↔ Q (.found k) dd acts (((T.setTop g).pushFrame (.throwing a)).setVm vm')) :
    Steps p.tables e below ((T.setTop g).pushFrame (.throwing a)) ((T.setVm vm').setTop { g with pc := k, stack := [.ref a] }) := by
  subst hg
  obtain ⟨go, wh⟩ := X.here.throwing a
  refine Steps.head go wh ?_
  have hst : ∀ r, (stepThrowing e ((T.setTop g).pushFrame (.throwing a)) a (.java g :: r)).1 = (((T.setTop g).pushFrame (.throwing a)).setVm vm').setFrames (.java { g with pc := k, stack := [.ref a] } :: r) := by
    intro r
    simp only [stepThrowing, searchFrame, vmDo]
    generalize hr : Sem.go _ e false [] ((T.setTop g).pushFrame (.throwing a)) = res
    obtain ⟨as, rfl, -⟩ := Sem.eq_ok_of hr (a := Handler.found k) (s' := ((T.setTop g).pushFrame (.throwing a)).setVm vm') (acts' := []) (by simp [hf _ _ _ _])
    rfl
  rw [stepThread_throwing (frames_entered X.here.top _), hst]
  obtain ⟨g1, hg1⟩ := Option.isSome_iff_exists.mp X.here.top
  obtain ⟨r, hr⟩ := State.topJava?_eq_some.mp hg1
  have e1 : ∀ (u : State) (v : Vm) (F G : List Frame), ((u.setFrames F).setVm v).setFrames G = (u.setVm v).setFrames G := fun u v F G => by
    rw [show (u.setFrames F).setVm v = (u.setVm v).setFrames F from rfl, State.setFrames_setFrames]
  have hr2 : (T.setVm vm').frames = .java g1 :: r := hr
  rw [hr, List.tail_cons, State.pushFrame, e1, State.setTop_of_frames _ hr, e1, State.setTop_of_frames _ hr2]
  exact Steps.refl _
theorem cx_catch {own : String} {E : String} {ce : Cell} {q : Addr} {pc : Nat} {ls : Array Slot} {rest : List Value} {Q : State → Prop} (hown : s.vm.findClass own = some m.cls) (ys : List ExceptionTableEntry) (x : ExceptionTableEntry) (suf : List ExceptionTableEntry) (hsp : c.exceptionTable.toList = ys ++ x :: suf)
    (hys : ∀ y ∈ ys, covers y pc = true ∧ y.catchType ≠ 0 ∧ ∃ nm : String, (Cond.classLink own y.catchType nm).before args s = true ∧ va_Nc E nm s) (hx : covers x pc = true) (h0 : x.catchType ≠ 0) {nm : String} (hlink : (Cond.classLink own x.catchType nm).before args s = true) (hcast : (Cond.castable E nm).before args s = true)
    (hcell : H[q]? = some ce) (hv : ce.vm = .none) (hcl : s.vm.findClass E = some ce.cls) (kk : W p l e R s m args below meth c H locs cells slots Q (F0 m x.handlerPc ls [.ref q])) : vx_W p l e R s m args below meth c H locs cells slots Q (F0 m pc ls rest) q := by
  intro T hT X
  have hpl : e.platform.magicAccessors = ({} : Platform).magicAccessors := by rw [X.admits.platform]
  have hxR : cx_R e.platform s m.cls pc ce.cls true x := by
    obtain ⟨c3, c4, hc3, hc4, hasg⟩ := Cond.castable_spec hcast
    cases Option.some.inj (hc3.symm.trans hcl)
    obtain ⟨c5, hc5, hl5⟩ := Cond.classLink_spec hown hlink e.platform hpl
    cases Option.some.inj (hc4.symm.trans hc5)
    exact ⟨hx, h0, c4, hl5, hasg⟩
  have hyR : ∀ y ∈ ys, cx_R e.platform s m.cls pc ce.cls false y := by
    intro y hy
    obtain ⟨h1, h2, nm2, h3, a8, b8, h4, h5, h6⟩ := hys y hy
    obtain ⟨c6, hc6, hl6⟩ := Cond.classLink_spec hown h3 e.platform hpl
    cases Option.some.inj (h4.symm.trans hcl)
    cases Option.some.inj (h5.symm.trans hc6)
    exact ⟨h1, h2, _, hl6, h6⟩
  have hk0 : ∃ q, s.vm.classes[ce.cls]? = some q := Vm.classAt_of_findClass hcl
  obtain ⟨vm', hW', hgo⟩ := cx_go (e := e) (f := F0 m pc ls rest) (a := q) (VmData.ne_statics_of (by rw [hv]; rfl)) hk0 suf hxR ys ((T.setTop (F0 m pc ls rest)).pushFrame (.throwing q)) X.warmed (by show T.heap[q]? = some ce; rw [hT]; exact hcell) hyR
  have hst := cx_step (k := x.handlerPc) (vm' := vm') (g := F0 m pc ls rest) (a := q) X rfl (fun Q E dd acts => by rw [W.findHandler_eq (meth := meth) (code := c) X.method' X.code, hsp]; exact hgo Q E dd acts)
  obtain ⟨t, a1, b1⟩ := kk (T.setVm vm') hT (X.noted hW')
  exact ⟨t, hst.trans a1, b1⟩
end
/-! ===== methods with a table of their own ===== -/
abbrev HH : Type := List (Nat × Nat × Nat × Nat)
abbrev zT (hh : HH) : ZT := fun _ _ c _ _ => c.exceptionTable.toList = tableOf hh
def wsH (y : MethodName) (cc : ByteArray) (mL : Nat) (rt : Option FieldType) (hh : HH) : List Cond := .codeWith y cc mL rt hh :: Gw
def mSemH (y : MethodName) (cc : ByteArray) (mL : Nat) (rt : Option FieldType) (hh : HH) (d mc ms : Nat) (av : List Value) (n : Nat) (h : aH) (Q : Option Value → Nat → aH → Prop) (X : String → Nat → aH → Prop) : Prop :=
  ∀ (l : Launch) (D : va_G) (tc : Nat → ClassId) (ad adK : Nat → Nat) (sz : Nat), l.stackTraces = false →
    vx_Met l y (wsH y cc mL rt hh) (rmO d mc ms) (SP av n h D tc ad adK sz) (SQ Q n D tc ad adK (va_A (cW ad tc n h) sz)) (SX X n D tc ad adK (va_A (cW ad tc n h) sz)) mc ms (va_A (cW ad tc n h) sz)
theorem mSemH_of {y : MethodName} {own name : String} {cc : ByteArray} {mL : Nat} {rt : Option FieldType} {hh : HH} {d mc ms : Nat} {av : List Value} {n : Nat} {h : aH} {Q : Option Value → Nat → aH → Prop} {X : String → Nat → aH → Prop}
    (hy : plainName y.cls = true) (ho : y.cls = own) (hnm : y.name = name) (hlen : (lg_sl av).length ≤ mL) (k : EvG (zT hh) own name cc mL rt d mc ms Q X n h 0 (lv_args 0 av) []) : mSemH y cc mL rt hh d mc ms av n h Q X := by
  intro l D tc ad adK sz hl
  refine vx_ofWH (cc := cc) (maxL := mL) (ret := rt) (hh := hh) hy rfl ?_
  intro p e s m args below meth c s₁ B hml hv
  obtain ⟨rfl, hsz, hE, hP, hD, hk⟩ := hv
  subst hsz
  have hts := atoms_spec (ws := wsH y cc mL rt hh) B.pre
  have hnames := name_of_methodNamed B.named B.method
  have htab : c.exceptionTable.toList = tableOf hh := vx_table (x := y) B (hts _ List.mem_cons_self)
  rw [lg_entry_eq]
  have hl0 := lv_entry (av.map (cV ad)) (n := mL) (by rw [lg_sl_len]; exact hlen)
  rw [lv_args_map] at hl0
  refine k p l e _ s m _ below meth c D tc n ad ad adK _ s.heap [] 0 0 mc ms _ ⟨B.exec, B.bytes, B.returns, hml, ?_, fun w hw => hts w (List.mem_cons_of_mem _ hw), B.notSynchronized, ?_, hl, htab, hE, fun q hq => Or.inr hq⟩ ⟨Nat.le_refl _, Nat.le_refl _, by show 0 + mc ≤ mc; omega, by show 0 + ms ≤ ms; omega, by omega, by omega⟩ ⟨hP, hD, va_S.rf, hk⟩ (Nat.le_refl _) ⟨fun _ => rfl, fun _ _ => rfl⟩ hl0
  · rw [← ho]; exact findClass_of_methodNamed B.named
  · rw [← hnm]; exact hnames.1
/-- which row takes a thing of the class E, thrown at pc -/
def Cth (own : String) (hh : HH) (pc : Nat) (E : String) (hp : Nat) : Prop := ∃ (ys : List ExceptionTableEntry) (x : ExceptionTableEntry) (suf : List ExceptionTableEntry) (nm : String), tableOf hh = ys ++ x :: suf ∧ x.handlerPc = hp ∧ covers x pc = true ∧ x.catchType ≠ 0 ∧ Cond.classLink own x.catchType nm ∈ Gw ∧ (E, nm) ∈ castW ∧ ∀ y ∈ ys, covers y pc = true ∧ y.catchType ≠ 0 ∧ ∃ nm2 : String, Cond.classLink own y.catchType nm2 ∈ Gw ∧ (E, nm2) ∈ apartW
/-- a handler that answers z -/
def Hnd (cc : ByteArray) (mL hp : Nat) (z : Int) : Prop := (∃ (k : Fin 4), decode cc hp = .ok (.astore_n k, 1) ∧ (k : Nat) < mL ∧ decode cc (hp + 1) = .ok (.iconst z, 1) ∧ decode cc (hp + 1 + 1) = .ok (.ireturn, 1)) ∨ ∃ (k : Nat), decode cc hp = .ok (.astore k, 2) ∧ k < mL ∧ decode cc (hp + 2) = .ok (.iconst z, 1) ∧ decode cc (hp + 2 + 1) = .ok (.ireturn, 1)
section
variable {hh : HH} {own name : String} {cc : ByteArray} {mL : Nat} {rt : Option FieldType} {d mc ms : Nat} {Q : Option Value → Nat → aH → Prop} {X : String → Nat → aH → Prop} {n : Nat} {h : aH} {pc : Nat} {lv : List (Nat × Value)} {st : List Value} {st0 : List Value}
variable {idx : Nat} {y : MethodName} {c1 : ByteArray} {m1 : Nat} {r1 : Option FieldType} {np d1 mc1 ms1 : Nat} {Q1 : Option Value → Nat → aH → Prop} {X1 : String → Nat → aH → Prop}
/-- a call whose exceptions are caught here -/
theorem g_callC (b : Nat) (as : List Value) {ci : Nat} {fs : List Value} (hS : mSem y c1 m1 r1 d1 mc1 ms1 (.ref b :: as) n h Q1 X1) (hd : decode cc pc = .ok (.invokevirtual idx, 3)) (hcs : CS own idx y c1 m1 r1 np) (hin : Cond.instanceMethod y ∈ Gw ∧ Cond.selects y.cls y y ∈ Gw) (hb : b < n) (hcell : h b = .inr (ci, fs)) (hci : (vwCl[ci]?).map (fun q => q.1) = some y.cls) (hd1 : d1 + 1 ≤ d) (hmc : mc1 ≤ mc) (hms : ms1 ≤ ms) (hnp : as.length = np) (h0 : st0 = as.reverse ++ .ref b :: st) (hcat : (st.map fun v => v.category).sum ≤ 8)
    (kx : ∀ E n2 h2, X1 E n2 h2 → n2 = n ∧ ∃ (hp : Nat) (z : Int), Cth own hh pc E hp ∧ Hnd cc mL hp z ∧ Q (some (iv z)) n h2)
    (kk : ∀ v n2 h2, Q1 v n2 h2 → n2 = n ∧ EvG (zT hh) own name cc mL (some .int) d (mc - mc1) (ms - ms1) Q X n h2 (pc + 3) lv (v.toList ++ st)) : EvG (zT hh) own name cc mL (some .int) d mc ms Q X n h pc lv st0 := by
  intro p l e R s m args below meth c D tc n0 ad0 ad adK A H locs cells slots MC MS ls fx rm wd hn he hl
  obtain ⟨hAA, hpre⟩ := sp_atG (.ref b :: as) fx wd
  obtain ⟨q, hq, hqc⟩ := Option.map_eq_some_iff.mp hci
  have hrecv := va_recv (gK fx) wd.1 (ci := ci) (q0 := b) (q := q) (a := ad b) (fs := fs.map (cV ad)) hq (by rw [cW_get hb, hcell]; rfl)
  rw [hqc] at hrecv
  have hr := vx_runV (C := y.cls) (b := ad b) (As := as.map (cV ad)) (rest := st.map (cV ad)) (H := H) (e := e) (below := below) (meth := meth) (locs := locs) (cells := cells) (slots := slots) (g := F0 m pc ls (st0.map (cV ad))) ⟨fx.1, fx.2.1, fx.2.2.2.1, fx.2.2.2.2.1, fx.2.2.2.2.2.1⟩ (hS l D tc ad adK H.size fx.2.2.2.2.2.2.2.2.1) ⟨hcs.callG fx rm hd1, fx.2.2.2.2.2.1 _ hin.1, fx.2.2.2.2.2.1 _ hin.2⟩ ⟨SP.blind, hrecv, hpre⟩ rfl (by rw [List.length_map]; exact hnp) hl.1 (by show st0.map (cV ad) = _; rw [h0, List.map_append, List.map_reverse]; rfl) (lv_room (by rw [cat_map]; exact hcat)) hd ⟨by have := rm.2.2.1; omega, by have := rm.2.2.2.1; omega⟩
  intro T hT XX
  have rm2 : Rm d (mc - mc1) (ms - ms1) R (cells + mc1) (slots + ms1) MC MS := ⟨rm.1, rm.2.1, by have := rm.2.2.1; omega, by have := rm.2.2.2.1; omega, by have := rm.2.2.2.2.1; omega, by have := rm.2.2.2.2.2; omega⟩
  rcases hr T hT XX with ⟨v, st₀, t, T', L, h0, X', hL, e1, e2, ⟨⟨v2, n2, h2, ad2, hv, hq, hn2, hx2, hP2, hD2, hk2⟩, hF⟩, stp⟩ | ⟨q, st₀, t, T', L, E, ce, h0, X', hL, e1, e2, ⟨⟨n2, h2, ad2, hq, hn2, hx2, hP2, hD2, hk2⟩, hF⟩, hce, hcv, hcl, stp⟩
  · obtain ⟨rfl, kk2⟩ := kk v2 n2 h2 hq
    obtain rfl := hx2.1 rfl
    obtain ⟨-, -, hS2⟩ := vx_keep h0 e1 wd.2.2.1 (fun q _ h => hAA q h) hAA hL hF
    cases hv
    obtain ⟨t2, a1, b1⟩ := kk2 p l e R s m args below meth c D tc n0 ad0 ad2 adK A T'.heap (locs ++ L) (cells + mc1) (slots + ms1) MC MS ls fx rm2 ⟨by rw [e1]; exact hP2, hD2.weaken (fun _ _ _ hz => hAA _ hz), hS2, hk2⟩ hn he hl T' rfl X'
    refine ⟨t2, stp t2 ?_, b1⟩
    cases v2 with
    | none => exact a1
    | some w => exact a1
  · obtain ⟨rfl, hp, z, ⟨ys, x, suf, nm, t1, rfl, t3, t4, t5, t6, t7⟩, hH, hQ⟩ := kx E n2 h2 hq
    obtain rfl := hx2.1 rfl
    obtain ⟨-, -, hS2⟩ := vx_keep h0 e1 wd.2.2.1 (fun q _ h => hAA q h) hAA hL hF
    have w2 : Wd D tc ad2 adK A s n2 h2 T'.heap (locs ++ L) := ⟨by rw [e1]; exact hP2, hD2.weaken (fun _ _ _ hz => hAA _ hz), hS2, hk2⟩
    have hE := fx.2.2.2.2.2.2.2.2.2.2.1
    have fin : ∀ (k : Nat) (ls2 : Array Slot), decode cc k = .ok (.iconst z, 1) → decode cc (k + 1) = .ok (.ireturn, 1) → W p l e R s m args below meth c T'.heap (locs ++ L) (cells + mc1) (slots + ms1) (vx_MQ below (SQ Q n0 D tc ad0 adK A) (SX X n0 D tc ad0 adK A) args s MC MS A) (F0 m k ls2 []) := by
      intro k ls2 d1 d2
      refine lv_iconst (v := Int32.ofInt z) fx.1 fx.2.1 d1 rfl ?_
      refine vx_ret (W.widen (k := MC) (n := MS) (Nat.le_trans (Nat.le_add_right _ _) rm2.2.2.2.2.1) (Nat.le_trans (Nat.le_add_right _ _) rm2.2.2.2.2.2) ?_)
      exact W.iret fx.1 fx.2.1 fx.2.2.1 (fun t ht hW => ⟨⟨some (iv z), n2, h2, ad2, rfl, hQ, hn, he, (w2.end ht).1⟩, (w2.end ht).2⟩) w2.2.2.1.2.2 d2 fx.2.2.2.2.2.2.1
    have hcat := cx_catch (p := p) (l := l) (e := e) (R := R) (s := s) (m := m) (args := args) (below := below) (meth := meth) (c := c) (H := T'.heap) (locs := locs ++ L) (cells := cells + mc1) (slots := slots + ms1) (ls := ls) (rest := st.map (cV ad2)) (pc := pc) (E := E) (ce := ce) (q := q) (Q := vx_MQ below (SQ Q n0 D tc ad0 adK A) (SX X n0 D tc ad0 adK A) args s MC MS A) fx.2.2.2.2.1 ys x suf (fx.2.2.2.2.2.2.2.2.2.1.trans t1)
      (fun y9 h9 => ⟨(t7 y9 h9).1, (t7 y9 h9).2.1, by obtain ⟨nm2, g1, g2⟩ := (t7 y9 h9).2.2; exact ⟨nm2, fx.2.2.2.2.2.1 _ g1, hE.2.2.2.2.2.2.1 _ g2⟩⟩) t3 t4 (fx.2.2.2.2.2.1 _ t5) (va_tabs rfl rfl (hE.2.2.2.2.1 _ t6)) (by rw [e1]; exact hce) hcv hcl (by
        rcases hH with ⟨k, d1, d2, d3, d4⟩ | ⟨k, d1, d2, d3, d4⟩
        · exact lv_astore_n fx.1 fx.2.1 d1 rfl hl d2 rfl (fun ls2 _ => fin _ ls2 d3 d4)
        · exact lv_astore fx.1 fx.2.1 d1 hl d2 rfl (fun ls2 _ => fin _ ls2 d3 d4)) T' rfl X'
    obtain ⟨t2, a1, b1⟩ := hcat
    exact ⟨t2, stp.trans a1, b1⟩
end
