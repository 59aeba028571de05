/-! ===== throw new E("text"), whatever place E's constructor calls its parent's by ===== -/
def nxTail (own : String) (ic : Nat) (X : String) : List Cond := [.methodLink own ic (Bundle.initS X), .instantiable X 6, .castable X X, .selects X Bundle.tFill0 Bundle.tFill0, .selects X Bundle.tFill Bundle.tFill, .lays X Bundle.tN "cause" "Ljava/lang/Throwable;", .lays X Bundle.tN "stackTrace" Bundle.steD, .lays X Bundle.tN "suppressedExceptions" Bundle.listD, .lays X Bundle.tN "detailMessage" "Ljava/lang/String;", .fieldLink Bundle.tN 198 Bundle.tN "backtrace" "Ljava/lang/Object;", .lays Bundle.tN Bundle.tN "backtrace" "Ljava/lang/Object;", .lays X Bundle.tN "backtrace" "Ljava/lang/Object;"]
def nxPass (X Y : String) (r : List String) (ix : Nat) (rx : ByteArray) : List Cond := Bundle.passSAtoms X Y ix rx ++ Bundle.chainSAtoms Y r
def nxAll (own : String) (ic : Nat) (X Y : String) (r : List String) (ix : Nat) (rx : ByteArray) : List Cond := (Bundle.throwableAtoms ++ Bundle.throwableSAtoms) ++ (nxPass X Y r ix rx ++ nxTail own ic X)
def nxAt (own : String) (ic : Nat) (X Y : String) (r : List String) (ix : Nat) (rx : ByteArray) : List Cond := (nxAll own ic X Y r ix rx).filter vx_no
section
variable {p : Program} {l : Launch} {e : Env} {R : Room} {s : State} {m : MethodId} {args : Array Value} {below : List Frame} {meth : Method} {c : Code} {locs : List Loc} {cells slots : Nat}
/-- from the constructor's call on: the parents' constructors, then athrow -/
theorem nx_ctor {W : State} (X : Stand p l e R s m args below meth c W locs cells slots) (hexec : p.tables.exec = Jvm.exec) (htr : e.platform.stackTraces = false) {own cls Y : String} {r : List String} {ic ix : Nat} {rx : ByteArray}
    (x0 : decode rx 0 = .ok (.aload_n 0, 1)) (x1 : decode rx 1 = .ok (.aload_n 1, 1)) (x2 : decode rx 2 = .ok (.invokespecial ix, 3)) (x5 : decode rx 5 = .ok (.return_, 1))
    (hown : s.vm.findClass own = some m.cls) (hcls : Bundle.fit cls = true) (hY : Bundle.fit Y = true) (hr : ∀ n ∈ r, Bundle.fit n = true) (h : ∀ w ∈ nxAll own ic cls Y r ix rx, w.before args s = true)
    (hU : (Cond.isRef (.static Bundle.tN "UNASSIGNED_STACK" Bundle.steD)).before args s = true) (hN : (Cond.isRef (.static Bundle.tN "SUPPRESSED_SENTINEL" Bundle.listD)).before args s = true)
    (hlocs : ∀ x ∈ locs, ∀ cell, s.heap[x.base]? = some cell → cell.vm.isStatics = false)
    {a : Addr} {cX : ClassId} {kX : Class} (hfX : s.vm.findClass cls = some cX) (hkX : s.vm.classes[cX]? = some kX) (hcell : W.heap[a]? = some (freshCell cX kX)) (hnew : s.heap.size ≤ a) {msg : Value} (hmsg : msg.isRef = true)
    {g : JFrame} (hg : g.method = m) (hsize : g.locals.size = c.maxLocals) (hlocked : g.locked = none) (hentered : g.entered = []) {rest : List Value} (hstack : g.stack = msg :: .ref a :: .ref a :: rest)
    (d6 : decode c.code g.pc = .ok (.invokespecial ic, 3)) (d9 : decode c.code (g.pc + 3) = .ok (.athrow, 1)) (hout : ∀ x ∈ c.exceptionTable.toList, covers x (g.pc + 3) = false)
    (hRf : r.length + 4 < R.frames) (hRl : 2 * g.monitorRoom + ((Value.ref a :: rest).map fun v => v.category).sum + (13 * (r.length + 2) + 42) ≤ R.locals) (hlocks : meth.locks = false) :
    ∃ U : State, Steps p.tables e below (W.setTop g) U ∧ U.status = .running ∧ Ended U below (.threw a) ∧ s.WarmedH U.vm ∧ s.sameButNew ({ U with vm := s.vm } : State) locs cells slots ∧
      ∃ ce, U.heap[a]? = some ce ∧ s.vm.findClass cls = some ce.cls ∧ ce.vm = .none := by
  have hpl : e.platform.magicAccessors = ({} : Platform).magicAccessors := by rw [X.admits.platform]
  have hb : ∀ x, x ∈ Bundle.throwableAtoms → x.before args s = true := fun x hx => h x (List.mem_append_left _ (List.mem_append_left _ hx))
  have hp : ∀ x, x ∈ Bundle.passSAtoms cls Y ix rx → x.before args s = true := fun x hx => h x (List.mem_append_right _ (List.mem_append_left _ (List.mem_append_left _ hx)))
  have ht : ∀ x, x ∈ nxTail own ic cls → x.before args s = true := fun x hx => h x (List.mem_append_right _ (List.mem_append_right _ hx))
  obtain ⟨T, Z0, L, -, Y0⟩ := ThrowableC.of_atoms (args := args) (pl := e.platform) (by rw [X.admits.platform]) (by rw [X.admits.platform]) hpl hb
  obtain ⟨Z, M, LZ, LM, hnZ⟩ := Init0T.ofS_atoms (args := args) hpl L Y0 (fun x hx => h x (List.mem_append_left _ (List.mem_append_right _ hx)))
  obtain ⟨P, LP, hPm, hPs⟩ := PassC.ofS_atoms (args := args) (s := s) hpl (X := cls) (Y := Y) (Bundle.fit_spec hcls).1 (Bundle.fit_spec hY).2 x0 x1 x2 x5 hp
  obtain ⟨P2, Ps, hlen, LP2, hLs, hP2m, hsup, hpass⟩ := Bundle.chainS (args := args) hpl hnZ r Y hY hr (fun x hx => h x (List.mem_append_right _ (List.mem_append_left _ (List.mem_append_right _ hx))))
  have hl1 : P.sup = P2.m := Option.some.inj (hPs.symm.trans hP2m)
  have hfP : s.vm.findClass cls = some P.m.cls := findClass_of_methodNamed hPm
  obtain rfl : cX = P.m.cls := Option.some.inj (hfX.symm.trans hfP)
  obtain ⟨c1, k1, hc1, hk1, hord, -, -, -⟩ := Cond.instantiable_spec (ht (.instantiable cls 6) (by simp [nxTail]))
  obtain rfl : c1 = P.m.cls := Option.some.inj (hc1.symm.trans hfX)
  obtain rfl : k1 = kX := Option.some.inj (hk1.symm.trans hkX)
  have sel : ∀ (mn : MethodName) (x : MethodId), Cond.selects cls mn mn ∈ nxTail own ic cls → s.methodNamed? mn = some x → mn.desc ≠ "" → s.methodFound? mn.cls mn.name mn.desc = some x → selectMethod e.platform s.vm P.m.cls x = .method x := by
    intro mn x hw hn _ hfd
    obtain ⟨c2, r2, m2, q1, q2, q3, q4, -⟩ := Cond.selects_spec (ht _ hw)
    obtain rfl : c2 = P.m.cls := Option.some.inj (q1.symm.trans hfX)
    obtain rfl : r2 = x := Option.some.inj (q2.symm.trans hfd)
    obtain rfl : m2 = r2 := Option.some.inj (q3.symm.trans hn)
    rw [Launch.admits_selectMethod X.admits]; exact q4
  have s0 := sel Bundle.tFill0 T.fill0 (by simp [nxTail]) Y0.fill0 (by decide) (State.methodFound?_of_named Y0.fill0 (by decide))
  have s1 := sel Bundle.tFill T.fill (by simp [nxTail]) Y0.fill (by decide) (State.methodFound?_of_named Y0.fill (by decide))
  obtain ⟨cs0, hcs0, hiss⟩ := Y0.statics
  obtain ⟨u0, hu0⟩ := Cond.staticRefV Y0.unassigned L.unassignedStatic L.statics hcs0 hiss hU
  obtain ⟨sen, hsen⟩ := Cond.staticRefV Y0.sentinel L.sentinelStatic L.statics hcs0 hiss hN
  obtain ⟨bi, bj, fB, hb1, hb2, hb3, hb4, -, hnB, htB, hfB⟩ := Cond.ownField (t := .object "java/lang/Object") Y0.found L.cls (by decide +kernel) (ht (.fieldLink Bundle.tN 198 Bundle.tN "backtrace" "Ljava/lang/Object;") (by simp [nxTail])) (ht (.lays Bundle.tN Bundle.tN "backtrace" "Ljava/lang/Object;") (by simp [nxTail])) e.platform hpl
  obtain ⟨cs, hcs, heS, -, hkeep⟩ := X.same.2.2.2.2.2 T.aS cs0 hcs0
  have hnl : ∀ i, (⟨T.aS, i⟩ : Loc) ∉ locs := fun i hm => by
    have h9 := hlocs _ hm cs0 hcs0
    rw [hiss] at h9
    cases h9
  have hkn : cs.vm ≠ .unknown := by
    rw [heS]
    intro h9
    rw [show cs0.vm = .unknown from h9] at hiss
    cases hiss
  have hne : T.aS ≠ a := Nat.ne_of_lt (Nat.lt_of_lt_of_le (Array.getElem?_eq_some_iff.mp hcs0).1 hnew)
  obtain ⟨iM, hfM⟩ := Y0.msg
  obtain ⟨tyC, dC, hdC, hnC⟩ := Cond.laysAt hfX hkX Y0.cause (ht (.lays cls Bundle.tN "cause" "Ljava/lang/Throwable;") (by simp [nxTail]))
  obtain ⟨tyS, dS, hdS, hnS⟩ := Cond.laysAt hfX hkX Y0.stack (ht (.lays cls Bundle.tN "stackTrace" Bundle.steD) (by simp [nxTail]))
  obtain ⟨tyP, dP, hdP, hnP⟩ := Cond.laysAt hfX hkX Y0.supp (ht (.lays cls Bundle.tN "suppressedExceptions" Bundle.listD) (by simp [nxTail]))
  obtain ⟨tyM, -⟩ := Cond.laysAt hfX hkX hfM (ht (.lays cls Bundle.tN "detailMessage" "Ljava/lang/String;") (by simp [nxTail]))
  obtain ⟨tyB, dB, hdB, hnB2⟩ := Cond.laysAt hfX hkX hfB (ht (.lays cls Bundle.tN "backtrace" "Ljava/lang/Object;") (by simp [nxTail]))
  have bC := Cond.laysApart hdB hdC hnB2 hnC (by rw [hnB, Y0.causeName]; decide)
  have bS := Cond.laysApart hdB hdS hnB2 hnS (by rw [hnB, Y0.stackName]; decide)
  have bP := Cond.laysApart hdB hdP hnB2 hnP (by rw [hnB, Y0.suppName]; decide)
  have hskip : SkipFacts T e.platform s (fun u => u) u0 ((preparedCellV T.toThrowableT (freshCell P.m.cls k1) a u0 sen).withEntry W.cur) := by
    refine ⟨{ ci198 := bi, i198 := bj, fBack := fB }, ⟨hb1, hb2, hb3, hb4⟩, ?_, fun _ _ => rfl⟩
    have h9 := fresh_default (c := P.m.cls) tyB
    rw [htB] at h9
    simpa [preparedCellV, Cell.setSlot, Cell.withEntry, Array.getElem?_setIfInBounds, bC, bS, bP, bC.symm, bS.symm, bP.symm, defaultValue] using h9
  obtain ⟨tm, methC, cdC, kC, vm1, hnm, -, -, -, -, -, -, -, hW1, st1⟩ := Steps.initColdS (tb := p.tables) (e := e) (below := below) (s := s) (U := W) X.here hexec X.warmed hpl hown (t := Bundle.initS cls) rfl rfl (Bundle.fit_spec hcls).2
    (ht (.methodLink own ic (Bundle.initS cls)) (by simp [nxTail])) (hp (.instanceMethod (Bundle.initS cls)) (by simp [Bundle.passSAtoms])) (bytes := rx) (maxL := 2) (hp (.code (Bundle.initS cls) rx 2 none) (by simp [Bundle.passSAtoms])) (f := g) hg (a := a) (msg := msg) (rest := .ref a :: rest) hstack d6
  obtain rfl : tm = P.m := Option.some.inj (hnm.symm.trans hPm)
  obtain ⟨vm2, X2, st2⟩ := (X.noted hW1).ctorMessageOffV hexec (g := { g with stack := .ref a :: rest }) hg hsize T L Z LZ M LM (P :: P2 :: Ps)
    (fun Q hQ => by
      rcases List.mem_cons.mp hQ with rfl | hQ
      · exact LP
      · rcases List.mem_cons.mp hQ with rfl | hQ
        · exact LP2
        · exact hLs Q hQ) ⟨hl1, hsup, hpass⟩ (u0 := u0) (sen := sen) (self := a) hmsg (cell := freshCell P.m.cls k1) (cellS := cs)
    hcell (fun _ => by simp) (by simp) rfl rfl s0 s1 hcs hne hkn (by rw [hkeep _ (hnl _)]; exact hu0) (by rw [hkeep _ (hnl _)]; exact hsen)
    (Takes.of_laid hkX hord tyC (by rw [Y0.causeType]; rfl)) (Takes.of_laid hkX hord tyS (by rw [Y0.stackType]; exact fits_refV_array _ u0)) (Takes.of_laid hkX hord tyP (by rw [Y0.suppType]; exact fits_refV_object _ sen))
    (Takes.of_laid hkX hord tyM (by rw [Y0.msgType]; exact fits_refV_object _ ⟨msg, hmsg⟩)) Y0.objLocals hskip htr [] d6 (by simp only [List.length_cons, hlen]; omega) (by simp only [List.length_cons, hlen]; exact hRl)
  obtain ⟨hwalk, hrun, hend, hWU, hsame⟩ := X2.athrowLeaves hexec (g := { g with stack := .ref a :: rest, pc := g.pc + 3 }) hg hlocked hentered hout (a := a) (rest := rest) rfl d9 hlocks
  have hlt : a < ((W.setVm vm1).setVm vm2).heap.size := (Array.getElem?_eq_some_iff.mp hcell).1
  refine ⟨_, st1 _ (fun acts => ?_), hrun, hend, hWU, hsame.weaken (fun y hy hy2 => ?_) (Nat.le_refl _) (Nat.le_refl _), _, heapAt_setCell_self (s := (W.setVm vm1).setVm vm2) (plainBareV T.toThrowableT (freshCell P.m.cls k1) a u0 sen msg) hlt, hfX, rfl⟩
  · rw [doInvoke_state]
    exact st2 _ hwalk
  · rcases List.mem_append.mp hy with h1 | h1
    · exact h1
    · have hb : y.base = a := by
        simp only [List.mem_cons, List.not_mem_nil, or_false] at h1
        rcases h1 with rfl | rfl | rfl | rfl | rfl <;> rfl
      rw [hb] at hy2
      exact absurd hy2 (Nat.not_lt.mpr hnew)
end

def rxN : ByteArray := ⟨#[0x2a, 0x2b, 0xb7, 0x00, 0x0d, 0xb1]⟩
def nwB (X : String) : List Cond := [.castable X X, .declares (Bundle.initS "java/lang/RuntimeException"), .declares (Bundle.initS "java/lang/Exception"), .declares (Bundle.initS "java/lang/Throwable")]
theorem nw_I : ∀ w ∈ (nxAt "LyingDials" 263 "java/lang/IllegalArgumentException" "java/lang/RuntimeException" ["java/lang/Exception"] 7 Bundle.six).filter goodWord, w ∈ Gw := inGps [12, 453, 462, 465, 468, 470, 454, 455, 29, 30, 456, 461, 466, 486, 443, 487, 445, 488, 447, 457, 459, 449, 482, 483, 485, 449, 473, 474, 475, 476, 476, 477, 478, 479, 479, 480, 481, 482, 472, 432, 440, 441, 442, 444, 446, 448, 452, 451, 450] (by decide +kernel) (by decide +kernel)
theorem nb_I : ∀ w ∈ (nxAt "LyingDials" 263 "java/lang/IllegalArgumentException" "java/lang/RuntimeException" ["java/lang/Exception"] 7 Bundle.six).filter (fun w => !goodWord w), w ∈ nwB "java/lang/IllegalArgumentException" := by decide +kernel
theorem no_I : ∀ w ∈ (nxAt "LyingDials" 263 "java/lang/IllegalArgumentException" "java/lang/RuntimeException" ["java/lang/Exception"] 7 Bundle.six), vx_ot w = true := by decide +kernel
theorem nw_N : ∀ w ∈ (nxAt "LyingDials" 206 "java/util/NoSuchElementException" "java/lang/RuntimeException" ["java/lang/Exception"] 13 rxN).filter goodWord, w ∈ Gw := inGps [12, 453, 462, 465, 468, 470, 454, 455, 29, 30, 456, 461, 466, 486, 443, 487, 445, 488, 447, 457, 459, 449, 482, 483, 485, 449, 805, 806, 807, 476, 476, 477, 478, 479, 479, 480, 481, 482, 804, 795, 797, 464, 798, 799, 800, 801, 452, 451, 802] (by decide +kernel) (by decide +kernel)
theorem nb_N : ∀ w ∈ (nxAt "LyingDials" 206 "java/util/NoSuchElementException" "java/lang/RuntimeException" ["java/lang/Exception"] 13 rxN).filter (fun w => !goodWord w), w ∈ nwB "java/util/NoSuchElementException" := by decide +kernel
theorem no_N : ∀ w ∈ (nxAt "LyingDials" 206 "java/util/NoSuchElementException" "java/lang/RuntimeException" ["java/lang/Exception"] 13 rxN), vx_ot w = true := by decide +kernel
