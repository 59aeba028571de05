/-! ===== the throw, as a row ===== -/
theorem r_throw {own name : String} {cc : ByteArray} {mL : Nat} {rt : Option FieldType} {d mc ms : Nat} {Q : Option Value → Nat → aH → Prop} {X : String → Nat → aH → Prop} {n : Nat} {h : aH} {pc : Nat} {lv : List (Nat × Value)} {st : List Value} {cls Y : String} {r : List String} {ik ic is ix i k : Nat} {tx : String} {rx : ByteArray}
    (x0 : decode rx 0 = .ok (.aload_n 0, 1)) (x1 : decode rx 1 = .ok (.aload_n 1, 1)) (x2 : decode rx 2 = .ok (.invokespecial ix, 3)) (x5 : decode rx 5 = .ok (.return_, 1))
    (hcls : Bundle.fit cls = true) (hY : Bundle.fit Y = true) (hr : ∀ n ∈ r, Bundle.fit n = true) (hrl : r.length = 1)
    (hk : Cond.classLink own ik cls ∈ Gw) (hini : Cond.initialized cls ∈ Gw) (hs : (own, is, tx, i) ∈ strR) (hg : ∀ w ∈ (nxAt own ic cls Y r ix rx).filter goodWord, w ∈ Gw) (hbw : ∀ w ∈ (nxAt own ic cls Y r ix rx).filter (fun w => !goodWord w), w ∈ nwB cls) (hot : ∀ w ∈ nxAt own ic cls Y r ix rx, vx_ot w = true) (hcast : (cls, cls) ∈ castW)
    (d0 : decode cc pc = .ok (.new ik, 3)) (d3 : decode cc (pc + 3) = .ok (.dup, 1)) (d4 : (decode cc (pc + 4) = .ok (.ldc is, 2) ∧ k = 2) ∨ (decode cc (pc + 4) = .ok (.ldc_w is, 3) ∧ k = 3)) (d6 : decode cc (pc + 4 + k) = .ok (.invokespecial ic, 3)) (d9 : decode cc (pc + 4 + k + 3) = .ok (.athrow, 1))
    (hd : 6 ≤ d) (hmc : 1 ≤ mc) (hms : 6 ≤ ms) (hcat : (st.map fun v => v.category).sum ≤ 8) (hx : X cls n h) : Ev own name cc mL rt d mc ms Q X n h pc lv st := by
  intro p l e R s m args below meth c D tc n0 ad0 ad adK A H locs cells slots MC MS ls fx rm wd hn he hl T hT XS
  have hexec := fx.1
  have hE : Ent D tc adK A s := fx.2.2.2.2.2.2.2.2.2.2.1
  have hl0 : l.stackTraces = false := fx.2.2.2.2.2.2.2.2.1
  have hown : s.vm.findClass own = some m.cls := fx.2.2.2.2.1
  have hb : c.code = cc := fx.2.1
  have hlocks : meth.locks = false := fx.2.2.2.2.2.2.1
  have htr : e.platform.stackTraces = false := (show e.platform.stackTraces = l.stackTraces by rw [XS.admits.platform]).trans hl0
  have Y1 := vx_rebase XS (R' := { frames := R.frames, locals := R.locals, cells := 1, slots := 6 }) (Nat.le_refl _) (Nat.le_refl _) (by have := rm.2.2.1; show cells + 1 ≤ R.cells; omega) (by have := rm.2.2.2.1; show slots + 6 ≤ R.slots; omega)
  obtain ⟨s', hA⟩ : ∃ z, z = (T.setVm s.vm).setFrames (.invoking m args :: below) := ⟨_, rfl⟩
  rw [← hA] at Y1
  have hvm : s'.vm = s.vm := by rw [hA]; rfl
  have hhp : s'.heap = H := by rw [hA]; exact hT
  have hW0 : s.WarmedH s'.vm := by rw [hvm]; exact State.WarmedH.refl s
  have hat : ∀ w ∈ nxAt own ic cls Y r ix rx, w.before args s = true := vx_hat (fun w hw => fx.2.2.2.2.2.1 w (hg w hw)) hbw (fun w hw => by
    simp only [nwB, List.mem_cons, List.not_mem_nil, or_false] at hw
    rcases hw with rfl | rfl | rfl | rfl
    · exact va_tabs rfl rfl (hE.2.2.2.2.1 _ hcast)
    · exact va_tabs rfl rfl (hE.2.2.2.2.2.1 ⟨"java/lang/RuntimeException", "<init>", "(Ljava/lang/String;)V"⟩ (by simp [declW]))
    · exact va_tabs rfl rfl (hE.2.2.2.2.2.1 ⟨"java/lang/Exception", "<init>", "(Ljava/lang/String;)V"⟩ (by simp [declW]))
    · exact va_tabs rfl rfl (hE.2.2.2.2.2.1 ⟨"java/lang/Throwable", "<init>", "(Ljava/lang/String;)V"⟩ (by simp [declW])))
  have hat' : ∀ w ∈ nxAt own ic cls Y r ix rx, w.before args s' = true := fun w hw => vx_ot_at hW0 hvm.symm (hot w hw) (hat w hw)
  have hk' : (Cond.classLink own ik cls).before args s' = true := vx_ot_at hW0 hvm.symm rfl (fx.2.2.2.2.2.1 _ hk)
  have hini' : (Cond.initialized cls).before args s' = true := vx_ot_at hW0 hvm.symm rfl (fx.2.2.2.2.2.1 _ hini)
  have hU' : vx_Zq Bundle.tN "UNASSIGNED_STACK" Bundle.steD A s' s'.heap := by rw [hhp]; exact vx_Zq.moved hW0.alike (hE.2.1.1.kept wd.2.2.1.2.1)
  have hN' : vx_Zq Bundle.tN "SUPPRESSED_SENTINEL" Bundle.listD A s' s'.heap := by rw [hhp]; exact vx_Zq.moved hW0.alike (hE.2.1.2.1.kept wd.2.2.1.2.1)
  have hall : ∀ w ∈ nxAll own ic cls Y r ix rx, w.before args s' = true := vx_own hat' (vx_isRefq hU'.1) (vx_isRefq hN'.1) hU'.2.word hN'.2.word
  have hown' : s'.vm.findClass own = some m.cls := by rw [hvm]; exact hown
  obtain ⟨vm₁, cX, kX, hfX, hkX, -, -, X₁, st1⟩ := Y1.newCold hexec (own := own) (C := cls) (index := ik) (n := 6) hown' hk' (hall _ (List.mem_append_right _ (List.mem_append_right _ (by simp [nxTail])))) hini'
    (g := F0 m pc ls (st.map (cV ad))) rfl (by rw [hb]; exact d0) (Nat.le_refl _) (Nat.le_refl _)
  generalize hT1 : (T.setVm vm₁).pushCell { cls := cX, slots := kX.instanceTypes.map defaultValue, vm := .none } = T1 at X₁ st1
  have hcell : T1.heap[T.heap.size]? = some (freshCell cX kX) := by rw [← hT1]; exact State.heap_pushCell_size _ _
  have hstr : vk_R own is tx (adK i) s' := vk_R.warm hW0 (hE.2.2.2.1 (own, is, tx, i) hs)
  have hc1 : (Value.ref T.heap.size).category = 1 := rfl
  have hcat2 := hcat
  rw [← cat_map ad st] at hcat2
  obtain ⟨U, hsteps, hrun, hend, hW, hsame, ce, hce, hcl, hcv⟩ := nx_ctor X₁ hexec htr (own := own) (cls := cls) (Y := Y) (r := r) (ic := ic) (ix := ix) (rx := rx) x0 x1 x2 x5 hown' hcls hY hr hall (vx_isRefq hU'.1) (vx_isRefq hN'.1) (fun x hx => nomatch hx) hfX hkX hcell (by rw [hhp, hT]; exact Nat.le_refl _) (msg := .ref (adK i)) rfl
    (g := { method := m, pc := pc + 4 + k, locals := ls, stack := .ref (adK i) :: .ref T.heap.size :: .ref T.heap.size :: st.map (cV ad), locked := none }) rfl (hl.1.trans fx.2.2.2.1.symm) rfl rfl (rest := st.map (cV ad)) rfl
    (by rw [hb]; exact d6) (by rw [hb]; exact d9) (fun x hx => absurd (fx.2.2.2.2.2.2.2.2.2.1 x hx) id) (by have := rm.1; show r.length + 4 < R.frames; omega) (by
      have := rm.2.1
      show 2 * 0 + (((Value.ref T.heap.size) :: st.map (cV ad)).map fun v => v.category).sum + (13 * (r.length + 2) + 42) ≤ R.locals
      simp only [List.map_cons, List.sum_cons, hc1]
      omega) hlocks
  obtain ⟨f1, f2⟩ := vx_frame hsame
  rw [hhp] at f1 f2
  have f3 : ∀ q : Nat, q < H.size → U.heap[q]? = H[q]? := fun q hq => f2 q hq (fun z hz => nomatch hz)
  have hWs : s.WarmedH U.vm := State.WarmedH.trans hW0 hW
  have hall2 : s.sameButNew ({ U with vm := s.vm } : State) locs MC MS := by
    subst hA
    obtain ⟨e1, e2⟩ := hsame
    rw [State.setFrames_setFrames] at e1
    have h2 : (T.setVm s.vm).sameButNew ({ U with vm := s.vm } : State) [] (0 + 1) (0 + 6) := ⟨e1, e2⟩
    have h3 := XS.same.trans h2
    rw [List.append_nil] at h3
    exact h3.mono (by have := rm.2.2.2.2.1; omega) (by have := rm.2.2.2.2.2; omega)
  refine ⟨U, ?_, .threw T.heap.size, hrun, hend, Or.inr ⟨T.heap.size, rfl, cls, ce, locs, ⟨⟨n, h, ad, hx, hn, he, ?_⟩, ?_⟩, hce, hcv, by rw [hvm] at hcl; exact hcl, hWs, hall2, wd.2.2.1.2.2⟩⟩
  · refine st1 _ ?_
    have hd3 : decode c.code (pc + 3) = .ok (.dup, 1) := by rw [hb]; exact d3
    show Steps p.tables e below (T1.setTop { method := m, pc := pc + 3, locals := ls, stack := .ref T.heap.size :: st.map (cV ad), locked := none }) _
    jvm_step X₁.here [X₁.here.top, hexec, hd3, Value.category]
    rcases d4 with ⟨d4, rfl⟩ | ⟨d4, rfl⟩
    · exact X₁.ldcString hexec (own := own) (text := tx) (index := is) (a := adK i) hown' hstr.1 hstr.2
        (g := { method := m, pc := pc + 4, locals := ls, stack := .ref T.heap.size :: .ref T.heap.size :: st.map (cV ad), locked := none }) rfl (by rw [hb]; exact d4) _ hsteps
    · exact X₁.ldcStringW hexec (own := own) (text := tx) (index := is) (a := adK i) hown' hstr.1 hstr.2
        (g := { method := m, pc := pc + 4, locals := ls, stack := .ref T.heap.size :: .ref T.heap.size :: st.map (cV ad), locked := none }) rfl (by rw [hb]; exact d4) _ hsteps
  · exact ⟨wd.1.kept (fun k q hq => f3 _ (wd.1 k q hq).lt), wd.2.1, wd.2.2.2⟩
  · exact ⟨Nat.le_trans wd.2.2.1.1 f1, fun q h1 h2 => (f3 q (Nat.lt_of_lt_of_le h1 wd.2.2.1.1)).trans (wd.2.2.1.2.1 q h1 h2)⟩
theorem rxN_0 : decode rxN 0 = .ok (.aload_n 0, 1) := by decide +kernel
theorem rxN_1 : decode rxN 1 = .ok (.aload_n 1, 1) := by decide +kernel
theorem rxN_2 : decode rxN 2 = .ok (.invokespecial 13, 3) := by decide +kernel
theorem rxN_5 : decode rxN 5 = .ok (.return_, 1) := by decide +kernel

abbrev nmI : String := "java/lang/IllegalArgumentException"
theorem r_throwI {name : String} {cc : ByteArray} {mL : Nat} {rt : Option FieldType} {d mc ms : Nat} {Q : Option Value → Nat → aH → Prop} {X : String → Nat → aH → Prop} {n : Nat} {h : aH} {pc : Nat} {lv : List (Nat × Value)} {st : List Value} {is i k : Nat} {tx : String} (hs : ("LyingDials", is, tx, i) ∈ strR) (d0 : decode cc pc = .ok (.new 259, 3)) (d3 : decode cc (pc + 3) = .ok (.dup, 1)) (d4 : (decode cc (pc + 4) = .ok (.ldc is, 2) ∧ k = 2) ∨ (decode cc (pc + 4) = .ok (.ldc_w is, 3) ∧ k = 3)) (d6 : decode cc (pc + 4 + k) = .ok (.invokespecial 263, 3)) (d9 : decode cc (pc + 4 + k + 3) = .ok (.athrow, 1))
    (hd : 6 ≤ d) (hmc : 1 ≤ mc) (hms : 6 ≤ ms) (hcat : (st.map fun v => v.category).sum ≤ 8) (hx : X nmI n h) : Ev RX8 name cc mL rt d mc ms Q X n h pc lv st :=
  r_throw (own := RX8) Bundle.six_0 Bundle.six_1 Bundle.six_2 Bundle.six_5 (by decide +kernel) (by decide +kernel) (by decide +kernel) rfl (inT2 191 rfl rfl) (inT1 15 rfl rfl) hs nw_I nb_I no_I (by simp [castW]) d0 d3 d4 d6 d9 hd hmc hms hcat hx
abbrev nmN : String := "java/util/NoSuchElementException"
theorem r_throwN {name : String} {cc : ByteArray} {mL : Nat} {rt : Option FieldType} {d mc ms : Nat} {Q : Option Value → Nat → aH → Prop} {X : String → Nat → aH → Prop} {n : Nat} {h : aH} {pc : Nat} {lv : List (Nat × Value)} {st : List Value} {is i k : Nat} {tx : String} (hs : ("LyingDials", is, tx, i) ∈ strR) (d0 : decode cc pc = .ok (.new 202, 3)) (d3 : decode cc (pc + 3) = .ok (.dup, 1)) (d4 : (decode cc (pc + 4) = .ok (.ldc is, 2) ∧ k = 2) ∨ (decode cc (pc + 4) = .ok (.ldc_w is, 3) ∧ k = 3)) (d6 : decode cc (pc + 4 + k) = .ok (.invokespecial 206, 3)) (d9 : decode cc (pc + 4 + k + 3) = .ok (.athrow, 1))
    (hd : 6 ≤ d) (hmc : 1 ≤ mc) (hms : 6 ≤ ms) (hcat : (st.map fun v => v.category).sum ≤ 8) (hx : X nmN n h) : Ev RX8 name cc mL rt d mc ms Q X n h pc lv st :=
  r_throw (own := RX8) rxN_0 rxN_1 rxN_2 rxN_5 (by decide +kernel) (by decide +kernel) (by decide +kernel) rfl (inT4 74 rfl rfl) (inT1 21 rfl rfl) hs nw_N nb_N no_N (by simp [castW]) d0 d3 d4 d6 d9 hd hmc hms hcat hx
