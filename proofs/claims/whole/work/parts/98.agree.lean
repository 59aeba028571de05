/-! ===== the two agree, method by method ===== -/
theorem sg_lo {a b : Bool} {j : Nat} (h : j < 68) : sg a b j < 68 := by
  unfold sg
  repeat' split
  all_goals omega
theorem can_fr {h h2 : aH} {S : CSt} (e : ∀ j, j < 68 → h2 j = h j) (c : CanC h S) : CanC h2 S := by
  obtain ⟨t, tp, fpl, rf, hlaw, himg, ⟨⟨nd, sw, nc⟩, ⟨hl, hs⟩, K, U, I, O, G, L, cf, ct, fc, nx, cd⟩, ⟨⟨nr, ns, nm⟩, rd, ry, rm, rt, se, md, my, mt⟩, ⟨⟨nr2, ns2, nm2⟩, rd2, ry2, rm2, rt2, se2, md2, my2, mt2⟩, ls⟩ := S
  simp only [CanC, PortC, Note40, Note49, LawC, Sc3, Sc4, Sc5, Sc17, Sc34, Sc58, Sc62, Sc65, Sc66, Sc67] at c ⊢
  simp only [e 0 (by decide), e 1 (by decide), e 2 (by decide), e 3 (by decide), e 4 (by decide), e 5 (by decide), e 6 (by decide), e 7 (by decide), e 8 (by decide), e 9 (by decide), e 10 (by decide), e 11 (by decide), e 12 (by decide), e 13 (by decide), e 14 (by decide), e 15 (by decide), e 16 (by decide), e 17 (by decide), e 18 (by decide), e 19 (by decide), e 20 (by decide), e 21 (by decide), e 22 (by decide), e 23 (by decide), e 24 (by decide), e 25 (by decide), e 26 (by decide), e 27 (by decide), e 28 (by decide), e 29 (by decide), e 30 (by decide), e 31 (by decide), e 32 (by decide), e 33 (by decide), e 34 (by decide), e 35 (by decide), e 36 (by decide), e 37 (by decide), e 38 (by decide), e 39 (by decide), e 40 (by decide), e 41 (by decide), e 42 (by decide), e 43 (by decide), e 44 (by decide), e 45 (by decide), e 46 (by decide), e 47 (by decide), e 48 (by decide), e 49 (by decide), e 50 (by decide), e 51 (by decide), e 52 (by decide), e 53 (by decide), e 54 (by decide), e 55 (by decide), e 56 (by decide), e 57 (by decide), e 58 (by decide), e 59 (by decide), e 60 (by decide), e 61 (by decide), e 62 (by decide), e 63 (by decide), e 64 (by decide), e 65 (by decide), e 66 (by decide), e 67 (by decide)]
  exact c
theorem cls_fr {h h2 : aH} {S : CSt} (e : ∀ j, j < 68 → h2 j = h j) (c : Cls h S) : Cls h2 S := by
  obtain ⟨a, b, c⟩ := c
  exact ⟨a, b, can_fr (fun j hj => by rw [swH_eq, swH_eq, e _ (sg_lo hj)]) c⟩
theorem cls_0 {h : aH} {S : CSt} (c : Cls h S) : ∃ fs, h 0 = .inr (8, fs) := by
  obtain ⟨a, b, c⟩ := c
  obtain ⟨t, tp, fpl, rf, hlaw, himg, ⟨⟨nd, sw, nc⟩, ⟨hl, hs⟩, K, U, I, O, G, L, cf, ct, fc, nx, cd⟩, ⟨⟨nr, ns, nm⟩, rd, ry, rm, rt, se, md, my, mt⟩, ⟨⟨nr2, ns2, nm2⟩, rd2, ry2, rm2, rt2, se2, md2, my2, mt2⟩, ls⟩ := S
  have c0 := c.1
  rw [swH_eq, show sg a b 0 = 0 by cases a <;> cases b <;> rfl] at c0
  cases e : h 0 with
  | inl x => rw [e] at c0; cases c0
  | inr o =>
    obtain ⟨i, fs⟩ := o
    rw [e] at c0
    have e2 : i = 8 := congrArg Prod.fst (Sum.inr.inj c0)
    exact ⟨fs, by rw [e2]⟩
theorem ref_fr {h h2 : aH} {S : CSt} {th : Int} (e : ∀ j, 68 ≤ j → j ≤ 95 → h2 j = h j) (r : RefC h S th) : RefC h2 S th := by
  obtain ⟨g, dl, cl, lm, trr, rfr, nD, nC, nL, lt, lgt, mn, rdg, cpl, grp, sea, rts, row, cod, ncod, pil, opn, stg, bsd, imo, imr, ims, imm, w, c68, c69, c70, c71, c72, c73, c74, c75, c76, c77, c78, c79, c80, c81, c82, c83, c84, c85, c86, c87, c88, c89, c90, c91, c92, c93, c94, c95, rr⟩ := r
  exact ⟨g, dl, cl, lm, trr, rfr, nD, nC, nL, lt, lgt, mn, rdg, cpl, grp, sea, rts, row, cod, ncod, pil, opn, stg, bsd, imo, imr, ims, imm, w, (e 68 (by decide) (by decide)).trans c68, (e 69 (by decide) (by decide)).trans c69, (e 70 (by decide) (by decide)).trans c70, (e 71 (by decide) (by decide)).trans c71, (e 72 (by decide) (by decide)).trans c72, (e 73 (by decide) (by decide)).trans c73, (e 74 (by decide) (by decide)).trans c74, (e 75 (by decide) (by decide)).trans c75, (e 76 (by decide) (by decide)).trans c76, (e 77 (by decide) (by decide)).trans c77, (e 78 (by decide) (by decide)).trans c78, (e 79 (by decide) (by decide)).trans c79, (e 80 (by decide) (by decide)).trans c80, (e 81 (by decide) (by decide)).trans c81, (e 82 (by decide) (by decide)).trans c82, (e 83 (by decide) (by decide)).trans c83, (e 84 (by decide) (by decide)).trans c84, (e 85 (by decide) (by decide)).trans c85, (e 86 (by decide) (by decide)).trans c86, (e 87 (by decide) (by decide)).trans c87, (e 88 (by decide) (by decide)).trans c88, (e 89 (by decide) (by decide)).trans c89, (e 90 (by decide) (by decide)).trans c90, (e 91 (by decide) (by decide)).trans c91, (e 92 (by decide) (by decide)).trans c92, (e 93 (by decide) (by decide)).trans c93, (e 94 (by decide) (by decide)).trans c94, (e 95 (by decide) (by decide)).trans c95, rr⟩
theorem ref_inv {h : aH} {th : Int} {t : Nat → Int} {tp : Nat} {fpl hlaw himg : Int} {rf : Nat → Int} {nd sw nc hl hs : Int} {K U I O G L cf ct fc nx cd : Nat → Int} {nr ns nm : Int} {rd ry rm rt se md my mt : Nat → Int} {M : ND} {ls : LSm} (r : RefC h (t, tp, fpl, rf, hlaw, himg, ((nd, sw, nc), (hl, hs), K, U, I, O, G, L, cf, ct, fc, nx, cd), ((nr, ns, nm), rd, ry, rm, rt, se, md, my, mt), M, ls) th) : PInv nd sw nc K U I O G L cf ct fc nx cd ∧ NInv nr ns nm rd ry rm rt se md my mt := by
  obtain ⟨g, dl, cl, lm, trr, rfr, nD, nC, nL, lt, lgt, mn, rdg, cpl, grp, sea, rts, row, cod, ncod, pil, opn, stg, bsd, imo, imr, ims, imm, w, -, -, -, -, -, -, -, -, -, -, -, -, -, -, -, -, -, -, -, -, -, -, -, -, -, -, -, -, -, rr⟩ := r
  exact ⟨rr.2.2.1, rr.2.2.2.1⟩
theorem ref_th {h : aH} {S : CSt} {th : Int} (r : RefC h S th) : ∃ (g : Nat → Int) (w : Int), h 68 = RG g w ∧ g 0 = th := by
  obtain ⟨g, dl, cl, lm, trr, rfr, nD, nC, nL, lt, lgt, mn, rdg, cpl, grp, sea, rts, row, cod, ncod, pil, opn, stg, bsd, imo, imr, ims, imm, w, c68, -, -, -, -, -, -, -, -, -, -, -, -, -, -, -, -, -, -, -, -, -, -, -, -, -, -, -, e0, -⟩ := r
  exact ⟨g, w, c68, e0⟩
abbrev RefT : Type := aH → Nat → Int → CSt → Prop
def Agree (yc : MethodName) (cc : ByteArray) (mL d1 mc1 ms1 : Nat) (as : List Value) (ref : RefT) (zN zI : Nat) (ex : String → Prop) (h : aH) (S : CSt) (th : Int) : Prop := ∃ (Q1 : Option Value → Nat → aH → Prop) (X1 : String → Nat → aH → Prop), mSem yc cc mL (some .int) d1 mc1 ms1 (.ref 0 :: as) 97 h Q1 X1 ∧
  (∀ v n2 h2, Q1 v n2 h2 → n2 = 97 ∧ FrC h h2 ∧ ∃ (r : Int) (S2 : CSt), v = some (iv r) ∧ Cls h2 S2 ∧ ∀ h', RefC h' S th → ref h' 0 r S2) ∧
  (∀ E n2 h2, X1 E n2 h2 → n2 = 97 ∧ ex E ∧ FrC h h2 ∧ Cls h2 S ∧ ((E = nmN ∧ ∀ h', RefC h' S th → ∃ r, ref h' zN r S) ∨ (E = nmI ∧ ∀ h', RefC h' S th → ∃ r, ref h' zI r S)))
theorem agr_of {yc : MethodName} {cc : ByteArray} {mL d1 mc1 ms1 : Nat} {as : List Value} {ref : RefT} {zN zI : Nat} {ex : String → Prop} {h : aH} {S : CSt} {th : Int} {oc : Nat} {r : Int} {S2 : CSt} (c : Nat) (r2 : Int)
    (hp : mSem yc cc mL (some .int) d1 mc1 ms1 (.ref 0 :: as) 97 h (PubQ oc (some (iv r)) h S2) (PubX oc h S)) (h0 : oc = 0 → c = 0 ∧ r2 = r) (h1 : oc = 1 → c = zN ∧ ¬ c = 0 ∧ ex nmN) (h2 : oc = 2 → c = zI ∧ ¬ c = 0 ∧ ex nmI) (hr : ∀ h', RefC h' S th → ref h' c r2 (if c = 0 then S2 else S)) : Agree yc cc mL d1 mc1 ms1 as ref zN zI ex h S th := by
  refine ⟨_, _, hp, ?_, ?_⟩
  · rintro v n2 h2 ⟨q1, q2, q3, q4, q5⟩
    obtain ⟨c0, e⟩ := h0 q1
    subst c0; subst e
    exact ⟨q3, q5, r2, S2, q2, q4, fun h' hh => by have := hr h' hh; rw [if_pos rfl] at this; exact this⟩
  · rintro E n2 h3 ⟨q1, q3, q4, q5⟩
    rcases q1 with ⟨q1, rfl⟩ | ⟨q1, rfl⟩
    · obtain ⟨c0, c1, e⟩ := h1 q1
      subst c0
      exact ⟨q3, e, q5, q4, Or.inl ⟨rfl, fun h' hh => ⟨r2, by have := hr h' hh; rw [if_neg c1] at this; exact this⟩⟩⟩
    · obtain ⟨c0, c1, e⟩ := h2 q1
      subst c0
      exact ⟨q3, e, q5, q4, Or.inr ⟨rfl, fun h' hh => ⟨r2, by have := hr h' hh; rw [if_neg c1] at this; exact this⟩⟩⟩
theorem ocL_1 : ∀ {l : List (Bool × Nat)}, (∀ q ∈ l, q.2 = 1) → ocL l = 0 ∨ ocL l = 1 := by
  intro l
  induction l with
  | nil => intro _; exact Or.inl rfl
  | cons q l ih =>
    intro hq
    obtain ⟨b, c⟩ := q
    cases b with
    | false => exact Or.inr (hq (false, c) List.mem_cons_self)
    | true => exact ih (fun z hz => hq z (List.mem_cons_of_mem _ hz))
theorem ocL_s {b : Bool} {c : Nat} {l : List (Bool × Nat)} (h : ocL ((b, c) :: l) = 0) (hc : ¬ c = 0) : b = true ∧ ocL l = 0 := by
  unfold ocL at h
  split at h
  · rename_i h9
    exact ⟨h9, h⟩
  · exact absurd h hc
theorem metS_congr {f g : Int → Int} {w : Int} : ∀ (k : Nat) (on b l : Int), 0 ≤ on → on + k ≤ 365 → (∀ d, 0 ≤ d → d < 365 → f d = g d) → metS f w k on b l = metS g w k on b l := by
  intro k
  induction k with
  | zero => intros; rfl
  | succ k ih =>
    intro on b l h0 h1 hf
    unfold metS
    rw [hf on h0 (by omega), ih (on + 1) b l (by omega) (by omega) hf, ih (on + 1) on (g on) (by omega) (by omega) hf]
theorem sw_av {as : List Value} (has : ∀ (f : Nat → Nat), as.map (cV f) = as) : ∀ a b, (Value.ref 0 :: as).map (cV (sg a b)) = .ref 0 :: as := by
  intro a b
  rw [List.map_cons, has, cV_ref, show sg a b 0 = 0 by cases a <;> cases b <;> rfl]
theorem a_lawful {h : aH} {S : CSt} {th : Int} (hc : Cls h S) (hr : RefC h S th) {day m : Int} (iday : inR day) (im : inR m) : Agree yX8_lawful cX8_lawful 3 30 3 18 [iv day, iv m] (fun h' c r S' => mSem yX9_lawful cX9_lawful 3 (some .int) 7 0 0 (.ref 68 :: [iv day, iv m]) 97 h' (RefQ c r h' S') noX) 1 2 (fun E => E = nmN ∨ E = nmI) h S th := by
  obtain ⟨t, tp, fpl, rf, hlaw, himg, ⟨⟨nd, sw, nc⟩, ⟨hl, hs⟩, K, U, I, O, G, L, cf, ct, fc, nx, cd⟩, ⟨⟨nr, ns, nm⟩, rd, ry, rm, rt, se, md, my, mt⟩, ⟨⟨nr2, ns2, nm2⟩, rd2, ry2, rm2, rt2, se2, md2, my2, mt2⟩, ls⟩ := S
  obtain ⟨pi, ni⟩ := ref_inv hr
  refine agr_of ((ocL [(dayB day, 1), (minB m, 1), (decide (hlaw = 1), 2)])) ((ls (fun j => nowI sw nc nm K U I O G L cf ct cd md my mt ((j : Nat) : Int) day m) (day / 31))) (pub_sw (sw_av (fun _ => rfl)) (fun _ _ => rfl) (fun h cc => s_X8_lawful cc iday im) hc) ?_ ?_ ?_ (fun h' hh => ?_)
  · intro e; exact ⟨e, rfl⟩
  · intro e; exact ⟨e, by rw [e]; decide, Or.inl rfl⟩
  · intro e; exact ⟨e, by rw [e]; decide, Or.inr rfl⟩
  rw [ite_self]
  exact s_X9_lawful hh iday im
theorem a_judged {h : aH} {S : CSt} {th : Int} (hc : Cls h S) (hr : RefC h S th) {m w : Int} (im : inR m) (iw : inR w) : Agree yX8_judged cX8_judged 6 30 3 18 [iv m, iv w] (fun h' c r S' => mSem yX9_judged cX9_judged 14 (some .int) 7 0 0 (.ref 68 :: [iv m, iv w]) 97 h' (RefQ c r h' S') noX) 1 2 (fun E => E = nmN ∨ E = nmI) h S th := by
  obtain ⟨t, tp, fpl, rf, hlaw, himg, ⟨⟨nd, sw, nc⟩, ⟨hl, hs⟩, K, U, I, O, G, L, cf, ct, fc, nx, cd⟩, ⟨⟨nr, ns, nm⟩, rd, ry, rm, rt, se, md, my, mt⟩, ⟨⟨nr2, ns2, nm2⟩, rd2, ry2, rm2, rt2, se2, md2, my2, mt2⟩, ls⟩ := S
  obtain ⟨pi, ni⟩ := ref_inv hr
  have hLo : hlaw = 1 → ∀ (tf : Nat → Int) (mo : Int), (∀ j, -1 ≤ tf j ∧ tf j < 1440) → (0 ≤ mo ∧ mo ≤ 11) → -1 ≤ ls tf mo ∧ ls tf mo < 1440 := by
    obtain ⟨a, b, cc⟩ := hc
    intro h1 tf mo ht _
    obtain ⟨D, tv, m0, sg9, -, -, -, -, -, -, lok, hl9⟩ := cc.2.2.2.2.2.2.2.1
    rw [← (hl9 h1).1 tf mo]
    exact (evI_B ht 12).1 0
  refine agr_of ((ocL [(minB m, 1), (whaB w 3, 1), (decide (hlaw = 1), 2)])) ((jdV (yT (fun d => ls (fun j => nowI sw nc nm K U I O G L cf ct cd md my mt ((j : Nat) : Int) d m) (d / 31)) m 365) (ubS (fun d => ls (fun j => nowI sw nc nm K U I O G L cf ct cd md my mt ((j : Nat) : Int) d m) (d / 31)) (fun d j => nowI sw nc nm K U I O G L cf ct cd md my mt ((j : Nat) : Int) d m) m nd.toNat 365) w)) (pub_sw (sw_av (fun _ => rfl)) (fun _ _ => rfl) (fun h cc => s_X8_judged cc im iw) hc) ?_ ?_ ?_ (fun h' hh => ?_)
  · intro e; exact ⟨e, rfl⟩
  · intro e; exact ⟨e, by rw [e]; decide, Or.inl rfl⟩
  · intro e; exact ⟨e, by rw [e]; decide, Or.inr rfl⟩
  rw [ite_self]
  exact s_X9_judged hh im iw hLo
theorem a_count {h : aH} {S : CSt} {th : Int} (hc : Cls h S) (hr : RefC h S th) {w : Int} (iw : inR w) : Agree yX8_count cX8_count 2 7 1 6 [iv w] (fun h' c r S' => mSem yX9_count cX9_count 2 (some .int) 6 0 0 (.ref 68 :: [iv w]) 97 h' (RefQ c r h' S') noX) 1 2 (fun E => E = nmN) h S th := by
  obtain ⟨t, tp, fpl, rf, hlaw, himg, ⟨⟨nd, sw, nc⟩, ⟨hl, hs⟩, K, U, I, O, G, L, cf, ct, fc, nx, cd⟩, ⟨⟨nr, ns, nm⟩, rd, ry, rm, rt, se, md, my, mt⟩, ⟨⟨nr2, ns2, nm2⟩, rd2, ry2, rm2, rt2, se2, md2, my2, mt2⟩, ls⟩ := S
  obtain ⟨pi, ni⟩ := ref_inv hr
  refine agr_of ((ocL [(cntB w, 1)])) ((cntV nd sw nc nr ns nm tp L rf w)) (pub_sw (sw_av (fun _ => rfl)) (fun _ _ => rfl) (fun h cc => s_X8_count cc iw) hc) ?_ ?_ ?_ (fun h' hh => ?_)
  · intro e; exact ⟨e, rfl⟩
  · intro e; exact ⟨e, by rw [e]; decide, rfl⟩
  · intro e
    rcases ocL_1 (l := [(cntB w, 1)]) (by simp) with h9 | h9 <;> rw [h9] at e <;> cases e
  rw [ite_self]
  exact s_X9_count hh iw
theorem a_dial {h : aH} {S : CSt} {th : Int} (hc : Cls h S) (hr : RefC h S th) {di w : Int} (idi : inR di) (iw : inR w) : Agree yX8_dial cX8_dial 3 7 2 12 [iv di, iv w] (fun h' c r S' => mSem yX9_dial cX9_dial 3 (some .int) 6 0 0 (.ref 68 :: [iv di, iv w]) 97 h' (RefQ c r h' S') noX) 1 2 (fun E => E = nmN) h S th := by
  obtain ⟨t, tp, fpl, rf, hlaw, himg, ⟨⟨nd, sw, nc⟩, ⟨hl, hs⟩, K, U, I, O, G, L, cf, ct, fc, nx, cd⟩, ⟨⟨nr, ns, nm⟩, rd, ry, rm, rt, se, md, my, mt⟩, ⟨⟨nr2, ns2, nm2⟩, rd2, ry2, rm2, rt2, se2, md2, my2, mt2⟩, ls⟩ := S
  obtain ⟨pi, ni⟩ := ref_inv hr
  refine agr_of ((ocL [(diaB nd di, 1), (whaB w 4, 1)])) ((diaV K U I O G di w)) (pub_sw (sw_av (fun _ => rfl)) (fun _ _ => rfl) (fun h cc => s_X8_dial cc idi iw) hc) ?_ ?_ ?_ (fun h' hh => ?_)
  · intro e; exact ⟨e, rfl⟩
  · intro e; exact ⟨e, by rw [e]; decide, rfl⟩
  · intro e
    rcases ocL_1 (l := [(diaB nd di, 1), (whaB w 4, 1)]) (by simp) with h9 | h9 <;> rw [h9] at e <;> cases e
  rw [ite_self]
  exact s_X9_dial hh idi iw
theorem a_day {h : aH} {S : CSt} {th : Int} (hc : Cls h S) (hr : RefC h S th) {day w : Int} (iday : inR day) (iw : inR w) : Agree yX8_day cX8_day 3 7 2 12 [iv day, iv w] (fun h' c r S' => mSem yX9_day cX9_day 3 (some .int) 6 0 0 (.ref 68 :: [iv day, iv w]) 97 h' (RefQ c r h' S') noX) 1 2 (fun E => E = nmN) h S th := by
  obtain ⟨t, tp, fpl, rf, hlaw, himg, ⟨⟨nd, sw, nc⟩, ⟨hl, hs⟩, K, U, I, O, G, L, cf, ct, fc, nx, cd⟩, ⟨⟨nr, ns, nm⟩, rd, ry, rm, rt, se, md, my, mt⟩, ⟨⟨nr2, ns2, nm2⟩, rd2, ry2, rm2, rt2, se2, md2, my2, mt2⟩, ls⟩ := S
  obtain ⟨pi, ni⟩ := ref_inv hr
  refine agr_of ((ocL [(dayB day, 1), (whaB w 1, 1)])) ((if w = 0 then noonI L day else halfI sw day)) (pub_sw (sw_av (fun _ => rfl)) (fun _ _ => rfl) (fun h cc => s_X8_day cc iday iw) hc) ?_ ?_ ?_ (fun h' hh => ?_)
  · intro e; exact ⟨e, rfl⟩
  · intro e; exact ⟨e, by rw [e]; decide, rfl⟩
  · intro e
    rcases ocL_1 (l := [(dayB day, 1), (whaB w 1, 1)]) (by simp) with h9 | h9 <;> rw [h9] at e <;> cases e
  rw [ite_self]
  exact s_X9_day hh iday iw
theorem a_tells {h : aH} {S : CSt} {th : Int} (hc : Cls h S) (hr : RefC h S th) {di day m : Int} (idi : inR di) (iday : inR day) (im : inR m) : Agree yX8_tells cX8_tells 4 7 3 18 [iv di, iv day, iv m] (fun h' c r S' => mSem yX9_tells cX9_tells 4 (some .int) 6 0 0 (.ref 68 :: [iv di, iv day, iv m]) 97 h' (RefQ c r h' S') noX) 1 2 (fun E => E = nmN) h S th := by
  obtain ⟨t, tp, fpl, rf, hlaw, himg, ⟨⟨nd, sw, nc⟩, ⟨hl, hs⟩, K, U, I, O, G, L, cf, ct, fc, nx, cd⟩, ⟨⟨nr, ns, nm⟩, rd, ry, rm, rt, se, md, my, mt⟩, ⟨⟨nr2, ns2, nm2⟩, rd2, ry2, rm2, rt2, se2, md2, my2, mt2⟩, ls⟩ := S
  obtain ⟨pi, ni⟩ := ref_inv hr
  refine agr_of ((ocL [(diaB nd di, 1), (dayB day, 1), (minB m, 1)])) ((nowI sw nc nm K U I O G L cf ct cd md my mt di day m)) (pub_sw (sw_av (fun _ => rfl)) (fun _ _ => rfl) (fun h cc => s_X8_tells cc idi iday im) hc) ?_ ?_ ?_ (fun h' hh => ?_)
  · intro e; exact ⟨e, rfl⟩
  · intro e; exact ⟨e, by rw [e]; decide, rfl⟩
  · intro e
    rcases ocL_1 (l := [(diaB nd di, 1), (dayB day, 1), (minB m, 1)]) (by simp) with h9 | h9 <;> rw [h9] at e <;> cases e
  rw [ite_self]
  exact s_X9_tells hh idi iday im
theorem a_turn {h : aH} {S : CSt} {th : Int} (hc : Cls h S) (hr : RefC h S th) {di day : Int} (idi : inR di) (iday : inR day) : Agree yX8_turn cX8_turn 3 7 2 12 [iv di, iv day] (fun h' c r S' => mSem yX9_turn cX9_turn 3 (some .int) 6 0 0 (.ref 68 :: [iv di, iv day]) 97 h' (RefQ c r h' S') noX) 1 2 (fun E => E = nmN) h S th := by
  obtain ⟨t, tp, fpl, rf, hlaw, himg, ⟨⟨nd, sw, nc⟩, ⟨hl, hs⟩, K, U, I, O, G, L, cf, ct, fc, nx, cd⟩, ⟨⟨nr, ns, nm⟩, rd, ry, rm, rt, se, md, my, mt⟩, ⟨⟨nr2, ns2, nm2⟩, rd2, ry2, rm2, rt2, se2, md2, my2, mt2⟩, ls⟩ := S
  obtain ⟨pi, ni⟩ := ref_inv hr
  refine agr_of ((ocL [(diaB nd di, 1), (dayB day, 1)])) ((turnI md my mt di day (U di.toNat) nm.toNat)) (pub_sw (sw_av (fun _ => rfl)) (fun _ _ => rfl) (fun h cc => s_X8_turn cc idi iday) hc) ?_ ?_ ?_ (fun h' hh => ?_)
  · intro e; exact ⟨e, rfl⟩
  · intro e; exact ⟨e, by rw [e]; decide, rfl⟩
  · intro e
    rcases ocL_1 (l := [(diaB nd di, 1), (dayB day, 1)]) (by simp) with h9 | h9 <;> rw [h9] at e <;> cases e
  rw [ite_self]
  exact s_X9_turn hh idi iday
theorem a_read {h : aH} {S : CSt} {th : Int} (hc : Cls h S) (hr : RefC h S th) {di day m to : Int} (idi : inR di) (iday : inR day) (im : inR m) (ito : inR to) : Agree yX8_read cX8_read 5 7 4 24 [iv di, iv day, iv m, iv to] (fun h' c r S' => mSem yX9_read cX9_read 6 (some .int) 6 0 0 (.ref 68 :: [iv di, iv day, iv m, iv to]) 97 h' (RefQ c r h' S') noX) 1 2 (fun E => E = nmN) h S th := by
  obtain ⟨t, tp, fpl, rf, hlaw, himg, ⟨⟨nd, sw, nc⟩, ⟨hl, hs⟩, K, U, I, O, G, L, cf, ct, fc, nx, cd⟩, ⟨⟨nr, ns, nm⟩, rd, ry, rm, rt, se, md, my, mt⟩, ⟨⟨nr2, ns2, nm2⟩, rd2, ry2, rm2, rt2, se2, md2, my2, mt2⟩, ls⟩ := S
  obtain ⟨pi, ni⟩ := ref_inv hr
  refine agr_of ((ocL [(diaB nd di, 1), (dayB day, 1), (minB m, 1), (minB to, 1)])) ((readS (t, tp, fpl, rf, hlaw, himg, ((nd, sw, nc), (hl, hs), K, U, I, O, G, L, cf, ct, fc, nx, cd), ((nr, ns, nm), rd, ry, rm, rt, se, md, my, mt), ((nr2, ns2, nm2), rd2, ry2, rm2, rt2, se2, md2, my2, mt2), ls) di day m to).1) (pub_sw (sw_av (fun _ => rfl)) (fun _ _ => rfl) (fun h cc => s_X8_read cc idi iday im ito) hc) ?_ ?_ ?_ (fun h' hh => ?_)
  · intro e; exact ⟨e, rfl⟩
  · intro e; exact ⟨e, by rw [e]; decide, rfl⟩
  · intro e
    rcases ocL_1 (l := [(diaB nd di, 1), (dayB day, 1), (minB m, 1), (minB to, 1)]) (by simp) with h9 | h9 <;> rw [h9] at e <;> cases e
  exact s_X9_read hh idi iday im ito
theorem a_faults {h : aH} {S : CSt} {th : Int} (hc : Cls h S) (hr : RefC h S th) {di w : Int} (idi : inR di) (iw : inR w) : Agree yX8_faults cX8_faults 3 9 3 18 [iv di, iv w] (fun h' c r S' => mSem yX9_faults cX9_faults 7 (some .int) 8 0 0 (.ref 68 :: [iv di, iv w]) 97 h' (RefQ c r h' S') noX) 1 2 (fun E => E = nmN ∨ E = nmI) h S th := by
  obtain ⟨t, tp, fpl, rf, hlaw, himg, ⟨⟨nd, sw, nc⟩, ⟨hl, hs⟩, K, U, I, O, G, L, cf, ct, fc, nx, cd⟩, ⟨⟨nr, ns, nm⟩, rd, ry, rm, rt, se, md, my, mt⟩, ⟨⟨nr2, ns2, nm2⟩, rd2, ry2, rm2, rt2, se2, md2, my2, mt2⟩, ls⟩ := S
  obtain ⟨pi, ni⟩ := ref_inv hr
  have fe := faults_eq (nr := nr) (rd := rd) (ry := ry) (rm := rm) (rt := rt) (sw := sw) (nc := nc) (K := K) (O := O) (G := G) (L := L) (cf := cf) (ct := ct) (cd := cd) (di := di) ni.2.2.2.2.2.2.1
  have hoc : (ocL [(diaB nd di, 1), (whaB w 4, 1), (decide (w = 0 ∨ ¬ (cpL (fun c => allR (fun dy mi => tldI sw nc K O G L cf ct cd di dy mi (c / 41 - 60) (c % 41 - 20)) rd ry rm rt di nr.toNat) 4961).length = 0), 2)]) = (ocL [(diaB nd di, 1), (whaB w 4, 1), (decide (w = 0 ∨ ¬ (cpS (wgN sw nc nr K O G L cf ct cd rd ry rm rt di) 41) = 0), 2)]) := by
    have f1 := fe.1
    have hb : decide (w = 0 ∨ ¬ (cpL (fun c => allR (fun dy mi => tldI sw nc K O G L cf ct cd di dy mi (c / 41 - 60) (c % 41 - 20)) rd ry rm rt di nr.toNat) 4961).length = 0) = decide (w = 0 ∨ ¬ (cpS (wgN sw nc nr K O G L cf ct cd rd ry rm rt di) 41) = 0) := decide_eq_decide.mpr (by omega)
    rw [hb]
  refine agr_of ((ocL [(diaB nd di, 1), (whaB w 4, 1), (decide (w = 0 ∨ ¬ (cpL (fun c => allR (fun dy mi => tldI sw nc K O G L cf ct cd di dy mi (c / 41 - 60) (c % 41 - 20)) rd ry rm rt di nr.toNat) 4961).length = 0), 2)])) ((ftR (cpL (fun c => allR (fun dy mi => tldI sw nc K O G L cf ct cd di dy mi (c / 41 - 60) (c % 41 - 20)) rd ry rm rt di nr.toNat) 4961) w)) (pub_sw (sw_av (fun _ => rfl)) (fun _ _ => rfl) (fun h cc => s_X8_faults cc idi iw) hc) ?_ ?_ ?_ (fun h' hh => ?_)
  · intro e
    rw [hoc]
    refine ⟨e, (fe.2 w ?_ ?_).symm⟩
    · obtain ⟨-, e⟩ := ocL_s e (by decide)
      obtain ⟨h9, -⟩ := ocL_s e (by decide)
      exact of_decide_eq_true h9
    · obtain ⟨-, e⟩ := ocL_s e (by decide)
      obtain ⟨-, e⟩ := ocL_s e (by decide)
      obtain ⟨h9, -⟩ := ocL_s e (by decide)
      exact of_decide_eq_true h9
  · intro e; rw [hoc]; exact ⟨e, by rw [e]; decide, Or.inl rfl⟩
  · intro e; rw [hoc]; exact ⟨e, by rw [e]; decide, Or.inr rfl⟩
  rw [ite_self]
  exact s_X9_faults hh idi iw
theorem a_next {h : aH} {S : CSt} {th : Int} (hc : Cls h S) (hr : RefC h S th) {di day w : Int} (idi : inR di) (iday : inR day) (iw : inR w) : Agree yX8_next cX8_next 8 9 3 18 [iv di, iv day, iv w] (fun h' c r S' => mSem yX9_next cX9_next 8 (some .int) 8 0 0 (.ref 68 :: [iv di, iv day, iv w]) 97 h' (RefQ c r h' S') noX) 1 2 (fun E => E = nmN) h S th := by
  obtain ⟨t, tp, fpl, rf, hlaw, himg, ⟨⟨nd, sw, nc⟩, ⟨hl, hs⟩, K, U, I, O, G, L, cf, ct, fc, nx, cd⟩, ⟨⟨nr, ns, nm⟩, rd, ry, rm, rt, se, md, my, mt⟩, ⟨⟨nr2, ns2, nm2⟩, rd2, ry2, rm2, rt2, se2, md2, my2, mt2⟩, ls⟩ := S
  obtain ⟨pi, ni⟩ := ref_inv hr
  refine agr_of ((ocL [(diaB nd di, 1), (dayB day, 1), (whaB w 1, 1)])) ((if (cpL (fun c => allR (fun dy mi => tldI sw nc K O G L cf ct cd di dy mi (c / 41 - 60) (c % 41 - 20)) rd ry rm rt di nr.toNat) 4961).length = 0 then -1 else if w = 0 then (nxT (fun m => (grF (fun c => if tldI sw nc K O G L cf ct cd di day m (c / 41 - 60) (c % 41 - 20) = -1 then 1440 else tldI sw nc K O G L cf ct cd di day m (c / 41 - 60) (c % 41 - 20)) (cpL (fun c => allR (fun dy mi => tldI sw nc K O G L cf ct cd di dy mi (c / 41 - 60) (c % 41 - 20)) rd ry rm rt di nr.toNat) 4961) (fun _ => 0, 0)).2) 96 0 (-1, 0)).1 else (nxT (fun m => (grF (fun c => if tldI sw nc K O G L cf ct cd di day m (c / 41 - 60) (c % 41 - 20) = -1 then 1440 else tldI sw nc K O G L cf ct cd di day m (c / 41 - 60) (c % 41 - 20)) (cpL (fun c => allR (fun dy mi => tldI sw nc K O G L cf ct cd di dy mi (c / 41 - 60) (c % 41 - 20)) rd ry rm rt di nr.toNat) 4961) (fun _ => 0, 0)).2) 96 0 (-1, 0)).2)) (pub_sw (sw_av (fun _ => rfl)) (fun _ _ => rfl) (fun h cc => s_X8_next cc idi iday iw) hc) ?_ ?_ ?_ (fun h' hh => ?_)
  · intro e
    refine ⟨e, ?_⟩
    have fe := (faults_eq (nr := nr) (rd := rd) (ry := ry) (rm := rm) (rt := rt) (sw := sw) (nc := nc) (K := K) (O := O) (G := G) (L := L) (cf := cf) (ct := ct) (cd := cd) (di := di) ni.2.2.2.2.2.2.1).1
    by_cases h9 : cpS (wgN sw nc nr K O G L cf ct cd rd ry rm rt di) 41 = 0
    · rw [if_pos h9, if_pos (by omega)]
    · rw [if_neg h9, if_neg (by omega), next_eq pi ni.2.2.2.2.2.2.1 (of_decide_eq_true (ocL_s (ocL_s e (by decide)).2 (by decide)).1) h9]
  · intro e; exact ⟨e, by rw [e]; decide, rfl⟩
  · intro e
    rcases ocL_1 (l := [(diaB nd di, 1), (dayB day, 1), (whaB w 1, 1)]) (by simp) with h9 | h9 <;> rw [h9] at e <;> cases e
  rw [ite_self]
  exact s_X9_next hh idi iday iw
theorem a_see {h : aH} {S : CSt} {th : Int} (hc : Cls h S) (hr : RefC h S th) {di to : Int} (idi : inR di) (ito : inR to) : Agree yX8_see cX8_see 3 7 2 12 [iv di, iv to] (fun h' c r S' => mSem yX9_see cX9_see 4 (some .int) 6 0 0 (.ref 68 :: [iv di, iv to]) 97 h' (RefQ c r h' S') noX) 1 2 (fun E => E = nmN) h S th := by
  obtain ⟨t, tp, fpl, rf, hlaw, himg, ⟨⟨nd, sw, nc⟩, ⟨hl, hs⟩, K, U, I, O, G, L, cf, ct, fc, nx, cd⟩, ⟨⟨nr, ns, nm⟩, rd, ry, rm, rt, se, md, my, mt⟩, ⟨⟨nr2, ns2, nm2⟩, rd2, ry2, rm2, rt2, se2, md2, my2, mt2⟩, ls⟩ := S
  obtain ⟨pi, ni⟩ := ref_inv hr
  refine agr_of ((ocL [(diaB nd di, 1), (minB to, 1)])) ((seeS (t, tp, fpl, rf, hlaw, himg, ((nd, sw, nc), (hl, hs), K, U, I, O, G, L, cf, ct, fc, nx, cd), ((nr, ns, nm), rd, ry, rm, rt, se, md, my, mt), ((nr2, ns2, nm2), rd2, ry2, rm2, rt2, se2, md2, my2, mt2), ls) di to).1) (pub_sw (sw_av (fun _ => rfl)) (fun _ _ => rfl) (fun h cc => s_X8_see cc idi ito) hc) ?_ ?_ ?_ (fun h' hh => ?_)
  · intro e; exact ⟨e, rfl⟩
  · intro e; exact ⟨e, by rw [e]; decide, rfl⟩
  · intro e
    rcases ocL_1 (l := [(diaB nd di, 1), (minB to, 1)]) (by simp) with h9 | h9 <;> rw [h9] at e <;> cases e
  exact s_X9_see hh idi ito
theorem a_minutes {h : aH} {S : CSt} {th : Int} (hc : Cls h S) (hr : RefC h S th) {day w : Int} (iday : inR day) (iw : inR w) : Agree yX8_minutes cX8_minutes 3 9 2 12 [iv day, iv w] (fun h' c r S' => mSem yX9_minutes cX9_minutes 7 (some .int) 7 0 0 (.ref 68 :: [iv day, iv w]) 97 h' (RefQ c r h' S') noX) 1 2 (fun E => E = nmN) h S th := by
  obtain ⟨t, tp, fpl, rf, hlaw, himg, ⟨⟨nd, sw, nc⟩, ⟨hl, hs⟩, K, U, I, O, G, L, cf, ct, fc, nx, cd⟩, ⟨⟨nr, ns, nm⟩, rd, ry, rm, rt, se, md, my, mt⟩, ⟨⟨nr2, ns2, nm2⟩, rd2, ry2, rm2, rt2, se2, md2, my2, mt2⟩, ls⟩ := S
  obtain ⟨pi, ni⟩ := ref_inv hr
  refine agr_of ((ocL [(dayB day, 1), (whaB w 2, 1)])) ((mnV (mnR (fun m => alI se (fun j => nowI sw nc nm K U I O G L cf ct cd md my mt ((j : Nat) : Int) day m) nd.toNat) 1440 0 (0, -1, -1)) w)) (pub_sw (sw_av (fun _ => rfl)) (fun _ _ => rfl) (fun h cc => s_X8_minutes cc iday iw) hc) ?_ ?_ ?_ (fun h' hh => ?_)
  · intro e
    refine ⟨e, ?_⟩
    rw [fit_eq pi ni.2.2.2.2.2.2.2.1 (of_decide_eq_true (ocL_s e (by decide)).1)]; rfl
  · intro e; exact ⟨e, by rw [e]; decide, rfl⟩
  · intro e
    rcases ocL_1 (l := [(dayB day, 1), (whaB w 2, 1)]) (by simp) with h9 | h9 <;> rw [h9] at e <;> cases e
  rw [ite_self]
  exact s_X9_minutes hh iday iw
theorem a_days {h : aH} {S : CSt} {th : Int} (hc : Cls h S) (hr : RefC h S th) {w : Int} (iw : inR w) : Agree yX8_days cX8_days 6 9 1 6 [iv w] (fun h' c r S' => mSem yX9_days cX9_days 5 (some .int) 7 0 0 (.ref 68 :: [iv w]) 97 h' (RefQ c r h' S') noX) 1 2 (fun E => E = nmN) h S th := by
  obtain ⟨t, tp, fpl, rf, hlaw, himg, ⟨⟨nd, sw, nc⟩, ⟨hl, hs⟩, K, U, I, O, G, L, cf, ct, fc, nx, cd⟩, ⟨⟨nr, ns, nm⟩, rd, ry, rm, rt, se, md, my, mt⟩, ⟨⟨nr2, ns2, nm2⟩, rd2, ry2, rm2, rt2, se2, md2, my2, mt2⟩, ls⟩ := S
  obtain ⟨pi, ni⟩ := ref_inv hr
  refine agr_of ((ocL [(whaB w 2, 1)])) ((dyO (fun d m => alI se (fun j => nowI sw nc nm K U I O G L cf ct cd md my mt ((j : Nat) : Int) d m) nd.toNat) w 365 0 0)) (pub_sw (sw_av (fun _ => rfl)) (fun _ _ => rfl) (fun h cc => s_X8_days cc iw) hc) ?_ ?_ ?_ (fun h' hh => ?_)
  · intro e
    refine ⟨e, ?_⟩
    exact dy_eq (of_decide_eq_true (ocL_s e (by decide)).1) (fun d h1 h2 => fit_eq pi ni.2.2.2.2.2.2.2.1 ⟨h1, h2⟩) 365 0 0 rfl (fun _ => rfl) (fun _ => ⟨rfl, rfl⟩)
  · intro e; exact ⟨e, by rw [e]; decide, rfl⟩
  · intro e
    rcases ocL_1 (l := [(whaB w 2, 1)]) (by simp) with h9 | h9 <;> rw [h9] at e <;> cases e
  rw [ite_self]
  exact s_X9_days hh iw
theorem a_late {h : aH} {S : CSt} {th : Int} (hc : Cls h S) (hr : RefC h S th) {a b x day : Int} (ia : inR a) (ib : inR b) (ix : inR x) (iday : inR day) : Agree yX8_late cX8_late 5 9 4 24 [iv a, iv b, iv x, iv day] (fun h' c r S' => mSem yX9_late cX9_late 5 (some .int) 8 0 0 (.ref 68 :: [iv a, iv b, iv x, iv day]) 97 h' (RefQ c r h' S') noX) 1 2 (fun E => E = nmN) h S th := by
  obtain ⟨t, tp, fpl, rf, hlaw, himg, ⟨⟨nd, sw, nc⟩, ⟨hl, hs⟩, K, U, I, O, G, L, cf, ct, fc, nx, cd⟩, ⟨⟨nr, ns, nm⟩, rd, ry, rm, rt, se, md, my, mt⟩, ⟨⟨nr2, ns2, nm2⟩, rd2, ry2, rm2, rt2, se2, md2, my2, mt2⟩, ls⟩ := S
  obtain ⟨pi, ni⟩ := ref_inv hr
  refine agr_of ((ocL [(diaB nd a, 1), (diaB nd b, 1), (minB x, 1), (dayB day, 1)])) (((fun d => latI (fsF (fun m => nowI sw nc nm K U I O G L cf ct cd md my mt a d m) x 1440 0) (fsF (fun m => nowI sw nc nm K U I O G L cf ct cd md my mt b d m) x 1440 0)) day)) (pub_sw (sw_av (fun _ => rfl)) (fun _ _ => rfl) (fun h cc => s_X8_late cc ia ib ix iday) hc) ?_ ?_ ?_ (fun h' hh => ?_)
  · intro e
    refine ⟨e, ?_⟩
    have hx : (0 ≤ x ∧ x < 1440) ∧ (0 ≤ day ∧ day < 365) := ⟨(of_decide_eq_true (ocL_s (ocL_s (ocL_s e (by decide)).2 (by decide)).2 (by decide)).1), (of_decide_eq_true (ocL_s (ocL_s (ocL_s (ocL_s e (by decide)).2 (by decide)).2 (by decide)).2 (by decide)).1)⟩
    show latI _ _ = latI _ _
    rw [frs_eq pi hx.2 hx.1, frs_eq pi hx.2 hx.1]
  · intro e; exact ⟨e, by rw [e]; decide, rfl⟩
  · intro e
    rcases ocL_1 (l := [(diaB nd a, 1), (diaB nd b, 1), (minB x, 1), (dayB day, 1)]) (by simp) with h9 | h9 <;> rw [h9] at e <;> cases e
  rw [ite_self]
  exact s_X9_late hh ia ib ix iday
theorem a_meet {h : aH} {S : CSt} {th : Int} (hc : Cls h S) (hr : RefC h S th) {a b x day w : Int} (ia : inR a) (ib : inR b) (ix : inR x) (iday : inR day) (iw : inR w) : Agree yX8_meet cX8_meet 10 9 5 30 [iv a, iv b, iv x, iv day, iv w] (fun h' c r S' => mSem yX9_meet cX9_meet 10 (some .int) 8 0 0 (.ref 68 :: [iv a, iv b, iv x, iv day, iv w]) 97 h' (RefQ c r h' S') noX) 1 2 (fun E => E = nmN) h S th := by
  obtain ⟨t, tp, fpl, rf, hlaw, himg, ⟨⟨nd, sw, nc⟩, ⟨hl, hs⟩, K, U, I, O, G, L, cf, ct, fc, nx, cd⟩, ⟨⟨nr, ns, nm⟩, rd, ry, rm, rt, se, md, my, mt⟩, ⟨⟨nr2, ns2, nm2⟩, rd2, ry2, rm2, rt2, se2, md2, my2, mt2⟩, ls⟩ := S
  obtain ⟨pi, ni⟩ := ref_inv hr
  refine agr_of ((ocL [(diaB nd a, 1), (diaB nd b, 1), (minB x, 1), (dayB day, 1), (whaB w 1, 1)])) ((metS (fun d => latI (fsF (fun m => nowI sw nc nm K U I O G L cf ct cd md my mt a d m) x 1440 0) (fsF (fun m => nowI sw nc nm K U I O G L cf ct cd md my mt b d m) x 1440 0)) w (365 - day).toNat day (-1) (-1))) (pub_sw (sw_av (fun _ => rfl)) (fun _ _ => rfl) (fun h cc => s_X8_meet cc ia ib ix iday iw) hc) ?_ ?_ ?_ (fun h' hh => ?_)
  · intro e
    refine ⟨e, ?_⟩
    have hx : (0 ≤ x ∧ x < 1440) ∧ (0 ≤ day ∧ day < 365) := ⟨(of_decide_eq_true (ocL_s (ocL_s (ocL_s e (by decide)).2 (by decide)).2 (by decide)).1), (of_decide_eq_true (ocL_s (ocL_s (ocL_s (ocL_s e (by decide)).2 (by decide)).2 (by decide)).2 (by decide)).1)⟩
    refine metS_congr _ _ _ _ hx.2.1 (by omega) (fun d h1 h2 => ?_)
    show latI _ _ = latI _ _
    rw [frs_eq pi ⟨h1, h2⟩ hx.1, frs_eq pi ⟨h1, h2⟩ hx.1]
  · intro e; exact ⟨e, by rw [e]; decide, rfl⟩
  · intro e
    rcases ocL_1 (l := [(diaB nd a, 1), (diaB nd b, 1), (minB x, 1), (dayB day, 1), (whaB w 1, 1)]) (by simp) with h9 | h9 <;> rw [h9] at e <;> cases e
  rw [ite_self]
  exact s_X9_meet hh ia ib ix iday iw
theorem a_mend {h : aH} {S : CSt} {th : Int} (hc : Cls h S) (hr : RefC h S th) {di day tu : Int} (idi : inR di) (iday : inR day) (itu : inR tu) : Agree yX8_mend cX8_mend 5 7 2 12 [iv di, iv day, iv tu] (fun h' c r S' => mSem yX9_mend cX9_mend 4 (some .int) 6 0 0 (.ref 68 :: [iv di, iv day, iv tu]) 97 h' (RefQ c r h' S') noX) 1 2 (fun E => E = nmN) h S th := by
  obtain ⟨t, tp, fpl, rf, hlaw, himg, ⟨⟨nd, sw, nc⟩, ⟨hl, hs⟩, K, U, I, O, G, L, cf, ct, fc, nx, cd⟩, ⟨⟨nr, ns, nm⟩, rd, ry, rm, rt, se, md, my, mt⟩, ⟨⟨nr2, ns2, nm2⟩, rd2, ry2, rm2, rt2, se2, md2, my2, mt2⟩, ls⟩ := S
  obtain ⟨pi, ni⟩ := ref_inv hr
  refine agr_of ((ocL [(diaB nd di, 1), (dayB day, 1)])) ((mendS (t, tp, fpl, rf, hlaw, himg, ((nd, sw, nc), (hl, hs), K, U, I, O, G, L, cf, ct, fc, nx, cd), ((nr, ns, nm), rd, ry, rm, rt, se, md, my, mt), ((nr2, ns2, nm2), rd2, ry2, rm2, rt2, se2, md2, my2, mt2), ls) di day tu).1) (pub_sw (sw_av (fun _ => rfl)) (fun _ _ => rfl) (fun h cc => s_X8_mend cc idi iday itu) hc) ?_ ?_ ?_ (fun h' hh => ?_)
  · intro e; exact ⟨e, rfl⟩
  · intro e; exact ⟨e, by rw [e]; decide, rfl⟩
  · intro e
    rcases ocL_1 (l := [(diaB nd di, 1), (dayB day, 1)]) (by simp) with h9 | h9 <;> rw [h9] at e <;> cases e
  exact s_X9_mend hh idi iday itu
theorem a_best {h : aH} {S : CSt} {th : Int} (hc : Cls h S) (hr : RefC h S th) {di m wi w : Int} (idi : inR di) (im : inR m) (iwi : inR wi) (iw : inR w) : Agree yX8_best cX8_best 6 7 4 24 [iv di, iv m, iv wi, iv w] (fun h' c r S' => mSem yX9_best cX9_best 8 (some .int) 8 0 0 (.ref 68 :: [iv di, iv m, iv wi, iv w]) 97 h' (RefQ c r h' S') noX) 1 2 (fun E => E = nmN ∨ E = nmI) h S th := by
  obtain ⟨t, tp, fpl, rf, hlaw, himg, ⟨⟨nd, sw, nc⟩, ⟨hl, hs⟩, K, U, I, O, G, L, cf, ct, fc, nx, cd⟩, ⟨⟨nr, ns, nm⟩, rd, ry, rm, rt, se, md, my, mt⟩, ⟨⟨nr2, ns2, nm2⟩, rd2, ry2, rm2, rt2, se2, md2, my2, mt2⟩, ls⟩ := S
  obtain ⟨pi, ni⟩ := ref_inv hr
  refine agr_of ((ocL [(diaB nd di, 1), (minB m, 1), (whaB w 1, 1), (decide (0 ≤ wi ∧ wi ≤ 120), 2), (decide (¬ K di.toNat = 5), 2)])) ((if w = 0 then (bsR (rgS (fun a b => (decide (¬ (toldI (K di.toNat) (b - 120) (I di.toNat) (O di.toNat) (G di.toNat) a m (noonI L a) (halfI sw a) (cUp cd cf ct a m nc.toNat)) = -1 ∧ wrongI (toldI (K di.toNat) (b - 120) (I di.toNat) (O di.toNat) (G di.toNat) a m (noonI L a) (halfI sw a) (cUp cd cf ct a m nc.toNat)) m ≤ wi))) 365) (U di.toNat + 120) 240 : Int) - 120 else rgS (fun a b => (decide (¬ (toldI (K di.toNat) (b - 120) (I di.toNat) (O di.toNat) (G di.toNat) a m (noonI L a) (halfI sw a) (cUp cd cf ct a m nc.toNat)) = -1 ∧ wrongI (toldI (K di.toNat) (b - 120) (I di.toNat) (O di.toNat) (G di.toNat) a m (noonI L a) (halfI sw a) (cUp cd cf ct a m nc.toNat)) m ≤ wi))) 365 (bsR (rgS (fun a b => (decide (¬ (toldI (K di.toNat) (b - 120) (I di.toNat) (O di.toNat) (G di.toNat) a m (noonI L a) (halfI sw a) (cUp cd cf ct a m nc.toNat)) = -1 ∧ wrongI (toldI (K di.toNat) (b - 120) (I di.toNat) (O di.toNat) (G di.toNat) a m (noonI L a) (halfI sw a) (cUp cd cf ct a m nc.toNat)) m ≤ wi))) 365) (U di.toNat + 120) 240))) (pub_sw (sw_av (fun _ => rfl)) (fun _ _ => rfl) (fun h cc => s_X8_best cc idi im iwi iw) hc) ?_ ?_ ?_ (fun h' hh => ?_)
  · intro e
    refine ⟨e, ?_⟩
    exact (best_eq (of_decide_eq_true (ocL_s (ocL_s e (by decide)).2 (by decide)).1) (of_decide_eq_true (ocL_s (ocL_s (ocL_s (ocL_s e (by decide)).2 (by decide)).2 (by decide)).2 (by decide)).1)).symm
  · intro e; exact ⟨e, by rw [e]; decide, Or.inl rfl⟩
  · intro e; exact ⟨e, by rw [e]; decide, Or.inr rfl⟩
  rw [ite_self]
  exact s_X9_best hh idi im iwi iw
theorem a_year {h : aH} {S : CSt} {th : Int} (hc : Cls h S) (hr : RefC h S th) {di m w : Int} (idi : inR di) (im : inR m) (iw : inR w) : Agree yX8_year cX8_year 4 8 3 18 [iv di, iv m, iv w] (fun h' c r S' => mSem yX9_year cX9_year 4 (some .int) 7 0 0 (.ref 68 :: [iv di, iv m, iv w]) 97 h' (RefQ c r h' S') noX) 1 2 (fun E => E = nmN) h S th := by
  obtain ⟨t, tp, fpl, rf, hlaw, himg, ⟨⟨nd, sw, nc⟩, ⟨hl, hs⟩, K, U, I, O, G, L, cf, ct, fc, nx, cd⟩, ⟨⟨nr, ns, nm⟩, rd, ry, rm, rt, se, md, my, mt⟩, ⟨⟨nr2, ns2, nm2⟩, rd2, ry2, rm2, rt2, se2, md2, my2, mt2⟩, ls⟩ := S
  obtain ⟨pi, ni⟩ := ref_inv hr
  refine agr_of ((ocL [(diaB nd di, 1), (minB m, 1), (whaB w 1, 1)])) ((if w = 0 then (yT (fun d => nowI sw nc nm K U I O G L cf ct cd md my mt di d m) m 365).1 else (yT (fun d => nowI sw nc nm K U I O G L cf ct cd md my mt di d m) m 365).2.1)) (pub_sw (sw_av (fun _ => rfl)) (fun _ _ => rfl) (fun h cc => s_X8_year cc idi im iw) hc) ?_ ?_ ?_ (fun h' hh => ?_)
  · intro e; exact ⟨e, rfl⟩
  · intro e; exact ⟨e, by rw [e]; decide, rfl⟩
  · intro e
    rcases ocL_1 (l := [(diaB nd di, 1), (minB m, 1), (whaB w 1, 1)]) (by simp) with h9 | h9 <;> rw [h9] at e <;> cases e
  rw [ite_self]
  exact s_X9_year hh idi im iw
theorem a_live {h : aH} {S : CSt} {th : Int} (hc : Cls h S) (hr : RefC h S th) {m : Int} (im : inR m) : Agree yX8_live cX8_live 7 8 1 6 [iv m] (fun h' c r S' => mSem yX9_live cX9_live 6 (some .int) 7 0 0 (.ref 68 :: [iv m]) 97 h' (RefQ c r h' S') noX) 1 2 (fun E => E = nmN) h S th := by
  obtain ⟨t, tp, fpl, rf, hlaw, himg, ⟨⟨nd, sw, nc⟩, ⟨hl, hs⟩, K, U, I, O, G, L, cf, ct, fc, nx, cd⟩, ⟨⟨nr, ns, nm⟩, rd, ry, rm, rt, se, md, my, mt⟩, ⟨⟨nr2, ns2, nm2⟩, rd2, ry2, rm2, rt2, se2, md2, my2, mt2⟩, ls⟩ := S
  obtain ⟨pi, ni⟩ := ref_inv hr
  refine agr_of ((ocL [(minB m, 1)])) ((lvS (fun j => ((yT (fun d => nowI sw nc nm K U I O G L cf ct cd md my mt (j : Nat) d m) m 365).1, (yT (fun d => nowI sw nc nm K U I O G L cf ct cd md my mt (j : Nat) d m) m 365).2.1)) nd.toNat).1) (pub_sw (sw_av (fun _ => rfl)) (fun _ _ => rfl) (fun h cc => s_X8_live cc im) hc) ?_ ?_ ?_ (fun h' hh => ?_)
  · intro e; exact ⟨e, rfl⟩
  · intro e; exact ⟨e, by rw [e]; decide, rfl⟩
  · intro e
    rcases ocL_1 (l := [(minB m, 1)]) (by simp) with h9 | h9 <;> rw [h9] at e <;> cases e
  rw [ite_self]
  exact s_X9_live hh im
theorem a_middle {h : aH} {S : CSt} {th : Int} (hc : Cls h S) (hr : RefC h S th) {bi day m : Int} (ibi : inR bi) (iday : inR day) (im : inR m) : Agree yX8_middle cX8_middle 4 8 3 18 [iv bi, iv day, iv m] (fun h' c r S' => mSem yX9_middle cX9_middle 4 (some .int) 7 0 0 (.ref 68 :: [iv bi, iv day, iv m]) 97 h' (RefQ c r h' S') noX) 1 2 (fun E => E = nmN ∨ E = nmI) h S th := by
  obtain ⟨t, tp, fpl, rf, hlaw, himg, ⟨⟨nd, sw, nc⟩, ⟨hl, hs⟩, K, U, I, O, G, L, cf, ct, fc, nx, cd⟩, ⟨⟨nr, ns, nm⟩, rd, ry, rm, rt, se, md, my, mt⟩, ⟨⟨nr2, ns2, nm2⟩, rd2, ry2, rm2, rt2, se2, md2, my2, mt2⟩, ls⟩ := S
  obtain ⟨pi, ni⟩ := ref_inv hr
  refine agr_of ((ocL [(dayB day, 1), (minB m, 1), (decide (0 ≤ bi ∧ bi < ((2 ^ nd.toNat : Nat) : Int)), 2)])) ((midI (midL (fun j => nowI sw nc nm K U I O G L cf ct cd md my mt ((j : Nat) : Int) day m) bi.toNat nd.toNat))) (pub_sw (sw_av (fun _ => rfl)) (fun _ _ => rfl) (fun h cc => s_X8_middle cc ibi iday im) hc) ?_ ?_ ?_ (fun h' hh => ?_)
  · intro e
    refine ⟨e, ?_⟩
    have hb : 0 ≤ bi ∧ bi < ((2 ^ nd.toNat : Nat) : Int) := (of_decide_eq_true (ocL_s (ocL_s (ocL_s e (by decide)).2 (by decide)).2 (by decide)).1)
    rw [midL_9 pi.1 (b := bi.toNat) (by omega)]
  · intro e; exact ⟨e, by rw [e]; decide, Or.inl rfl⟩
  · intro e; exact ⟨e, by rw [e]; decide, Or.inr rfl⟩
  rw [ite_self]
  exact s_X9_middle hh ibi iday im
theorem a_together {h : aH} {S : CSt} {th : Int} (hc : Cls h S) (hr : RefC h S th) {day w : Int} (iday : inR day) (iw : inR w) : Agree yX8_together cX8_together 8 8 2 12 [iv day, iv w] (fun h' c r S' => mSem yX9_together cX9_together 9 (some .int) 7 0 0 (.ref 68 :: [iv day, iv w]) 97 h' (RefQ c r h' S') noX) 1 2 (fun E => E = nmN) h S th := by
  obtain ⟨t, tp, fpl, rf, hlaw, himg, ⟨⟨nd, sw, nc⟩, ⟨hl, hs⟩, K, U, I, O, G, L, cf, ct, fc, nx, cd⟩, ⟨⟨nr, ns, nm⟩, rd, ry, rm, rt, se, md, my, mt⟩, ⟨⟨nr2, ns2, nm2⟩, rd2, ry2, rm2, rt2, se2, md2, my2, mt2⟩, ls⟩ := S
  obtain ⟨pi, ni⟩ := ref_inv hr
  refine agr_of ((ocL [(dayB day, 1), (whaB w 1, 1)])) ((if w = 0 then (tgO (fun x y => bothR (fun m => nowI sw nc nm K U I O G L cf ct cd md my mt ((x : Nat) : Int) day m) (fun m => nowI sw nc nm K U I O G L cf ct cd md my mt ((y : Nat) : Int) day m) 1440 0 0) nd.toNat nd.toNat 0 (-1, 0)).1 else (tgO (fun x y => bothR (fun m => nowI sw nc nm K U I O G L cf ct cd md my mt ((x : Nat) : Int) day m) (fun m => nowI sw nc nm K U I O G L cf ct cd md my mt ((y : Nat) : Int) day m) 1440 0 0) nd.toNat nd.toNat 0 (-1, 0)).2)) (pub_sw (sw_av (fun _ => rfl)) (fun _ _ => rfl) (fun h cc => s_X8_together cc iday iw) hc) ?_ ?_ ?_ (fun h' hh => ?_)
  · intro e
    refine ⟨e, ?_⟩
    rw [tog_eq pi.1]
  · intro e; exact ⟨e, by rw [e]; decide, rfl⟩
  · intro e
    rcases ocL_1 (l := [(dayB day, 1), (whaB w 1, 1)]) (by simp) with h9 | h9 <;> rw [h9] at e <;> cases e
  rw [ite_self]
  exact s_X9_together hh iday iw
theorem a_takes {h : aH} {S : CSt} {th : Int} (hc : Cls h S) (hr : RefC h S th) {di day : Int} (idi : inR di) (iday : inR day) : Agree yX8_takes cX8_takes 5 8 2 12 [iv di, iv day] (fun h' c r S' => mSem yX9_takes cX9_takes 6 (some .int) 6 0 0 (.ref 68 :: [iv di, iv day]) 97 h' (RefQ c r h' S') noX) 1 2 (fun E => E = nmN) h S th := by
  obtain ⟨t, tp, fpl, rf, hlaw, himg, ⟨⟨nd, sw, nc⟩, ⟨hl, hs⟩, K, U, I, O, G, L, cf, ct, fc, nx, cd⟩, ⟨⟨nr, ns, nm⟩, rd, ry, rm, rt, se, md, my, mt⟩, ⟨⟨nr2, ns2, nm2⟩, rd2, ry2, rm2, rt2, se2, md2, my2, mt2⟩, ls⟩ := S
  obtain ⟨pi, ni⟩ := ref_inv hr
  refine agr_of ((ocL [(diaB nd di, 1), (dayB day, 1)])) ((if K di.toNat = 5 then 0 else tkR (fun d a => cnM (fun m => nowI sw nc nm K U I O G L cf ct cd md my mt di d m) 1440 0 a) (365 - day).toNat day 0)) (pub_sw (sw_av (fun _ => rfl)) (fun _ _ => rfl) (fun h cc => s_X8_takes cc idi iday) hc) ?_ ?_ ?_ (fun h' hh => ?_)
  · intro e
    refine ⟨e, ?_⟩
    exact (takes_eq pi (of_decide_eq_true (ocL_s (ocL_s e (by decide)).2 (by decide)).1)).symm
  · intro e; exact ⟨e, by rw [e]; decide, rfl⟩
  · intro e
    rcases ocL_1 (l := [(diaB nd di, 1), (dayB day, 1)]) (by simp) with h9 | h9 <;> rw [h9] at e <;> cases e
  rw [ite_self]
  exact s_X9_takes hh idi iday
theorem a_law {h : aH} {S : CSt} {th : Int} (hc : Cls h S) (hr : RefC h S th) {x : Int} (ix : inR x) : Agree yX8_law cX8_law 3 33 1 6 [iv x] (fun h' c r S' => mSem yX9_law cX9_law 3 (some .int) 6 0 0 (.ref 68 :: [iv x]) 97 h' (RefQ c r h' S') noX) 1 1 (fun E => E = nmI) h S th := by
  obtain ⟨t, tp, fpl, rf, hlaw, himg, ⟨⟨nd, sw, nc⟩, ⟨hl, hs⟩, K, U, I, O, G, L, cf, ct, fc, nx, cd⟩, ⟨⟨nr, ns, nm⟩, rd, ry, rm, rt, se, md, my, mt⟩, ⟨⟨nr2, ns2, nm2⟩, rd2, ry2, rm2, rt2, se2, md2, my2, mt2⟩, ls⟩ := S
  obtain ⟨pi, ni⟩ := ref_inv hr
  refine agr_of ((ocL [(whaB x tp, 1)])) ((lawS (t, tp, fpl, rf, hlaw, himg, ((nd, sw, nc), (hl, hs), K, U, I, O, G, L, cf, ct, fc, nx, cd), ((nr, ns, nm), rd, ry, rm, rt, se, md, my, mt), ((nr2, ns2, nm2), rd2, ry2, rm2, rt2, se2, md2, my2, mt2), ls) x.toNat).1) (pub_sw (sw_av (fun _ => rfl)) (fun _ _ => rfl) (fun h cc => s_X8_law cc ix) hc) ?_ ?_ ?_ (fun h' hh => ?_)
  · intro e
    unfold ocL at e ⊢
    split at e
    · rename_i h9
      rw [if_pos h9]
      exact ⟨rfl, rfl⟩
    · cases e
  · intro e
    unfold ocL at e
    split at e <;> cases e
  · intro e
    unfold ocL at e ⊢
    split at e
    · cases e
    · rename_i h9
      rw [if_neg h9]
      exact ⟨rfl, by decide, rfl⟩
  exact s_X9_law hh ix
theorem s_X9_portW {h : aH} {th : Int} {t : Nat → Int} {tp : Nat} {fpl hlaw himg : Int} {rf : Nat → Int} {nd sw nc hl hs : Int} {K U I O G L cf ct fc nx cd : Nat → Int} {nr ns nm : Int} {rd ry rm rt se md my mt : Nat → Int} {M : ND} {ls : LSm} (cr : RefC h (t, tp, fpl, rf, hlaw, himg, ((nd, sw, nc), (hl, hs), K, U, I, O, G, L, cf, ct, fc, nx, cd), ((nr, ns, nm), rd, ry, rm, rt, se, md, my, mt), M, ls) th) {x : Int} (ix : inR x) {base : PD} (fb : FreshP base) (hpi : whaB x tp = true → ∀ P2, pLines t x.toNat 700 base 0 = .inr P2 → PInvP P2) : mSem yX9_port cX9_port 3 (some .int) 7 0 0 [.ref 68, iv x] 97 h (PortR (ocL [(whaB x tp, 1)]) h (t, tp, fpl, rf, hlaw, himg, ((nd, sw, nc), (hl, hs), K, U, I, O, G, L, cf, ct, fc, nx, cd), ((nr, ns, nm), rd, ry, rm, rt, se, md, my, mt), M, ls) x.toNat base) noX := by
  refine RefC_elim cr (fun g dl cl lm trr rfr nD nC nL lt lgt mn rdg cpl grp sea rts row cod ncod pil opn stg bsd imo imr ims imm w c68 c69 c70 c71 c72 c73 c74 c75 c76 c77 c78 c79 c80 c81 c82 c83 c84 c85 c86 c87 c88 c89 c90 c91 c92 c93 c94 c95 hth rr => ?_)
  refine RR_elim rr (fun e8 e10 e33 e38 e44 e53 tr pi ni li rrf rtp htp rrd rse phl phi rim rco ht nM nsn => ?_)
  obtain ⟨t1, t2, t3, t31, pnm, tdl, tcl, tlm, tmd, pmt, pmd, pmy⟩ := id tr
  obtain ⟨pnd, psw, pnc, pK, pU, pI, pO, pG, pL, pcf, pct, pfc, pnx⟩ := id pi
  obtain ⟨pnr, pns, pnm2, prd, pry, prm, prt, pse, pmd2, pmy2, pmt2⟩ := id ni
  unfold inR at ix
  refine mSem_of (own := RX9) (name := "port") pn_X9 rfl rfl (Nat.le_of_ble_eq_true rfl) ?_
  refine r_aload_n dX9_port_0 rfl rfl ?_
  refine r_iconst dX9_port_1 ?_
  refine r_putR dX9_port_2 fp_X9_102 (by decide) c68 (nar_int _) (Nat.le_of_ble_eq_true rfl) setR_0 (fun z0 hz0 => ?_)
  refine r_aload_n dX9_port_5 rfl rfl ?_
  refine r_iload_n dX9_port_6 rfl rfl ?_
  refine r_if_lt (tgt := 22) dX9_port_7 (by decide) ⟨by omega, by omega⟩ (fun g7 => ?_) (fun g7 => ?_)
  · have hwf : whaB x tp = false := decide_eq_false (by omega)
    refine r_iconst dX9_port_22 ?_
    refine r_iconst dX9_port_23 ?_
    refine r_callV 68 [_, _] (s_X9_right (b := false) (g := (va_up g 0 z0)) (by rfl) (by exact hz0) (by decide)) dX9_port_24 cs_X9_207 im_X9_right (by decide) rfl rfl (by decide) (by decide) (by decide) rfl rfl (Nat.le_of_ble_eq_true rfl) (fun _ _ _ q => q.elim) (fun v n2 h2 q => ?_)
    obtain ⟨rfl, q⟩ := q
    rcases q with ⟨kb0, rfl, hh⟩ | ⟨kb0, rfl, hh⟩
    · exact absurd kb0 (by decide)
    · obtain rfl := hh.symm
      refine ⟨rfl, ?_⟩
      dsimp only [Option.toList, List.cons_append, List.nil_append]
      refine r_if_ne (tgt := 32) dX9_port_27 (by decide) ⟨by omega, by omega⟩ (fun g27 => absurd g27 (by omega)) (fun g27 => ?_)
      refine r_iconst dX9_port_30 ?_
      refine r_iret dX9_port_31 ?_
      exact ⟨rfl, (by repeat (first | exact fun _ _ => rfl | refine frr_up ?_ (by decide))), Or.inl ⟨by rw [ocF hwf]; decide, ⟨0, rfl⟩, (RefC_mk (g := (va_up (va_up g 0 z0) 0 1)) rfl (by exact c69) (by exact c70) (by exact c71) (by exact c72) (by exact c73) (by exact c74) (by exact c75) (by exact c76) (by exact c77) (by exact c78) (by exact c79) (by exact c80) (by exact c81) (by exact c82) (by exact c83) (by exact c84) (by exact c85) (by exact c86) (by exact c87) (by exact c88) (by exact c89) (by exact c90) (by exact c91) (by exact c92) (by exact c93) (by exact c94) (by exact c95) (congrArg (fun n : Nat => (n : Int)) (ocF hwf).symm) (RR_mk (by first | exact e8 | exact (kp2 8 (by decide)).trans e8) (by first | exact e10 | exact (kp2 10 (by decide)).trans e10) (by first | exact e33 | exact (kp2 33 (by decide)).trans e33) (by first | exact e38 | exact (kp2 38 (by decide)).trans e38) (by first | exact e44 | exact (kp2 44 (by decide)).trans e44) (by first | exact e53 | exact (kp2 53 (by decide)).trans e53) (by first | exact tr | exact tell_kp (by exact tr) kp2) pi ni (by first | exact li | exact li2) rrf rtp htp rrd rse phl phi rim rco ht nM nsn))⟩⟩
  · refine r_iload_n dX9_port_10 rfl rfl ?_
    refine r_aload_n dX9_port_11 rfl rfl ?_
    refine r_getR (z := (g 8)) dX9_port_12 fl_X9_105 (by decide) rfl rfl ?_
    rw [e8]
    refine r_icmp_gt (tgt := 22) dX9_port_15 (by decide) ⟨by omega, by omega⟩ ⟨by omega, by omega⟩ (fun g15 => ?_) (fun g15 => ?_)
    · have hwf : whaB x tp = false := decide_eq_false (by omega)
      refine r_iconst dX9_port_22 ?_
      refine r_iconst dX9_port_23 ?_
      refine r_callV 68 [_, _] (s_X9_right (b := false) (g := (va_up g 0 z0)) (by rfl) (by exact hz0) (by decide)) dX9_port_24 cs_X9_207 im_X9_right (by decide) rfl rfl (by decide) (by decide) (by decide) rfl rfl (Nat.le_of_ble_eq_true rfl) (fun _ _ _ q => q.elim) (fun v n2 h2 q => ?_)
      obtain ⟨rfl, q⟩ := q
      rcases q with ⟨kb0, rfl, hh⟩ | ⟨kb0, rfl, hh⟩
      · exact absurd kb0 (by decide)
      · obtain rfl := hh.symm
        refine ⟨rfl, ?_⟩
        dsimp only [Option.toList, List.cons_append, List.nil_append]
        refine r_if_ne (tgt := 32) dX9_port_27 (by decide) ⟨by omega, by omega⟩ (fun g27 => absurd g27 (by omega)) (fun g27 => ?_)
        refine r_iconst dX9_port_30 ?_
        refine r_iret dX9_port_31 ?_
        exact ⟨rfl, (by repeat (first | exact fun _ _ => rfl | refine frr_up ?_ (by decide))), Or.inl ⟨by rw [ocF hwf]; decide, ⟨0, rfl⟩, (RefC_mk (g := (va_up (va_up g 0 z0) 0 1)) rfl (by exact c69) (by exact c70) (by exact c71) (by exact c72) (by exact c73) (by exact c74) (by exact c75) (by exact c76) (by exact c77) (by exact c78) (by exact c79) (by exact c80) (by exact c81) (by exact c82) (by exact c83) (by exact c84) (by exact c85) (by exact c86) (by exact c87) (by exact c88) (by exact c89) (by exact c90) (by exact c91) (by exact c92) (by exact c93) (by exact c94) (by exact c95) (congrArg (fun n : Nat => (n : Int)) (ocF hwf).symm) (RR_mk (by first | exact e8 | exact (kp2 8 (by decide)).trans e8) (by first | exact e10 | exact (kp2 10 (by decide)).trans e10) (by first | exact e33 | exact (kp2 33 (by decide)).trans e33) (by first | exact e38 | exact (kp2 38 (by decide)).trans e38) (by first | exact e44 | exact (kp2 44 (by decide)).trans e44) (by first | exact e53 | exact (kp2 53 (by decide)).trans e53) (by first | exact tr | exact tell_kp (by exact tr) kp2) pi ni (by first | exact li | exact li2) rrf rtp htp rrd rse phl phi rim rco ht nM nsn))⟩⟩
    · refine r_iconst dX9_port_18 ?_
      refine r_goto (tgt := 23) dX9_port_19 (by decide) ?_
      refine r_iconst dX9_port_23 ?_
      refine r_callV 68 [_, _] (s_X9_right (b := true) (g := (va_up g 0 z0)) (by rfl) (by exact hz0) (by decide)) dX9_port_24 cs_X9_207 im_X9_right (by decide) rfl rfl (by decide) (by decide) (by decide) rfl rfl (Nat.le_of_ble_eq_true rfl) (fun _ _ _ q => q.elim) (fun v n2 h2 q => ?_)
      obtain ⟨rfl, q⟩ := q
      rcases q with ⟨kb0, rfl, hh⟩ | ⟨kb0, rfl, hh⟩
      · obtain rfl := hh.symm
        refine ⟨rfl, ?_⟩
        dsimp only [Option.toList, List.cons_append, List.nil_append]
        refine r_if_ne (tgt := 32) dX9_port_27 (by decide) ⟨by omega, by omega⟩ (fun g27 => ?_) (fun g27 => absurd g27 (by omega))
        refine r_aload_n dX9_port_32 rfl rfl ?_
        refine r_iconst dX9_port_33 ?_
        refine r_putR dX9_port_34 fp_X9_105 (by decide) rfl (nar_int _) (Nat.le_of_ble_eq_true rfl) setR_8 (fun z1 hz1 => ?_)
        refine r_aload_n dX9_port_37 rfl rfl ?_
        refine r_iconst dX9_port_38 ?_
        refine r_putR dX9_port_39 fp_X9_26 (by decide) rfl (nar_int _) (Nat.le_of_ble_eq_true rfl) setR_10 (fun z2 hz2 => ?_)
        refine r_aload_n dX9_port_42 rfl rfl ?_
        refine r_iconst dX9_port_43 ?_
        refine r_putR dX9_port_44 fp_X9_158 (by decide) rfl (nar_int _) (Nat.le_of_ble_eq_true rfl) setR_9 (fun z3 hz3 => ?_)
        refine r_aload_n dX9_port_47 rfl rfl ?_
        refine r_iload_n dX9_port_48 rfl rfl ?_
        refine r_putR dX9_port_49 fp_X9_112 (by decide) rfl (nar_int _) (Nat.le_of_ble_eq_true rfl) setR_12 (fun z4 hz4 => ?_)
        refine r_aload_n dX9_port_52 rfl rfl ?_
        refine r_iconst dX9_port_53 ?_
        refine r_putR dX9_port_54 fp_X9_115 (by decide) rfl (nar_int _) (Nat.le_of_ble_eq_true rfl) setR_13 (fun z5 hz5 => ?_)
        refine r_aload_n dX9_port_57 rfl rfl ?_
        refine r_iconst dX9_port_58 ?_
        refine r_putR dX9_port_59 fp_X9_175 (by decide) rfl (nar_int _) (Nat.le_of_ble_eq_true rfl) setR_20 (fun z6 hz6 => ?_)
        refine r_aload_n dX9_port_62 rfl rfl ?_
        refine r_iconst dX9_port_63 ?_
        refine r_putR dX9_port_64 fp_X9_188 (by decide) rfl (nar_int _) (Nat.le_of_ble_eq_true rfl) setR_21 (fun z7 hz7 => ?_)
        refine r_aload_n dX9_port_67 rfl rfl ?_
        refine r_bipush dX9_port_68 rfl ?_
        refine r_putR dX9_port_70 fp_X9_204 (by decide) rfl (nar_int _) (Nat.le_of_ble_eq_true rfl) setR_22 (fun z8 hz8 => ?_)
        refine r_aload_n dX9_port_73 rfl rfl ?_
        refine r_iconst dX9_port_74 ?_
        refine r_putR dX9_port_75 fp_X9_197 (by decide) rfl (nar_bool (by omega)) (Nat.le_of_ble_eq_true rfl) setR_23 (fun z9 hz9 => ?_)
        refine r_aload_n dX9_port_78 rfl rfl ?_
        refine r_iconst dX9_port_79 ?_
        refine r_putR dX9_port_80 fp_X9_201 (by decide) rfl (nar_bool (by omega)) (Nat.le_of_ble_eq_true rfl) setR_24 (fun z10 hz10 => ?_)
        refine r_iconst dX9_port_83 ?_
        refine r_istore_n (lv2 := [(0, _), (1, _), (2, _)]) dX9_port_84 rfl (by decide) rfl rfl ?_
        have hwt : whaB x tp = true := decide_eq_true (by omega)
        obtain ⟨le, hle0⟩ : ∃ q : Nat, x = q := ⟨x.toNat, by omega⟩
        have hpi := hpi hwt
        rw [hle0, Int.toNat_natCast] at hpi
        rw [show x.toNat = le by omega]
        have hle : le ≤ 700 := by omega
        have htt : ∀ j, j < le → trr j = t j % 256 := fun j hj => rtp j (by omega)
        simp only [bx_uu]
        refine ev_h (up_same (k := 76) (e := .inl (0, 12, nL)) (by exact c76)) ?_
        refine l_X9_port0 (fun LL hLL => ?_) 12 0 nL (by decide) (fun j hj => absurd hj (Nat.not_lt_zero j))
        refine r_aload_n dX9_port_104 rfl rfl ?_
        refine r_callV 68 [] (s_X9_steps (g := (va_up (va_up (va_up (va_up (va_up (va_up (va_up (va_up (va_up (va_up (va_up g 0 z0) 8 z1) 10 z2) 9 z3) 12 z4) 13 z5) 20 z6) 21 z7) 22 z8) 23 z9) 24 z10)) (e := 0) (by rfl) (by exact c72) ht hle htt (Nat.zero_le _) (by show z4 = (le : Int); omega) (by show z5 = ((0 : Nat) : Int); omega)) dX9_port_105 cs_X9_165 im_X9_steps (by decide) rfl rfl (by decide) (by decide) (by decide) rfl rfl (Nat.le_of_ble_eq_true rfl) (fun _ _ _ q => q.elim) (fun v n2 h2 q => ?_)
        obtain ⟨rfl, rfl, g104, w104, rfl, rs104, kp104⟩ := q
        refine ⟨rfl, ?_⟩
        dsimp only [Option.toList, List.cons_append, List.nil_append]
        have q104 : ∀ k, ¬ (13 ≤ k ∧ k ≤ 18) → g104 k = (va_up (va_up (va_up (va_up (va_up (va_up (va_up (va_up (va_up (va_up (va_up g 0 z0) 8 z1) 10 z2) 9 z3) 12 z4) 13 z5) 20 z6) 21 z7) 22 z8) 23 z9) 24 z10) k := kp104
        refine ev_h (vt_mk (h := h) (g := g104) (w := w104) (nD := nD) (nC := nC) (nL := LL) rfl (by exact c74) (by exact c75) rfl (fun j a b c d => by simp only [va_up, a, b, c, d, if_false])) ?_
        obtain ⟨Kb, Ub, Ib, Ob, Gb, Lb, cfb, ctb, fcb, nxb, rfl⟩ := id fb
        refine l_X9_port c72 ht hle htt (g := g104) (by decide) (r := pLines t le 700 ((0, 120, 0), (0, 0), Kb, Ub, Ib, Ob, Gb, fillF Lb 0 12, cfb, ctb, fillF fcb 0 365, nxb, (fun _ => 0)) 0) (fun gg ww nD nC nL P2 hr g9 g10 pr fr => ?_) (fun gg ww nD nC nL f p hr hf g9 g10 fr => ?_) 700 g104 w104 nD nC LL _ 0 (by omega) rfl rs104 ((q104 9 (by decide)).trans (by show z3 = (0 : Int); omega)) rfl ⟨(q104 20 (by decide)).trans (by show z6 = (0 : Int); omega), (q104 21 (by decide)).trans (by show z7 = (0 : Int); omega), (q104 22 (by decide)).trans (by show z8 = (120 : Int); omega), (q104 23 (by decide)).trans (by show z9 = (0 : Int); omega), (q104 24 (by decide)).trans (by show z10 = (0 : Int); omega), ⟨Int.le_refl _, show (0 : Int) ≤ 9 by decide⟩, ⟨Int.le_refl _, show (0 : Int) ≤ 20 by decide⟩, Or.inl rfl, Or.inl rfl, fun j hj => absurd hj (by omega), fun j hj => absurd hj (by omega), fun j hj => by rw [hLL j hj]; unfold fillF; rw [if_pos hj]⟩ (fun _ _ _ _ => rfl)
        · have f10 : g104 10 = -1 := (q104 10 (by decide)).trans (by show z2 = (-1 : Int); omega)
          have f0 : gg 0 = 0 := (fr 0 (by decide) (by decide) (by decide)).trans ((q104 0 (by decide)).trans (by show z0 = (0 : Int); omega))
          have f8 : gg 8 = 0 := (fr 8 (by decide) (by decide) (by decide)).trans ((q104 8 (by decide)).trans (by show z1 = (0 : Int); omega))
          have fk : ∀ k, ¬ k = 0 → ¬ (8 ≤ k ∧ k ≤ 24) → gg k = g k := fun k a b => (fr k (by omega) (by omega) (by omega)).trans ((q104 k (by omega)).trans (by (repeat rw [va_up_ne _ _ (by omega)])))
          obtain ⟨⟨nd2, sw2, nc2⟩, ⟨hl2, hs2⟩, K2, U2, I2, O2, G2, L2, cf2, ct2, fc2, nx2, cd2⟩ := P2
          obtain ⟨p20, p21, p22, p23, p24, pnd3, pnc3, phl3, phs3, pdl, pcl, plm⟩ := pr
          refine r_aload_n dX9_port_129 rfl rfl ?_
          refine r_callV 68 [] (s_X9_good1 (g := gg) (by rfl) g9) dX9_port_130 cs_X9_161 im_X9_isGood (by decide) rfl rfl (by decide) (by decide) (by decide) rfl rfl (Nat.le_of_ble_eq_true rfl) (fun _ _ _ q => q.elim) (fun v n2 h2 q => ?_)
          obtain ⟨rfl, rfl, hh⟩ := q
          obtain rfl := hh.symm
          refine ⟨rfl, ?_⟩
          dsimp only [Option.toList, List.cons_append, List.nil_append]
          refine r_if_ne (tgt := 151) dX9_port_133 (by decide) ⟨by omega, by omega⟩ (fun g133 => ?_) (fun g133 => absurd g133 (by omega))
          refine r_aload_n dX9_port_151 rfl rfl ?_
          refine r_aload_n dX9_port_152 rfl rfl ?_
          refine r_getR (z := (gg 20)) dX9_port_153 fl_X9_175 (by decide) rfl rfl ?_
          refine r_putR dX9_port_156 fp_X9_214 (by decide) rfl (nar_int _) (Nat.le_of_ble_eq_true rfl) setR_1 (fun z0 hz0 => ?_)
          refine r_aload_n dX9_port_159 rfl rfl ?_
          refine r_aload_n dX9_port_160 rfl rfl ?_
          refine r_getR (z := (gg 21)) dX9_port_161 fl_X9_188 (by decide) rfl rfl ?_
          refine r_putR dX9_port_164 fp_X9_217 (by decide) rfl (nar_int _) (Nat.le_of_ble_eq_true rfl) setR_2 (fun z1 hz1 => ?_)
          refine r_aload_n dX9_port_167 rfl rfl ?_
          refine r_aload_n dX9_port_168 rfl rfl ?_
          refine r_getR (z := (gg 22)) dX9_port_169 fl_X9_204 (by decide) rfl rfl ?_
          refine r_putR dX9_port_172 fp_X9_7 (by decide) rfl (nar_int _) (Nat.le_of_ble_eq_true rfl) setR_3 (fun z2 hz2 => ?_)
          refine r_aload_n dX9_port_175 rfl rfl ?_
          refine r_aload_n dX9_port_176 rfl rfl ?_
          refine r_get (fs := RGL _ _) dX9_port_177 fl_X9_32 (by decide) rfl rfl ?_
          refine r_aload_n dX9_port_180 rfl rfl ?_
          refine r_get (fs := RGL _ _) dX9_port_181 fl_X9_13 (by decide) rfl rfl ?_
          refine r_callV 68 [.ref 74, .ref 69] (s_X9_copies_74 (by rfl) (by exact c69)) dX9_port_184 cs_X9_220 im_X9_copies (by decide) rfl rfl (by decide) (by decide) (by decide) rfl rfl (Nat.le_of_ble_eq_true rfl) (fun _ _ _ q => q.elim) (fun v n2 h2 q => ?_)
          obtain ⟨rfl, rfl, hh⟩ := q
          obtain rfl := hh.symm
          refine ⟨rfl, ?_⟩
          dsimp only [Option.toList, List.cons_append, List.nil_append]
          refine r_aload_n dX9_port_187 rfl rfl ?_
          refine r_aload_n dX9_port_188 rfl rfl ?_
          refine r_get (fs := RGL _ _) dX9_port_189 fl_X9_35 (by decide) rfl rfl ?_
          refine r_aload_n dX9_port_192 rfl rfl ?_
          refine r_get (fs := RGL _ _) dX9_port_193 fl_X9_17 (by decide) rfl rfl ?_
          refine r_callV 68 [.ref 75, .ref 70] (s_X9_copies_75 (by rfl) (by exact c70)) dX9_port_196 cs_X9_220 im_X9_copies (by decide) rfl rfl (by decide) (by decide) (by decide) rfl rfl (Nat.le_of_ble_eq_true rfl) (fun _ _ _ q => q.elim) (fun v n2 h2 q => ?_)
          obtain ⟨rfl, rfl, hh⟩ := q
          obtain rfl := hh.symm
          refine ⟨rfl, ?_⟩
          dsimp only [Option.toList, List.cons_append, List.nil_append]
          refine r_aload_n dX9_port_199 rfl rfl ?_
          refine r_aload_n dX9_port_200 rfl rfl ?_
          refine r_get (fs := RGL _ _) dX9_port_201 fl_X9_38 (by decide) rfl rfl ?_
          refine r_aload_n dX9_port_204 rfl rfl ?_
          refine r_get (fs := RGL _ _) dX9_port_205 fl_X9_20 (by decide) rfl rfl ?_
          refine r_callV 68 [.ref 76, .ref 71] (s_X9_copies_76 (by rfl) (by exact c71)) dX9_port_208 cs_X9_220 im_X9_copies (by decide) rfl rfl (by decide) (by decide) (by decide) rfl rfl (Nat.le_of_ble_eq_true rfl) (fun _ _ _ q => q.elim) (fun v n2 h2 q => ?_)
          obtain ⟨rfl, rfl, hh⟩ := q
          obtain rfl := hh.symm
          refine ⟨rfl, ?_⟩
          dsimp only [Option.toList, List.cons_append, List.nil_append]
          refine r_aload_n dX9_port_211 rfl rfl ?_
          refine r_iconst dX9_port_212 ?_
          refine r_putR dX9_port_213 fp_X9_224 (by decide) rfl (nar_int _) (Nat.le_of_ble_eq_true rfl) setR_33 (fun z3 hz3 => ?_)
          refine r_aload_n dX9_port_216 rfl rfl ?_
          refine r_iconst dX9_port_217 ?_
          refine r_putR dX9_port_218 fp_X9_227 (by decide) rfl (nar_int _) (Nat.le_of_ble_eq_true rfl) setR_38 (fun z4 hz4 => ?_)
          refine r_aload_n dX9_port_221 rfl rfl ?_
          refine r_iconst dX9_port_222 ?_
          refine r_putR dX9_port_223 fp_X9_230 (by decide) rfl (nar_int _) (Nat.le_of_ble_eq_true rfl) setR_31 (fun z5 hz5 => ?_)
          refine r_aload_n dX9_port_226 rfl rfl ?_
          refine r_iconst dX9_port_227 ?_
          refine r_putR dX9_port_228 fp_X9_48 (by decide) rfl (nar_int _) (Nat.le_of_ble_eq_true rfl) setR_30 (fun z6 hz6 => ?_)
          refine r_aload_n dX9_port_231 rfl rfl ?_
          refine r_iconst dX9_port_232 ?_
          refine r_putR dX9_port_233 fp_X9_233 (by decide) rfl (nar_bool (by omega)) (Nat.le_of_ble_eq_true rfl) setR_44 (fun z7 hz7 => ?_)
          refine r_aload_n dX9_port_236 rfl rfl ?_
          refine r_iconst dX9_port_237 ?_
          refine r_putR dX9_port_238 fp_X9_236 (by decide) rfl (nar_bool (by omega)) (Nat.le_of_ble_eq_true rfl) setR_53 (fun z8 hz8 => ?_)
          refine r_iconst dX9_port_241 ?_
          refine r_iret dX9_port_242 ?_
          exact ⟨rfl, (by repeat (first | exact fun _ _ => rfl | refine frr_up ?_ (by decide))), Or.inr ⟨(ocT hwt).trans ocE, Or.inr ⟨_, hr, rfl, (RefC_mk (g := (va_up (va_up (va_up (va_up (va_up (va_up (va_up (va_up (va_up gg 1 z0) 2 z1) 3 z2) 33 z3) 38 z4) 31 z5) 30 z6) 44 z7) 53 z8)) rfl rfl rfl rfl (by exact c72) (by exact c73) rfl rfl rfl (by exact c77) (by exact c78) (by exact c79) (by exact c80) (by exact c81) (by exact c82) (by exact c83) (by exact c84) (by exact c85) (by exact c86) (by exact c87) (by exact c88) (by exact c89) (by exact c90) (by exact c91) (by exact c92) (by exact c93) (by exact c94) (by exact c95) f0 (RR_mk f8 (g10.trans f10) (by show z3 = (0 : Int); omega) (by show z4 = (0 : Int); omega) (by show z7 = (0 : Int); omega) (by show z8 = (0 : Int); omega) ⟨by show z0 = nd2; omega, by show z1 = nc2; omega, by show z2 = sw2; omega, by show z5 = (0 : Int); omega, ⟨Int.le_refl _, show (0 : Int) ≤ 40 by decide⟩, dlr_cpy pdl pnd3.2, clr_cpy pcl pnc3.2, lmr_cpy plm, fun j hj => absurd hj (by omega), pmt, pmd, pmy⟩ (hpi _ hr) ⟨⟨Int.le_refl _, show (0 : Int) ≤ 12 by decide⟩, ⟨Int.le_refl _, show (0 : Int) ≤ 9 by decide⟩, ⟨Int.le_refl _, show (0 : Int) ≤ 40 by decide⟩, prd, pry, prm, prt, (fill_L pse (by decide)), pmd2, pmy2, pmt2⟩ (Or.inl (by show z6 = (-1 : Int); omega)) rrf (fun j hj => absurd hj (Nat.not_lt_zero j)) (Nat.zero_le _) (fun j hj => absurd hj (by omega)) ⟨fun k hk => absurd hk (by omega), fun d hd hs => absurd (by show fillF se (-1) 9 d = -1; unfold fillF; rw [if_pos hd]) hs, fun i j _ hj => absurd hj (by omega)⟩ (Or.inl rfl) (Or.inl rfl) (fun q => absurd q (by decide)) (fun q => absurd q (by decide)) ht nM (snc_fill se 9 (Nat.le_refl _)).symm))⟩⟩⟩
        · have f10 : g104 10 = -1 := (q104 10 (by decide)).trans (by show z2 = (-1 : Int); omega)
          have f0 : gg 0 = 0 := (fr 0 (by decide) (by decide) (by decide)).trans ((q104 0 (by decide)).trans (by show z0 = (0 : Int); omega))
          have f8 : gg 8 = 0 := (fr 8 (by decide) (by decide) (by decide)).trans ((q104 8 (by decide)).trans (by show z1 = (0 : Int); omega))
          have fk : ∀ k, ¬ k = 0 → ¬ (8 ≤ k ∧ k ≤ 24) → gg k = g k := fun k a b => (fr k (by omega) (by omega) (by omega)).trans ((q104 k (by omega)).trans (by (repeat rw [va_up_ne _ _ (by omega)])))
          refine r_aload_n dX9_port_129 rfl rfl ?_
          refine r_callV 68 [] (s_X9_good0 (g := gg) (by rfl) ⟨by omega, by omega⟩) dX9_port_130 cs_X9_161 im_X9_isGood (by decide) rfl rfl (by decide) (by decide) (by decide) rfl rfl (Nat.le_of_ble_eq_true rfl) (fun _ _ _ q => q.elim) (fun v n2 h2 q => ?_)
          obtain ⟨rfl, rfl, hh⟩ := q
          obtain rfl := hh.symm
          refine ⟨rfl, ?_⟩
          dsimp only [Option.toList, List.cons_append, List.nil_append]
          refine r_if_ne (tgt := 151) dX9_port_133 (by decide) ⟨by omega, by omega⟩ (fun g133 => absurd g133 (by omega)) (fun g133 => ?_)
          refine r_aload_n dX9_port_136 rfl rfl ?_
          refine r_get (fs := RGL _ _) dX9_port_137 fl_X9_29 (by decide) rfl rfl ?_
          refine r_iconst dX9_port_140 ?_
          refine r_dup2 dX9_port_141 rfl rfl ?_
          refine r_ald dX9_port_142 (by decide) c73 (by omega) (by omega) (by decide) ?_
          refine r_iconst dX9_port_143 ?_
          refine r_iadd dX9_port_144 ?_
          refine r_ast dX9_port_145 (by decide) c73 (by omega) (by omega) (by decide) ?_
          refine r_aload_n dX9_port_146 rfl rfl ?_
          refine r_getR (z := (gg 9)) dX9_port_147 fl_X9_158 (by decide) rfl rfl ?_
          refine r_iret dX9_port_150 ?_
          exact ⟨rfl, (by repeat (first | exact fun _ _ => rfl | refine frr_up ?_ (by decide))), Or.inr ⟨(ocT hwt).trans ocE, Or.inl ⟨f, p, hr, by rw [g9], (RefC_mk (g := gg) rfl (by exact c69) (by exact c70) (by exact c71) (by exact c72) rfl rfl rfl rfl (by exact c77) (by exact c78) (by exact c79) (by exact c80) (by exact c81) (by exact c82) (by exact c83) (by exact c84) (by exact c85) (by exact c86) (by exact c87) (by exact c88) (by exact c89) (by exact c90) (by exact c91) (by exact c92) (by exact c93) (by exact c94) (by exact c95) f0 (RR_mk f8 g10 ((fk 33 (by decide) (by decide)).trans e33) ((fk 38 (by decide) (by decide)).trans e38) ((fk 44 (by decide) (by decide)).trans e44) ((fk 53 (by decide) (by decide)).trans e53) (tell_k4 tr (fk 1 (by decide) (by decide)) (fk 2 (by decide) (by decide)) (fk 3 (by decide) (by decide)) (fk 31 (by decide) (by decide))) pi ni (by rw [fk 30 (by decide) (by decide)]; exact li) (fun j hj => by show va_up rfr 0 (rfr 0 + 1) j = va_up rf 0 (rf 0 + 1) j; by_cases q : j = 0; (subst q; rw [va_up_self, va_up_self, rrf _ (by decide)]); (rw [va_up_ne _ _ q, va_up_ne _ _ q]; exact rrf j hj)) (fun j hj => absurd hj (Nat.not_lt_zero j)) (Nat.zero_le _) rrd rse phl phi rim rco ht nM nsn))⟩⟩⟩
      · exact absurd kb0 (by decide)

theorem cls_pinv {h : aH} {t : Nat → Int} {tp : Nat} {fpl hlaw himg : Int} {rf : Nat → Int} {P : PD} {N M : ND} {ls : LSm} (c : Cls h (t, tp, fpl, rf, hlaw, himg, P, N, M, ls)) : PInvP P := by
  obtain ⟨a, b, c⟩ := c
  obtain ⟨⟨nd, sw, nc⟩, ⟨hl, hs⟩, K, U, I, O, G, L, cf, ct, fc, nx, cd⟩ := P
  have c9 := c.2.2.2.2.1
  exact c9.2.2.2.2.2.2.2.2.2.2.2
theorem fresh0 : FreshP ((0, 120, 0), (0, 0), z0, z0, z0, z0, z0, fillF z0 0 12, z0, z0, fillF z0 0 365, z0, (fun _ => 0)) := ⟨z0, z0, z0, z0, z0, z0, z0, z0, z0, z0, rfl⟩
theorem ocW {x : Int} {tp : Nat} {c : Nat} : (whaB x tp = true → ocL [(whaB x tp, c)] = 0) ∧ (¬ whaB x tp = true → ocL [(whaB x tp, c)] = c) := ⟨fun h => by unfold ocL; rw [if_pos h]; rfl, fun h => by unfold ocL; rw [if_neg h]⟩
theorem a_port {h : aH} {S : CSt} {th : Int} (hc : Cls h S) (hr : RefC h S th) {x : Int} (ix : inR x) : Agree yX8_port cX8_port 3 9 1 6 [iv x] (fun h' c r S' => mSem yX9_port cX9_port 3 (some .int) 7 0 0 (.ref 68 :: [iv x]) 97 h' (RefQ c r h' S') noX) 1 1 (fun E => E = nmI) h S th := by
  obtain ⟨t, tp, fpl, rf, hlaw, himg, ⟨⟨nd, sw, nc⟩, ⟨hl, hs⟩, K, U, I, O, G, L, cf, ct, fc, nx, cd⟩, ⟨⟨nr, ns, nm⟩, rd, ry, rm, rt, se, md, my, mt⟩, ⟨⟨nr2, ns2, nm2⟩, rd2, ry2, rm2, rt2, se2, md2, my2, mt2⟩, ls⟩ := S
  refine ⟨PortQ (ocL [(whaB x tp, 2)]) h (t, tp, fpl, rf, hlaw, himg, ((nd, sw, nc), (hl, hs), K, U, I, O, G, L, cf, ct, fc, nx, cd), ((nr, ns, nm), rd, ry, rm, rt, se, md, my, mt), ((nr2, ns2, nm2), rd2, ry2, rm2, rt2, se2, md2, my2, mt2), ls) x.toNat, PubX (ocL [(whaB x tp, 2)]) h (t, tp, fpl, rf, hlaw, himg, ((nd, sw, nc), (hl, hs), K, U, I, O, G, L, cf, ct, fc, nx, cd), ((nr, ns, nm), rd, ry, rm, rt, se, md, my, mt), ((nr2, ns2, nm2), rd2, ry2, rm2, rt2, se2, md2, my2, mt2), ls), ?_, ?_, ?_⟩
  · obtain ⟨a, b, cc⟩ := hc
    refine mSem_sw a b (s_X8_port cc ix) (sw_av (fun _ => rfl) a b) (fun v n2 h2 q => ?_) (fun E n2 h2 q => ?_)
    · obtain ⟨q1, q2, q3, base, fb, q4⟩ := q
      rcases q4 with ⟨f, p, e1, e2, e3⟩ | ⟨P2, e1, e2, e3⟩
      · exact ⟨q2, by rw [e2]; rfl, q1, rfl, fr_sw q3, base, fb, Or.inl ⟨f, p, e1, e2, cls_sw e3⟩⟩
      · exact ⟨q2, by rw [e2]; rfl, q1, rfl, fr_sw q3, base, fb, Or.inr ⟨P2, e1, e2, cls_sw e3⟩⟩
    · obtain ⟨q1, q3, q4, q5⟩ := q
      exact ⟨q3, q1, rfl, cls_sw q4, fr_sw q5⟩
  · rintro v n2 h2 ⟨q1, q2, q3, base, fb, q4⟩
    have hw : whaB x tp = true := by
      by_cases h9 : whaB x tp = true
      · exact h9
      · rw [ocW.2 h9] at q1; cases q1
    rcases q4 with ⟨f, p, e1, e2, e3⟩ | ⟨P2, e1, e2, e3⟩
    · refine ⟨q2, q3, f, _, e2, e3, fun h' hh => mSem_post (s_X9_portW hh ix fb (fun _ P2 e => by rw [e1] at e; cases e)) (fun v n' h'' q => ?_) (fun _ _ _ hx => hx)⟩
      obtain ⟨p1, p2, p3⟩ := q
      rcases p3 with ⟨p3, -⟩ | ⟨-, ⟨f3, p4, e4, e5, e6⟩ | ⟨P3, e4, e5, e6⟩⟩
      · exact absurd (ocW.1 hw) p3
      · rw [e1] at e4
        cases e4
        exact ⟨p1, ⟨f, e5, fun _ => rfl⟩, e6, p2⟩
      · rw [e1] at e4; cases e4
    · refine ⟨q2, q3, 0, _, e2, e3, fun h' hh => mSem_post (s_X9_portW hh ix fb (fun _ P3 e => by rw [e1] at e; cases e; exact cls_pinv e3)) (fun v n' h'' q => ?_) (fun _ _ _ hx => hx)⟩
      obtain ⟨p1, p2, p3⟩ := q
      rcases p3 with ⟨p3, -⟩ | ⟨-, ⟨f3, p4, e4, e5, e6⟩ | ⟨P3, e4, e5, e6⟩⟩
      · exact absurd (ocW.1 hw) p3
      · rw [e1] at e4; cases e4
      · rw [e1] at e4
        cases e4
        exact ⟨p1, ⟨0, e5, fun _ => rfl⟩, e6, p2⟩
  · rintro E n2 h2 ⟨q1, q3, q4, q5⟩
    have hw : ¬ whaB x tp = true := by
      intro h9
      rw [ocW.1 h9] at q1
      rcases q1 with ⟨e, -⟩ | ⟨e, -⟩ <;> cases e
    rw [ocW.2 hw] at q1
    rcases q1 with ⟨e, -⟩ | ⟨-, rfl⟩
    · cases e
    · refine ⟨q3, rfl, q5, q4, Or.inr ⟨rfl, fun h' hh => ⟨0, mSem_post (s_X9_portW hh ix fresh0 (fun h9 => absurd h9 hw)) (fun v n' h'' q => ?_) (fun _ _ _ hx => hx)⟩⟩⟩
      obtain ⟨p1, p2, p3⟩ := q
      rw [ocW.2 hw] at p3
      rcases p3 with ⟨-, ⟨z, p3⟩, p4⟩ | ⟨e, -⟩
      · exact ⟨p1, ⟨z, p3, fun e => by cases e⟩, p4, p2⟩
      · cases e
