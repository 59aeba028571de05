/-! ===== the class's state ===== -/
abbrev ND : Type := (Int × Int × Int) × (Nat → Int) × (Nat → Int) × (Nat → Int) × (Nat → Int) × (Nat → Int) × (Nat → Int) × (Nat → Int) × (Nat → Int)
/-- tape, taped, fault's place, refused, has a law, has an image, port, notes, kept notes, law -/
abbrev CSt : Type := (Nat → Int) × Nat × Int × (Nat → Int) × Int × Int × PD × ND × ND × LSm
def snc (se : Nat → Int) : Nat → Int
  | 0 => 0
  | k + 1 => snc se k + (if se k = -1 then 0 else 1)
def PortC (h : aH) (P : PD) : Prop := match P with
  | ((nd, sw, nc), _, K, U, I, O, G, L, cf, ct, fc, nx, cd) => h 6 = .inr (4, [iv nd, iv sw, iv nc, .ref 7, .ref 8, .ref 9, .ref 10, .ref 11, .ref 12, .ref 13, .ref 14, .ref 15, .ref 16]) ∧ h 7 = .inl (0, 9, K) ∧ h 8 = .inl (0, 9, U) ∧ h 9 = .inl (0, 9, I) ∧ h 10 = .inl (0, 9, O) ∧ h 11 = .inl (0, 9, G) ∧ h 12 = .inl (0, 12, L) ∧ h 13 = .inl (0, 20, cf) ∧ h 14 = .inl (0, 20, ct) ∧ h 15 = .inl (0, 365, fc) ∧ h 16 = .inl (0, 20, nx) ∧ PInv nd sw nc K U I O G L cf ct fc nx cd
def Note40 (h : aH) (N : ND) : Prop := match N with
  | ((nr, ns, nm), rd, ry, rm, rt, se, md, my, mt) => h 40 = .inr (3, [iv nr, iv ns, iv nm, .ref 41, .ref 42, .ref 43, .ref 44, .ref 45, .ref 46, .ref 47, .ref 48]) ∧ h 41 = .inl (0, 12, rd) ∧ h 42 = .inl (0, 12, ry) ∧ h 43 = .inl (0, 12, rm) ∧ h 44 = .inl (0, 12, rt) ∧ h 45 = .inl (0, 9, se) ∧ h 46 = .inl (0, 40, md) ∧ h 47 = .inl (0, 40, my) ∧ h 48 = .inl (0, 40, mt) ∧ NInv nr ns nm rd ry rm rt se md my mt ∧ ns = snc se 9
def Note49 (h : aH) (N : ND) : Prop := match N with
  | ((nr, ns, nm), rd, ry, rm, rt, se, md, my, mt) => h 49 = .inr (3, [iv nr, iv ns, iv nm, .ref 50, .ref 51, .ref 52, .ref 53, .ref 54, .ref 55, .ref 56, .ref 57]) ∧ h 50 = .inl (0, 12, rd) ∧ h 51 = .inl (0, 12, ry) ∧ h 52 = .inl (0, 12, rm) ∧ h 53 = .inl (0, 12, rt) ∧ h 54 = .inl (0, 9, se) ∧ h 55 = .inl (0, 40, md) ∧ h 56 = .inl (0, 40, my) ∧ h 57 = .inl (0, 40, mt) ∧ NInv nr ns nm rd ry rm rt se md my mt ∧ ns = snc se 9
/-- it asks for dials of the port alone -/
def LocL (nd : Int) (ls : LSm) : Prop := ∀ (tf tf2 : Nat → Int) (mo : Int), (∀ j : Nat, (j : Int) < nd → tf j = tf2 j) → ls tf mo = ls tf2 mo
def LawC (h : aH) (hlaw nd : Int) (ls : LSm) : Prop := ∃ (D : LDt) (tv : Value) (m0 : Int) (sg : Nat → Int), h 28 = .inr (1, [iv (D.1 : Int), .ref 29, .ref 30, .ref 31, .ref 32, .ref 33, tv, iv m0]) ∧ h 29 = .inl (0, 350, D.2.1) ∧ h 30 = .inl (0, 350, D.2.2.1) ∧ h 31 = .inl (0, 350, D.2.2.2.1) ∧ h 32 = .inl (0, 350, D.2.2.2.2) ∧ h 33 = .inl (0, 9, sg) ∧ LOK D ∧ (hlaw = 1 → (∀ tf mo, evD D tf mo 12 true 0 = ls tf mo) ∧ LocL nd ls)
def Sc3 (h : aH) : Prop := ∃ (fa pl tk l0 ki en : Int) (st : Nat) (tx : Value), h 3 = .inr (6, [iv fa, iv pl, iv tk, tx, iv l0, iv ki, iv st, iv en])
def Sc4 (h : aH) : Prop := ∃ (hl hs : Int) (v1 v2 : Value), h 4 = .inr (5, [v1, v2, iv hl, iv hs])
def Sc5 (h : aH) : Prop := ∃ (v1 v2 n0 : Value), h 5 = .inr (2, [v1, v2, n0])
def Sc17 (h : aH) : Prop := ∃ (nd sw nc : Int) (K U I O G L cf ct fc nx : Nat → Int), h 17 = P17 nd sw nc ∧ h 18 = .inl (0, 9, K) ∧ h 19 = .inl (0, 9, U) ∧ h 20 = .inl (0, 9, I) ∧ h 21 = .inl (0, 9, O) ∧ h 22 = .inl (0, 9, G) ∧ h 23 = .inl (0, 12, L) ∧ h 24 = .inl (0, 20, cf) ∧ h 25 = .inl (0, 20, ct) ∧ h 26 = .inl (0, 365, fc) ∧ h 27 = .inl (0, 20, nx) ∧ RInv K U I O G L cf ct
def Sc34 (h : aH) : Prop := ∃ (D : LDt) (tv : Value) (m0 : Int) (sg : Nat → Int), h 34 = L34 (D.1 : Int) tv m0 ∧ h 35 = .inl (0, 350, D.2.1) ∧ h 36 = .inl (0, 350, D.2.2.1) ∧ h 37 = .inl (0, 350, D.2.2.2.1) ∧ h 38 = .inl (0, 350, D.2.2.2.2) ∧ h 39 = .inl (0, 9, sg) ∧ LOK D
def Sc58 (h : aH) : Prop := ∃ (cp : Int) (fr tt sf : Nat → Int), h 58 = FTO cp ∧ h 59 = .inl (0, 41, fr) ∧ h 60 = .inl (0, 41, tt) ∧ h 61 = .inl (0, 621, sf)
def Sc62 (h : aH) : Prop := ∃ (t : Int × Int × Int × Int) (s : Int × Int × Int) (dr : Int) (f g : Nat → Int), h 62 = TAL t s dr ∧ h 63 = .inl (0, 242, f) ∧ h 64 = .inl (0, 512, g)
def Sc65 (h : aH) : Prop := ∃ tf : Nat → Int, h 65 = .inl (0, 9, tf) ∧ ∀ j, -1 ≤ tf j ∧ tf j < 1440
def Sc66 (h : aH) : Prop := ∃ sf : Nat → Int, h 66 = .inl (0, 9, sf)
def Sc67 (h : aH) : Prop := ∃ mf : Nat → Int, h 67 = .inl (0, 14, mf)
def CanC (h : aH) (S : CSt) : Prop := match S with
  | (t, tp, fpl, rf, hlaw, himg, P, N, M, ls) => h 0 = .inr (8, [.ref 1, iv (tp : Nat), iv fpl, .ref 2, .ref 3, .ref 4, .ref 5, .ref 6, .ref 17, .ref 28, .ref 34, iv hlaw, .ref 40, .ref 49, iv himg, .ref 58, .ref 62, .ref 65, .ref 66, .ref 67]) ∧ h 1 = .inl (1, 700, t) ∧ h 2 = .inl (0, 4, rf) ∧ ((∀ j, -128 ≤ t j ∧ t j ≤ 127) ∧ tp ≤ 700 ∧ (hlaw = 0 ∨ hlaw = 1) ∧ (himg = 0 ∨ himg = 1)) ∧ PortC h P ∧ Note40 h N ∧ Note49 h M ∧ LawC h hlaw P.1.1 ls ∧ Sc3 h ∧ Sc4 h ∧ Sc5 h ∧ Sc17 h ∧ Sc34 h ∧ Sc58 h ∧ Sc62 h ∧ Sc65 h ∧ Sc66 h ∧ Sc67 h
/-! two halves change their places -/
def sg (a b : Bool) (i : Nat) : Nat := if a = true ∧ 6 ≤ i ∧ i ≤ 16 then i + 11 else if a = true ∧ 17 ≤ i ∧ i ≤ 27 then i - 11 else if b = true ∧ 28 ≤ i ∧ i ≤ 33 then i + 6 else if b = true ∧ 34 ≤ i ∧ i ≤ 39 then i - 6 else i
def swH (a b : Bool) (h : aH) : aH := fun i => match h (sg a b i) with
  | .inl x => .inl x
  | .inr o => .inr (o.1, o.2.map (cV (sg a b)))
def Cls (h : aH) (S : CSt) : Prop := ∃ a b : Bool, CanC (swH a b h) S
theorem cls_of {h : aH} {S : CSt} (c : CanC h S) : Cls h S := by
  refine ⟨false, false, ?_⟩
  have e : swH false false h = h := by
    funext i
    have e1 : ∀ j, sg false false j = j := by intro j; simp [sg]
    unfold swH
    rw [e1]
    cases h i with
    | inl x => rfl
    | inr o =>
      show Sum.inr (o.1, o.2.map (cV (sg false false))) = Sum.inr o
      have e2 : ∀ v : Value, cV (sg false false) v = v := by
        intro v
        cases v <;> simp [cV, e1]
      rw [show cV (sg false false) = id from funext e2, List.map_id]
  rw [e]
  exact c
/-- which end: 0 it answers, 1 NoSuchElementException, 2 IllegalArgumentException: the first need that isn't met -/
def ocL : List (Bool × Nat) → Nat
  | [] => 0
  | (b, c) :: r => if b = true then ocL r else c
def FrC (h0 h : aH) : Prop := ∀ j, 68 ≤ j → h j = h0 j
def PubQ (oc : Nat) (v0 : Option Value) (h0 : aH) (S : CSt) : Option Value → Nat → aH → Prop := fun v n' h' => oc = 0 ∧ v = v0 ∧ n' = 97 ∧ Cls h' S ∧ FrC h0 h'
def PubX (oc : Nat) (h0 : aH) (S : CSt) : String → Nat → aH → Prop := fun E n' h' => ((oc = 1 ∧ E = nmN) ∨ (oc = 2 ∧ E = nmI)) ∧ n' = 97 ∧ Cls h' S ∧ FrC h0 h'
def dayB (d : Int) : Bool := decide (0 ≤ d ∧ d < 365)
def minB (m : Int) : Bool := decide (0 ≤ m ∧ m < 1440)
def diaB (nd di : Int) : Bool := decide (0 ≤ di ∧ di < nd)
def whaB (w n : Int) : Bool := decide (0 ≤ w ∧ w ≤ n)
def NeedQ (b : Bool) (h : aH) : Option Value → Nat → aH → Prop := fun v n' h' => b = true ∧ v = none ∧ n' = 97 ∧ h' = h
def NeedX (b : Bool) (nm : String) (h : aH) : String → Nat → aH → Prop := fun E n' h' => E = nm ∧ b = false ∧ n' = 97 ∧ h' = h

theorem s_X8_needDay {h : aH} {x : Int} (ix : inR x)  : mSem yX8_needDay cX8_needDay 1 none 6 1 6 [iv x] 97 h (NeedQ (dayB x) h) (NeedX (dayB x) nmN h) := by
  unfold inR at ix
  refine mSem_of (own := RX8) (name := "needDay") pn_X8 rfl rfl (Nat.le_of_ble_eq_true rfl) ?_
  refine r_iload_n dX8_needDay_0 rfl rfl ?_
  refine r_if_lt (tgt := 11) dX8_needDay_1 (by decide) ⟨by omega, by omega⟩ (fun g1 => ?_) (fun g1 => ?_)
  · refine r_throwN (is := 386) (i := 24) (k := 3) (tx := "no such day") (by decide +kernel) dX8_needDay_11 dX8_needDay_14 (Or.inr ⟨dX8_needDay_15, rfl⟩) dX8_needDay_18 dX8_needDay_21 (by decide) (by decide) (by decide) (Nat.le_of_ble_eq_true rfl) ?_
    exact ⟨rfl, by simp only [dayB, minB, diaB, whaB, decide_eq_false_iff_not]; omega, rfl, rfl⟩
  · refine r_iload_n dX8_needDay_4 rfl rfl ?_
    refine r_sipush dX8_needDay_5 rfl ?_
    refine r_icmp_lt (tgt := 22) dX8_needDay_8 (by decide) ⟨by omega, by omega⟩ ⟨by omega, by omega⟩ (fun g8 => ?_) (fun g8 => ?_)
    · refine r_vret dX8_needDay_22 ?_
      exact ⟨by simp only [dayB, minB, diaB, whaB, decide_eq_true_eq]; omega, rfl, rfl, rfl⟩
    · refine r_throwN (is := 386) (i := 24) (k := 3) (tx := "no such day") (by decide +kernel) dX8_needDay_11 dX8_needDay_14 (Or.inr ⟨dX8_needDay_15, rfl⟩) dX8_needDay_18 dX8_needDay_21 (by decide) (by decide) (by decide) (Nat.le_of_ble_eq_true rfl) ?_
      exact ⟨rfl, by simp only [dayB, minB, diaB, whaB, decide_eq_false_iff_not]; omega, rfl, rfl⟩

theorem s_X8_needMinute {h : aH} {x : Int} (ix : inR x)  : mSem yX8_needMinute cX8_needMinute 1 none 6 1 6 [iv x] 97 h (NeedQ (minB x) h) (NeedX (minB x) nmN h) := by
  unfold inR at ix
  refine mSem_of (own := RX8) (name := "needMinute") pn_X8 rfl rfl (Nat.le_of_ble_eq_true rfl) ?_
  refine r_iload_n dX8_needMinute_0 rfl rfl ?_
  refine r_if_lt (tgt := 11) dX8_needMinute_1 (by decide) ⟨by omega, by omega⟩ (fun g1 => ?_) (fun g1 => ?_)
  · refine r_throwN (is := 388) (i := 25) (k := 3) (tx := "no such minute") (by decide +kernel) dX8_needMinute_11 dX8_needMinute_14 (Or.inr ⟨dX8_needMinute_15, rfl⟩) dX8_needMinute_18 dX8_needMinute_21 (by decide) (by decide) (by decide) (Nat.le_of_ble_eq_true rfl) ?_
    exact ⟨rfl, by simp only [dayB, minB, diaB, whaB, decide_eq_false_iff_not]; omega, rfl, rfl⟩
  · refine r_iload_n dX8_needMinute_4 rfl rfl ?_
    refine r_sipush dX8_needMinute_5 rfl ?_
    refine r_icmp_lt (tgt := 22) dX8_needMinute_8 (by decide) ⟨by omega, by omega⟩ ⟨by omega, by omega⟩ (fun g8 => ?_) (fun g8 => ?_)
    · refine r_vret dX8_needMinute_22 ?_
      exact ⟨by simp only [dayB, minB, diaB, whaB, decide_eq_true_eq]; omega, rfl, rfl, rfl⟩
    · refine r_throwN (is := 388) (i := 25) (k := 3) (tx := "no such minute") (by decide +kernel) dX8_needMinute_11 dX8_needMinute_14 (Or.inr ⟨dX8_needMinute_15, rfl⟩) dX8_needMinute_18 dX8_needMinute_21 (by decide) (by decide) (by decide) (Nat.le_of_ble_eq_true rfl) ?_
      exact ⟨rfl, by simp only [dayB, minB, diaB, whaB, decide_eq_false_iff_not]; omega, rfl, rfl⟩

theorem s_X8_needWhat {h : aH} {x y : Int} (ix : inR x) (iy : inR y)  : mSem yX8_needWhat cX8_needWhat 2 none 6 1 6 [iv x, iv y] 97 h (NeedQ (whaB x y) h) (NeedX (whaB x y) nmN h) := by
  unfold inR at ix iy
  refine mSem_of (own := RX8) (name := "needWhat") pn_X8 rfl rfl (Nat.le_of_ble_eq_true rfl) ?_
  refine r_iload_n dX8_needWhat_0 rfl rfl ?_
  refine r_if_lt (tgt := 9) dX8_needWhat_1 (by decide) ⟨by omega, by omega⟩ (fun g1 => ?_) (fun g1 => ?_)
  · refine r_throwN (is := 390) (i := 27) (k := 3) (tx := "no such what") (by decide +kernel) dX8_needWhat_9 dX8_needWhat_12 (Or.inr ⟨dX8_needWhat_13, rfl⟩) dX8_needWhat_16 dX8_needWhat_19 (by decide) (by decide) (by decide) (Nat.le_of_ble_eq_true rfl) ?_
    exact ⟨rfl, by simp only [dayB, minB, diaB, whaB, decide_eq_false_iff_not]; omega, rfl, rfl⟩
  · refine r_iload_n dX8_needWhat_4 rfl rfl ?_
    refine r_iload_n dX8_needWhat_5 rfl rfl ?_
    refine r_icmp_le (tgt := 20) dX8_needWhat_6 (by decide) ⟨by omega, by omega⟩ ⟨by omega, by omega⟩ (fun g6 => ?_) (fun g6 => ?_)
    · refine r_vret dX8_needWhat_20 ?_
      exact ⟨by simp only [dayB, minB, diaB, whaB, decide_eq_true_eq]; omega, rfl, rfl, rfl⟩
    · refine r_throwN (is := 390) (i := 27) (k := 3) (tx := "no such what") (by decide +kernel) dX8_needWhat_9 dX8_needWhat_12 (Or.inr ⟨dX8_needWhat_13, rfl⟩) dX8_needWhat_16 dX8_needWhat_19 (by decide) (by decide) (by decide) (Nat.le_of_ble_eq_true rfl) ?_
      exact ⟨rfl, by simp only [dayB, minB, diaB, whaB, decide_eq_false_iff_not]; omega, rfl, rfl⟩

theorem s_X8_needDial {h : aH} {taped fpl hlaw himg : Int} (c0 : h 0 = .inr (8, [.ref 1, iv taped, iv fpl, .ref 2, .ref 3, .ref 4, .ref 5, .ref 6, .ref 17, .ref 28, .ref 34, iv hlaw, .ref 40, .ref 49, iv himg, .ref 58, .ref 62, .ref 65, .ref 66, .ref 67])) {nd sw nc : Int} (c6 : h 6 = .inr (4, [iv nd, iv sw, iv nc, .ref 7, .ref 8, .ref 9, .ref 10, .ref 11, .ref 12, .ref 13, .ref 14, .ref 15, .ref 16])) (pnd : 0 ≤ nd ∧ nd ≤ 9) {x : Int} (ix : inR x)  : mSem yX8_needDial cX8_needDial 2 none 6 1 6 [.ref 0, iv x] 97 h (NeedQ (diaB nd x) h) (NeedX (diaB nd x) nmN h) := by
  unfold inR at ix
  refine mSem_of (own := RX8) (name := "needDial") pn_X8 rfl rfl (Nat.le_of_ble_eq_true rfl) ?_
  refine r_iload_n dX8_needDial_0 rfl rfl ?_
  refine r_if_lt (tgt := 15) dX8_needDial_1 (by decide) ⟨by omega, by omega⟩ (fun g1 => ?_) (fun g1 => ?_)
  · refine r_throwN (is := 384) (i := 29) (k := 3) (tx := "no such dial") (by decide +kernel) dX8_needDial_15 dX8_needDial_18 (Or.inr ⟨dX8_needDial_19, rfl⟩) dX8_needDial_22 dX8_needDial_25 (by decide) (by decide) (by decide) (Nat.le_of_ble_eq_true rfl) ?_
    exact ⟨rfl, by simp only [dayB, minB, diaB, whaB, decide_eq_false_iff_not]; omega, rfl, rfl⟩
  · refine r_iload_n dX8_needDial_4 rfl rfl ?_
    refine r_aload_n dX8_needDial_5 rfl rfl ?_
    refine r_get (fs := [_, _, _, _, _, _, _, _, _, _, _, _, _, _, _, _, _, _, _, _]) dX8_needDial_6 fl_X8_48 (by decide) c0 rfl ?_
    refine r_get (fs := [_, _, _, _, _, _, _, _, _, _, _, _, _]) dX8_needDial_9 fl_X8_127 (by decide) c6 rfl ?_
    refine r_icmp_lt (tgt := 26) dX8_needDial_12 (by decide) ⟨by omega, by omega⟩ ⟨by omega, by omega⟩ (fun g12 => ?_) (fun g12 => ?_)
    · refine r_vret dX8_needDial_26 ?_
      exact ⟨by simp only [dayB, minB, diaB, whaB, decide_eq_true_eq]; omega, rfl, rfl, rfl⟩
    · refine r_throwN (is := 384) (i := 29) (k := 3) (tx := "no such dial") (by decide +kernel) dX8_needDial_15 dX8_needDial_18 (Or.inr ⟨dX8_needDial_19, rfl⟩) dX8_needDial_22 dX8_needDial_25 (by decide) (by decide) (by decide) (Nat.le_of_ble_eq_true rfl) ?_
      exact ⟨rfl, by simp only [dayB, minB, diaB, whaB, decide_eq_false_iff_not]; omega, rfl, rfl⟩

theorem s_X8_needTaped {h : aH} {taped fpl hlaw himg : Int} (c0 : h 0 = .inr (8, [.ref 1, iv taped, iv fpl, .ref 2, .ref 3, .ref 4, .ref 5, .ref 6, .ref 17, .ref 28, .ref 34, iv hlaw, .ref 40, .ref 49, iv himg, .ref 58, .ref 62, .ref 65, .ref 66, .ref 67])) {x : Int} (ix : inR x) (ptp : 0 ≤ taped ∧ taped ≤ 700)  : mSem yX8_needTaped cX8_needTaped 2 none 6 1 6 [.ref 0, iv x] 97 h (NeedQ (whaB x taped) h) (NeedX (whaB x taped) nmI h) := by
  unfold inR at ix
  refine mSem_of (own := RX8) (name := "needTaped") pn_X8 rfl rfl (Nat.le_of_ble_eq_true rfl) ?_
  refine r_iload_n dX8_needTaped_0 rfl rfl ?_
  refine r_if_lt (tgt := 12) dX8_needTaped_1 (by decide) ⟨by omega, by omega⟩ (fun g1 => ?_) (fun g1 => ?_)
  · refine r_throwI (is := 382) (i := 23) (k := 3) (tx := "the tape has not so many bytes") (by decide +kernel) dX8_needTaped_12 dX8_needTaped_15 (Or.inr ⟨dX8_needTaped_16, rfl⟩) dX8_needTaped_19 dX8_needTaped_22 (by decide) (by decide) (by decide) (Nat.le_of_ble_eq_true rfl) ?_
    exact ⟨rfl, by simp only [dayB, minB, diaB, whaB, decide_eq_false_iff_not]; omega, rfl, rfl⟩
  · refine r_iload_n dX8_needTaped_4 rfl rfl ?_
    refine r_aload_n dX8_needTaped_5 rfl rfl ?_
    refine r_get (fs := [_, _, _, _, _, _, _, _, _, _, _, _, _, _, _, _, _, _, _, _]) dX8_needTaped_6 fl_X8_13 (by decide) c0 rfl ?_
    refine r_icmp_le (tgt := 23) dX8_needTaped_9 (by decide) ⟨by omega, by omega⟩ ⟨by omega, by omega⟩ (fun g9 => ?_) (fun g9 => ?_)
    · refine r_vret dX8_needTaped_23 ?_
      exact ⟨by simp only [dayB, minB, diaB, whaB, decide_eq_true_eq]; omega, rfl, rfl, rfl⟩
    · refine r_throwI (is := 382) (i := 23) (k := 3) (tx := "the tape has not so many bytes") (by decide +kernel) dX8_needTaped_12 dX8_needTaped_15 (Or.inr ⟨dX8_needTaped_16, rfl⟩) dX8_needTaped_19 dX8_needTaped_22 (by decide) (by decide) (by decide) (Nat.le_of_ble_eq_true rfl) ?_
      exact ⟨rfl, by simp only [dayB, minB, diaB, whaB, decide_eq_false_iff_not]; omega, rfl, rfl⟩

theorem s_X8_needLaw {h : aH} {taped fpl hlaw himg : Int} (c0 : h 0 = .inr (8, [.ref 1, iv taped, iv fpl, .ref 2, .ref 3, .ref 4, .ref 5, .ref 6, .ref 17, .ref 28, .ref 34, iv hlaw, .ref 40, .ref 49, iv himg, .ref 58, .ref 62, .ref 65, .ref 66, .ref 67])) (phl : hlaw = 0 ∨ hlaw = 1) : mSem yX8_needLaw cX8_needLaw 1 none 6 1 6 [.ref 0] 97 h (NeedQ (decide (hlaw = 1)) h) (NeedX (decide (hlaw = 1)) nmI h) := by
  refine mSem_of (own := RX8) (name := "needLaw") pn_X8 rfl rfl (Nat.le_of_ble_eq_true rfl) ?_
  refine r_aload_n dX8_needLaw_0 rfl rfl ?_
  refine r_get (fs := [_, _, _, _, _, _, _, _, _, _, _, _, _, _, _, _, _, _, _, _]) dX8_needLaw_1 fl_X8_65 (by decide) c0 rfl ?_
  refine r_if_ne (tgt := 18) dX8_needLaw_4 (by decide) ⟨by omega, by omega⟩ (fun g4 => ?_) (fun g4 => ?_)
  · refine r_vret dX8_needLaw_18 ?_
    exact ⟨decide_eq_true (by omega), rfl, rfl, rfl⟩
  · refine r_throwI (is := 392) (i := 26) (k := 3) (tx := "there is no law") (by decide +kernel) dX8_needLaw_7 dX8_needLaw_10 (Or.inr ⟨dX8_needLaw_11, rfl⟩) dX8_needLaw_14 dX8_needLaw_17 (by decide) (by decide) (by decide) (Nat.le_of_ble_eq_true rfl) ?_
    exact ⟨rfl, decide_eq_false (by omega), rfl, rfl⟩
