/-! ===== the port's reader: what it builds ===== -/
/-- (dials, swing, clouds), (limps told, swing told), kinds, turns, tilts, towns, grown, limps, clouds from, to, first, next, and (not held) their days -/
abbrev PD : Type := (Int × Int × Int) × (Int × Int) × (Nat → Int) × (Nat → Int) × (Nat → Int) × (Nat → Int) × (Nat → Int) × (Nat → Int) × (Nat → Int) × (Nat → Int) × (Nat → Int) × (Nat → Int) × (Nat → Int)
abbrev P17 (nd sw nc : Int) : aE := .inr (4, [iv nd, iv sw, iv nc, .ref 18, .ref 19, .ref 20, .ref 21, .ref 22, .ref 23, .ref 24, .ref 25, .ref 26, .ref 27])
def PW (h0 h : aH) (t : Nat → Int) (c : aE) (d : PD) : Prop := match d with
  | ((nd, sw, nc), (hl, hs), K, U, I, O, G, L, cf, ct, fc, nx, _) => h 1 = .inl (1, 700, t) ∧ h 3 = c ∧ h 4 = .inr (5, [.ref 3, .ref 17, iv hl, iv hs]) ∧ h 17 = P17 nd sw nc ∧ h 18 = .inl (0, 9, K) ∧ h 19 = .inl (0, 9, U) ∧ h 20 = .inl (0, 9, I) ∧ h 21 = .inl (0, 9, O) ∧ h 22 = .inl (0, 9, G) ∧ h 23 = .inl (0, 12, L) ∧ h 24 = .inl (0, 20, cf) ∧ h 25 = .inl (0, 20, ct) ∧ h 26 = .inl (0, 365, fc) ∧ h 27 = .inl (0, 20, nx) ∧ ∀ j, (j ≠ 3 ∧ j ≠ 4 ∧ (j < 17 ∨ 27 < j)) → h j = h0 j
def DR (d : PD) : Prop := match d with
  | ((nd, sw, nc), (hl, hs), K, U, I, O, G, L, cf, ct, fc, nx, cd) => PInv nd sw nc K U I O G L cf ct fc nx cd ∧ (hl = 0 ∨ hl = 1) ∧ (hs = 0 ∨ hs = 1)
def RQ (h0 : aH) (t : Nat → Int) (fa pl : Int) (le : Nat) (r : (Int × Nat) ⊕ (PD × Nat)) : Option Value → Nat → aH → Prop := fun v n' h' => n' = 97 ∧ ((∃ d2 e2 tk2, r = .inr (d2, e2) ∧ e2 ≤ le ∧ DR d2 ∧ v = some (iv 1) ∧ PW h0 h' t (SC t fa pl tk2 le e2) d2) ∨ (∃ f p d2 tk2 ki st en, r = .inl (f, p) ∧ DR d2 ∧ v = some (iv 0) ∧ PW h0 h' t (SCN f p tk2 le ki st en) d2))
def kindI (t : Nat → Int) (le e : Nat) : Int := if wordAt t le e 1 then 0 else if wordAt t le e 2 then 1 else if wordAt t le e 3 then 2 else if wordAt t le e 4 then 3 else if wordAt t le e 5 then 4 else if wordAt t le e 6 then 5 else -1
theorem kind_B (t : Nat → Int) (le e : Nat) : -1 ≤ kindI t le e ∧ kindI t le e ≤ 5 := by
  unfold kindI
  repeat' split
  all_goals omega
def pGrown (t : Nat → Int) (le : Nat) (d : PD) (di : Nat) (e : Nat) : (Int × Nat) ⊕ (PD × Nat) := match d with
  | (a, b, K, U, I, O, G, L, cf, ct, fc, nx, cd) => if wordAt t le e 7 = true then (match pNum t le 0 364 (tkE t le e) with
      | .inl x => .inl x
      | .inr (g, e2) => .inr ((a, b, K, U, I, O, va_up G di g, L, cf, ct, fc, nx, cd), e2)) else .inr ((a, b, K, U, I, O, va_up G di (-1), L, cf, ct, fc, nx, cd), e)
def pDial (t : Nat → Int) (le : Nat) (d : PD) (e : Nat) : (Int × Nat) ⊕ (PD × Nat) := match d with
  | ((nd, sw, nc), b, K, U, I, O, G, L, cf, ct, fc, nx, cd) =>
    if 9 ≤ nd then .inl (2, tkS t le e) else if kindI t le (tkE t le e) = -1 then .inl (1, tkS t le (tkE t le e)) else
    match pSgn t le 120 (tkE t le (tkE t le e)) with
    | .inl x => .inl x
    | .inr (tu, e1) => match pSgn t le 50 e1 with
      | .inl x => .inl x
      | .inr (ti, e2) => match pSgn t le 120 e2 with
        | .inl x => .inl x
        | .inr (to, e3) => pGrown t le ((nd + 1, sw, nc), b, va_up K nd.toNat (kindI t le (tkE t le e)), va_up U nd.toNat tu, va_up I nd.toNat ti, va_up O nd.toNat to, G, L, cf, ct, fc, nx, cd) nd.toNat e3
theorem up_R {f : Nat → Int} {lo hi x : Int} {k : Nat} (h : ∀ j, lo ≤ f j ∧ f j ≤ hi) (hx : lo ≤ x ∧ x ≤ hi) : ∀ j, lo ≤ va_up f k x j ∧ va_up f k x j ≤ hi := by
  intro j
  unfold va_up
  split
  · exact hx
  · exact h j
theorem up_L {f : Nat → Int} {lo hi x : Int} {k : Nat} (h : ∀ j, lo ≤ f j ∧ f j < hi) (hx : lo ≤ x ∧ x < hi) : ∀ j, lo ≤ va_up f k x j ∧ va_up f k x j < hi := by
  intro j
  unfold va_up
  split
  · exact hx
  · exact h j

theorem s_X5_kindHere {h : aH} {t : Nat → Int} (c1 : h 1 = .inl (1, 700, t)) (ht : ∀ j, -128 ≤ t j ∧ t j ≤ 127) {fa pl tk : Int} {le e : Nat} (c3 : h 3 = SC t fa pl tk le e) (hle : le ≤ 700) (hee : e ≤ le) {hl hs : Int} (c4 : h 4 = .inr (5, [.ref 3, .ref 17, iv hl, iv hs]))  : mSem yX5_kindHere cX5_kindHere 1 (some .int) 5 0 0 [.ref 4] 97 h (Ret (kindI t le e) h) noX := by
  have hB := tk_B t hee
  refine mSem_of (own := RX5) (name := "kindHere") pn_X5 rfl rfl (Nat.le_of_ble_eq_true rfl) ?_
  have k1 := b2i_01 (wordAt t le e 1)
  have k2 := b2i_01 (wordAt t le e 2)
  have k3 := b2i_01 (wordAt t le e 3)
  have k4 := b2i_01 (wordAt t le e 4)
  have k5 := b2i_01 (wordAt t le e 5)
  have k6 := b2i_01 (wordAt t le e 6)
  refine r_aload_n dX5_kindHere_0 rfl rfl ?_
  refine r_get (fs := [_, _, _, _]) dX5_kindHere_1 fl_X5_9 (by decide) c4 rfl ?_
  refine r_ldcS (own2 := "") (tx := "east") (i := 1) dX5_kindHere_4 (by decide +kernel) ?_
  refine r_callV 3 [.ref (1000 + 1)] (s_X6_isWord c1 ht (by first | rfl | exact c3) hle (by omega) (by first | exact hi | decide)) dX5_kindHere_6 cs_X5_46 im_X6_isWord (by decide) c3 rfl (by decide) (by decide) (by decide) rfl rfl (Nat.le_of_ble_eq_true rfl) (fun _ _ _ q => q.elim) (fun v n2 h2 q => ?_)
  obtain ⟨rfl, rfl, hh⟩ := q
  obtain rfl := hh.symm
  refine ⟨rfl, ?_⟩
  dsimp only [Option.toList, List.cons_append, List.nil_append]
  refine r_if_eq (tgt := 14) dX5_kindHere_9 (by decide) ⟨by omega, by omega⟩ (fun g9 => ?_) (fun g9 => ?_)
  · refine r_aload_n dX5_kindHere_14 rfl rfl ?_
    refine r_get (fs := [_, _, _, _]) dX5_kindHere_15 fl_X5_9 (by decide) c4 rfl ?_
    refine r_ldcS (own2 := "") (tx := "west") (i := 2) dX5_kindHere_18 (by decide +kernel) ?_
    refine r_callV 3 [.ref (1000 + 2)] (s_X6_isWord c1 ht (by first | rfl | exact c3) hle (by omega) (by first | exact hi | decide)) dX5_kindHere_20 cs_X5_46 im_X6_isWord (by decide) c3 rfl (by decide) (by decide) (by decide) rfl rfl (Nat.le_of_ble_eq_true rfl) (fun _ _ _ q => q.elim) (fun v n2 h2 q => ?_)
    obtain ⟨rfl, rfl, hh⟩ := q
    obtain rfl := hh.symm
    refine ⟨rfl, ?_⟩
    dsimp only [Option.toList, List.cons_append, List.nil_append]
    refine r_if_eq (tgt := 28) dX5_kindHere_23 (by decide) ⟨by omega, by omega⟩ (fun g23 => ?_) (fun g23 => ?_)
    · refine r_aload_n dX5_kindHere_28 rfl rfl ?_
      refine r_get (fs := [_, _, _, _]) dX5_kindHere_29 fl_X5_9 (by decide) c4 rfl ?_
      refine r_ldcS (own2 := "") (tx := "bowl") (i := 3) dX5_kindHere_32 (by decide +kernel) ?_
      refine r_callV 3 [.ref (1000 + 3)] (s_X6_isWord c1 ht (by first | rfl | exact c3) hle (by omega) (by first | exact hi | decide)) dX5_kindHere_34 cs_X5_46 im_X6_isWord (by decide) c3 rfl (by decide) (by decide) (by decide) rfl rfl (Nat.le_of_ble_eq_true rfl) (fun _ _ _ q => q.elim) (fun v n2 h2 q => ?_)
      obtain ⟨rfl, rfl, hh⟩ := q
      obtain rfl := hh.symm
      refine ⟨rfl, ?_⟩
      dsimp only [Option.toList, List.cons_append, List.nil_append]
      refine r_if_eq (tgt := 42) dX5_kindHere_37 (by decide) ⟨by omega, by omega⟩ (fun g37 => ?_) (fun g37 => ?_)
      · refine r_aload_n dX5_kindHere_42 rfl rfl ?_
        refine r_get (fs := [_, _, _, _]) dX5_kindHere_43 fl_X5_9 (by decide) c4 rfl ?_
        refine r_ldcS (own2 := "") (tx := "moon") (i := 4) dX5_kindHere_46 (by decide +kernel) ?_
        refine r_callV 3 [.ref (1000 + 4)] (s_X6_isWord c1 ht (by first | rfl | exact c3) hle (by omega) (by first | exact hi | decide)) dX5_kindHere_48 cs_X5_46 im_X6_isWord (by decide) c3 rfl (by decide) (by decide) (by decide) rfl rfl (Nat.le_of_ble_eq_true rfl) (fun _ _ _ q => q.elim) (fun v n2 h2 q => ?_)
        obtain ⟨rfl, rfl, hh⟩ := q
        obtain rfl := hh.symm
        refine ⟨rfl, ?_⟩
        dsimp only [Option.toList, List.cons_append, List.nil_append]
        refine r_if_eq (tgt := 56) dX5_kindHere_51 (by decide) ⟨by omega, by omega⟩ (fun g51 => ?_) (fun g51 => ?_)
        · refine r_aload_n dX5_kindHere_56 rfl rfl ?_
          refine r_get (fs := [_, _, _, _]) dX5_kindHere_57 fl_X5_9 (by decide) c4 rfl ?_
          refine r_ldcS (own2 := "") (tx := "cannon") (i := 5) dX5_kindHere_60 (by decide +kernel) ?_
          refine r_callV 3 [.ref (1000 + 5)] (s_X6_isWord c1 ht (by first | rfl | exact c3) hle (by omega) (by first | exact hi | decide)) dX5_kindHere_62 cs_X5_46 im_X6_isWord (by decide) c3 rfl (by decide) (by decide) (by decide) rfl rfl (Nat.le_of_ble_eq_true rfl) (fun _ _ _ q => q.elim) (fun v n2 h2 q => ?_)
          obtain ⟨rfl, rfl, hh⟩ := q
          obtain rfl := hh.symm
          refine ⟨rfl, ?_⟩
          dsimp only [Option.toList, List.cons_append, List.nil_append]
          refine r_if_eq (tgt := 70) dX5_kindHere_65 (by decide) ⟨by omega, by omega⟩ (fun g65 => ?_) (fun g65 => ?_)
          · refine r_aload_n dX5_kindHere_70 rfl rfl ?_
            refine r_get (fs := [_, _, _, _]) dX5_kindHere_71 fl_X5_9 (by decide) c4 rfl ?_
            refine r_ldcS (own2 := "") (tx := "painted") (i := 6) dX5_kindHere_74 (by decide +kernel) ?_
            refine r_callV 3 [.ref (1000 + 6)] (s_X6_isWord c1 ht (by first | rfl | exact c3) hle (by omega) (by first | exact hi | decide)) dX5_kindHere_76 cs_X5_46 im_X6_isWord (by decide) c3 rfl (by decide) (by decide) (by decide) rfl rfl (Nat.le_of_ble_eq_true rfl) (fun _ _ _ q => q.elim) (fun v n2 h2 q => ?_)
            obtain ⟨rfl, rfl, hh⟩ := q
            obtain rfl := hh.symm
            refine ⟨rfl, ?_⟩
            dsimp only [Option.toList, List.cons_append, List.nil_append]
            refine r_if_eq (tgt := 86) dX5_kindHere_79 (by decide) ⟨by omega, by omega⟩ (fun g79 => ?_) (fun g79 => ?_)
            · refine r_iconst dX5_kindHere_86 ?_
              refine r_iret dX5_kindHere_87 ?_
              exact ⟨ivE (by unfold kindI; simp only [b2i_0, Bool.not_eq_false] at g9 g23 g37 g51 g65 g79; simp [g9, g23, g37, g51, g65, g79]), rfl, rfl⟩
            · refine r_iconst dX5_kindHere_82 ?_
              refine r_goto (tgt := 87) dX5_kindHere_83 (by decide) ?_
              refine r_iret dX5_kindHere_87 ?_
              exact ⟨ivE (by unfold kindI; simp only [b2i_0, Bool.not_eq_false] at g9 g23 g37 g51 g65 g79; simp [g9, g23, g37, g51, g65, g79]), rfl, rfl⟩
          · refine r_iconst dX5_kindHere_68 ?_
            refine r_iret dX5_kindHere_69 ?_
            exact ⟨ivE (by unfold kindI; simp only [b2i_0, Bool.not_eq_false] at g9 g23 g37 g51 g65; simp [g9, g23, g37, g51, g65]), rfl, rfl⟩
        · refine r_iconst dX5_kindHere_54 ?_
          refine r_iret dX5_kindHere_55 ?_
          exact ⟨ivE (by unfold kindI; simp only [b2i_0, Bool.not_eq_false] at g9 g23 g37 g51; simp [g9, g23, g37, g51]), rfl, rfl⟩
      · refine r_iconst dX5_kindHere_40 ?_
        refine r_iret dX5_kindHere_41 ?_
        exact ⟨ivE (by unfold kindI; simp only [b2i_0, Bool.not_eq_false] at g9 g23 g37; simp [g9, g23, g37]), rfl, rfl⟩
    · refine r_iconst dX5_kindHere_26 ?_
      refine r_iret dX5_kindHere_27 ?_
      exact ⟨ivE (by unfold kindI; simp only [b2i_0, Bool.not_eq_false] at g9 g23; simp [g9, g23]), rfl, rfl⟩
  · refine r_iconst dX5_kindHere_12 ?_
    refine r_iret dX5_kindHere_13 ?_
    exact ⟨ivE (by unfold kindI; simp only [b2i_0, Bool.not_eq_false] at g9; simp [g9]), rfl, rfl⟩

theorem s_X5_readGrown {h0 h : aH} {t : Nat → Int} {fa pl tk : Int} {le e : Nat} {nd sw nc hl hs : Int} {K U I O G L cf ct fc nx cd : Nat → Int} (pw : PW h0 h t (SC t fa pl tk le e) ((nd, sw, nc), (hl, hs), K, U, I, O, G, L, cf, ct, fc, nx, cd)) (dr : DR ((nd, sw, nc), (hl, hs), K, U, I, O, G, L, cf, ct, fc, nx, cd)) (ht : ∀ j, -128 ≤ t j ∧ t j ≤ 127) (hle : le ≤ 700) (hee : e ≤ le) {di : Nat} (hdi : di < 9)  : mSem yX5_readGrown cX5_readGrown 2 (some .boolean) 5 0 0 [.ref 4, iv di] 97 h (RQ h0 t fa pl le (pGrown t le ((nd, sw, nc), (hl, hs), K, U, I, O, G, L, cf, ct, fc, nx, cd) di e)) noX := by
  obtain ⟨c1, c3, c4, c17, c18, c19, c20, c21, c22, c23, c24, c25, c26, c27, fr⟩ := id pw
  obtain ⟨⟨pnd, psw, pnc, pK, pU, pI, pO, pG, pL, pcf, pct, pfc, pnx⟩, phl, phs⟩ := id dr
  have hB := tk_B t hee
  refine mSem_of (own := RX5) (name := "readGrown") pn_X5 rfl rfl (Nat.le_of_ble_eq_true rfl) ?_
  refine r_aload_n dX5_readGrown_0 rfl rfl ?_
  refine r_get (fs := [_, _, _, _]) dX5_readGrown_1 fl_X5_15 (by decide) c4 rfl ?_
  refine r_get (fs := [_, _, _, _, _, _, _, _, _, _, _, _, _]) dX5_readGrown_4 fl_X5_105 (by decide) c17 rfl ?_
  refine r_iload_n dX5_readGrown_7 rfl rfl ?_
  refine r_iconst dX5_readGrown_8 ?_
  refine r_ast dX5_readGrown_9 (by decide) c22 (by omega) (by omega) (by decide) ?_
  rw [Int.toNat_natCast]
  refine r_aload_n dX5_readGrown_10 rfl rfl ?_
  refine r_get (fs := [_, _, _, _]) dX5_readGrown_11 fl_X5_9 (by decide) c4 rfl ?_
  refine r_ldcS (own2 := "") (tx := "grown") (i := 7) dX5_readGrown_14 (by decide +kernel) ?_
  have kw := b2i_01 (wordAt t le e 7)
  refine r_callV 3 [.ref (1000 + 7)] (s_X6_isWord (by exact c1) ht (by first | rfl | exact c3) hle (by omega) (by first | exact hi | decide)) dX5_readGrown_16 cs_X5_46 im_X6_isWord (by decide) c3 rfl (by decide) (by decide) (by decide) rfl rfl (Nat.le_of_ble_eq_true rfl) (fun _ _ _ q => q.elim) (fun v n2 h2 q => ?_)
  obtain ⟨rfl, rfl, hh⟩ := q
  obtain rfl := hh.symm
  refine ⟨rfl, ?_⟩
  dsimp only [Option.toList, List.cons_append, List.nil_append]
  refine r_if_ne (tgt := 24) dX5_readGrown_19 (by decide) ⟨by omega, by omega⟩ (fun g19 => ?_) (fun g19 => ?_)
  · rw [b2i_0, Bool.not_eq_false] at g19
    have hB2 := tk_B t hB.2.2.2.1
    refine r_aload_n dX5_readGrown_24 rfl rfl ?_
    refine r_get (fs := [_, _, _, _]) dX5_readGrown_25 fl_X5_9 (by decide) c4 rfl ?_
    refine r_callV 3 [] (s_X6_advance (by exact c1) ht (by first | rfl | exact c3) hle (by omega)) dX5_readGrown_28 cs_X5_76 im_X6_advance (by decide) c3 rfl (by decide) (by decide) (by decide) rfl rfl (Nat.le_of_ble_eq_true rfl) (fun _ _ _ q => q.elim) (fun v n2 h2 q => ?_)
    obtain ⟨rfl, rfl, hh⟩ := q
    obtain rfl := hh.symm
    refine ⟨rfl, ?_⟩
    dsimp only [Option.toList, List.cons_append, List.nil_append]
    refine r_aload_n dX5_readGrown_31 rfl rfl ?_
    refine r_get (fs := [_, _, _, _]) dX5_readGrown_32 fl_X5_9 (by decide) c4 rfl ?_
    refine r_iconst dX5_readGrown_35 ?_
    refine r_sipush dX5_readGrown_36 rfl ?_
    refine r_callV 3 [_, _] (s_X6_takeNumber (by exact c1) ht (by first | rfl | exact c3) hle (by omega) (by omega) (by omega)) dX5_readGrown_39 cs_X5_109 im_X6_takeNumber (by decide) rfl rfl (by decide) (by decide) (by decide) rfl rfl (Nat.le_of_ble_eq_true rfl) (fun _ _ _ q => q.elim) (fun v n2 h2 q => ?_)
    obtain ⟨rfl, q⟩ := q
    rcases q with ⟨z0, rfl, hh⟩ | ⟨z0, rfl, hh⟩
    · obtain rfl := hh.symm
      refine ⟨rfl, ?_⟩
      dsimp only [Option.toList, List.cons_append, List.nil_append]
      refine r_if_ne (tgt := 47) dX5_readGrown_42 (by decide) ⟨by omega, by omega⟩ (fun g42 => ?_) (fun g42 => absurd g42 (by omega))
      refine r_aload_n dX5_readGrown_47 rfl rfl ?_
      refine r_get (fs := [_, _, _, _]) dX5_readGrown_48 fl_X5_15 (by decide) c4 rfl ?_
      refine r_get (fs := [_, _, _, _, _, _, _, _, _, _, _, _, _]) dX5_readGrown_51 fl_X5_105 (by decide) c17 rfl ?_
      refine r_iload_n dX5_readGrown_54 rfl rfl ?_
      refine r_aload_n dX5_readGrown_55 rfl rfl ?_
      refine r_get (fs := [_, _, _, _]) dX5_readGrown_56 fl_X5_9 (by decide) c4 rfl ?_
      refine r_get (fs := [_, _, _, _, _, _, _, _]) dX5_readGrown_59 fl_X5_93 (by decide) rfl rfl ?_
      refine r_ast dX5_readGrown_62 (by decide) rfl (by omega) (by omega) (by decide) ?_
      rw [Int.toNat_natCast]
      refine r_iconst dX5_readGrown_63 ?_
      refine r_zret dX5_readGrown_64 (nar_z (by omega)) ?_
      have bn := pNum_ok (t := t) (le := le) (e := tkE t le e) (lo := 0) (hi := 364) (x := numAt t le (tkE t le e)) (e2 := tkE t le (tkE t le e)) (by unfold pNum; rw [if_pos (of_decide_eq_true z0)])
      refine ⟨rfl, Or.inl ⟨((nd, sw, nc), (hl, hs), K, U, I, O, va_up G di (numAt t le (tkE t le e)), L, cf, ct, fc, nx, cd), tkE t le (tkE t le e), _, ?_, by omega, ⟨⟨pnd, psw, pnc, pK, pU, pI, pO, (up_R pG (by omega)), pL, pcf, pct, pfc, pnx⟩, phl, phs⟩, rfl, ⟨(by first | rfl | exact c1), (by first | rfl | exact c3), (by first | rfl | exact c4), (by first | rfl | exact c17), (by first | rfl | exact c18), (by first | rfl | exact c19), (by first | rfl | exact c20), (by first | rfl | exact c21), (by rw [← bx_uu G di (-1) (numAt t le (tkE t le e))]; rfl), (by first | rfl | exact c23), (by first | rfl | exact c24), (by first | rfl | exact c25), (by first | rfl | exact c26), (by first | rfl | exact c27), (fun j hj => by obtain ⟨a1, a2, a3⟩ := hj; try simp only [va_up]; (repeat rw [if_neg (by omega)]); exact fr j ⟨a1, a2, a3⟩)⟩⟩⟩
      unfold pGrown pNum
      dsimp only
      rw [if_pos g19, if_pos (of_decide_eq_true z0)]
    · obtain rfl := hh.symm
      refine ⟨rfl, ?_⟩
      dsimp only [Option.toList, List.cons_append, List.nil_append]
      refine r_if_ne (tgt := 47) dX5_readGrown_42 (by decide) ⟨by omega, by omega⟩ (fun g42 => absurd g42 (by omega)) (fun g42 => ?_)
      refine r_iconst dX5_readGrown_45 ?_
      refine r_zret dX5_readGrown_46 (nar_z (by omega)) ?_
      refine ⟨rfl, Or.inr ⟨_, _, ((nd, sw, nc), (hl, hs), K, U, I, O, va_up G di (-1), L, cf, ct, fc, nx, cd), _, _, _, _, ?_, ⟨⟨pnd, psw, pnc, pK, pU, pI, pO, (up_R pG (by omega)), pL, pcf, pct, pfc, pnx⟩, phl, phs⟩, rfl, ⟨(by first | rfl | exact c1), (by first | rfl | exact c3), (by first | rfl | exact c4), (by first | rfl | exact c17), (by first | rfl | exact c18), (by first | rfl | exact c19), (by first | rfl | exact c20), (by first | rfl | exact c21), (by first | rfl | exact c22), (by first | rfl | exact c23), (by first | rfl | exact c24), (by first | rfl | exact c25), (by first | rfl | exact c26), (by first | rfl | exact c27), (fun j hj => by obtain ⟨a1, a2, a3⟩ := hj; try simp only [va_up]; (repeat rw [if_neg (by omega)]); exact fr j ⟨a1, a2, a3⟩)⟩⟩⟩
      unfold pGrown pNum
      dsimp only
      rw [if_pos g19, if_neg (of_decide_eq_false z0)]
  · rw [b2i_0] at g19
    refine r_iconst dX5_readGrown_22 ?_
    refine r_zret dX5_readGrown_23 (nar_z (by omega)) ?_
    refine ⟨rfl, Or.inl ⟨((nd, sw, nc), (hl, hs), K, U, I, O, va_up G di (-1), L, cf, ct, fc, nx, cd), e, _, ?_, hee, ⟨⟨pnd, psw, pnc, pK, pU, pI, pO, (up_R pG (by omega)), pL, pcf, pct, pfc, pnx⟩, phl, phs⟩, rfl, ⟨(by first | rfl | exact c1), (by first | rfl | exact c3), (by first | rfl | exact c4), (by first | rfl | exact c17), (by first | rfl | exact c18), (by first | rfl | exact c19), (by first | rfl | exact c20), (by first | rfl | exact c21), (by first | rfl | exact c22), (by first | rfl | exact c23), (by first | rfl | exact c24), (by first | rfl | exact c25), (by first | rfl | exact c26), (by first | rfl | exact c27), (fun j hj => by obtain ⟨a1, a2, a3⟩ := hj; try simp only [va_up]; (repeat rw [if_neg (by omega)]); exact fr j ⟨a1, a2, a3⟩)⟩⟩⟩
    unfold pGrown
    dsimp only
    rw [if_neg (by rw [g19]; decide)]

theorem s_X5_readDial {h0 h : aH} {t : Nat → Int} {fa pl tk : Int} {le e : Nat} {nd sw nc hl hs : Int} {K U I O G L cf ct fc nx cd : Nat → Int} (pw : PW h0 h t (SC t fa pl tk le e) ((nd, sw, nc), (hl, hs), K, U, I, O, G, L, cf, ct, fc, nx, cd)) (dr : DR ((nd, sw, nc), (hl, hs), K, U, I, O, G, L, cf, ct, fc, nx, cd)) (ht : ∀ j, -128 ≤ t j ∧ t j ≤ 127) (hle : le ≤ 700) (hee : e ≤ le)  : mSem yX5_readDial cX5_readDial 3 (some .boolean) 6 0 0 [.ref 4] 97 h (RQ h0 t fa pl le (pDial t le ((nd, sw, nc), (hl, hs), K, U, I, O, G, L, cf, ct, fc, nx, cd) e)) noX := by
  obtain ⟨dn, rfl⟩ : ∃ k : Nat, nd = k := ⟨nd.toNat, by have := dr.1.1; omega⟩
  obtain ⟨c1, c3, c4, c17, c18, c19, c20, c21, c22, c23, c24, c25, c26, c27, fr⟩ := id pw
  obtain ⟨⟨pnd, psw, pnc, pK, pU, pI, pO, pG, pL, pcf, pct, pfc, pnx⟩, phl, phs⟩ := id dr
  have hB := tk_B t hee
  refine mSem_of (own := RX5) (name := "readDial") pn_X5 rfl rfl (Nat.le_of_ble_eq_true rfl) ?_
  refine r_aload_n dX5_readDial_0 rfl rfl ?_
  refine r_get (fs := [_, _, _, _]) dX5_readDial_1 fl_X5_15 (by decide) c4 rfl ?_
  refine r_get (fs := [_, _, _, _, _, _, _, _, _, _, _, _, _]) dX5_readDial_4 fl_X5_72 (by decide) c17 rfl ?_
  refine r_istore_n (lv2 := [(0, _), (1, _)]) dX5_readDial_7 rfl (by decide) rfl rfl ?_
  refine r_iload_n dX5_readDial_8 rfl rfl ?_
  refine r_bipush dX5_readDial_9 rfl ?_
  refine r_icmp_lt (tgt := 23) dX5_readDial_11 (by decide) ⟨by omega, by omega⟩ ⟨by omega, by omega⟩ (fun g11 => ?_) (fun g11 => ?_)
  · have hB1 := tk_B t hB.2.2.2.1
    have hB2 := tk_B t hB1.2.2.2.1
    have bk := kind_B t le (tkE t le e)
    refine r_aload_n dX5_readDial_23 rfl rfl ?_
    refine r_get (fs := [_, _, _, _]) dX5_readDial_24 fl_X5_9 (by decide) c4 rfl ?_
    refine r_callV 3 [] (s_X6_advance c1 ht (by first | rfl | exact c3) hle (by omega)) dX5_readDial_27 cs_X5_76 im_X6_advance (by decide) c3 rfl (by decide) (by decide) (by decide) rfl rfl (Nat.le_of_ble_eq_true rfl) (fun _ _ _ q => q.elim) (fun v n2 h2 q => ?_)
    obtain ⟨rfl, rfl, hh⟩ := q
    obtain rfl := hh.symm
    refine ⟨rfl, ?_⟩
    dsimp only [Option.toList, List.cons_append, List.nil_append]
    refine r_aload_n dX5_readDial_30 rfl rfl ?_
    refine r_callV 4 [] (s_X5_kindHere (by exact c1) ht (by first | rfl | exact c3) hle (by omega) (by first | rfl | exact c4)) dX5_readDial_31 cs_X5_79 im_X5_kindHere (by decide) c4 rfl (by decide) (by decide) (by decide) rfl rfl (Nat.le_of_ble_eq_true rfl) (fun _ _ _ q => q.elim) (fun v n2 h2 q => ?_)
    obtain ⟨rfl, rfl, hh⟩ := q
    obtain rfl := hh.symm
    refine ⟨rfl, ?_⟩
    dsimp only [Option.toList, List.cons_append, List.nil_append]
    refine r_istore_n (lv2 := [(0, _), (1, _), (2, _)]) dX5_readDial_34 rfl (by decide) rfl rfl ?_
    refine r_iload_n dX5_readDial_35 rfl rfl ?_
    refine r_iconst dX5_readDial_36 ?_
    refine r_icmp_ne (tgt := 49) dX5_readDial_37 (by decide) ⟨by omega, by omega⟩ ⟨by omega, by omega⟩ (fun g37 => ?_) (fun g37 => ?_)
    · refine r_aload_n dX5_readDial_49 rfl rfl ?_
      refine r_get (fs := [_, _, _, _]) dX5_readDial_50 fl_X5_9 (by decide) c4 rfl ?_
      refine r_callV 3 [] (s_X6_advance (by exact c1) ht (by first | rfl | exact c3) hle (by omega)) dX5_readDial_53 cs_X5_76 im_X6_advance (by decide) rfl rfl (by decide) (by decide) (by decide) rfl rfl (Nat.le_of_ble_eq_true rfl) (fun _ _ _ q => q.elim) (fun v n2 h2 q => ?_)
      obtain ⟨rfl, rfl, hh⟩ := q
      obtain rfl := hh.symm
      refine ⟨rfl, ?_⟩
      dsimp only [Option.toList, List.cons_append, List.nil_append]
      refine r_aload_n dX5_readDial_56 rfl rfl ?_
      refine r_get (fs := [_, _, _, _]) dX5_readDial_57 fl_X5_15 (by decide) c4 rfl ?_
      refine r_get (fs := [_, _, _, _, _, _, _, _, _, _, _, _, _]) dX5_readDial_60 fl_X5_83 (by decide) c17 rfl ?_
      refine r_iload_n dX5_readDial_63 rfl rfl ?_
      refine r_iload_n dX5_readDial_64 rfl rfl ?_
      refine r_ast dX5_readDial_65 (by decide) c18 (by omega) (by omega) (by decide) ?_
      rw [Int.toNat_natCast]
      refine r_aload_n dX5_readDial_66 rfl rfl ?_
      refine r_get (fs := [_, _, _, _]) dX5_readDial_67 fl_X5_9 (by decide) c4 rfl ?_
      refine r_bipush dX5_readDial_70 rfl ?_
      refine r_callV 3 [_] (s_X6_takeSigned (by exact c1) ht (by first | rfl | exact c3) hle (by omega) (by omega)) dX5_readDial_72 cs_X5_87 im_X6_takeSigned (by decide) rfl rfl (by decide) (by decide) (by decide) rfl rfl (Nat.le_of_ble_eq_true rfl) (fun _ _ _ q => q.elim) (fun v n2 h2 q => ?_)
      obtain ⟨rfl, q⟩ := q
      rcases q with ⟨x1, e1, er1, hl1, rfl, hh⟩ | ⟨f9, p9, tk9, ki9, st9, en9, er1, rfl, hh⟩
      · obtain rfl := hh.symm
        have bx1 := pSgn_ok er1
        have hB1 := tk_B t hl1
        refine ⟨rfl, ?_⟩
        dsimp only [Option.toList, List.cons_append, List.nil_append]
        refine r_if_ne (tgt := 80) dX5_readDial_75 (by decide) ⟨by omega, by omega⟩ (fun g75 => ?_) (fun g75 => absurd g75 (by omega))
        refine r_aload_n dX5_readDial_80 rfl rfl ?_
        refine r_get (fs := [_, _, _, _]) dX5_readDial_81 fl_X5_15 (by decide) c4 rfl ?_
        refine r_get (fs := [_, _, _, _, _, _, _, _, _, _, _, _, _]) dX5_readDial_84 fl_X5_90 (by decide) c17 rfl ?_
        refine r_iload_n dX5_readDial_87 rfl rfl ?_
        refine r_aload_n dX5_readDial_88 rfl rfl ?_
        refine r_get (fs := [_, _, _, _]) dX5_readDial_89 fl_X5_9 (by decide) c4 rfl ?_
        refine r_get (fs := [_, _, _, _, _, _, _, _]) dX5_readDial_92 fl_X5_93 (by decide) rfl rfl ?_
        refine r_ast dX5_readDial_95 (by decide) c19 (by omega) (by omega) (by decide) ?_
        rw [Int.toNat_natCast]
        refine r_aload_n dX5_readDial_96 rfl rfl ?_
        refine r_get (fs := [_, _, _, _]) dX5_readDial_97 fl_X5_9 (by decide) c4 rfl ?_
        refine r_bipush dX5_readDial_100 rfl ?_
        refine r_callV 3 [_] (s_X6_takeSigned (by exact c1) ht (by first | rfl | exact c3) hle (by omega) (by omega)) dX5_readDial_102 cs_X5_87 im_X6_takeSigned (by decide) rfl rfl (by decide) (by decide) (by decide) rfl rfl (Nat.le_of_ble_eq_true rfl) (fun _ _ _ q => q.elim) (fun v n2 h2 q => ?_)
        obtain ⟨rfl, q⟩ := q
        rcases q with ⟨x2, e2, er2, hl2, rfl, hh⟩ | ⟨f9, p9, tk9, ki9, st9, en9, er2, rfl, hh⟩
        · obtain rfl := hh.symm
          have bx2 := pSgn_ok er2
          have hB2 := tk_B t hl2
          refine ⟨rfl, ?_⟩
          dsimp only [Option.toList, List.cons_append, List.nil_append]
          refine r_if_ne (tgt := 110) dX5_readDial_105 (by decide) ⟨by omega, by omega⟩ (fun g105 => ?_) (fun g105 => absurd g105 (by omega))
          refine r_aload_n dX5_readDial_110 rfl rfl ?_
          refine r_get (fs := [_, _, _, _]) dX5_readDial_111 fl_X5_15 (by decide) c4 rfl ?_
          refine r_get (fs := [_, _, _, _, _, _, _, _, _, _, _, _, _]) dX5_readDial_114 fl_X5_96 (by decide) c17 rfl ?_
          refine r_iload_n dX5_readDial_117 rfl rfl ?_
          refine r_aload_n dX5_readDial_118 rfl rfl ?_
          refine r_get (fs := [_, _, _, _]) dX5_readDial_119 fl_X5_9 (by decide) c4 rfl ?_
          refine r_get (fs := [_, _, _, _, _, _, _, _]) dX5_readDial_122 fl_X5_93 (by decide) rfl rfl ?_
          refine r_ast dX5_readDial_125 (by decide) c20 (by omega) (by omega) (by decide) ?_
          rw [Int.toNat_natCast]
          refine r_aload_n dX5_readDial_126 rfl rfl ?_
          refine r_get (fs := [_, _, _, _]) dX5_readDial_127 fl_X5_9 (by decide) c4 rfl ?_
          refine r_bipush dX5_readDial_130 rfl ?_
          refine r_callV 3 [_] (s_X6_takeSigned (by exact c1) ht (by first | rfl | exact c3) hle (by omega) (by omega)) dX5_readDial_132 cs_X5_87 im_X6_takeSigned (by decide) rfl rfl (by decide) (by decide) (by decide) rfl rfl (Nat.le_of_ble_eq_true rfl) (fun _ _ _ q => q.elim) (fun v n2 h2 q => ?_)
          obtain ⟨rfl, q⟩ := q
          rcases q with ⟨x3, e3, er3, hl3, rfl, hh⟩ | ⟨f9, p9, tk9, ki9, st9, en9, er3, rfl, hh⟩
          · obtain rfl := hh.symm
            have bx3 := pSgn_ok er3
            have hB3 := tk_B t hl3
            refine ⟨rfl, ?_⟩
            dsimp only [Option.toList, List.cons_append, List.nil_append]
            refine r_if_ne (tgt := 140) dX5_readDial_135 (by decide) ⟨by omega, by omega⟩ (fun g135 => ?_) (fun g135 => absurd g135 (by omega))
            refine r_aload_n dX5_readDial_140 rfl rfl ?_
            refine r_get (fs := [_, _, _, _]) dX5_readDial_141 fl_X5_15 (by decide) c4 rfl ?_
            refine r_get (fs := [_, _, _, _, _, _, _, _, _, _, _, _, _]) dX5_readDial_144 fl_X5_99 (by decide) c17 rfl ?_
            refine r_iload_n dX5_readDial_147 rfl rfl ?_
            refine r_aload_n dX5_readDial_148 rfl rfl ?_
            refine r_get (fs := [_, _, _, _]) dX5_readDial_149 fl_X5_9 (by decide) c4 rfl ?_
            refine r_get (fs := [_, _, _, _, _, _, _, _]) dX5_readDial_152 fl_X5_93 (by decide) rfl rfl ?_
            refine r_ast dX5_readDial_155 (by decide) c21 (by omega) (by omega) (by decide) ?_
            rw [Int.toNat_natCast]
            refine r_aload_n dX5_readDial_156 rfl rfl ?_
            refine r_get (fs := [_, _, _, _]) dX5_readDial_157 fl_X5_15 (by decide) c4 rfl ?_
            refine r_dup dX5_readDial_160 rfl ?_
            refine r_get (fs := [_, _, _, _, _, _, _, _, _, _, _, _, _]) dX5_readDial_161 fl_X5_72 (by decide) c17 rfl ?_
            refine r_iconst dX5_readDial_164 ?_
            refine r_iadd dX5_readDial_165 ?_
            refine r_put (fs := [_, _, _, _, _, _, _, _, _, _, _, _, _]) (fs2 := [_, _, _, _, _, _, _, _, _, _, _, _, _]) dX5_readDial_166 fp_X5_72 (by decide) c17 (nar_int _) (Nat.le_of_ble_eq_true rfl) rfl ?_
            refine r_aload_n dX5_readDial_169 rfl rfl ?_
            refine r_iload_n dX5_readDial_170 rfl rfl ?_
            refine r_callV 4 [_] (s_X5_readGrown (h0 := h0) (fa := fa) (pl := pl) (tk := x3) (e := e3) (di := dn) (nd := ((dn : Nat) : Int) + 1) (sw := sw) (nc := nc) (hl := hl) (hs := hs) (K := (va_up K dn (kindI t le (tkE t le e)))) (U := (va_up U dn x1)) (I := (va_up I dn x2)) (O := (va_up O dn x3)) (G := G) (L := L) (cf := cf) (ct := ct) (fc := fc) (nx := nx) (cd := cd) ⟨(by first | rfl | exact c1), (by first | rfl | exact c3), (by first | rfl | exact c4), (by first | rfl | exact c17), (by first | rfl | exact c18), (by first | rfl | exact c19), (by first | rfl | exact c20), (by first | rfl | exact c21), (by first | rfl | exact c22), (by first | rfl | exact c23), (by first | rfl | exact c24), (by first | rfl | exact c25), (by first | rfl | exact c26), (by first | rfl | exact c27), (fun j hj => by obtain ⟨a1, a2, a3⟩ := hj; try simp only [va_up]; (repeat rw [if_neg (by omega)]); exact fr j ⟨a1, a2, a3⟩)⟩ ⟨⟨⟨by omega, by omega⟩, psw, pnc, (up_R pK (by omega)), (up_R pU (by omega)), (up_R pI (by omega)), (up_R pO (by omega)), pG, pL, pcf, pct, pfc, pnx⟩, phl, phs⟩ ht hle hl3 (by omega)) dX5_readDial_171 cs_X5_102 im_X5_readGrown (by decide) c4 rfl (by decide) (by decide) (by decide) rfl rfl (Nat.le_of_ble_eq_true rfl) (fun _ _ _ q => q.elim) (fun v n2 h2 q => ?_)
            obtain ⟨rfl, q⟩ := q
            rcases q with ⟨d4, e4, tk4, er4, hl4, dr4, rfl, pw4⟩ | ⟨f4, p4, d4, tk4, ki4, st4, en4, er4, dr4, rfl, pw4⟩
            · skip
              refine ⟨rfl, ?_⟩
              dsimp only [Option.toList, List.cons_append, List.nil_append]
              refine r_zret dX5_readDial_174 (nar_z (by omega)) ?_
              first
                | refine ⟨rfl, Or.inl ⟨d4, e4, tk4, ?_, hl4, dr4, rfl, pw4⟩⟩
                | refine ⟨rfl, Or.inr ⟨f4, p4, d4, tk4, ki4, st4, en4, ?_, dr4, rfl, pw4⟩⟩
              unfold pDial
              dsimp only
              rw [if_neg (by omega), if_neg g37]
              rw [er1]
              dsimp only
              rw [er2]
              dsimp only
              rw [er3]
              dsimp only
              rw [Int.toNat_natCast]
              exact er4
            · skip
              refine ⟨rfl, ?_⟩
              dsimp only [Option.toList, List.cons_append, List.nil_append]
              refine r_zret dX5_readDial_174 (nar_z (by omega)) ?_
              first
                | refine ⟨rfl, Or.inl ⟨d4, e4, tk4, ?_, hl4, dr4, rfl, pw4⟩⟩
                | refine ⟨rfl, Or.inr ⟨f4, p4, d4, tk4, ki4, st4, en4, ?_, dr4, rfl, pw4⟩⟩
              unfold pDial
              dsimp only
              rw [if_neg (by omega), if_neg g37]
              rw [er1]
              dsimp only
              rw [er2]
              dsimp only
              rw [er3]
              dsimp only
              rw [Int.toNat_natCast]
              exact er4
          · obtain rfl := hh.symm
            refine ⟨rfl, ?_⟩
            dsimp only [Option.toList, List.cons_append, List.nil_append]
            refine r_if_ne (tgt := 140) dX5_readDial_135 (by decide) ⟨by omega, by omega⟩ (fun g135 => absurd g135 (by omega)) (fun g135 => ?_)
            refine r_iconst dX5_readDial_138 ?_
            refine r_zret dX5_readDial_139 (nar_z (by omega)) ?_
            refine ⟨rfl, Or.inr ⟨f9, p9, ((((dn : Nat) : Int), sw, nc), (hl, hs), (va_up K dn (kindI t le (tkE t le e))), (va_up U dn x1), (va_up I dn x2), O, G, L, cf, ct, fc, nx, cd), _, _, _, _, ?_, ⟨⟨pnd, psw, pnc, (up_R pK (by omega)), (up_R pU (by omega)), (up_R pI (by omega)), pO, pG, pL, pcf, pct, pfc, pnx⟩, phl, phs⟩, rfl, ⟨(by first | rfl | exact c1), (by first | rfl | exact c3), (by first | rfl | exact c4), (by first | rfl | exact c17), (by first | rfl | exact c18), (by first | rfl | exact c19), (by first | rfl | exact c20), (by first | rfl | exact c21), (by first | rfl | exact c22), (by first | rfl | exact c23), (by first | rfl | exact c24), (by first | rfl | exact c25), (by first | rfl | exact c26), (by first | rfl | exact c27), (fun j hj => by obtain ⟨a1, a2, a3⟩ := hj; try simp only [va_up]; (repeat rw [if_neg (by omega)]); exact fr j ⟨a1, a2, a3⟩)⟩⟩⟩
            unfold pDial
            dsimp only
            rw [if_neg (by omega), if_neg g37]
            rw [er1]
            dsimp only
            rw [er2]
            dsimp only
            rw [er3]
        · obtain rfl := hh.symm
          refine ⟨rfl, ?_⟩
          dsimp only [Option.toList, List.cons_append, List.nil_append]
          refine r_if_ne (tgt := 110) dX5_readDial_105 (by decide) ⟨by omega, by omega⟩ (fun g105 => absurd g105 (by omega)) (fun g105 => ?_)
          refine r_iconst dX5_readDial_108 ?_
          refine r_zret dX5_readDial_109 (nar_z (by omega)) ?_
          refine ⟨rfl, Or.inr ⟨f9, p9, ((((dn : Nat) : Int), sw, nc), (hl, hs), (va_up K dn (kindI t le (tkE t le e))), (va_up U dn x1), I, O, G, L, cf, ct, fc, nx, cd), _, _, _, _, ?_, ⟨⟨pnd, psw, pnc, (up_R pK (by omega)), (up_R pU (by omega)), pI, pO, pG, pL, pcf, pct, pfc, pnx⟩, phl, phs⟩, rfl, ⟨(by first | rfl | exact c1), (by first | rfl | exact c3), (by first | rfl | exact c4), (by first | rfl | exact c17), (by first | rfl | exact c18), (by first | rfl | exact c19), (by first | rfl | exact c20), (by first | rfl | exact c21), (by first | rfl | exact c22), (by first | rfl | exact c23), (by first | rfl | exact c24), (by first | rfl | exact c25), (by first | rfl | exact c26), (by first | rfl | exact c27), (fun j hj => by obtain ⟨a1, a2, a3⟩ := hj; try simp only [va_up]; (repeat rw [if_neg (by omega)]); exact fr j ⟨a1, a2, a3⟩)⟩⟩⟩
          unfold pDial
          dsimp only
          rw [if_neg (by omega), if_neg g37]
          rw [er1]
          dsimp only
          rw [er2]
      · obtain rfl := hh.symm
        refine ⟨rfl, ?_⟩
        dsimp only [Option.toList, List.cons_append, List.nil_append]
        refine r_if_ne (tgt := 80) dX5_readDial_75 (by decide) ⟨by omega, by omega⟩ (fun g75 => absurd g75 (by omega)) (fun g75 => ?_)
        refine r_iconst dX5_readDial_78 ?_
        refine r_zret dX5_readDial_79 (nar_z (by omega)) ?_
        refine ⟨rfl, Or.inr ⟨f9, p9, ((((dn : Nat) : Int), sw, nc), (hl, hs), (va_up K dn (kindI t le (tkE t le e))), U, I, O, G, L, cf, ct, fc, nx, cd), _, _, _, _, ?_, ⟨⟨pnd, psw, pnc, (up_R pK (by omega)), pU, pI, pO, pG, pL, pcf, pct, pfc, pnx⟩, phl, phs⟩, rfl, ⟨(by first | rfl | exact c1), (by first | rfl | exact c3), (by first | rfl | exact c4), (by first | rfl | exact c17), (by first | rfl | exact c18), (by first | rfl | exact c19), (by first | rfl | exact c20), (by first | rfl | exact c21), (by first | rfl | exact c22), (by first | rfl | exact c23), (by first | rfl | exact c24), (by first | rfl | exact c25), (by first | rfl | exact c26), (by first | rfl | exact c27), (fun j hj => by obtain ⟨a1, a2, a3⟩ := hj; try simp only [va_up]; (repeat rw [if_neg (by omega)]); exact fr j ⟨a1, a2, a3⟩)⟩⟩⟩
        unfold pDial
        dsimp only
        rw [if_neg (by omega), if_neg g37]
        rw [er1]
    · refine r_aload_n dX5_readDial_40 rfl rfl ?_
      refine r_get (fs := [_, _, _, _]) dX5_readDial_41 fl_X5_9 (by decide) c4 rfl ?_
      refine r_iconst dX5_readDial_44 ?_
      refine r_callV 3 [_] (s_X6_refuse (by rfl)) dX5_readDial_45 cs_X5_68 im_X6_refuse (by decide) rfl rfl (by decide) (by decide) (by decide) rfl rfl (Nat.le_of_ble_eq_true rfl) (fun _ _ _ q => q.elim) (fun v n2 h2 q => ?_)
      obtain ⟨rfl, rfl, hh⟩ := q
      obtain rfl := hh.symm
      refine ⟨rfl, ?_⟩
      dsimp only [Option.toList, List.cons_append, List.nil_append]
      refine r_zret dX5_readDial_48 (nar_z (by omega)) ?_
      refine ⟨rfl, Or.inr ⟨_, _, ((((dn : Nat) : Int), sw, nc), (hl, hs), K, U, I, O, G, L, cf, ct, fc, nx, cd), _, _, _, _, ?_, ⟨⟨pnd, psw, pnc, pK, pU, pI, pO, pG, pL, pcf, pct, pfc, pnx⟩, phl, phs⟩, rfl, ⟨(by first | rfl | exact c1), (by first | rfl | exact c3), (by first | rfl | exact c4), (by first | rfl | exact c17), (by first | rfl | exact c18), (by first | rfl | exact c19), (by first | rfl | exact c20), (by first | rfl | exact c21), (by first | rfl | exact c22), (by first | rfl | exact c23), (by first | rfl | exact c24), (by first | rfl | exact c25), (by first | rfl | exact c26), (by first | rfl | exact c27), (fun j hj => by obtain ⟨a1, a2, a3⟩ := hj; try simp only [va_up]; (repeat rw [if_neg (by omega)]); exact fr j ⟨a1, a2, a3⟩)⟩⟩⟩
      unfold pDial
      dsimp only
      rw [if_neg (by omega), if_pos g37]
  · refine r_aload_n dX5_readDial_14 rfl rfl ?_
    refine r_get (fs := [_, _, _, _]) dX5_readDial_15 fl_X5_9 (by decide) c4 rfl ?_
    refine r_iconst dX5_readDial_18 ?_
    refine r_callV 3 [_] (s_X6_refuse c3) dX5_readDial_19 cs_X5_68 im_X6_refuse (by decide) c3 rfl (by decide) (by decide) (by decide) rfl rfl (Nat.le_of_ble_eq_true rfl) (fun _ _ _ q => q.elim) (fun v n2 h2 q => ?_)
    obtain ⟨rfl, rfl, hh⟩ := q
    obtain rfl := hh.symm
    refine ⟨rfl, ?_⟩
    dsimp only [Option.toList, List.cons_append, List.nil_append]
    refine r_zret dX5_readDial_22 (nar_z (by omega)) ?_
    refine ⟨rfl, Or.inr ⟨_, _, ((((dn : Nat) : Int), sw, nc), (hl, hs), K, U, I, O, G, L, cf, ct, fc, nx, cd), _, _, _, _, ?_, ⟨⟨pnd, psw, pnc, pK, pU, pI, pO, pG, pL, pcf, pct, pfc, pnx⟩, phl, phs⟩, rfl, ⟨(by first | rfl | exact c1), (by first | rfl | exact c3), (by first | rfl | exact c4), (by first | rfl | exact c17), (by first | rfl | exact c18), (by first | rfl | exact c19), (by first | rfl | exact c20), (by first | rfl | exact c21), (by first | rfl | exact c22), (by first | rfl | exact c23), (by first | rfl | exact c24), (by first | rfl | exact c25), (by first | rfl | exact c26), (by first | rfl | exact c27), (fun j hj => by obtain ⟨a1, a2, a3⟩ := hj; try simp only [va_up]; (repeat rw [if_neg (by omega)]); exact fr j ⟨a1, a2, a3⟩)⟩⟩⟩
    unfold pDial
    dsimp only
    rw [if_pos (by omega)]
