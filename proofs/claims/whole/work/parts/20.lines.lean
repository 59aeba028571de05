/-! ===== the port's reader: the other lines, the whole ===== -/
def pSwing (t : Nat → Int) (le : Nat) (d : PD) (e : Nat) : (Int × Nat) ⊕ (PD × Nat) := match d with
  | ((nd, sw, nc), (hl, hs), r) => if hs ≠ 0 then .inl (3, tkS t le e) else match pNum t le 0 240 (tkE t le e) with
    | .inl x => .inl x
    | .inr (v, e2) => .inr (((nd, v, nc), (hl, 1), r), e2)
def limpL (t : Nat → Int) (le : Nat) : Nat → Nat → (Nat → Int) → Nat → (Int × Nat) ⊕ ((Nat → Int) × Nat)
  | 0, _, L, e => .inr (L, e)
  | k + 1, i, L, e => match pSgn t le 30 e with
    | .inl x => .inl x
    | .inr (v, e2) => limpL t le k (i + 1) (va_up L i v) e2
def pLimps (t : Nat → Int) (le : Nat) (d : PD) (e : Nat) : (Int × Nat) ⊕ (PD × Nat) := match d with
  | (a, (hl, hs), K, U, I, O, G, L, r) => if hl ≠ 0 then .inl (3, tkS t le e) else match limpL t le 12 0 L (tkE t le e) with
    | .inl x => .inl x
    | .inr (L2, e2) => .inr ((a, (1, hs), K, U, I, O, G, L2, r), e2)
def pCloud (t : Nat → Int) (le : Nat) (d : PD) (e : Nat) : (Int × Nat) ⊕ (PD × Nat) := match d with
  | ((nd, sw, nc), b, K, U, I, O, G, L, cf, ct, fc, nx, cd) => if 20 ≤ nc then .inl (2, tkS t le e) else match pNum t le 0 364 (tkE t le e) with
    | .inl x => .inl x
    | .inr (dy, e1) => match pNum t le 0 1439 e1 with
      | .inl x => .inl x
      | .inr (m1, e2) => match pNum t le m1 1439 e2 with
        | .inl x => .inl x
        | .inr (m2, e3) => .inr (((nd, sw, nc + 1), b, K, U, I, O, G, L, va_up cf nc.toNat m1, va_up ct nc.toNat m2, va_up fc dy.toNat (nc + 1), va_up nx nc.toNat (fc dy.toNat), va_up cd nc.toNat dy), e3)
def pLine (t : Nat → Int) (le : Nat) (d : PD) (e : Nat) : (Int × Nat) ⊕ (PD × Nat) := if wordAt t le e 0 = true then pDial t le d e else if wordAt t le e 8 = true then pLimps t le d e else if wordAt t le e 9 = true then pSwing t le d e else if wordAt t le e 10 = true then pCloud t le d e else .inl (1, tkS t le e)
def pLines (t : Nat → Int) (le : Nat) : Nat → PD → Nat → (Int × Nat) ⊕ PD
  | 0, d, _ => .inr d
  | k + 1, d, e => if tkK t le e = 0 then .inr d else match pLine t le d e with
    | .inl x => .inl x
    | .inr (d2, e2) => if signAt t le e2 59 = true then pLines t le k d2 (tkE t le e2) else .inl (1, tkS t le e2)
theorem lastI_up (cd : Nat → Int) (n : Nat) (x day : Int) : ∀ k, k ≤ n → lastI (va_up cd n x) day k = lastI cd day k := by
  intro k
  induction k with
  | zero => intro _; rfl
  | succ k ih =>
    intro hk
    unfold lastI
    rw [va_up_ne _ _ (show k ≠ n by omega), ih (by omega)]
theorem numOk {t : Nat → Int} {le e : Nat} {lo hi : Int} (z : decide (numF t le e lo hi = 0) = true) : pNum t le lo hi e = .inr (numAt t le e, tkE t le e) := by unfold pNum; rw [if_pos (of_decide_eq_true z)]
theorem numNo {t : Nat → Int} {le e : Nat} {lo hi : Int} (z : decide (numF t le e lo hi = 0) = false) : pNum t le lo hi e = .inl (numF t le e lo hi, tkS t le e) := by unfold pNum; rw [if_neg (of_decide_eq_false z)]

theorem s_X5_readSwing {h0 h : aH} {t : Nat → Int} {fa pl tk : Int} {le e : Nat} {nd sw nc hl hs : Int} {K U I O G L cf ct fc nx cd : Nat → Int} (pw : PW h0 h t (SC t fa pl tk le e) ((nd, sw, nc), (hl, hs), K, U, I, O, G, L, cf, ct, fc, nx, cd)) (dr : DR ((nd, sw, nc), (hl, hs), K, U, I, O, G, L, cf, ct, fc, nx, cd)) (ht : ∀ j, -128 ≤ t j ∧ t j ≤ 127) (hle : le ≤ 700) (hee : e ≤ le)  : mSem yX5_readSwing cX5_readSwing 1 (some .boolean) 3 0 0 [.ref 4] 97 h (RQ h0 t fa pl le (pSwing t le ((nd, sw, nc), (hl, hs), K, U, I, O, G, L, cf, ct, fc, nx, cd) e)) noX := by
  obtain ⟨c1, c3, c4, c17, c18, c19, c20, c21, c22, c23, c24, c25, c26, c27, fr⟩ := id pw
  obtain ⟨⟨pnd, psw, pnc, pK, pU, pI, pO, pG, pL, pcf, pct, pfc, pnx⟩, phl, phs⟩ := id dr
  have hE1 := (tk_B t hee).2.2.2.1
  have hE2 := (tk_B t hE1).2.2.2.1
  have hE3 := (tk_B t hE2).2.2.2.1
  have hE4 := (tk_B t hE3).2.2.2.1
  refine mSem_of (own := RX5) (name := "readSwing") pn_X5 rfl rfl (Nat.le_of_ble_eq_true rfl) ?_
  refine r_aload_n dX5_readSwing_0 rfl rfl ?_
  refine r_get (fs := [_, _, _, _]) dX5_readSwing_1 fl_X5_23 (by decide) c4 rfl ?_
  refine r_if_eq (tgt := 16) dX5_readSwing_4 (by decide) ⟨by omega, by omega⟩ (fun g4 => ?_) (fun g4 => ?_)
  · refine r_aload_n dX5_readSwing_16 rfl rfl ?_
    refine r_iconst dX5_readSwing_17 ?_
    refine r_put (fs := [_, _, _, _]) (fs2 := [_, _, _, _]) dX5_readSwing_18 fp_X5_23 (by decide) c4 (nar_bool (by omega)) (Nat.le_of_ble_eq_true rfl) rfl ?_
    refine r_aload_n dX5_readSwing_21 rfl rfl ?_
    refine r_get (fs := [_, _, _, _]) dX5_readSwing_22 fl_X5_9 (by decide) rfl rfl ?_
    refine r_callV 3 [] (s_X6_advance (by exact c1) ht (by first | rfl | exact c3) hle (by omega)) dX5_readSwing_25 cs_X5_76 im_X6_advance (by decide) c3 rfl (by decide) (by decide) (by decide) rfl rfl (Nat.le_of_ble_eq_true rfl) (fun _ _ _ q => q.elim) (fun v n2 h2 q => ?_)
    obtain ⟨rfl, rfl, hh⟩ := q
    obtain rfl := hh.symm
    refine ⟨rfl, ?_⟩
    dsimp only [Option.toList, List.cons_append, List.nil_append]
    refine r_aload_n dX5_readSwing_28 rfl rfl ?_
    refine r_get (fs := [_, _, _, _]) dX5_readSwing_29 fl_X5_9 (by decide) rfl rfl ?_
    refine r_iconst dX5_readSwing_32 ?_
    refine r_sipush dX5_readSwing_33 rfl ?_
    refine r_callV 3 [_, _] (s_X6_takeNumber (by exact c1) ht (by first | rfl | exact c3) hle (by omega) (by omega) (by omega)) dX5_readSwing_36 cs_X5_109 im_X6_takeNumber (by decide) rfl rfl (by decide) (by decide) (by decide) rfl rfl (Nat.le_of_ble_eq_true rfl) (fun _ _ _ q => q.elim) (fun v n2 h2 q => ?_)
    obtain ⟨rfl, q⟩ := q
    rcases q with ⟨z1, rfl, hh⟩ | ⟨z1, rfl, hh⟩
    · obtain rfl := hh.symm
      have er1 := numOk z1
      have bx1 := pNum_ok er1
      refine ⟨rfl, ?_⟩
      dsimp only [Option.toList, List.cons_append, List.nil_append]
      refine r_if_ne (tgt := 44) dX5_readSwing_39 (by decide) ⟨by omega, by omega⟩ (fun g39 => ?_) (fun g39 => absurd g39 (by omega))
      refine r_aload_n dX5_readSwing_44 rfl rfl ?_
      refine r_get (fs := [_, _, _, _]) dX5_readSwing_45 fl_X5_15 (by decide) rfl rfl ?_
      refine r_aload_n dX5_readSwing_48 rfl rfl ?_
      refine r_get (fs := [_, _, _, _]) dX5_readSwing_49 fl_X5_9 (by decide) rfl rfl ?_
      refine r_get (fs := [_, _, _, _, _, _, _, _]) dX5_readSwing_52 fl_X5_93 (by decide) rfl rfl ?_
      refine r_put (fs := [_, _, _, _, _, _, _, _, _, _, _, _, _]) (fs2 := [_, _, _, _, _, _, _, _, _, _, _, _, _]) dX5_readSwing_55 fp_X5_127 (by decide) c17 (nar_int _) (Nat.le_of_ble_eq_true rfl) rfl ?_
      refine r_iconst dX5_readSwing_58 ?_
      refine r_zret dX5_readSwing_59 (nar_z (by omega)) ?_
      refine ⟨rfl, Or.inl ⟨((nd, numAt t le (tkE t le e), nc), (hl, 1), K, U, I, O, G, L, cf, ct, fc, nx, cd), tkE t le (tkE t le e), _, ?_, by omega, ⟨⟨pnd, ⟨by omega, by omega⟩, pnc, pK, pU, pI, pO, pG, pL, pcf, pct, pfc, pnx⟩, phl, (Or.inr rfl)⟩, rfl, ⟨(by first | rfl | exact c1), (by first | rfl | exact c3), (by first | rfl | exact c4), (by first | rfl | exact c17), (by first | rfl | exact c18), (by first | rfl | exact c19), (by first | rfl | exact c20), (by first | rfl | exact c21), (by first | rfl | exact c22), (by first | rfl | exact c23), (by first | rfl | exact c24), (by first | rfl | exact c25), (by first | rfl | exact c26), (by first | rfl | exact c27), (fun j hj => by obtain ⟨a1, a2, a3⟩ := hj; try simp only [va_up]; (repeat rw [if_neg (by omega)]); exact fr j ⟨a1, a2, a3⟩)⟩⟩⟩
      unfold pSwing
      dsimp only
      rw [if_neg (fun q => q g4), er1]
    · obtain rfl := hh.symm
      have er1 := numNo z1
      refine ⟨rfl, ?_⟩
      dsimp only [Option.toList, List.cons_append, List.nil_append]
      refine r_if_ne (tgt := 44) dX5_readSwing_39 (by decide) ⟨by omega, by omega⟩ (fun g39 => absurd g39 (by omega)) (fun g39 => ?_)
      refine r_iconst dX5_readSwing_42 ?_
      refine r_zret dX5_readSwing_43 (nar_z (by omega)) ?_
      refine ⟨rfl, Or.inr ⟨_, _, ((nd, sw, nc), (hl, 1), K, U, I, O, G, L, cf, ct, fc, nx, cd), _, _, _, _, ?_, ⟨⟨pnd, psw, pnc, pK, pU, pI, pO, pG, pL, pcf, pct, pfc, pnx⟩, phl, (Or.inr rfl)⟩, rfl, ⟨(by first | rfl | exact c1), (by first | rfl | exact c3), (by first | rfl | exact c4), (by first | rfl | exact c17), (by first | rfl | exact c18), (by first | rfl | exact c19), (by first | rfl | exact c20), (by first | rfl | exact c21), (by first | rfl | exact c22), (by first | rfl | exact c23), (by first | rfl | exact c24), (by first | rfl | exact c25), (by first | rfl | exact c26), (by first | rfl | exact c27), (fun j hj => by obtain ⟨a1, a2, a3⟩ := hj; try simp only [va_up]; (repeat rw [if_neg (by omega)]); exact fr j ⟨a1, a2, a3⟩)⟩⟩⟩
      unfold pSwing
      dsimp only
      rw [if_neg (fun q => q g4), er1]
  · refine r_aload_n dX5_readSwing_7 rfl rfl ?_
    refine r_get (fs := [_, _, _, _]) dX5_readSwing_8 fl_X5_9 (by decide) c4 rfl ?_
    refine r_iconst dX5_readSwing_11 ?_
    refine r_callV 3 [_] (s_X6_refuse c3) dX5_readSwing_12 cs_X5_68 im_X6_refuse (by decide) c3 rfl (by decide) (by decide) (by decide) rfl rfl (Nat.le_of_ble_eq_true rfl) (fun _ _ _ q => q.elim) (fun v n2 h2 q => ?_)
    obtain ⟨rfl, rfl, hh⟩ := q
    obtain rfl := hh.symm
    refine ⟨rfl, ?_⟩
    dsimp only [Option.toList, List.cons_append, List.nil_append]
    refine r_zret dX5_readSwing_15 (nar_z (by omega)) ?_
    refine ⟨rfl, Or.inr ⟨_, _, ((nd, sw, nc), (hl, hs), K, U, I, O, G, L, cf, ct, fc, nx, cd), _, _, _, _, ?_, ⟨⟨pnd, psw, pnc, pK, pU, pI, pO, pG, pL, pcf, pct, pfc, pnx⟩, phl, phs⟩, rfl, ⟨(by first | rfl | exact c1), (by first | rfl | exact c3), (by first | rfl | exact c4), (by first | rfl | exact c17), (by first | rfl | exact c18), (by first | rfl | exact c19), (by first | rfl | exact c20), (by first | rfl | exact c21), (by first | rfl | exact c22), (by first | rfl | exact c23), (by first | rfl | exact c24), (by first | rfl | exact c25), (by first | rfl | exact c26), (by first | rfl | exact c27), (fun j hj => by obtain ⟨a1, a2, a3⟩ := hj; try simp only [va_up]; (repeat rw [if_neg (by omega)]); exact fr j ⟨a1, a2, a3⟩)⟩⟩⟩
    unfold pSwing
    dsimp only
    rw [if_pos g4]

theorem l_X5_readLimps {h0 : aH} {t : Nat → Int} {fa pl : Int} {le : Nat} {nd sw nc hs : Int} {K U I O G cf ct fc nx cd : Nat → Int} (ht : ∀ j, -128 ≤ t j ∧ t j ≤ 127) (hle : le ≤ 700) {d : Nat} (hdd : 4 ≤ d) : ∀ (k i : Nat) (h : aH) (L : Nat → Int) (e : Nat) (tk : Int), i + k = 12 → e ≤ le → PW h0 h t (SC t fa pl tk le e) ((nd, sw, nc), (1, hs), K, U, I, O, G, L, cf, ct, fc, nx, cd) → DR ((nd, sw, nc), (1, hs), K, U, I, O, G, L, cf, ct, fc, nx, cd) →
    Ev RX5 "readLimps" cX5_readLimps 2 (some .boolean) d 0 0 (RQ h0 t fa pl le (match limpL t le k i L e with
      | .inl x => .inl x
      | .inr (L2, e2) => .inr (((nd, sw, nc), (1, hs), K, U, I, O, G, L2, cf, ct, fc, nx, cd), e2))) noX 97 h 30 [(0, .ref 4), (1, iv i)] [] := by
  intro k
  induction k with
  | zero =>
    intro i h L e tk hi hee pw dr
    obtain ⟨c1, c3, c4, c17, c18, c19, c20, c21, c22, c23, c24, c25, c26, c27, fr⟩ := id pw
    obtain ⟨⟨pnd, psw, pnc, pK, pU, pI, pO, pG, pL, pcf, pct, pfc, pnx⟩, phl, phs⟩ := id dr
    have hE1 := (tk_B t hee).2.2.2.1
    have hE2 := (tk_B t hE1).2.2.2.1
    have hE3 := (tk_B t hE2).2.2.2.1
    have hE4 := (tk_B t hE3).2.2.2.1
    refine r_iload_n dX5_readLimps_30 rfl rfl ?_
    refine r_bipush dX5_readLimps_31 rfl ?_
    refine r_icmp_ge (tgt := 72) dX5_readLimps_33 (by decide) ⟨by omega, by omega⟩ ⟨by omega, by omega⟩ (fun g33 => ?_) (fun g33 => absurd g33 (by omega))
    refine r_iconst dX5_readLimps_72 ?_
    refine r_zret dX5_readLimps_73 (nar_z (by omega)) ?_
    exact ⟨rfl, Or.inl ⟨_, _, _, rfl, hee, dr, rfl, pw⟩⟩
  | succ k ih =>
    intro i h L e tk hi hee pw dr
    obtain ⟨c1, c3, c4, c17, c18, c19, c20, c21, c22, c23, c24, c25, c26, c27, fr⟩ := id pw
    obtain ⟨⟨pnd, psw, pnc, pK, pU, pI, pO, pG, pL, pcf, pct, pfc, pnx⟩, phl, phs⟩ := id dr
    have hE1 := (tk_B t hee).2.2.2.1
    have hE2 := (tk_B t hE1).2.2.2.1
    have hE3 := (tk_B t hE2).2.2.2.1
    have hE4 := (tk_B t hE3).2.2.2.1
    unfold limpL
    refine r_iload_n dX5_readLimps_30 rfl rfl ?_
    refine r_bipush dX5_readLimps_31 rfl ?_
    refine r_icmp_ge (tgt := 72) dX5_readLimps_33 (by decide) ⟨by omega, by omega⟩ ⟨by omega, by omega⟩ (fun g33 => absurd g33 (by omega)) (fun g33 => ?_)
    refine r_aload_n dX5_readLimps_36 rfl rfl ?_
    refine r_get (fs := [_, _, _, _]) dX5_readLimps_37 fl_X5_9 (by decide) c4 rfl ?_
    refine r_bipush dX5_readLimps_40 rfl ?_
    refine r_callV 3 [_] (s_X6_takeSigned c1 ht (by first | rfl | exact c3) hle (by omega) (by omega)) dX5_readLimps_42 cs_X5_87 im_X6_takeSigned (by decide) c3 rfl (by omega) (by decide) (by decide) rfl rfl (Nat.le_of_ble_eq_true rfl) (fun _ _ _ q => q.elim) (fun v n2 h2 q => ?_)
    obtain ⟨rfl, q⟩ := q
    rcases q with ⟨x1, e1, er1, hl1, rfl, hh⟩ | ⟨f9, p9, tk9, ki9, st9, en9, er1, rfl, hh⟩
    · obtain rfl := hh.symm
      have bx1 := pSgn_ok er1
      refine ⟨rfl, ?_⟩
      dsimp only [Option.toList, List.cons_append, List.nil_append]
      refine r_if_ne (tgt := 50) dX5_readLimps_45 (by decide) ⟨by omega, by omega⟩ (fun g45 => ?_) (fun g45 => absurd g45 (by omega))
      refine r_aload_n dX5_readLimps_50 rfl rfl ?_
      refine r_get (fs := [_, _, _, _]) dX5_readLimps_51 fl_X5_15 (by decide) c4 rfl ?_
      refine r_get (fs := [_, _, _, _, _, _, _, _, _, _, _, _, _]) dX5_readLimps_54 fl_X5_125 (by decide) c17 rfl ?_
      refine r_iload_n dX5_readLimps_57 rfl rfl ?_
      refine r_aload_n dX5_readLimps_58 rfl rfl ?_
      refine r_get (fs := [_, _, _, _]) dX5_readLimps_59 fl_X5_9 (by decide) c4 rfl ?_
      refine r_get (fs := [_, _, _, _, _, _, _, _]) dX5_readLimps_62 fl_X5_93 (by decide) rfl rfl ?_
      refine r_ast dX5_readLimps_65 (by decide) c23 (by omega) (by omega) (by decide) ?_
      rw [Int.toNat_natCast]
      refine r_iinc (lv2 := [(0, _), (1, _)]) dX5_readLimps_66 (by decide) rfl rfl rfl ?_
      refine r_goto (tgt := 30) dX5_readLimps_69 (by decide) ?_
      rw [er1, show (i : Int) + 1 = ((i + 1 : Nat) : Int) by omega]
      exact ih (i + 1) _ (va_up L i x1) e1 x1 (by omega) hl1 ⟨(by first | rfl | exact c1), (by first | rfl | exact c3), (by first | rfl | exact c4), (by first | rfl | exact c17), (by first | rfl | exact c18), (by first | rfl | exact c19), (by first | rfl | exact c20), (by first | rfl | exact c21), (by first | rfl | exact c22), (by first | rfl | exact c23), (by first | rfl | exact c24), (by first | rfl | exact c25), (by first | rfl | exact c26), (by first | rfl | exact c27), (fun j hj => by obtain ⟨a1, a2, a3⟩ := hj; try simp only [va_up]; (repeat rw [if_neg (by omega)]); exact fr j ⟨a1, a2, a3⟩)⟩ ⟨⟨pnd, psw, pnc, pK, pU, pI, pO, pG, (up_R pL (by omega)), pcf, pct, pfc, pnx⟩, (Or.inr rfl), phs⟩
    · obtain rfl := hh.symm
      refine ⟨rfl, ?_⟩
      dsimp only [Option.toList, List.cons_append, List.nil_append]
      refine r_if_ne (tgt := 50) dX5_readLimps_45 (by decide) ⟨by omega, by omega⟩ (fun g45 => absurd g45 (by omega)) (fun g45 => ?_)
      refine r_iconst dX5_readLimps_48 ?_
      refine r_zret dX5_readLimps_49 (nar_z (by omega)) ?_
      rw [er1]
      exact ⟨rfl, Or.inr ⟨_, _, ((nd, sw, nc), (1, hs), K, U, I, O, G, L, cf, ct, fc, nx, cd), _, _, _, _, rfl, ⟨⟨pnd, psw, pnc, pK, pU, pI, pO, pG, pL, pcf, pct, pfc, pnx⟩, (Or.inr rfl), phs⟩, rfl, ⟨(by first | rfl | exact c1), (by first | rfl | exact c3), (by first | rfl | exact c4), (by first | rfl | exact c17), (by first | rfl | exact c18), (by first | rfl | exact c19), (by first | rfl | exact c20), (by first | rfl | exact c21), (by first | rfl | exact c22), (by first | rfl | exact c23), (by first | rfl | exact c24), (by first | rfl | exact c25), (by first | rfl | exact c26), (by first | rfl | exact c27), (fun j hj => by obtain ⟨a1, a2, a3⟩ := hj; try simp only [va_up]; (repeat rw [if_neg (by omega)]); exact fr j ⟨a1, a2, a3⟩)⟩⟩⟩

theorem s_X5_readLimps {h0 h : aH} {t : Nat → Int} {fa pl tk : Int} {le e : Nat} {nd sw nc hl hs : Int} {K U I O G L cf ct fc nx cd : Nat → Int} (pw : PW h0 h t (SC t fa pl tk le e) ((nd, sw, nc), (hl, hs), K, U, I, O, G, L, cf, ct, fc, nx, cd)) (dr : DR ((nd, sw, nc), (hl, hs), K, U, I, O, G, L, cf, ct, fc, nx, cd)) (ht : ∀ j, -128 ≤ t j ∧ t j ≤ 127) (hle : le ≤ 700) (hee : e ≤ le)  : mSem yX5_readLimps cX5_readLimps 2 (some .boolean) 4 0 0 [.ref 4] 97 h (RQ h0 t fa pl le (pLimps t le ((nd, sw, nc), (hl, hs), K, U, I, O, G, L, cf, ct, fc, nx, cd) e)) noX := by
  obtain ⟨c1, c3, c4, c17, c18, c19, c20, c21, c22, c23, c24, c25, c26, c27, fr⟩ := id pw
  obtain ⟨⟨pnd, psw, pnc, pK, pU, pI, pO, pG, pL, pcf, pct, pfc, pnx⟩, phl, phs⟩ := id dr
  have hE1 := (tk_B t hee).2.2.2.1
  have hE2 := (tk_B t hE1).2.2.2.1
  have hE3 := (tk_B t hE2).2.2.2.1
  have hE4 := (tk_B t hE3).2.2.2.1
  refine mSem_of (own := RX5) (name := "readLimps") pn_X5 rfl rfl (Nat.le_of_ble_eq_true rfl) ?_
  refine r_aload_n dX5_readLimps_0 rfl rfl ?_
  refine r_get (fs := [_, _, _, _]) dX5_readLimps_1 fl_X5_19 (by decide) c4 rfl ?_
  refine r_if_eq (tgt := 16) dX5_readLimps_4 (by decide) ⟨by omega, by omega⟩ (fun g4 => ?_) (fun g4 => ?_)
  · refine r_aload_n dX5_readLimps_16 rfl rfl ?_
    refine r_iconst dX5_readLimps_17 ?_
    refine r_put (fs := [_, _, _, _]) (fs2 := [_, _, _, _]) dX5_readLimps_18 fp_X5_19 (by decide) c4 (nar_bool (by omega)) (Nat.le_of_ble_eq_true rfl) rfl ?_
    refine r_aload_n dX5_readLimps_21 rfl rfl ?_
    refine r_get (fs := [_, _, _, _]) dX5_readLimps_22 fl_X5_9 (by decide) rfl rfl ?_
    refine r_callV 3 [] (s_X6_advance (by exact c1) ht (by first | rfl | exact c3) hle (by omega)) dX5_readLimps_25 cs_X5_76 im_X6_advance (by decide) c3 rfl (by decide) (by decide) (by decide) rfl rfl (Nat.le_of_ble_eq_true rfl) (fun _ _ _ q => q.elim) (fun v n2 h2 q => ?_)
    obtain ⟨rfl, rfl, hh⟩ := q
    obtain rfl := hh.symm
    refine ⟨rfl, ?_⟩
    dsimp only [Option.toList, List.cons_append, List.nil_append]
    refine r_iconst dX5_readLimps_28 ?_
    refine r_istore_n (lv2 := [(0, _), (1, _)]) dX5_readLimps_29 rfl (by decide) rfl rfl ?_
    unfold pLimps
    dsimp only
    rw [if_neg (fun q => q g4)]
    exact l_X5_readLimps (d := 4) (h0 := h0) (fa := fa) (pl := pl) ht hle (by decide) 12 0 _ L (tkE t le e) tk (by decide) (by omega) ⟨(by first | rfl | exact c1), (by first | rfl | exact c3), (by first | rfl | exact c4), (by first | rfl | exact c17), (by first | rfl | exact c18), (by first | rfl | exact c19), (by first | rfl | exact c20), (by first | rfl | exact c21), (by first | rfl | exact c22), (by first | rfl | exact c23), (by first | rfl | exact c24), (by first | rfl | exact c25), (by first | rfl | exact c26), (by first | rfl | exact c27), (fun j hj => by obtain ⟨a1, a2, a3⟩ := hj; try simp only [va_up]; (repeat rw [if_neg (by omega)]); exact fr j ⟨a1, a2, a3⟩)⟩ ⟨⟨pnd, psw, pnc, pK, pU, pI, pO, pG, pL, pcf, pct, pfc, pnx⟩, (Or.inr rfl), phs⟩
  · refine r_aload_n dX5_readLimps_7 rfl rfl ?_
    refine r_get (fs := [_, _, _, _]) dX5_readLimps_8 fl_X5_9 (by decide) c4 rfl ?_
    refine r_iconst dX5_readLimps_11 ?_
    refine r_callV 3 [_] (s_X6_refuse c3) dX5_readLimps_12 cs_X5_68 im_X6_refuse (by decide) c3 rfl (by decide) (by decide) (by decide) rfl rfl (Nat.le_of_ble_eq_true rfl) (fun _ _ _ q => q.elim) (fun v n2 h2 q => ?_)
    obtain ⟨rfl, rfl, hh⟩ := q
    obtain rfl := hh.symm
    refine ⟨rfl, ?_⟩
    dsimp only [Option.toList, List.cons_append, List.nil_append]
    refine r_zret dX5_readLimps_15 (nar_z (by omega)) ?_
    refine ⟨rfl, Or.inr ⟨_, _, ((nd, sw, nc), (hl, hs), K, U, I, O, G, L, cf, ct, fc, nx, cd), _, _, _, _, ?_, ⟨⟨pnd, psw, pnc, pK, pU, pI, pO, pG, pL, pcf, pct, pfc, pnx⟩, phl, phs⟩, rfl, ⟨(by first | rfl | exact c1), (by first | rfl | exact c3), (by first | rfl | exact c4), (by first | rfl | exact c17), (by first | rfl | exact c18), (by first | rfl | exact c19), (by first | rfl | exact c20), (by first | rfl | exact c21), (by first | rfl | exact c22), (by first | rfl | exact c23), (by first | rfl | exact c24), (by first | rfl | exact c25), (by first | rfl | exact c26), (by first | rfl | exact c27), (fun j hj => by obtain ⟨a1, a2, a3⟩ := hj; try simp only [va_up]; (repeat rw [if_neg (by omega)]); exact fr j ⟨a1, a2, a3⟩)⟩⟩⟩
    unfold pLimps
    dsimp only
    rw [if_pos g4]

theorem s_X4_addCloud {h : aH} {nd sw nc : Int} {cf ct fc nx : Nat → Int} (c17 : h 17 = P17 nd sw nc) (c24 : h 24 = .inl (0, 20, cf)) (c25 : h 25 = .inl (0, 20, ct)) (c26 : h 26 = .inl (0, 365, fc)) (c27 : h 27 = .inl (0, 20, nx)) {dy m1 m2 : Int} (hnc : 0 ≤ nc ∧ nc < 20) (hdy : 0 ≤ dy ∧ dy < 365) : mSem yX4_addCloud cX4_addCloud 4 none 0 0 0 [.ref 17, iv dy, iv m1, iv m2] 97 h (RetV (va_up (va_up (va_up (va_up (va_up h 24 (.inl (0, 20, va_up cf nc.toNat m1))) 25 (.inl (0, 20, va_up ct nc.toNat m2))) 27 (.inl (0, 20, va_up nx nc.toNat (fc dy.toNat)))) 17 (P17 nd sw (nc + 1))) 26 (.inl (0, 365, va_up fc dy.toNat (nc + 1))))) noX := by
  refine mSem_of (own := RX4) (name := "addCloud") pn_X4 rfl rfl (Nat.le_of_ble_eq_true rfl) ?_
  refine r_aload_n dX4_addCloud_0 rfl rfl ?_
  refine r_get (fs := [_, _, _, _, _, _, _, _, _, _, _, _, _]) dX4_addCloud_1 fl_X4_18 (by decide) c17 rfl ?_
  refine r_bipush dX4_addCloud_4 rfl ?_
  refine r_icmp_lt (tgt := 10) dX4_addCloud_6 (by decide) ⟨by omega, by omega⟩ ⟨by omega, by omega⟩ (fun g6 => ?_) (fun g6 => absurd g6 (by omega))
  refine r_aload_n dX4_addCloud_10 rfl rfl ?_
  refine r_get (fs := [_, _, _, _, _, _, _, _, _, _, _, _, _]) dX4_addCloud_11 fl_X4_40 (by decide) c17 rfl ?_
  refine r_aload_n dX4_addCloud_14 rfl rfl ?_
  refine r_get (fs := [_, _, _, _, _, _, _, _, _, _, _, _, _]) dX4_addCloud_15 fl_X4_18 (by decide) c17 rfl ?_
  refine r_iload_n dX4_addCloud_18 rfl rfl ?_
  refine r_ast dX4_addCloud_19 (by decide) c24 (by omega) (by omega) (by decide) ?_
  refine r_aload_n dX4_addCloud_20 rfl rfl ?_
  refine r_get (fs := [_, _, _, _, _, _, _, _, _, _, _, _, _]) dX4_addCloud_21 fl_X4_43 (by decide) c17 rfl ?_
  refine r_aload_n dX4_addCloud_24 rfl rfl ?_
  refine r_get (fs := [_, _, _, _, _, _, _, _, _, _, _, _, _]) dX4_addCloud_25 fl_X4_18 (by decide) c17 rfl ?_
  refine r_iload_n dX4_addCloud_28 rfl rfl ?_
  refine r_ast dX4_addCloud_29 (by decide) c25 (by omega) (by omega) (by decide) ?_
  refine r_aload_n dX4_addCloud_30 rfl rfl ?_
  refine r_get (fs := [_, _, _, _, _, _, _, _, _, _, _, _, _]) dX4_addCloud_31 fl_X4_49 (by decide) c17 rfl ?_
  refine r_aload_n dX4_addCloud_34 rfl rfl ?_
  refine r_get (fs := [_, _, _, _, _, _, _, _, _, _, _, _, _]) dX4_addCloud_35 fl_X4_18 (by decide) c17 rfl ?_
  refine r_aload_n dX4_addCloud_38 rfl rfl ?_
  refine r_get (fs := [_, _, _, _, _, _, _, _, _, _, _, _, _]) dX4_addCloud_39 fl_X4_46 (by decide) c17 rfl ?_
  refine r_iload_n dX4_addCloud_42 rfl rfl ?_
  refine r_ald dX4_addCloud_43 (by decide) c26 (by omega) (by omega) (by decide) ?_
  refine r_ast dX4_addCloud_44 (by decide) c27 (by omega) (by omega) (by decide) ?_
  refine r_aload_n dX4_addCloud_45 rfl rfl ?_
  refine r_dup dX4_addCloud_46 rfl ?_
  refine r_get (fs := [_, _, _, _, _, _, _, _, _, _, _, _, _]) dX4_addCloud_47 fl_X4_18 (by decide) c17 rfl ?_
  refine r_iconst dX4_addCloud_50 ?_
  refine r_iadd dX4_addCloud_51 ?_
  refine r_put (fs := [_, _, _, _, _, _, _, _, _, _, _, _, _]) (fs2 := [_, _, _, _, _, _, _, _, _, _, _, _, _]) dX4_addCloud_52 fp_X4_18 (by decide) c17 (nar_int _) (Nat.le_of_ble_eq_true rfl) rfl ?_
  refine r_aload_n dX4_addCloud_55 rfl rfl ?_
  refine r_get (fs := [_, _, _, _, _, _, _, _, _, _, _, _, _]) dX4_addCloud_56 fl_X4_46 (by decide) rfl rfl ?_
  refine r_iload_n dX4_addCloud_59 rfl rfl ?_
  refine r_aload_n dX4_addCloud_60 rfl rfl ?_
  refine r_get (fs := [_, _, _, _, _, _, _, _, _, _, _, _, _]) dX4_addCloud_61 fl_X4_18 (by decide) rfl rfl ?_
  refine r_ast dX4_addCloud_64 (by decide) c26 (by omega) (by omega) (by decide) ?_
  refine r_vret dX4_addCloud_65 ?_
  exact ⟨rfl, rfl, rfl⟩

theorem s_X4_clear {h : aH} {nd sw nc : Int} {L fc : Nat → Int} (c17 : h 17 = P17 nd sw nc) (c23 : h 23 = .inl (0, 12, L)) (c26 : h 26 = .inl (0, 365, fc))  : mSem yX4_clear cX4_clear 1 none 1 0 0 [.ref 17] 97 h (RetV (va_up (va_up (va_up h 17 (P17 0 120 0)) 23 (.inl (0, 12, fillF L 0 12))) 26 (.inl (0, 365, fillF fc 0 365)))) noX := by
  refine mSem_of (own := RX4) (name := "clear") pn_X4 rfl rfl (Nat.le_of_ble_eq_true rfl) ?_
  refine r_aload_n dX4_clear_0 rfl rfl ?_
  refine r_iconst dX4_clear_1 ?_
  refine r_put (fs := [_, _, _, _, _, _, _, _, _, _, _, _, _]) (fs2 := [_, _, _, _, _, _, _, _, _, _, _, _, _]) dX4_clear_2 fp_X4_9 (by decide) c17 (nar_int _) (Nat.le_of_ble_eq_true rfl) rfl ?_
  refine r_aload_n dX4_clear_5 rfl rfl ?_
  refine r_bipush dX4_clear_6 rfl ?_
  refine r_put (fs := [_, _, _, _, _, _, _, _, _, _, _, _, _]) (fs2 := [_, _, _, _, _, _, _, _, _, _, _, _, _]) dX4_clear_8 fp_X4_15 (by decide) rfl (nar_int _) (Nat.le_of_ble_eq_true rfl) rfl ?_
  refine r_aload_n dX4_clear_11 rfl rfl ?_
  refine r_iconst dX4_clear_12 ?_
  refine r_put (fs := [_, _, _, _, _, _, _, _, _, _, _, _, _]) (fs2 := [_, _, _, _, _, _, _, _, _, _, _, _, _]) dX4_clear_13 fp_X4_18 (by decide) rfl (nar_int _) (Nat.le_of_ble_eq_true rfl) rfl ?_
  refine r_aload_n dX4_clear_16 rfl rfl ?_
  refine r_get (fs := [_, _, _, _, _, _, _, _, _, _, _, _, _]) dX4_clear_17 fl_X4_37 (by decide) rfl rfl ?_
  refine r_iconst dX4_clear_20 ?_
  refine r_callS [.ref 23, _] (s_fill_23 (by exact c23)) dX4_clear_21 cs_X4_52 sm_J7_fill_53178 (by decide) (by decide) (by decide) rfl rfl (Nat.le_of_ble_eq_true rfl) (fun _ _ _ q => q.elim) (fun v n2 h2 q => ?_)
  obtain ⟨rfl, rfl, hh⟩ := q
  obtain rfl := hh.symm
  refine ⟨rfl, ?_⟩
  dsimp only [Option.toList, List.cons_append, List.nil_append]
  refine r_aload_n dX4_clear_24 rfl rfl ?_
  refine r_get (fs := [_, _, _, _, _, _, _, _, _, _, _, _, _]) dX4_clear_25 fl_X4_46 (by decide) rfl rfl ?_
  refine r_iconst dX4_clear_28 ?_
  refine r_callS [.ref 26, _] (s_fill_26 (by exact c26)) dX4_clear_29 cs_X4_52 sm_J7_fill_53178 (by decide) (by decide) (by decide) rfl rfl (Nat.le_of_ble_eq_true rfl) (fun _ _ _ q => q.elim) (fun v n2 h2 q => ?_)
  obtain ⟨rfl, rfl, hh⟩ := q
  obtain rfl := hh.symm
  refine ⟨rfl, ?_⟩
  dsimp only [Option.toList, List.cons_append, List.nil_append]
  refine r_vret dX4_clear_32 ?_
  exact ⟨rfl, rfl, by simp only [bx_uu]⟩
