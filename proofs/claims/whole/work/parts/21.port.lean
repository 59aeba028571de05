/-! ===== the port's reader: clouds, a line, all lines ===== -/
theorem cloud_DR {nd sw nc hl hs : Int} {K U I O G L cf ct fc nx cd : Nat → Int} (dr : DR ((nd, sw, nc), (hl, hs), K, U, I, O, G, L, cf, ct, fc, nx, cd)) {dy m1 m2 : Int} (hnc : nc < 20) (hdy : 0 ≤ dy ∧ dy ≤ 364) (h1 : 0 ≤ m1 ∧ m1 ≤ 1439) (h2 : m1 ≤ m2 ∧ m2 ≤ 1439) : DR ((nd, sw, nc + 1), (hl, hs), K, U, I, O, G, L, va_up cf nc.toNat m1, va_up ct nc.toNat m2, va_up fc dy.toNat (nc + 1), va_up nx nc.toNat (fc dy.toNat), va_up cd nc.toNat dy) := by
  obtain ⟨⟨pnd, psw, pnc, pK, pU, pI, pO, pG, pL, pcf, pct, pfc, pnx⟩, phl, phs⟩ := id dr
  refine ⟨⟨pnd, psw, ⟨by omega, by omega⟩, pK, pU, pI, pO, pG, pL, up_L pcf (by omega), up_L pct (by omega), ?_, ?_⟩, phl, phs⟩
  · intro j hj
    rw [show (nc + 1).toNat = nc.toNat + 1 by omega]
    unfold lastI
    rw [va_up_self]
    by_cases q : dy = (j : Int)
    · rw [if_pos q, show dy.toNat = j by omega, va_up_self]
      omega
    · rw [if_neg q, va_up_ne _ _ (by omega), lastI_up _ _ _ _ _ (Nat.le_refl _)]
      exact pfc j hj
  · intro j hj
    by_cases q : j = nc.toNat
    · subst q
      rw [va_up_self, va_up_self, lastI_up _ _ _ _ _ (Nat.le_refl _)]
      have := pfc dy.toNat (by omega)
      rwa [show ((dy.toNat : Nat) : Int) = dy by omega] at this
    · rw [va_up_ne _ _ q, va_up_ne _ _ q, lastI_up _ _ _ _ _ (by omega)]
      exact pnx j (by omega)
def IQ (h0 : aH) (t : Nat → Int) (fa pl : Int) (le : Nat) (r : (Int × Nat) ⊕ PD) : Option Value → Nat → aH → Prop := fun v n' h' => n' = 97 ∧ ((∃ d2 e2 tk2, r = .inr d2 ∧ e2 ≤ le ∧ DR d2 ∧ v = some (iv 1) ∧ PW h0 h' t (SC t fa pl tk2 le e2) d2) ∨ (∃ f p d2 tk2 ki st en, r = .inl (f, p) ∧ DR d2 ∧ v = some (iv 0) ∧ PW h0 h' t (SCN f p tk2 le ki st en) d2))

theorem s_X5_readCloud {h0 h : aH} {t : Nat → Int} {fa pl tk : Int} {le e : Nat} {nd sw nc hl hs : Int} {K U I O G L cf ct fc nx cd : Nat → Int} (pw : PW h0 h t (SC t fa pl tk le e) ((nd, sw, nc), (hl, hs), K, U, I, O, G, L, cf, ct, fc, nx, cd)) (dr : DR ((nd, sw, nc), (hl, hs), K, U, I, O, G, L, cf, ct, fc, nx, cd)) (ht : ∀ j, -128 ≤ t j ∧ t j ≤ 127) (hle : le ≤ 700) (hee : e ≤ le)  : mSem yX5_readCloud cX5_readCloud 3 (some .boolean) 3 0 0 [.ref 4] 97 h (RQ h0 t fa pl le (pCloud t le ((nd, sw, nc), (hl, hs), K, U, I, O, G, L, cf, ct, fc, nx, cd) e)) noX := by
  obtain ⟨c1, c3, c4, c17, c18, c19, c20, c21, c22, c23, c24, c25, c26, c27, fr⟩ := id pw
  obtain ⟨⟨pnd, psw, pnc, pK, pU, pI, pO, pG, pL, pcf, pct, pfc, pnx⟩, phl, phs⟩ := id dr
  have hE1 := (tk_B t hee).2.2.2.1
  have hE2 := (tk_B t hE1).2.2.2.1
  have hE3 := (tk_B t hE2).2.2.2.1
  have hE4 := (tk_B t hE3).2.2.2.1
  refine mSem_of (own := RX5) (name := "readCloud") pn_X5 rfl rfl (Nat.le_of_ble_eq_true rfl) ?_
  refine r_aload_n dX5_readCloud_0 rfl rfl ?_
  refine r_get (fs := [_, _, _, _]) dX5_readCloud_1 fl_X5_15 (by decide) c4 rfl ?_
  refine r_get (fs := [_, _, _, _, _, _, _, _, _, _, _, _, _]) dX5_readCloud_4 fl_X5_129 (by decide) c17 rfl ?_
  refine r_bipush dX5_readCloud_7 rfl ?_
  refine r_icmp_lt (tgt := 21) dX5_readCloud_9 (by decide) ⟨by omega, by omega⟩ ⟨by omega, by omega⟩ (fun g9 => ?_) (fun g9 => ?_)
  · refine r_aload_n dX5_readCloud_21 rfl rfl ?_
    refine r_get (fs := [_, _, _, _]) dX5_readCloud_22 fl_X5_9 (by decide) c4 rfl ?_
    refine r_callV 3 [] (s_X6_advance c1 ht (by first | rfl | exact c3) hle (by omega)) dX5_readCloud_25 cs_X5_76 im_X6_advance (by decide) c3 rfl (by decide) (by decide) (by decide) rfl rfl (Nat.le_of_ble_eq_true rfl) (fun _ _ _ q => q.elim) (fun v n2 h2 q => ?_)
    obtain ⟨rfl, rfl, hh⟩ := q
    obtain rfl := hh.symm
    refine ⟨rfl, ?_⟩
    dsimp only [Option.toList, List.cons_append, List.nil_append]
    refine r_aload_n dX5_readCloud_28 rfl rfl ?_
    refine r_get (fs := [_, _, _, _]) dX5_readCloud_29 fl_X5_9 (by decide) c4 rfl ?_
    refine r_iconst dX5_readCloud_32 ?_
    refine r_sipush dX5_readCloud_33 rfl ?_
    refine r_callV 3 [_, _] (s_X6_takeNumber (by exact c1) ht (by first | rfl | exact c3) hle (by omega) (by omega) (by omega)) dX5_readCloud_36 cs_X5_109 im_X6_takeNumber (by decide) rfl rfl (by decide) (by decide) (by decide) rfl rfl (Nat.le_of_ble_eq_true rfl) (fun _ _ _ q => q.elim) (fun v n2 h2 q => ?_)
    obtain ⟨rfl, q⟩ := q
    rcases q with ⟨z1, rfl, hh⟩ | ⟨z1, rfl, hh⟩
    · obtain rfl := hh.symm
      have er1 := numOk z1
      have bx1 := pNum_ok er1
      refine ⟨rfl, ?_⟩
      dsimp only [Option.toList, List.cons_append, List.nil_append]
      refine r_if_ne (tgt := 44) dX5_readCloud_39 (by decide) ⟨by omega, by omega⟩ (fun g39 => ?_) (fun g39 => absurd g39 (by omega))
      refine r_aload_n dX5_readCloud_44 rfl rfl ?_
      refine r_get (fs := [_, _, _, _]) dX5_readCloud_45 fl_X5_9 (by decide) c4 rfl ?_
      refine r_get (fs := [_, _, _, _, _, _, _, _]) dX5_readCloud_48 fl_X5_93 (by decide) rfl rfl ?_
      refine r_istore_n (lv2 := [(0, _), (1, _)]) dX5_readCloud_51 rfl (by decide) rfl rfl ?_
      refine r_aload_n dX5_readCloud_52 rfl rfl ?_
      refine r_get (fs := [_, _, _, _]) dX5_readCloud_53 fl_X5_9 (by decide) c4 rfl ?_
      refine r_iconst dX5_readCloud_56 ?_
      refine r_sipush dX5_readCloud_57 rfl ?_
      refine r_callV 3 [_, _] (s_X6_takeNumber (by exact c1) ht (by first | rfl | exact c3) hle (by omega) (by omega) (by omega)) dX5_readCloud_60 cs_X5_109 im_X6_takeNumber (by decide) rfl rfl (by decide) (by decide) (by decide) rfl rfl (Nat.le_of_ble_eq_true rfl) (fun _ _ _ q => q.elim) (fun v n2 h2 q => ?_)
      obtain ⟨rfl, q⟩ := q
      rcases q with ⟨z2, rfl, hh⟩ | ⟨z2, rfl, hh⟩
      · obtain rfl := hh.symm
        have er2 := numOk z2
        have bx2 := pNum_ok er2
        refine ⟨rfl, ?_⟩
        dsimp only [Option.toList, List.cons_append, List.nil_append]
        refine r_if_ne (tgt := 68) dX5_readCloud_63 (by decide) ⟨by omega, by omega⟩ (fun g63 => ?_) (fun g63 => absurd g63 (by omega))
        refine r_aload_n dX5_readCloud_68 rfl rfl ?_
        refine r_get (fs := [_, _, _, _]) dX5_readCloud_69 fl_X5_9 (by decide) c4 rfl ?_
        refine r_get (fs := [_, _, _, _, _, _, _, _]) dX5_readCloud_72 fl_X5_93 (by decide) rfl rfl ?_
        refine r_istore_n (lv2 := [(0, _), (1, _), (2, _)]) dX5_readCloud_75 rfl (by decide) rfl rfl ?_
        refine r_aload_n dX5_readCloud_76 rfl rfl ?_
        refine r_get (fs := [_, _, _, _]) dX5_readCloud_77 fl_X5_9 (by decide) c4 rfl ?_
        refine r_iload_n dX5_readCloud_80 rfl rfl ?_
        refine r_sipush dX5_readCloud_81 rfl ?_
        refine r_callV 3 [_, _] (s_X6_takeNumber (by exact c1) ht (by first | rfl | exact c3) hle (by omega) (by omega) (by omega)) dX5_readCloud_84 cs_X5_109 im_X6_takeNumber (by decide) rfl rfl (by decide) (by decide) (by decide) rfl rfl (Nat.le_of_ble_eq_true rfl) (fun _ _ _ q => q.elim) (fun v n2 h2 q => ?_)
        obtain ⟨rfl, q⟩ := q
        rcases q with ⟨z3, rfl, hh⟩ | ⟨z3, rfl, hh⟩
        · obtain rfl := hh.symm
          have er3 := numOk z3
          have bx3 := pNum_ok er3
          refine ⟨rfl, ?_⟩
          dsimp only [Option.toList, List.cons_append, List.nil_append]
          refine r_if_ne (tgt := 92) dX5_readCloud_87 (by decide) ⟨by omega, by omega⟩ (fun g87 => ?_) (fun g87 => absurd g87 (by omega))
          refine r_aload_n dX5_readCloud_92 rfl rfl ?_
          refine r_get (fs := [_, _, _, _]) dX5_readCloud_93 fl_X5_15 (by decide) c4 rfl ?_
          refine r_iload_n dX5_readCloud_96 rfl rfl ?_
          refine r_iload_n dX5_readCloud_97 rfl rfl ?_
          refine r_aload_n dX5_readCloud_98 rfl rfl ?_
          refine r_get (fs := [_, _, _, _]) dX5_readCloud_99 fl_X5_9 (by decide) c4 rfl ?_
          refine r_get (fs := [_, _, _, _, _, _, _, _]) dX5_readCloud_102 fl_X5_93 (by decide) rfl rfl ?_
          refine r_callV 17 [_, _, _] (s_X4_addCloud (by exact c17) (by exact c24) (by exact c25) (by exact c26) (by exact c27) (by omega) (by omega)) dX5_readCloud_105 cs_X5_132 im_X4_addCloud (by decide) c17 rfl (by decide) (by decide) (by decide) rfl rfl (Nat.le_of_ble_eq_true rfl) (fun _ _ _ q => q.elim) (fun v n2 h2 q => ?_)
          obtain ⟨rfl, rfl, hh⟩ := q
          obtain rfl := hh.symm
          refine ⟨rfl, ?_⟩
          dsimp only [Option.toList, List.cons_append, List.nil_append]
          refine r_iconst dX5_readCloud_108 ?_
          refine r_zret dX5_readCloud_109 (nar_z (by omega)) ?_
          refine ⟨rfl, Or.inl ⟨((nd, sw, nc + 1), (hl, hs), K, U, I, O, G, L, va_up cf nc.toNat (numAt t le (tkE t le (tkE t le e))), va_up ct nc.toNat (numAt t le (tkE t le (tkE t le (tkE t le e)))), va_up fc (numAt t le (tkE t le e)).toNat (nc + 1), va_up nx nc.toNat (fc (numAt t le (tkE t le e)).toNat), va_up cd nc.toNat (numAt t le (tkE t le e))), tkE t le (tkE t le (tkE t le (tkE t le e))), _, ?_, by omega, cloud_DR dr (by omega) (by omega) (by omega) (by omega), rfl, ⟨(by first | rfl | exact c1), (by first | rfl | exact c3), (by first | rfl | exact c4), (by first | rfl | exact c17), (by first | rfl | exact c18), (by first | rfl | exact c19), (by first | rfl | exact c20), (by first | rfl | exact c21), (by first | rfl | exact c22), (by first | rfl | exact c23), (by first | rfl | exact c24), (by first | rfl | exact c25), (by first | rfl | exact c26), (by first | rfl | exact c27), (fun j hj => by obtain ⟨a1, a2, a3⟩ := hj; try simp only [va_up]; (repeat rw [if_neg (by omega)]); exact fr j ⟨a1, a2, a3⟩)⟩⟩⟩
          unfold pCloud
          dsimp only
          rw [if_neg (by omega)]
          rw [er1]
          dsimp only
          rw [er2]
          dsimp only
          rw [er3]
        · obtain rfl := hh.symm
          have er3 := numNo z3
          refine ⟨rfl, ?_⟩
          dsimp only [Option.toList, List.cons_append, List.nil_append]
          refine r_if_ne (tgt := 92) dX5_readCloud_87 (by decide) ⟨by omega, by omega⟩ (fun g87 => absurd g87 (by omega)) (fun g87 => ?_)
          refine r_iconst dX5_readCloud_90 ?_
          refine r_zret dX5_readCloud_91 (nar_z (by omega)) ?_
          refine ⟨rfl, Or.inr ⟨_, _, ((nd, sw, nc), (hl, hs), K, U, I, O, G, L, cf, ct, fc, nx, cd), _, _, _, _, ?_, dr, rfl, ⟨(by first | rfl | exact c1), (by first | rfl | exact c3), (by first | rfl | exact c4), (by first | rfl | exact c17), (by first | rfl | exact c18), (by first | rfl | exact c19), (by first | rfl | exact c20), (by first | rfl | exact c21), (by first | rfl | exact c22), (by first | rfl | exact c23), (by first | rfl | exact c24), (by first | rfl | exact c25), (by first | rfl | exact c26), (by first | rfl | exact c27), (fun j hj => by obtain ⟨a1, a2, a3⟩ := hj; try simp only [va_up]; (repeat rw [if_neg (by omega)]); exact fr j ⟨a1, a2, a3⟩)⟩⟩⟩
          unfold pCloud
          dsimp only
          rw [if_neg (by omega)]
          rw [er1]
          dsimp only
          rw [er2]
          dsimp only
          rw [er3]
      · obtain rfl := hh.symm
        have er2 := numNo z2
        refine ⟨rfl, ?_⟩
        dsimp only [Option.toList, List.cons_append, List.nil_append]
        refine r_if_ne (tgt := 68) dX5_readCloud_63 (by decide) ⟨by omega, by omega⟩ (fun g63 => absurd g63 (by omega)) (fun g63 => ?_)
        refine r_iconst dX5_readCloud_66 ?_
        refine r_zret dX5_readCloud_67 (nar_z (by omega)) ?_
        refine ⟨rfl, Or.inr ⟨_, _, ((nd, sw, nc), (hl, hs), K, U, I, O, G, L, cf, ct, fc, nx, cd), _, _, _, _, ?_, dr, rfl, ⟨(by first | rfl | exact c1), (by first | rfl | exact c3), (by first | rfl | exact c4), (by first | rfl | exact c17), (by first | rfl | exact c18), (by first | rfl | exact c19), (by first | rfl | exact c20), (by first | rfl | exact c21), (by first | rfl | exact c22), (by first | rfl | exact c23), (by first | rfl | exact c24), (by first | rfl | exact c25), (by first | rfl | exact c26), (by first | rfl | exact c27), (fun j hj => by obtain ⟨a1, a2, a3⟩ := hj; try simp only [va_up]; (repeat rw [if_neg (by omega)]); exact fr j ⟨a1, a2, a3⟩)⟩⟩⟩
        unfold pCloud
        dsimp only
        rw [if_neg (by omega)]
        rw [er1]
        dsimp only
        rw [er2]
    · obtain rfl := hh.symm
      have er1 := numNo z1
      refine ⟨rfl, ?_⟩
      dsimp only [Option.toList, List.cons_append, List.nil_append]
      refine r_if_ne (tgt := 44) dX5_readCloud_39 (by decide) ⟨by omega, by omega⟩ (fun g39 => absurd g39 (by omega)) (fun g39 => ?_)
      refine r_iconst dX5_readCloud_42 ?_
      refine r_zret dX5_readCloud_43 (nar_z (by omega)) ?_
      refine ⟨rfl, Or.inr ⟨_, _, ((nd, sw, nc), (hl, hs), K, U, I, O, G, L, cf, ct, fc, nx, cd), _, _, _, _, ?_, dr, rfl, ⟨(by first | rfl | exact c1), (by first | rfl | exact c3), (by first | rfl | exact c4), (by first | rfl | exact c17), (by first | rfl | exact c18), (by first | rfl | exact c19), (by first | rfl | exact c20), (by first | rfl | exact c21), (by first | rfl | exact c22), (by first | rfl | exact c23), (by first | rfl | exact c24), (by first | rfl | exact c25), (by first | rfl | exact c26), (by first | rfl | exact c27), (fun j hj => by obtain ⟨a1, a2, a3⟩ := hj; try simp only [va_up]; (repeat rw [if_neg (by omega)]); exact fr j ⟨a1, a2, a3⟩)⟩⟩⟩
      unfold pCloud
      dsimp only
      rw [if_neg (by omega)]
      rw [er1]
  · refine r_aload_n dX5_readCloud_12 rfl rfl ?_
    refine r_get (fs := [_, _, _, _]) dX5_readCloud_13 fl_X5_9 (by decide) c4 rfl ?_
    refine r_iconst dX5_readCloud_16 ?_
    refine r_callV 3 [_] (s_X6_refuse c3) dX5_readCloud_17 cs_X5_68 im_X6_refuse (by decide) c3 rfl (by decide) (by decide) (by decide) rfl rfl (Nat.le_of_ble_eq_true rfl) (fun _ _ _ q => q.elim) (fun v n2 h2 q => ?_)
    obtain ⟨rfl, rfl, hh⟩ := q
    obtain rfl := hh.symm
    refine ⟨rfl, ?_⟩
    dsimp only [Option.toList, List.cons_append, List.nil_append]
    refine r_zret dX5_readCloud_20 (nar_z (by omega)) ?_
    refine ⟨rfl, Or.inr ⟨_, _, ((nd, sw, nc), (hl, hs), K, U, I, O, G, L, cf, ct, fc, nx, cd), _, _, _, _, ?_, dr, rfl, ⟨(by first | rfl | exact c1), (by first | rfl | exact c3), (by first | rfl | exact c4), (by first | rfl | exact c17), (by first | rfl | exact c18), (by first | rfl | exact c19), (by first | rfl | exact c20), (by first | rfl | exact c21), (by first | rfl | exact c22), (by first | rfl | exact c23), (by first | rfl | exact c24), (by first | rfl | exact c25), (by first | rfl | exact c26), (by first | rfl | exact c27), (fun j hj => by obtain ⟨a1, a2, a3⟩ := hj; try simp only [va_up]; (repeat rw [if_neg (by omega)]); exact fr j ⟨a1, a2, a3⟩)⟩⟩⟩
    unfold pCloud
    dsimp only
    rw [if_pos (by omega)]

theorem s_X5_readLine {h0 h : aH} {t : Nat → Int} {fa pl tk : Int} {le e : Nat} {nd sw nc hl hs : Int} {K U I O G L cf ct fc nx cd : Nat → Int} (pw : PW h0 h t (SC t fa pl tk le e) ((nd, sw, nc), (hl, hs), K, U, I, O, G, L, cf, ct, fc, nx, cd)) (dr : DR ((nd, sw, nc), (hl, hs), K, U, I, O, G, L, cf, ct, fc, nx, cd)) (ht : ∀ j, -128 ≤ t j ∧ t j ≤ 127) (hle : le ≤ 700) (hee : e ≤ le)  : mSem yX5_readLine cX5_readLine 1 (some .boolean) 7 0 0 [.ref 4] 97 h (RQ h0 t fa pl le (pLine t le ((nd, sw, nc), (hl, hs), K, U, I, O, G, L, cf, ct, fc, nx, cd) e)) noX := by
  obtain ⟨c1, c3, c4, c17, c18, c19, c20, c21, c22, c23, c24, c25, c26, c27, fr⟩ := id pw
  obtain ⟨⟨pnd, psw, pnc, pK, pU, pI, pO, pG, pL, pcf, pct, pfc, pnx⟩, phl, phs⟩ := id dr
  have hE1 := (tk_B t hee).2.2.2.1
  have hE2 := (tk_B t hE1).2.2.2.1
  have hE3 := (tk_B t hE2).2.2.2.1
  have hE4 := (tk_B t hE3).2.2.2.1
  refine mSem_of (own := RX5) (name := "readLine") pn_X5 rfl rfl (Nat.le_of_ble_eq_true rfl) ?_
  have k0 := b2i_01 (wordAt t le e 0)
  have k8 := b2i_01 (wordAt t le e 8)
  have k9 := b2i_01 (wordAt t le e 9)
  have k10 := b2i_01 (wordAt t le e 10)
  refine r_aload_n dX5_readLine_0 rfl rfl ?_
  refine r_get (fs := [_, _, _, _]) dX5_readLine_1 fl_X5_9 (by decide) c4 rfl ?_
  refine r_ldcS (own2 := "") (tx := "dial") (i := 0) dX5_readLine_4 (by decide +kernel) ?_
  refine r_callV 3 [.ref (1000 + 0)] (s_X6_isWord c1 ht (by first | rfl | exact c3) hle (by omega) (by first | exact hi | decide)) dX5_readLine_6 cs_X5_46 im_X6_isWord (by decide) c3 rfl (by decide) (by decide) (by decide) rfl rfl (Nat.le_of_ble_eq_true rfl) (fun _ _ _ q => q.elim) (fun v n2 h2 q => ?_)
  obtain ⟨rfl, rfl, hh⟩ := q
  obtain rfl := hh.symm
  refine ⟨rfl, ?_⟩
  dsimp only [Option.toList, List.cons_append, List.nil_append]
  refine r_if_eq (tgt := 17) dX5_readLine_9 (by decide) ⟨by omega, by omega⟩ (fun g9 => ?_) (fun g9 => ?_)
  · rw [b2i_0] at g9
    refine r_aload_n dX5_readLine_17 rfl rfl ?_
    refine r_get (fs := [_, _, _, _]) dX5_readLine_18 fl_X5_9 (by decide) c4 rfl ?_
    refine r_ldcS (own2 := "") (tx := "limps") (i := 8) dX5_readLine_21 (by decide +kernel) ?_
    refine r_callV 3 [.ref (1000 + 8)] (s_X6_isWord c1 ht (by first | rfl | exact c3) hle (by omega) (by first | exact hi | decide)) dX5_readLine_23 cs_X5_46 im_X6_isWord (by decide) c3 rfl (by decide) (by decide) (by decide) rfl rfl (Nat.le_of_ble_eq_true rfl) (fun _ _ _ q => q.elim) (fun v n2 h2 q => ?_)
    obtain ⟨rfl, rfl, hh⟩ := q
    obtain rfl := hh.symm
    refine ⟨rfl, ?_⟩
    dsimp only [Option.toList, List.cons_append, List.nil_append]
    refine r_if_eq (tgt := 34) dX5_readLine_26 (by decide) ⟨by omega, by omega⟩ (fun g26 => ?_) (fun g26 => ?_)
    · rw [b2i_0] at g26
      refine r_aload_n dX5_readLine_34 rfl rfl ?_
      refine r_get (fs := [_, _, _, _]) dX5_readLine_35 fl_X5_9 (by decide) c4 rfl ?_
      refine r_ldcS (own2 := "") (tx := "swing") (i := 9) dX5_readLine_38 (by decide +kernel) ?_
      refine r_callV 3 [.ref (1000 + 9)] (s_X6_isWord c1 ht (by first | rfl | exact c3) hle (by omega) (by first | exact hi | decide)) dX5_readLine_40 cs_X5_46 im_X6_isWord (by decide) c3 rfl (by decide) (by decide) (by decide) rfl rfl (Nat.le_of_ble_eq_true rfl) (fun _ _ _ q => q.elim) (fun v n2 h2 q => ?_)
      obtain ⟨rfl, rfl, hh⟩ := q
      obtain rfl := hh.symm
      refine ⟨rfl, ?_⟩
      dsimp only [Option.toList, List.cons_append, List.nil_append]
      refine r_if_eq (tgt := 51) dX5_readLine_43 (by decide) ⟨by omega, by omega⟩ (fun g43 => ?_) (fun g43 => ?_)
      · rw [b2i_0] at g43
        refine r_aload_n dX5_readLine_51 rfl rfl ?_
        refine r_get (fs := [_, _, _, _]) dX5_readLine_52 fl_X5_9 (by decide) c4 rfl ?_
        refine r_ldcS (own2 := "") (tx := "cloud") (i := 10) dX5_readLine_55 (by decide +kernel) ?_
        refine r_callV 3 [.ref (1000 + 10)] (s_X6_isWord c1 ht (by first | rfl | exact c3) hle (by omega) (by first | exact hi | decide)) dX5_readLine_57 cs_X5_46 im_X6_isWord (by decide) c3 rfl (by decide) (by decide) (by decide) rfl rfl (Nat.le_of_ble_eq_true rfl) (fun _ _ _ q => q.elim) (fun v n2 h2 q => ?_)
        obtain ⟨rfl, rfl, hh⟩ := q
        obtain rfl := hh.symm
        refine ⟨rfl, ?_⟩
        dsimp only [Option.toList, List.cons_append, List.nil_append]
        refine r_if_eq (tgt := 68) dX5_readLine_60 (by decide) ⟨by omega, by omega⟩ (fun g60 => ?_) (fun g60 => ?_)
        · rw [b2i_0] at g60
          refine r_aload_n dX5_readLine_68 rfl rfl ?_
          refine r_get (fs := [_, _, _, _]) dX5_readLine_69 fl_X5_9 (by decide) c4 rfl ?_
          refine r_iconst dX5_readLine_72 ?_
          refine r_callV 3 [_] (s_X6_refuse c3) dX5_readLine_73 cs_X5_68 im_X6_refuse (by decide) c3 rfl (by decide) (by decide) (by decide) rfl rfl (Nat.le_of_ble_eq_true rfl) (fun _ _ _ q => q.elim) (fun v n2 h2 q => ?_)
          obtain ⟨rfl, rfl, hh⟩ := q
          obtain rfl := hh.symm
          refine ⟨rfl, ?_⟩
          dsimp only [Option.toList, List.cons_append, List.nil_append]
          refine r_zret dX5_readLine_76 (nar_z (by omega)) ?_
          refine ⟨rfl, Or.inr ⟨_, _, ((nd, sw, nc), (hl, hs), K, U, I, O, G, L, cf, ct, fc, nx, cd), _, _, _, _, ?_, dr, rfl, ⟨(by first | rfl | exact c1), (by first | rfl | exact c3), (by first | rfl | exact c4), (by first | rfl | exact c17), (by first | rfl | exact c18), (by first | rfl | exact c19), (by first | rfl | exact c20), (by first | rfl | exact c21), (by first | rfl | exact c22), (by first | rfl | exact c23), (by first | rfl | exact c24), (by first | rfl | exact c25), (by first | rfl | exact c26), (by first | rfl | exact c27), (fun j hj => by obtain ⟨a1, a2, a3⟩ := hj; try simp only [va_up]; (repeat rw [if_neg (by omega)]); exact fr j ⟨a1, a2, a3⟩)⟩⟩⟩
          unfold pLine
          rw [if_neg (by rw [g9]; decide), if_neg (by rw [g26]; decide), if_neg (by rw [g43]; decide), if_neg (by rw [g60]; decide)]
        · rw [b2i_0, Bool.not_eq_false] at g60
          refine r_aload_n dX5_readLine_63 rfl rfl ?_
          refine r_callV 4 [] (s_X5_readCloud pw dr ht hle hee) dX5_readLine_64 cs_X5_65 im_X5_readCloud (by decide) c4 rfl (by decide) (by decide) (by decide) rfl rfl (Nat.le_of_ble_eq_true rfl) (fun _ _ _ q => q.elim) (fun v n2 h2 q => ?_)
          obtain ⟨rfl, q⟩ := q
          rcases q with ⟨d4, e4, tk4, er4, hl4, dr4, rfl, pw4⟩ | ⟨f4, p4, d4, tk4, ki4, st4, en4, er4, dr4, rfl, pw4⟩
          · skip
            refine ⟨rfl, ?_⟩
            dsimp only [Option.toList, List.cons_append, List.nil_append]
            refine r_zret dX5_readLine_67 (nar_z (by omega)) ?_
            first
              | refine ⟨rfl, Or.inl ⟨d4, e4, tk4, ?_, hl4, dr4, rfl, pw4⟩⟩
              | refine ⟨rfl, Or.inr ⟨f4, p4, d4, tk4, ki4, st4, en4, ?_, dr4, rfl, pw4⟩⟩
            unfold pLine
            rw [if_neg (by rw [g9]; decide), if_neg (by rw [g26]; decide), if_neg (by rw [g43]; decide), if_pos g60]
            exact er4
          · skip
            refine ⟨rfl, ?_⟩
            dsimp only [Option.toList, List.cons_append, List.nil_append]
            refine r_zret dX5_readLine_67 (nar_z (by omega)) ?_
            first
              | refine ⟨rfl, Or.inl ⟨d4, e4, tk4, ?_, hl4, dr4, rfl, pw4⟩⟩
              | refine ⟨rfl, Or.inr ⟨f4, p4, d4, tk4, ki4, st4, en4, ?_, dr4, rfl, pw4⟩⟩
            unfold pLine
            rw [if_neg (by rw [g9]; decide), if_neg (by rw [g26]; decide), if_neg (by rw [g43]; decide), if_pos g60]
            exact er4
      · rw [b2i_0, Bool.not_eq_false] at g43
        refine r_aload_n dX5_readLine_46 rfl rfl ?_
        refine r_callV 4 [] (s_X5_readSwing pw dr ht hle hee) dX5_readLine_47 cs_X5_60 im_X5_readSwing (by decide) c4 rfl (by decide) (by decide) (by decide) rfl rfl (Nat.le_of_ble_eq_true rfl) (fun _ _ _ q => q.elim) (fun v n2 h2 q => ?_)
        obtain ⟨rfl, q⟩ := q
        rcases q with ⟨d4, e4, tk4, er4, hl4, dr4, rfl, pw4⟩ | ⟨f4, p4, d4, tk4, ki4, st4, en4, er4, dr4, rfl, pw4⟩
        · skip
          refine ⟨rfl, ?_⟩
          dsimp only [Option.toList, List.cons_append, List.nil_append]
          refine r_zret dX5_readLine_50 (nar_z (by omega)) ?_
          first
            | refine ⟨rfl, Or.inl ⟨d4, e4, tk4, ?_, hl4, dr4, rfl, pw4⟩⟩
            | refine ⟨rfl, Or.inr ⟨f4, p4, d4, tk4, ki4, st4, en4, ?_, dr4, rfl, pw4⟩⟩
          unfold pLine
          rw [if_neg (by rw [g9]; decide), if_neg (by rw [g26]; decide), if_pos g43]
          exact er4
        · skip
          refine ⟨rfl, ?_⟩
          dsimp only [Option.toList, List.cons_append, List.nil_append]
          refine r_zret dX5_readLine_50 (nar_z (by omega)) ?_
          first
            | refine ⟨rfl, Or.inl ⟨d4, e4, tk4, ?_, hl4, dr4, rfl, pw4⟩⟩
            | refine ⟨rfl, Or.inr ⟨f4, p4, d4, tk4, ki4, st4, en4, ?_, dr4, rfl, pw4⟩⟩
          unfold pLine
          rw [if_neg (by rw [g9]; decide), if_neg (by rw [g26]; decide), if_pos g43]
          exact er4
    · rw [b2i_0, Bool.not_eq_false] at g26
      refine r_aload_n dX5_readLine_29 rfl rfl ?_
      refine r_callV 4 [] (s_X5_readLimps pw dr ht hle hee) dX5_readLine_30 cs_X5_55 im_X5_readLimps (by decide) c4 rfl (by decide) (by decide) (by decide) rfl rfl (Nat.le_of_ble_eq_true rfl) (fun _ _ _ q => q.elim) (fun v n2 h2 q => ?_)
      obtain ⟨rfl, q⟩ := q
      rcases q with ⟨d4, e4, tk4, er4, hl4, dr4, rfl, pw4⟩ | ⟨f4, p4, d4, tk4, ki4, st4, en4, er4, dr4, rfl, pw4⟩
      · skip
        refine ⟨rfl, ?_⟩
        dsimp only [Option.toList, List.cons_append, List.nil_append]
        refine r_zret dX5_readLine_33 (nar_z (by omega)) ?_
        first
          | refine ⟨rfl, Or.inl ⟨d4, e4, tk4, ?_, hl4, dr4, rfl, pw4⟩⟩
          | refine ⟨rfl, Or.inr ⟨f4, p4, d4, tk4, ki4, st4, en4, ?_, dr4, rfl, pw4⟩⟩
        unfold pLine
        rw [if_neg (by rw [g9]; decide), if_pos g26]
        exact er4
      · skip
        refine ⟨rfl, ?_⟩
        dsimp only [Option.toList, List.cons_append, List.nil_append]
        refine r_zret dX5_readLine_33 (nar_z (by omega)) ?_
        first
          | refine ⟨rfl, Or.inl ⟨d4, e4, tk4, ?_, hl4, dr4, rfl, pw4⟩⟩
          | refine ⟨rfl, Or.inr ⟨f4, p4, d4, tk4, ki4, st4, en4, ?_, dr4, rfl, pw4⟩⟩
        unfold pLine
        rw [if_neg (by rw [g9]; decide), if_pos g26]
        exact er4
  · rw [b2i_0, Bool.not_eq_false] at g9
    refine r_aload_n dX5_readLine_12 rfl rfl ?_
    refine r_callV 4 [] (s_X5_readDial pw dr ht hle hee) dX5_readLine_13 cs_X5_50 im_X5_readDial (by decide) c4 rfl (by decide) (by decide) (by decide) rfl rfl (Nat.le_of_ble_eq_true rfl) (fun _ _ _ q => q.elim) (fun v n2 h2 q => ?_)
    obtain ⟨rfl, q⟩ := q
    rcases q with ⟨d4, e4, tk4, er4, hl4, dr4, rfl, pw4⟩ | ⟨f4, p4, d4, tk4, ki4, st4, en4, er4, dr4, rfl, pw4⟩
    · skip
      refine ⟨rfl, ?_⟩
      dsimp only [Option.toList, List.cons_append, List.nil_append]
      refine r_zret dX5_readLine_16 (nar_z (by omega)) ?_
      first
        | refine ⟨rfl, Or.inl ⟨d4, e4, tk4, ?_, hl4, dr4, rfl, pw4⟩⟩
        | refine ⟨rfl, Or.inr ⟨f4, p4, d4, tk4, ki4, st4, en4, ?_, dr4, rfl, pw4⟩⟩
      unfold pLine
      rw [if_pos g9]
      exact er4
    · skip
      refine ⟨rfl, ?_⟩
      dsimp only [Option.toList, List.cons_append, List.nil_append]
      refine r_zret dX5_readLine_16 (nar_z (by omega)) ?_
      first
        | refine ⟨rfl, Or.inl ⟨d4, e4, tk4, ?_, hl4, dr4, rfl, pw4⟩⟩
        | refine ⟨rfl, Or.inr ⟨f4, p4, d4, tk4, ki4, st4, en4, ?_, dr4, rfl, pw4⟩⟩
      unfold pLine
      rw [if_pos g9]
      exact er4

theorem l_X5_readInto {h0 : aH} {t : Nat → Int} {fa pl : Int} {le : Nat} (ht : ∀ j, -128 ≤ t j ∧ t j ≤ 127) (hle : le ≤ 700) {d : Nat} (hdd : 8 ≤ d) : ∀ (k i : Nat) (h : aH) (dd : PD) (e : Nat) (tk : Int), i + k = 700 → e ≤ le → PW h0 h t (SC t fa pl tk le e) dd → DR dd →
    Ev RX5 "readInto" cX5_readInto 4 (some .boolean) d 0 0 (IQ h0 t fa pl le (pLines t le k dd e)) noX 97 h 39 [(0, .ref 4), (1, .ref 17), (2, .ref 3), (3, iv i)] [] := by
  intro k
  induction k with
  | zero =>
    intro i h dd e tk hi hee pw dr
    obtain ⟨⟨nd, sw, nc⟩, ⟨hl, hs⟩, K, U, I, O, G, L, cf, ct, fc, nx, cd⟩ := dd
    obtain ⟨c1, c3, c4, c17, c18, c19, c20, c21, c22, c23, c24, c25, c26, c27, fr⟩ := id pw
    refine r_iload_n dX5_readInto_39 rfl rfl ?_
    refine r_sipush dX5_readInto_40 rfl ?_
    refine r_icmp_ge (tgt := 83) dX5_readInto_43 (by decide) ⟨by omega, by omega⟩ ⟨by omega, by omega⟩ (fun g43 => ?_) (fun g43 => absurd g43 (by omega))
    refine r_iconst dX5_readInto_83 ?_
    refine r_zret dX5_readInto_84 (nar_z (by omega)) ?_
    exact ⟨rfl, Or.inl ⟨_, _, _, rfl, hee, dr, rfl, pw⟩⟩
  | succ k ih =>
    intro i h dd e tk hi hee pw dr
    obtain ⟨⟨nd, sw, nc⟩, ⟨hl, hs⟩, K, U, I, O, G, L, cf, ct, fc, nx, cd⟩ := dd
    obtain ⟨c1, c3, c4, c17, c18, c19, c20, c21, c22, c23, c24, c25, c26, c27, fr⟩ := id pw
    have kb := b2i_01 (decide (tkK t le e = 0))
    unfold pLines
    refine r_iload_n dX5_readInto_39 rfl rfl ?_
    refine r_sipush dX5_readInto_40 rfl ?_
    refine r_icmp_ge (tgt := 83) dX5_readInto_43 (by decide) ⟨by omega, by omega⟩ ⟨by omega, by omega⟩ (fun g43 => absurd g43 (by omega)) (fun g43 => ?_)
    refine r_aload_n dX5_readInto_46 rfl rfl ?_
    refine r_get (fs := [_, _, _, _]) dX5_readInto_47 fl_X5_9 (by decide) c4 rfl ?_
    refine r_callV 3 [] (s_X6_isEnd c1 ht (by first | rfl | exact c3) hle (by omega)) dX5_readInto_50 cs_X5_31 im_X6_isEnd (by decide) c3 rfl (by omega) (by decide) (by decide) rfl rfl (Nat.le_of_ble_eq_true rfl) (fun _ _ _ q => q.elim) (fun v n2 h2 q => ?_)
    obtain ⟨rfl, rfl, hh⟩ := q
    obtain rfl := hh.symm
    refine ⟨rfl, ?_⟩
    dsimp only [Option.toList, List.cons_append, List.nil_append]
    refine r_if_ne (tgt := 83) dX5_readInto_53 (by decide) ⟨by omega, by omega⟩ (fun g53 => ?_) (fun g53 => ?_)
    · rw [b2i_0, decide_eq_false_iff_not, Decidable.not_not] at g53
      refine r_iconst dX5_readInto_83 ?_
      refine r_zret dX5_readInto_84 (nar_z (by omega)) ?_
      rw [if_pos g53]
      exact ⟨rfl, Or.inl ⟨_, _, _, rfl, hee, dr, rfl, pw⟩⟩
    · rw [b2i_0, decide_eq_false_iff_not] at g53
      refine r_aload_n dX5_readInto_56 rfl rfl ?_
      refine r_callV 4 [] (s_X5_readLine pw dr ht hle hee) dX5_readInto_57 cs_X5_37 im_X5_readLine (by decide) c4 rfl (by omega) (by decide) (by decide) rfl rfl (Nat.le_of_ble_eq_true rfl) (fun _ _ _ q => q.elim) (fun v n2 h2 q => ?_)
      obtain ⟨rfl, q⟩ := q
      rcases q with ⟨d4, e4, tk4, er4, hl4, dr4, rfl, pw4⟩ | ⟨f4, p4, d4, tk4, ki4, st4, en4, er4, dr4, rfl, pw4⟩
      · obtain ⟨⟨nd, sw, nc⟩, ⟨hl, hs⟩, K, U, I, O, G, L, cf, ct, fc, nx, cd⟩ := d4
        obtain ⟨c1, c3, c4, c17, c18, c19, c20, c21, c22, c23, c24, c25, c26, c27, fr⟩ := id pw4
        have hE4 := (tk_B t hl4).2.2.2.1
        refine ⟨rfl, ?_⟩
        dsimp only [Option.toList, List.cons_append, List.nil_append]
        refine r_if_eq (tgt := 75) dX5_readInto_60 (by decide) ⟨by omega, by omega⟩ (fun g60 => absurd g60 (by omega)) (fun g60 => ?_)
        refine r_aload_n dX5_readInto_63 rfl rfl ?_
        refine r_get (fs := [_, _, _, _]) dX5_readInto_64 fl_X5_9 (by decide) c4 rfl ?_
        refine r_bipush dX5_readInto_67 rfl ?_
        refine r_callV 3 [_] (s_X6_takeSign c1 ht (by first | rfl | exact c3) hle hl4 (by omega)) dX5_readInto_69 cs_X5_40 im_X6_takeSign (by decide) c3 rfl (by omega) (by decide) (by decide) rfl rfl (Nat.le_of_ble_eq_true rfl) (fun _ _ _ q => q.elim) (fun v n2 h2 q => ?_)
        obtain ⟨rfl, q⟩ := q
        rcases q with ⟨z0, rfl, hh⟩ | ⟨z0, rfl, hh⟩
        · obtain rfl := hh.symm
          refine ⟨rfl, ?_⟩
          dsimp only [Option.toList, List.cons_append, List.nil_append]
          refine r_if_ne (tgt := 77) dX5_readInto_72 (by decide) ⟨by omega, by omega⟩ (fun g72 => ?_) (fun g72 => absurd g72 (by omega))
          refine r_iinc (lv2 := [(0, _), (1, _), (2, _), (3, _)]) dX5_readInto_77 (by decide) rfl rfl rfl ?_
          refine r_goto (tgt := 39) dX5_readInto_80 (by decide) ?_
          rw [if_neg g53, er4]
          dsimp only
          rw [if_pos z0, show (i : Int) + 1 = ((i + 1 : Nat) : Int) by omega]
          exact ih (i + 1) _ ((nd, sw, nc), (hl, hs), K, U, I, O, G, L, cf, ct, fc, nx, cd) (tkE t le e4) tk4 (by omega) hE4 ⟨(by first | rfl | exact c1), (by first | rfl | exact c3), (by first | rfl | exact c4), (by first | rfl | exact c17), (by first | rfl | exact c18), (by first | rfl | exact c19), (by first | rfl | exact c20), (by first | rfl | exact c21), (by first | rfl | exact c22), (by first | rfl | exact c23), (by first | rfl | exact c24), (by first | rfl | exact c25), (by first | rfl | exact c26), (by first | rfl | exact c27), (fun j hj => by obtain ⟨a1, a2, a3⟩ := hj; try simp only [va_up]; (repeat rw [if_neg (by omega)]); exact fr j ⟨a1, a2, a3⟩)⟩ dr4
        · obtain rfl := hh.symm
          refine ⟨rfl, ?_⟩
          dsimp only [Option.toList, List.cons_append, List.nil_append]
          refine r_if_ne (tgt := 77) dX5_readInto_72 (by decide) ⟨by omega, by omega⟩ (fun g72 => absurd g72 (by omega)) (fun g72 => ?_)
          refine r_iconst dX5_readInto_75 ?_
          refine r_zret dX5_readInto_76 (nar_z (by omega)) ?_
          rw [if_neg g53, er4]
          first
            | (dsimp only
               rw [if_neg (by rw [z0]; decide)]
               exact ⟨rfl, Or.inr ⟨_, _, ((nd, sw, nc), (hl, hs), K, U, I, O, G, L, cf, ct, fc, nx, cd), _, _, _, _, rfl, dr4, rfl, ⟨(by first | rfl | exact c1), (by first | rfl | exact c3), (by first | rfl | exact c4), (by first | rfl | exact c17), (by first | rfl | exact c18), (by first | rfl | exact c19), (by first | rfl | exact c20), (by first | rfl | exact c21), (by first | rfl | exact c22), (by first | rfl | exact c23), (by first | rfl | exact c24), (by first | rfl | exact c25), (by first | rfl | exact c26), (by first | rfl | exact c27), (fun j hj => by obtain ⟨a1, a2, a3⟩ := hj; try simp only [va_up]; (repeat rw [if_neg (by omega)]); exact fr j ⟨a1, a2, a3⟩)⟩⟩⟩)
            | exact ⟨rfl, Or.inr ⟨_, _, d4, _, _, _, _, rfl, dr4, rfl, pw4⟩⟩
      · skip
        refine ⟨rfl, ?_⟩
        dsimp only [Option.toList, List.cons_append, List.nil_append]
        refine r_if_eq (tgt := 75) dX5_readInto_60 (by decide) ⟨by omega, by omega⟩ (fun g60 => ?_) (fun g60 => absurd g60 (by omega))
        refine r_iconst dX5_readInto_75 ?_
        refine r_zret dX5_readInto_76 (nar_z (by omega)) ?_
        rw [if_neg g53, er4]
        first
          | (dsimp only
             rw [if_neg (by rw [z0]; decide)]
             exact ⟨rfl, Or.inr ⟨_, _, ((nd, sw, nc), (hl, hs), K, U, I, O, G, L, cf, ct, fc, nx, cd), _, _, _, _, rfl, dr4, rfl, ⟨(by first | rfl | exact c1), (by first | rfl | exact c3), (by first | rfl | exact c4), (by first | rfl | exact c17), (by first | rfl | exact c18), (by first | rfl | exact c19), (by first | rfl | exact c20), (by first | rfl | exact c21), (by first | rfl | exact c22), (by first | rfl | exact c23), (by first | rfl | exact c24), (by first | rfl | exact c25), (by first | rfl | exact c26), (by first | rfl | exact c27), (fun j hj => by obtain ⟨a1, a2, a3⟩ := hj; try simp only [va_up]; (repeat rw [if_neg (by omega)]); exact fr j ⟨a1, a2, a3⟩)⟩⟩⟩)
          | exact ⟨rfl, Or.inr ⟨_, _, d4, _, _, _, _, rfl, dr4, rfl, pw4⟩⟩

theorem fill_R {f : Nat → Int} {lo hi v : Int} {n : Nat} (h : ∀ j, lo ≤ f j ∧ f j ≤ hi) (hv : lo ≤ v ∧ v ≤ hi) : ∀ j, lo ≤ fillF f v n j ∧ fillF f v n j ≤ hi := by
  intro j
  unfold fillF
  split
  · exact hv
  · exact h j
/-- what stays true of the spare port's rows, whatever was read into them -/
def RInv (K U I O G L cf ct : Nat → Int) : Prop := (∀ j, 0 ≤ K j ∧ K j ≤ 5) ∧ (∀ j, -120 ≤ U j ∧ U j ≤ 120) ∧ (∀ j, -50 ≤ I j ∧ I j ≤ 50) ∧ (∀ j, -120 ≤ O j ∧ O j ≤ 120) ∧ (∀ j, -1 ≤ G j ∧ G j ≤ 364) ∧ (∀ j, -30 ≤ L j ∧ L j ≤ 30) ∧ (∀ j, 0 ≤ cf j ∧ cf j < 1440) ∧ ∀ j, 0 ≤ ct j ∧ ct j < 1440
theorem s_X5_readInto {h : aH} {t : Nat → Int} {fa pl tk nd sw nc hl hs : Int} {le e : Nat} {v1 v2 : Value} {K U I O G L cf ct fc nx : Nat → Int} (c1 : h 1 = .inl (1, 700, t)) (c3 : h 3 = SC t fa pl tk le e) (c4 : h 4 = .inr (5, [v1, v2, iv hl, iv hs])) (c17 : h 17 = P17 nd sw nc) (c18 : h 18 = .inl (0, 9, K)) (c19 : h 19 = .inl (0, 9, U)) (c20 : h 20 = .inl (0, 9, I)) (c21 : h 21 = .inl (0, 9, O)) (c22 : h 22 = .inl (0, 9, G)) (c23 : h 23 = .inl (0, 12, L)) (c24 : h 24 = .inl (0, 20, cf)) (c25 : h 25 = .inl (0, 20, ct)) (c26 : h 26 = .inl (0, 365, fc)) (c27 : h 27 = .inl (0, 20, nx)) (ri : RInv K U I O G L cf ct) (ht : ∀ j, -128 ≤ t j ∧ t j ≤ 127) (hle : le ≤ 700) (hee : e ≤ le) : mSem yX5_readInto cX5_readInto 4 (some .boolean) 8 0 0 [.ref 4, .ref 17, .ref 3] 97 h (IQ h t fa pl le (pLines t le 700 ((0, 120, 0), (0, 0), K, U, I, O, G, fillF L 0 12, cf, ct, fillF fc 0 365, nx, (fun _ => 0)) e)) noX := by
  refine mSem_of (own := RX5) (name := "readInto") pn_X5 rfl rfl (Nat.le_of_ble_eq_true rfl) ?_
  refine r_aload_n dX5_readInto_0 rfl rfl ?_
  refine r_ifnull_r dX5_readInto_1 ?_
  refine r_aload_n dX5_readInto_4 rfl rfl ?_
  refine r_ifnonnull_r (tgt := 10) dX5_readInto_5 (by decide) ?_
  refine r_aload_n dX5_readInto_10 rfl rfl ?_
  refine r_aload_n dX5_readInto_11 rfl rfl ?_
  refine r_put (fs := [_, _, _, _]) (fs2 := [_, _, _, _]) dX5_readInto_12 fp_X5_15 (by decide) c4 (nar_ref _ _) (Nat.le_of_ble_eq_true rfl) rfl ?_
  refine r_aload_n dX5_readInto_15 rfl rfl ?_
  refine r_aload_n dX5_readInto_16 rfl rfl ?_
  refine r_put (fs := [_, _, _, _]) (fs2 := [_, _, _, _]) dX5_readInto_17 fp_X5_9 (by decide) rfl (nar_ref _ _) (Nat.le_of_ble_eq_true rfl) rfl ?_
  refine r_aload_n dX5_readInto_20 rfl rfl ?_
  refine r_iconst dX5_readInto_21 ?_
  refine r_put (fs := [_, _, _, _]) (fs2 := [_, _, _, _]) dX5_readInto_22 fp_X5_19 (by decide) rfl (nar_bool (by omega)) (Nat.le_of_ble_eq_true rfl) rfl ?_
  refine r_aload_n dX5_readInto_25 rfl rfl ?_
  refine r_iconst dX5_readInto_26 ?_
  refine r_put (fs := [_, _, _, _]) (fs2 := [_, _, _, _]) dX5_readInto_27 fp_X5_23 (by decide) rfl (nar_bool (by omega)) (Nat.le_of_ble_eq_true rfl) rfl ?_
  refine r_aload_n dX5_readInto_30 rfl rfl ?_
  refine r_get (fs := [_, _, _, _]) dX5_readInto_31 fl_X5_15 (by decide) rfl rfl ?_
  refine r_callV 17 [] (s_X4_clear (by exact c17) (by exact c23) (by exact c26)) dX5_readInto_34 cs_X5_26 im_X4_clear (by decide) c17 rfl (by decide) (by decide) (by decide) rfl rfl (Nat.le_of_ble_eq_true rfl) (fun _ _ _ q => q.elim) (fun v n2 h2 q => ?_)
  obtain ⟨rfl, rfl, hh⟩ := q
  obtain rfl := hh.symm
  refine ⟨rfl, ?_⟩
  dsimp only [Option.toList, List.cons_append, List.nil_append]
  refine r_iconst dX5_readInto_37 ?_
  refine r_istore_n (lv2 := [(0, _), (1, _), (2, _), (3, _)]) dX5_readInto_38 rfl (by decide) rfl rfl ?_
  obtain ⟨rK, rU, rI, rO, rG, rL, rcf, rct⟩ := id ri
  exact l_X5_readInto (d := 8) (h0 := h) ht hle (by decide) 700 0 _ ((0, 120, 0), (0, 0), K, U, I, O, G, fillF L 0 12, cf, ct, fillF fc 0 365, nx, (fun _ => 0)) e tk (by decide) hee ⟨(by first | rfl | exact c1), (by first | rfl | exact c3), (by first | rfl | exact c4), (by first | rfl | exact c17), (by first | rfl | exact c18), (by first | rfl | exact c19), (by first | rfl | exact c20), (by first | rfl | exact c21), (by first | rfl | exact c22), (by first | rfl | exact c23), (by first | rfl | exact c24), (by first | rfl | exact c25), (by first | rfl | exact c26), (by first | rfl | exact c27), (fun j hj => by obtain ⟨a1, a2, a3⟩ := hj; try simp only [va_up]; (repeat rw [if_neg (by omega)]); first | done | rfl)⟩ ⟨⟨by omega, by omega, by omega, rK, rU, rI, rO, rG, fill_R rL (by omega), rcf, rct, (fun j hj => by simp [fillF, hj, lastI]), (fun j hj => by omega)⟩, Or.inl rfl, Or.inl rfl⟩
