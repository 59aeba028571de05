/-! ===== the reference: notes ===== -/
theorem ref_ne {h : aH} {S S2 : CSt} {th : Int} {c : Nat} (hc : c = 1) (r : RefC h S th) : RefC h (if c = 0 then S2 else S) th := by rw [if_neg (by omega)]; exact r
theorem ref_eq {h : aH} {S S2 : CSt} {th : Int} {c : Nat} (hc : c = 0) (r : RefC h S2 th) : RefC h (if c = 0 then S2 else S) th := by rw [if_pos hc]; exact r
theorem seR_up {nd ns di to : Int} {sea se : Nat → Int} (h : SeR nd ns sea se) (h0 : 0 ≤ ns) (hd : 0 ≤ di ∧ di < nd) (hn : nd ≤ 9) (ht : 0 ≤ to ∧ to < 1440) (hs : ∀ k : Nat, (k : Int) < ns → ¬ sea (2 * k) = di) : SeR nd (ns + 1) (va_up (va_up sea (2 * ns).toNat di) (2 * ns + 1).toNat to) (va_up se di.toNat to) := by
  obtain ⟨n, rfl⟩ : ∃ k : Nat, ns = k := ⟨ns.toNat, by omega⟩
  rw [show (2 * (n : Int)).toNat = 2 * n by omega, show (2 * (n : Int) + 1).toNat = 2 * n + 1 by omega]
  have e0 : va_up (va_up sea (2 * n) di) (2 * n + 1) to (2 * n) = di := by rw [va_up_ne _ _ (by omega), va_up_self]
  have e1 : va_up (va_up sea (2 * n) di) (2 * n + 1) to (2 * n + 1) = to := by rw [va_up_self]
  have e2 : ∀ k : Nat, k < n → va_up (va_up sea (2 * n) di) (2 * n + 1) to (2 * k) = sea (2 * k) := fun k hk => by rw [va_up_ne _ _ (by omega), va_up_ne _ _ (by omega)]
  have e3 : ∀ k : Nat, k < n → va_up (va_up sea (2 * n) di) (2 * n + 1) to (2 * k + 1) = sea (2 * k + 1) := fun k hk => by rw [va_up_ne _ _ (by omega), va_up_ne _ _ (by omega)]
  obtain ⟨s1, s2, s3⟩ := h
  refine ⟨fun k hk => ?_, fun d hd9 hse => ?_, fun i j hij hj => ?_⟩
  · by_cases q : k = n
    · subst q
      rw [e0, e1, va_up_self]
      exact ⟨hd, ht, rfl⟩
    · obtain ⟨a1, a2, a3⟩ := s1 k (by omega)
      have a4 := hs k (by omega)
      rw [e2 k (by omega), e3 k (by omega), va_up_ne _ _ (by omega)]
      exact ⟨a1, a2, a3⟩
  · by_cases q : d = di.toNat
    · exact ⟨n, by omega, by rw [e0]; omega⟩
    · rw [va_up_ne _ _ q] at hse
      obtain ⟨k, hk, hk2⟩ := s2 d hd9 hse
      exact ⟨k, by omega, by rw [e2 k (by omega)]; exact hk2⟩
  · by_cases q : j = n
    · subst q
      rw [e0, e2 i (by omega)]
      exact hs i (by omega)
    · rw [e2 i (by omega), e2 j (by omega)]
      exact s3 i j hij (by omega)
theorem cpy_lt {a b : Nat → Int} {n j : Nat} (h : j < n) : cpyF a b n j = a j := by unfold cpyF; rw [if_pos h]

theorem s_X9_read {h : aH} {th : Int} {t : Nat → Int} {tp : Nat} {fpl hlaw himg : Int} {rf : Nat → Int} {nd sw nc hl hs : Int} {K U I O G L cf ct fc nx cd : Nat → Int} {nr ns nm : Int} {rd ry rm rt se md my mt : Nat → Int} {M : ND} {ls : LSm} (cr : RefC h (t, tp, fpl, rf, hlaw, himg, ((nd, sw, nc), (hl, hs), K, U, I, O, G, L, cf, ct, fc, nx, cd), ((nr, ns, nm), rd, ry, rm, rt, se, md, my, mt), M, ls) th) {di day m to : Int} (idi : inR di) (iday : inR day) (im : inR m) (ito : inR to)  : mSem yX9_read cX9_read 6 (some .int) 6 0 0 [.ref 68, iv di, iv day, iv m, iv to] 97 h (RefQ (ocL [(diaB nd di, 1), (dayB day, 1), (minB m, 1), (minB to, 1)]) (readS (t, tp, fpl, rf, hlaw, himg, ((nd, sw, nc), (hl, hs), K, U, I, O, G, L, cf, ct, fc, nx, cd), ((nr, ns, nm), rd, ry, rm, rt, se, md, my, mt), M, ls) di day m to).1 h (if (ocL [(diaB nd di, 1), (dayB day, 1), (minB m, 1), (minB to, 1)]) = 0 then (readS (t, tp, fpl, rf, hlaw, himg, ((nd, sw, nc), (hl, hs), K, U, I, O, G, L, cf, ct, fc, nx, cd), ((nr, ns, nm), rd, ry, rm, rt, se, md, my, mt), M, ls) di day m to).2 else (t, tp, fpl, rf, hlaw, himg, ((nd, sw, nc), (hl, hs), K, U, I, O, G, L, cf, ct, fc, nx, cd), ((nr, ns, nm), rd, ry, rm, rt, se, md, my, mt), M, ls))) noX := by
  refine RefC_elim cr (fun g dl cl lm trr rfr nD nC nL lt lgt mn rdg cpl grp sea rts row cod ncod pil opn stg bsd imo imr ims imm w c68 c69 c70 c71 c72 c73 c74 c75 c76 c77 c78 c79 c80 c81 c82 c83 c84 c85 c86 c87 c88 c89 c90 c91 c92 c93 c94 c95 hth rr => ?_)
  refine RR_elim rr (fun e8 e10 e33 e38 e44 e53 tr pi ni li rrf rtp htp rrd rse phl phi rim rco ht nM nsn => ?_)
  obtain ⟨t1, t2, t3, t31, pnm, tdl, tcl, tlm, tmd, pmt, pmd, pmy⟩ := id tr
  obtain ⟨pnd, psw, pnc, pK, pU, pI, pO, pG, pL, pcf, pct, pfc, pnx⟩ := id pi
  obtain ⟨pnr, pns, pnm2, prd, pry, prm, prt, pse, pmd2, pmy2, pmt2⟩ := id ni
  unfold inR at idi iday im ito
  have e0 : readS (t, tp, fpl, rf, hlaw, himg, ((nd, sw, nc), (hl, hs), K, U, I, O, G, L, cf, ct, fc, nx, cd), ((nr, ns, nm), rd, ry, rm, rt, se, md, my, mt), M, ls) di day m to = if nr < 12 then (nr + 1, (t, tp, fpl, rf, hlaw, himg, ((nd, sw, nc), (hl, hs), K, U, I, O, G, L, cf, ct, fc, nx, cd), ((nr + 1, ns, nm), va_up rd nr.toNat di, va_up ry nr.toNat day, va_up rm nr.toNat m, va_up rt nr.toNat to, se, md, my, mt), M, ls)) else (-1, (t, tp, fpl, (va_up rf 1 (rf 1 + 1)), hlaw, himg, ((nd, sw, nc), (hl, hs), K, U, I, O, G, L, cf, ct, fc, nx, cd), ((nr, ns, nm), rd, ry, rm, rt, se, md, my, mt), M, ls)) := rfl
  refine mSem_of (own := RX9) (name := "read") pn_X9 rfl rfl (Nat.le_of_ble_eq_true rfl) ?_
  refine r_aload_n dX9_read_0 rfl rfl ?_
  refine r_iconst dX9_read_1 ?_
  refine r_putR dX9_read_2 fp_X9_102 (by decide) c68 (nar_int _) (Nat.le_of_ble_eq_true rfl) setR_0 (fun z0 hz0 => ?_)
  refine r_aload_n dX9_read_5 rfl rfl ?_
  refine r_iload_n dX9_read_6 rfl rfl ?_
  refine r_callV 68 [_] (s_X9_isDial (by rfl) (by first | rfl | exact hz0) (by show 0 ≤ g 1 ∧ g 1 ≤ 9; omega) idi) dX9_read_7 cs_X9_243 im_X9_isDial (by decide) rfl rfl (by decide) (by decide) (by decide) rfl rfl (Nat.le_of_ble_eq_true rfl) (fun _ _ _ q => q.elim) (fun v n2 h2 q => ?_)
  obtain ⟨rfl, q⟩ := q
  rcases q with ⟨kb1, rfl, hh⟩ | ⟨kb1, rfl, hh⟩
  · obtain rfl := hh.symm
    replace kb1 : diaB nd di = true := by rw [← t1]; exact kb1
    have bdi := of_decide_eq_true kb1
    refine ⟨rfl, ?_⟩
    dsimp only [Option.toList, List.cons_append, List.nil_append]
    refine r_if_eq (tgt := 38) dX9_read_10 (by decide) ⟨by omega, by omega⟩ (fun g10 => absurd g10 (by omega)) (fun g10 => ?_)
    refine r_aload_n dX9_read_13 rfl rfl ?_
    refine r_iload_n dX9_read_14 rfl rfl ?_
    refine r_callV 68 [_] (s_X9_isDay (by rfl) (by first | rfl | exact hz0) iday) dX9_read_15 cs_X9_259 im_X9_isDay (by decide) rfl rfl (by decide) (by decide) (by decide) rfl rfl (Nat.le_of_ble_eq_true rfl) (fun _ _ _ q => q.elim) (fun v n2 h2 q => ?_)
    obtain ⟨rfl, q⟩ := q
    rcases q with ⟨kb2, rfl, hh⟩ | ⟨kb2, rfl, hh⟩
    · obtain rfl := hh.symm
      have bday := of_decide_eq_true kb2
      refine ⟨rfl, ?_⟩
      dsimp only [Option.toList, List.cons_append, List.nil_append]
      refine r_if_eq (tgt := 38) dX9_read_18 (by decide) ⟨by omega, by omega⟩ (fun g18 => absurd g18 (by omega)) (fun g18 => ?_)
      refine r_aload_n dX9_read_21 rfl rfl ?_
      refine r_iload_n dX9_read_22 rfl rfl ?_
      refine r_callV 68 [_] (s_X9_isMinute (by rfl) (by first | rfl | exact hz0) im) dX9_read_23 cs_X9_275 im_X9_isMinute (by decide) rfl rfl (by decide) (by decide) (by decide) rfl rfl (Nat.le_of_ble_eq_true rfl) (fun _ _ _ q => q.elim) (fun v n2 h2 q => ?_)
      obtain ⟨rfl, q⟩ := q
      rcases q with ⟨kb3, rfl, hh⟩ | ⟨kb3, rfl, hh⟩
      · obtain rfl := hh.symm
        have bm := of_decide_eq_true kb3
        refine ⟨rfl, ?_⟩
        dsimp only [Option.toList, List.cons_append, List.nil_append]
        refine r_if_eq (tgt := 38) dX9_read_26 (by decide) ⟨by omega, by omega⟩ (fun g26 => absurd g26 (by omega)) (fun g26 => ?_)
        refine r_aload_n dX9_read_29 rfl rfl ?_
        refine r_iload dX9_read_30 rfl ?_
        refine r_callV 68 [_] (s_X9_isMinute (by rfl) (by first | rfl | exact hz0) ito) dX9_read_32 cs_X9_275 im_X9_isMinute (by decide) rfl rfl (by decide) (by decide) (by decide) rfl rfl (Nat.le_of_ble_eq_true rfl) (fun _ _ _ q => q.elim) (fun v n2 h2 q => ?_)
        obtain ⟨rfl, q⟩ := q
        rcases q with ⟨kb4, rfl, hh⟩ | ⟨kb4, rfl, hh⟩
        · obtain rfl := hh.symm
          have bto := of_decide_eq_true kb4
          refine ⟨rfl, ?_⟩
          dsimp only [Option.toList, List.cons_append, List.nil_append]
          refine r_if_ne (tgt := 40) dX9_read_35 (by decide) ⟨by omega, by omega⟩ (fun g35 => ?_) (fun g35 => absurd g35 (by omega))
          refine r_aload_n dX9_read_40 rfl rfl ?_
          refine r_getR (z := (g 33)) dX9_read_41 fl_X9_224 (by decide) rfl rfl ?_
          rw [e33]
          refine r_bipush dX9_read_44 rfl ?_
          refine r_icmp_ne (tgt := 55) dX9_read_46 (by decide) ⟨by omega, by omega⟩ ⟨by omega, by omega⟩ (fun g46 => ?_) (fun g46 => ?_)
          · refine r_iconst dX9_read_55 ?_
            refine r_aload_n dX9_read_56 rfl rfl ?_
            refine r_getR (z := (g 33)) dX9_read_57 fl_X9_224 (by decide) rfl rfl ?_
            rw [e33]
            refine r_imul dX9_read_60 ?_
            refine r_istore (lv2 := [(0, _), (1, _), (2, _), (3, _), (4, _), (5, _)]) dX9_read_61 (by decide) rfl rfl ?_
            refine r_aload_n dX9_read_63 rfl rfl ?_
            refine r_get (fs := RGL _ _) dX9_read_64 fl_X9_54 (by decide) rfl rfl ?_
            refine r_iload dX9_read_67 rfl ?_
            refine r_iload_n dX9_read_69 rfl rfl ?_
            refine r_ast dX9_read_70 (by decide) c80 (by omega) (by omega) (by decide) ?_
            refine r_aload_n dX9_read_71 rfl rfl ?_
            refine r_get (fs := RGL _ _) dX9_read_72 fl_X9_54 (by decide) rfl rfl ?_
            refine r_iload dX9_read_75 rfl ?_
            refine r_iconst dX9_read_77 ?_
            refine r_iadd dX9_read_78 ?_
            refine r_iload_n dX9_read_79 rfl rfl ?_
            refine r_ast dX9_read_80 (by decide) rfl (by omega) (by omega) (by decide) ?_
            refine r_aload_n dX9_read_81 rfl rfl ?_
            refine r_get (fs := RGL _ _) dX9_read_82 fl_X9_54 (by decide) rfl rfl ?_
            refine r_iload dX9_read_85 rfl ?_
            refine r_iconst dX9_read_87 ?_
            refine r_iadd dX9_read_88 ?_
            refine r_iload_n dX9_read_89 rfl rfl ?_
            refine r_ast dX9_read_90 (by decide) rfl (by omega) (by omega) (by decide) ?_
            refine r_aload_n dX9_read_91 rfl rfl ?_
            refine r_get (fs := RGL _ _) dX9_read_92 fl_X9_54 (by decide) rfl rfl ?_
            refine r_iload dX9_read_95 rfl ?_
            refine r_iconst dX9_read_97 ?_
            refine r_iadd dX9_read_98 ?_
            refine r_iload dX9_read_99 rfl ?_
            refine r_ast dX9_read_101 (by decide) rfl (by omega) (by omega) (by decide) ?_
            refine r_aload_n dX9_read_102 rfl rfl ?_
            refine r_dup dX9_read_103 rfl ?_
            refine r_getR (z := (g 33)) dX9_read_104 fl_X9_224 (by decide) rfl rfl ?_
            refine r_iconst dX9_read_107 ?_
            refine r_iadd dX9_read_108 ?_
            refine r_putR dX9_read_109 fp_X9_224 (by decide) rfl (nar_int _) (Nat.le_of_ble_eq_true rfl) setR_33 (fun z1 hz1 => ?_)
            refine r_aload_n dX9_read_112 rfl rfl ?_
            refine r_getR (z := z1) dX9_read_113 fl_X9_224 (by decide) rfl rfl ?_
            refine r_iret dX9_read_116 ?_
            rw [if_pos (by omega)] at e0
            rw [e0]
            exact ⟨rfl, ⟨_, rfl, fun _ => (by show _ = nr + 1; omega)⟩, ref_eq ((ocT kb1).trans ((ocT kb2).trans ((ocT kb3).trans ((ocT kb4).trans ocE)))) (RefC_mk (g := (va_up (va_up g 0 z0) 33 z1)) rfl (by exact c69) (by exact c70) (by exact c71) (by exact c72) (by exact c73) (by exact c74) (by exact c75) (by exact c76) (by exact c77) (by exact c78) (by exact c79) rfl (by exact c81) (by exact c82) (by exact c83) (by exact c84) (by exact c85) (by exact c86) (by exact c87) (by exact c88) (by exact c89) (by exact c90) (by exact c91) (by exact c92) (by exact c93) (by exact c94) (by exact c95) (by first | exact (hz0.trans (congrArg (fun n : Nat => (n : Int)) ((ocT kb1).trans ((ocT kb2).trans ((ocT kb3).trans ((ocT kb4).trans ocE)))).symm)) | exact (kp2 0 (by decide)).trans (hz0.trans (congrArg (fun n : Nat => (n : Int)) ((ocT kb1).trans ((ocT kb2).trans ((ocT kb3).trans ((ocT kb4).trans ocE)))).symm))) (RR_mk (by first | exact e8 | exact (kp2 8 (by decide)).trans e8) (by first | exact e10 | exact (kp2 10 (by decide)).trans e10) (by show z1 = nr + 1; omega) (by first | exact e38 | exact (kp2 38 (by decide)).trans e38) (by first | exact e44 | exact (kp2 44 (by decide)).trans e44) (by first | exact e53 | exact (kp2 53 (by decide)).trans e53) (by first | exact tr | exact tell_kp (by exact tr) kp2) pi ⟨⟨by omega, by omega⟩, pns, pnm2, (up_L prd (by omega)), (up_L pry (by omega)), (up_L prm (by omega)), (up_L prt (by omega)), pse, pmd2, pmy2, pmt2⟩ (by first | exact li | exact li2) rrf rtp htp (rdR_up rrd pnr.1) rse phl phi rim rco ht nM nsn)), (by repeat (first | exact fun _ _ => rfl | refine frr_up ?_ (by decide)))⟩
          · refine r_aload_n dX9_read_49 rfl rfl ?_
            refine r_iconst dX9_read_50 ?_
            refine r_callV 68 [_] (s_X9_refuses (by rfl) (by exact c73) (by decide)) dX9_read_51 cs_X9_282 im_X9_refuses (by decide) rfl rfl (by decide) (by decide) (by decide) rfl rfl (Nat.le_of_ble_eq_true rfl) (fun _ _ _ q => q.elim) (fun v n2 h2 q => ?_)
            obtain ⟨rfl, rfl, hh⟩ := q
            obtain rfl := hh.symm
            refine ⟨rfl, ?_⟩
            dsimp only [Option.toList, List.cons_append, List.nil_append]
            refine r_iret dX9_read_54 ?_
            rw [if_neg (by omega)] at e0
            rw [e0]
            exact ⟨rfl, ⟨_, rfl, fun _ => rfl⟩, ref_eq ((ocT kb1).trans ((ocT kb2).trans ((ocT kb3).trans ((ocT kb4).trans ocE)))) (RefC_mk (g := (va_up g 0 z0)) rfl (by exact c69) (by exact c70) (by exact c71) (by exact c72) rfl (by exact c74) (by exact c75) (by exact c76) (by exact c77) (by exact c78) (by exact c79) (by exact c80) (by exact c81) (by exact c82) (by exact c83) (by exact c84) (by exact c85) (by exact c86) (by exact c87) (by exact c88) (by exact c89) (by exact c90) (by exact c91) (by exact c92) (by exact c93) (by exact c94) (by exact c95) (by first | exact (hz0.trans (congrArg (fun n : Nat => (n : Int)) ((ocT kb1).trans ((ocT kb2).trans ((ocT kb3).trans ((ocT kb4).trans ocE)))).symm)) | exact (kp2 0 (by decide)).trans (hz0.trans (congrArg (fun n : Nat => (n : Int)) ((ocT kb1).trans ((ocT kb2).trans ((ocT kb3).trans ((ocT kb4).trans ocE)))).symm))) (RR_mk (by first | exact e8 | exact (kp2 8 (by decide)).trans e8) (by first | exact e10 | exact (kp2 10 (by decide)).trans e10) (by first | exact e33 | exact (kp2 33 (by decide)).trans e33) (by first | exact e38 | exact (kp2 38 (by decide)).trans e38) (by first | exact e44 | exact (kp2 44 (by decide)).trans e44) (by first | exact e53 | exact (kp2 53 (by decide)).trans e53) (by first | exact tr | exact tell_kp (by exact tr) kp2) pi ni (by first | exact li | exact li2) (fun j hj => by show va_up rfr 1 (rfr 1 + 1) j = va_up rf 1 (rf 1 + 1) j; by_cases q : j = 1; (subst q; rw [va_up_self, va_up_self, rrf _ (by decide)]); (rw [va_up_ne _ _ q, va_up_ne _ _ q]; exact rrf j hj)) rtp htp rrd rse phl phi rim rco ht nM nsn)), (by repeat (first | exact fun _ _ => rfl | refine frr_up ?_ (by decide)))⟩
        · obtain rfl := hh.symm
          refine ⟨rfl, ?_⟩
          dsimp only [Option.toList, List.cons_append, List.nil_append]
          refine r_if_ne (tgt := 40) dX9_read_35 (by decide) ⟨by omega, by omega⟩ (fun g35 => absurd g35 (by omega)) (fun g35 => ?_)
          refine r_iconst dX9_read_38 ?_
          refine r_iret dX9_read_39 ?_
          first
            | exact ⟨rfl, ⟨0, rfl, fun z => absurd ((ocF kb1).symm.trans z) (by decide)⟩, ref_ne (ocF kb1) (RefC_mk (g := (va_up (va_up g 0 z0) 0 1)) rfl (by exact c69) (by exact c70) (by exact c71) (by exact c72) (by exact c73) (by exact c74) (by exact c75) (by exact c76) (by exact c77) (by exact c78) (by exact c79) (by exact c80) (by exact c81) (by exact c82) (by exact c83) (by exact c84) (by exact c85) (by exact c86) (by exact c87) (by exact c88) (by exact c89) (by exact c90) (by exact c91) (by exact c92) (by exact c93) (by exact c94) (by exact c95) (congrArg (fun n : Nat => (n : Int)) (ocF kb1).symm) (RR_mk (by first | exact e8 | exact (kp2 8 (by decide)).trans e8) (by first | exact e10 | exact (kp2 10 (by decide)).trans e10) (by first | exact e33 | exact (kp2 33 (by decide)).trans e33) (by first | exact e38 | exact (kp2 38 (by decide)).trans e38) (by first | exact e44 | exact (kp2 44 (by decide)).trans e44) (by first | exact e53 | exact (kp2 53 (by decide)).trans e53) (by first | exact tr | exact tell_kp (by exact tr) kp2) pi ni (by first | exact li | exact li2) rrf rtp htp rrd rse phl phi rim rco ht nM nsn)), (by repeat (first | exact fun _ _ => rfl | refine frr_up ?_ (by decide)))⟩
            | exact ⟨rfl, ⟨0, rfl, fun z => absurd (((ocT kb1).trans (ocF kb2)).symm.trans z) (by decide)⟩, ref_ne ((ocT kb1).trans (ocF kb2)) (RefC_mk (g := (va_up (va_up g 0 z0) 0 1)) rfl (by exact c69) (by exact c70) (by exact c71) (by exact c72) (by exact c73) (by exact c74) (by exact c75) (by exact c76) (by exact c77) (by exact c78) (by exact c79) (by exact c80) (by exact c81) (by exact c82) (by exact c83) (by exact c84) (by exact c85) (by exact c86) (by exact c87) (by exact c88) (by exact c89) (by exact c90) (by exact c91) (by exact c92) (by exact c93) (by exact c94) (by exact c95) (congrArg (fun n : Nat => (n : Int)) ((ocT kb1).trans (ocF kb2)).symm) (RR_mk (by first | exact e8 | exact (kp2 8 (by decide)).trans e8) (by first | exact e10 | exact (kp2 10 (by decide)).trans e10) (by first | exact e33 | exact (kp2 33 (by decide)).trans e33) (by first | exact e38 | exact (kp2 38 (by decide)).trans e38) (by first | exact e44 | exact (kp2 44 (by decide)).trans e44) (by first | exact e53 | exact (kp2 53 (by decide)).trans e53) (by first | exact tr | exact tell_kp (by exact tr) kp2) pi ni (by first | exact li | exact li2) rrf rtp htp rrd rse phl phi rim rco ht nM nsn)), (by repeat (first | exact fun _ _ => rfl | refine frr_up ?_ (by decide)))⟩
            | exact ⟨rfl, ⟨0, rfl, fun z => absurd (((ocT kb1).trans ((ocT kb2).trans (ocF kb3))).symm.trans z) (by decide)⟩, ref_ne ((ocT kb1).trans ((ocT kb2).trans (ocF kb3))) (RefC_mk (g := (va_up (va_up g 0 z0) 0 1)) rfl (by exact c69) (by exact c70) (by exact c71) (by exact c72) (by exact c73) (by exact c74) (by exact c75) (by exact c76) (by exact c77) (by exact c78) (by exact c79) (by exact c80) (by exact c81) (by exact c82) (by exact c83) (by exact c84) (by exact c85) (by exact c86) (by exact c87) (by exact c88) (by exact c89) (by exact c90) (by exact c91) (by exact c92) (by exact c93) (by exact c94) (by exact c95) (congrArg (fun n : Nat => (n : Int)) ((ocT kb1).trans ((ocT kb2).trans (ocF kb3))).symm) (RR_mk (by first | exact e8 | exact (kp2 8 (by decide)).trans e8) (by first | exact e10 | exact (kp2 10 (by decide)).trans e10) (by first | exact e33 | exact (kp2 33 (by decide)).trans e33) (by first | exact e38 | exact (kp2 38 (by decide)).trans e38) (by first | exact e44 | exact (kp2 44 (by decide)).trans e44) (by first | exact e53 | exact (kp2 53 (by decide)).trans e53) (by first | exact tr | exact tell_kp (by exact tr) kp2) pi ni (by first | exact li | exact li2) rrf rtp htp rrd rse phl phi rim rco ht nM nsn)), (by repeat (first | exact fun _ _ => rfl | refine frr_up ?_ (by decide)))⟩
            | exact ⟨rfl, ⟨0, rfl, fun z => absurd (((ocT kb1).trans ((ocT kb2).trans ((ocT kb3).trans (ocF kb4)))).symm.trans z) (by decide)⟩, ref_ne ((ocT kb1).trans ((ocT kb2).trans ((ocT kb3).trans (ocF kb4)))) (RefC_mk (g := (va_up (va_up g 0 z0) 0 1)) rfl (by exact c69) (by exact c70) (by exact c71) (by exact c72) (by exact c73) (by exact c74) (by exact c75) (by exact c76) (by exact c77) (by exact c78) (by exact c79) (by exact c80) (by exact c81) (by exact c82) (by exact c83) (by exact c84) (by exact c85) (by exact c86) (by exact c87) (by exact c88) (by exact c89) (by exact c90) (by exact c91) (by exact c92) (by exact c93) (by exact c94) (by exact c95) (congrArg (fun n : Nat => (n : Int)) ((ocT kb1).trans ((ocT kb2).trans ((ocT kb3).trans (ocF kb4)))).symm) (RR_mk (by first | exact e8 | exact (kp2 8 (by decide)).trans e8) (by first | exact e10 | exact (kp2 10 (by decide)).trans e10) (by first | exact e33 | exact (kp2 33 (by decide)).trans e33) (by first | exact e38 | exact (kp2 38 (by decide)).trans e38) (by first | exact e44 | exact (kp2 44 (by decide)).trans e44) (by first | exact e53 | exact (kp2 53 (by decide)).trans e53) (by first | exact tr | exact tell_kp (by exact tr) kp2) pi ni (by first | exact li | exact li2) rrf rtp htp rrd rse phl phi rim rco ht nM nsn)), (by repeat (first | exact fun _ _ => rfl | refine frr_up ?_ (by decide)))⟩
      · obtain rfl := hh.symm
        refine ⟨rfl, ?_⟩
        dsimp only [Option.toList, List.cons_append, List.nil_append]
        refine r_if_eq (tgt := 38) dX9_read_26 (by decide) ⟨by omega, by omega⟩ (fun g26 => ?_) (fun g26 => absurd g26 (by omega))
        refine r_iconst dX9_read_38 ?_
        refine r_iret dX9_read_39 ?_
        first
          | exact ⟨rfl, ⟨0, rfl, fun z => absurd ((ocF kb1).symm.trans z) (by decide)⟩, ref_ne (ocF kb1) (RefC_mk (g := (va_up (va_up g 0 z0) 0 1)) rfl (by exact c69) (by exact c70) (by exact c71) (by exact c72) (by exact c73) (by exact c74) (by exact c75) (by exact c76) (by exact c77) (by exact c78) (by exact c79) (by exact c80) (by exact c81) (by exact c82) (by exact c83) (by exact c84) (by exact c85) (by exact c86) (by exact c87) (by exact c88) (by exact c89) (by exact c90) (by exact c91) (by exact c92) (by exact c93) (by exact c94) (by exact c95) (congrArg (fun n : Nat => (n : Int)) (ocF kb1).symm) (RR_mk (by first | exact e8 | exact (kp2 8 (by decide)).trans e8) (by first | exact e10 | exact (kp2 10 (by decide)).trans e10) (by first | exact e33 | exact (kp2 33 (by decide)).trans e33) (by first | exact e38 | exact (kp2 38 (by decide)).trans e38) (by first | exact e44 | exact (kp2 44 (by decide)).trans e44) (by first | exact e53 | exact (kp2 53 (by decide)).trans e53) (by first | exact tr | exact tell_kp (by exact tr) kp2) pi ni (by first | exact li | exact li2) rrf rtp htp rrd rse phl phi rim rco ht nM nsn)), (by repeat (first | exact fun _ _ => rfl | refine frr_up ?_ (by decide)))⟩
          | exact ⟨rfl, ⟨0, rfl, fun z => absurd (((ocT kb1).trans (ocF kb2)).symm.trans z) (by decide)⟩, ref_ne ((ocT kb1).trans (ocF kb2)) (RefC_mk (g := (va_up (va_up g 0 z0) 0 1)) rfl (by exact c69) (by exact c70) (by exact c71) (by exact c72) (by exact c73) (by exact c74) (by exact c75) (by exact c76) (by exact c77) (by exact c78) (by exact c79) (by exact c80) (by exact c81) (by exact c82) (by exact c83) (by exact c84) (by exact c85) (by exact c86) (by exact c87) (by exact c88) (by exact c89) (by exact c90) (by exact c91) (by exact c92) (by exact c93) (by exact c94) (by exact c95) (congrArg (fun n : Nat => (n : Int)) ((ocT kb1).trans (ocF kb2)).symm) (RR_mk (by first | exact e8 | exact (kp2 8 (by decide)).trans e8) (by first | exact e10 | exact (kp2 10 (by decide)).trans e10) (by first | exact e33 | exact (kp2 33 (by decide)).trans e33) (by first | exact e38 | exact (kp2 38 (by decide)).trans e38) (by first | exact e44 | exact (kp2 44 (by decide)).trans e44) (by first | exact e53 | exact (kp2 53 (by decide)).trans e53) (by first | exact tr | exact tell_kp (by exact tr) kp2) pi ni (by first | exact li | exact li2) rrf rtp htp rrd rse phl phi rim rco ht nM nsn)), (by repeat (first | exact fun _ _ => rfl | refine frr_up ?_ (by decide)))⟩
          | exact ⟨rfl, ⟨0, rfl, fun z => absurd (((ocT kb1).trans ((ocT kb2).trans (ocF kb3))).symm.trans z) (by decide)⟩, ref_ne ((ocT kb1).trans ((ocT kb2).trans (ocF kb3))) (RefC_mk (g := (va_up (va_up g 0 z0) 0 1)) rfl (by exact c69) (by exact c70) (by exact c71) (by exact c72) (by exact c73) (by exact c74) (by exact c75) (by exact c76) (by exact c77) (by exact c78) (by exact c79) (by exact c80) (by exact c81) (by exact c82) (by exact c83) (by exact c84) (by exact c85) (by exact c86) (by exact c87) (by exact c88) (by exact c89) (by exact c90) (by exact c91) (by exact c92) (by exact c93) (by exact c94) (by exact c95) (congrArg (fun n : Nat => (n : Int)) ((ocT kb1).trans ((ocT kb2).trans (ocF kb3))).symm) (RR_mk (by first | exact e8 | exact (kp2 8 (by decide)).trans e8) (by first | exact e10 | exact (kp2 10 (by decide)).trans e10) (by first | exact e33 | exact (kp2 33 (by decide)).trans e33) (by first | exact e38 | exact (kp2 38 (by decide)).trans e38) (by first | exact e44 | exact (kp2 44 (by decide)).trans e44) (by first | exact e53 | exact (kp2 53 (by decide)).trans e53) (by first | exact tr | exact tell_kp (by exact tr) kp2) pi ni (by first | exact li | exact li2) rrf rtp htp rrd rse phl phi rim rco ht nM nsn)), (by repeat (first | exact fun _ _ => rfl | refine frr_up ?_ (by decide)))⟩
          | exact ⟨rfl, ⟨0, rfl, fun z => absurd (((ocT kb1).trans ((ocT kb2).trans ((ocT kb3).trans (ocF kb4)))).symm.trans z) (by decide)⟩, ref_ne ((ocT kb1).trans ((ocT kb2).trans ((ocT kb3).trans (ocF kb4)))) (RefC_mk (g := (va_up (va_up g 0 z0) 0 1)) rfl (by exact c69) (by exact c70) (by exact c71) (by exact c72) (by exact c73) (by exact c74) (by exact c75) (by exact c76) (by exact c77) (by exact c78) (by exact c79) (by exact c80) (by exact c81) (by exact c82) (by exact c83) (by exact c84) (by exact c85) (by exact c86) (by exact c87) (by exact c88) (by exact c89) (by exact c90) (by exact c91) (by exact c92) (by exact c93) (by exact c94) (by exact c95) (congrArg (fun n : Nat => (n : Int)) ((ocT kb1).trans ((ocT kb2).trans ((ocT kb3).trans (ocF kb4)))).symm) (RR_mk (by first | exact e8 | exact (kp2 8 (by decide)).trans e8) (by first | exact e10 | exact (kp2 10 (by decide)).trans e10) (by first | exact e33 | exact (kp2 33 (by decide)).trans e33) (by first | exact e38 | exact (kp2 38 (by decide)).trans e38) (by first | exact e44 | exact (kp2 44 (by decide)).trans e44) (by first | exact e53 | exact (kp2 53 (by decide)).trans e53) (by first | exact tr | exact tell_kp (by exact tr) kp2) pi ni (by first | exact li | exact li2) rrf rtp htp rrd rse phl phi rim rco ht nM nsn)), (by repeat (first | exact fun _ _ => rfl | refine frr_up ?_ (by decide)))⟩
    · obtain rfl := hh.symm
      refine ⟨rfl, ?_⟩
      dsimp only [Option.toList, List.cons_append, List.nil_append]
      refine r_if_eq (tgt := 38) dX9_read_18 (by decide) ⟨by omega, by omega⟩ (fun g18 => ?_) (fun g18 => absurd g18 (by omega))
      refine r_iconst dX9_read_38 ?_
      refine r_iret dX9_read_39 ?_
      first
        | exact ⟨rfl, ⟨0, rfl, fun z => absurd ((ocF kb1).symm.trans z) (by decide)⟩, ref_ne (ocF kb1) (RefC_mk (g := (va_up (va_up g 0 z0) 0 1)) rfl (by exact c69) (by exact c70) (by exact c71) (by exact c72) (by exact c73) (by exact c74) (by exact c75) (by exact c76) (by exact c77) (by exact c78) (by exact c79) (by exact c80) (by exact c81) (by exact c82) (by exact c83) (by exact c84) (by exact c85) (by exact c86) (by exact c87) (by exact c88) (by exact c89) (by exact c90) (by exact c91) (by exact c92) (by exact c93) (by exact c94) (by exact c95) (congrArg (fun n : Nat => (n : Int)) (ocF kb1).symm) (RR_mk (by first | exact e8 | exact (kp2 8 (by decide)).trans e8) (by first | exact e10 | exact (kp2 10 (by decide)).trans e10) (by first | exact e33 | exact (kp2 33 (by decide)).trans e33) (by first | exact e38 | exact (kp2 38 (by decide)).trans e38) (by first | exact e44 | exact (kp2 44 (by decide)).trans e44) (by first | exact e53 | exact (kp2 53 (by decide)).trans e53) (by first | exact tr | exact tell_kp (by exact tr) kp2) pi ni (by first | exact li | exact li2) rrf rtp htp rrd rse phl phi rim rco ht nM nsn)), (by repeat (first | exact fun _ _ => rfl | refine frr_up ?_ (by decide)))⟩
        | exact ⟨rfl, ⟨0, rfl, fun z => absurd (((ocT kb1).trans (ocF kb2)).symm.trans z) (by decide)⟩, ref_ne ((ocT kb1).trans (ocF kb2)) (RefC_mk (g := (va_up (va_up g 0 z0) 0 1)) rfl (by exact c69) (by exact c70) (by exact c71) (by exact c72) (by exact c73) (by exact c74) (by exact c75) (by exact c76) (by exact c77) (by exact c78) (by exact c79) (by exact c80) (by exact c81) (by exact c82) (by exact c83) (by exact c84) (by exact c85) (by exact c86) (by exact c87) (by exact c88) (by exact c89) (by exact c90) (by exact c91) (by exact c92) (by exact c93) (by exact c94) (by exact c95) (congrArg (fun n : Nat => (n : Int)) ((ocT kb1).trans (ocF kb2)).symm) (RR_mk (by first | exact e8 | exact (kp2 8 (by decide)).trans e8) (by first | exact e10 | exact (kp2 10 (by decide)).trans e10) (by first | exact e33 | exact (kp2 33 (by decide)).trans e33) (by first | exact e38 | exact (kp2 38 (by decide)).trans e38) (by first | exact e44 | exact (kp2 44 (by decide)).trans e44) (by first | exact e53 | exact (kp2 53 (by decide)).trans e53) (by first | exact tr | exact tell_kp (by exact tr) kp2) pi ni (by first | exact li | exact li2) rrf rtp htp rrd rse phl phi rim rco ht nM nsn)), (by repeat (first | exact fun _ _ => rfl | refine frr_up ?_ (by decide)))⟩
        | exact ⟨rfl, ⟨0, rfl, fun z => absurd (((ocT kb1).trans ((ocT kb2).trans (ocF kb3))).symm.trans z) (by decide)⟩, ref_ne ((ocT kb1).trans ((ocT kb2).trans (ocF kb3))) (RefC_mk (g := (va_up (va_up g 0 z0) 0 1)) rfl (by exact c69) (by exact c70) (by exact c71) (by exact c72) (by exact c73) (by exact c74) (by exact c75) (by exact c76) (by exact c77) (by exact c78) (by exact c79) (by exact c80) (by exact c81) (by exact c82) (by exact c83) (by exact c84) (by exact c85) (by exact c86) (by exact c87) (by exact c88) (by exact c89) (by exact c90) (by exact c91) (by exact c92) (by exact c93) (by exact c94) (by exact c95) (congrArg (fun n : Nat => (n : Int)) ((ocT kb1).trans ((ocT kb2).trans (ocF kb3))).symm) (RR_mk (by first | exact e8 | exact (kp2 8 (by decide)).trans e8) (by first | exact e10 | exact (kp2 10 (by decide)).trans e10) (by first | exact e33 | exact (kp2 33 (by decide)).trans e33) (by first | exact e38 | exact (kp2 38 (by decide)).trans e38) (by first | exact e44 | exact (kp2 44 (by decide)).trans e44) (by first | exact e53 | exact (kp2 53 (by decide)).trans e53) (by first | exact tr | exact tell_kp (by exact tr) kp2) pi ni (by first | exact li | exact li2) rrf rtp htp rrd rse phl phi rim rco ht nM nsn)), (by repeat (first | exact fun _ _ => rfl | refine frr_up ?_ (by decide)))⟩
        | exact ⟨rfl, ⟨0, rfl, fun z => absurd (((ocT kb1).trans ((ocT kb2).trans ((ocT kb3).trans (ocF kb4)))).symm.trans z) (by decide)⟩, ref_ne ((ocT kb1).trans ((ocT kb2).trans ((ocT kb3).trans (ocF kb4)))) (RefC_mk (g := (va_up (va_up g 0 z0) 0 1)) rfl (by exact c69) (by exact c70) (by exact c71) (by exact c72) (by exact c73) (by exact c74) (by exact c75) (by exact c76) (by exact c77) (by exact c78) (by exact c79) (by exact c80) (by exact c81) (by exact c82) (by exact c83) (by exact c84) (by exact c85) (by exact c86) (by exact c87) (by exact c88) (by exact c89) (by exact c90) (by exact c91) (by exact c92) (by exact c93) (by exact c94) (by exact c95) (congrArg (fun n : Nat => (n : Int)) ((ocT kb1).trans ((ocT kb2).trans ((ocT kb3).trans (ocF kb4)))).symm) (RR_mk (by first | exact e8 | exact (kp2 8 (by decide)).trans e8) (by first | exact e10 | exact (kp2 10 (by decide)).trans e10) (by first | exact e33 | exact (kp2 33 (by decide)).trans e33) (by first | exact e38 | exact (kp2 38 (by decide)).trans e38) (by first | exact e44 | exact (kp2 44 (by decide)).trans e44) (by first | exact e53 | exact (kp2 53 (by decide)).trans e53) (by first | exact tr | exact tell_kp (by exact tr) kp2) pi ni (by first | exact li | exact li2) rrf rtp htp rrd rse phl phi rim rco ht nM nsn)), (by repeat (first | exact fun _ _ => rfl | refine frr_up ?_ (by decide)))⟩
  · obtain rfl := hh.symm
    replace kb1 : diaB nd di = false := by rw [← t1]; exact kb1
    refine ⟨rfl, ?_⟩
    dsimp only [Option.toList, List.cons_append, List.nil_append]
    refine r_if_eq (tgt := 38) dX9_read_10 (by decide) ⟨by omega, by omega⟩ (fun g10 => ?_) (fun g10 => absurd g10 (by omega))
    refine r_iconst dX9_read_38 ?_
    refine r_iret dX9_read_39 ?_
    first
      | exact ⟨rfl, ⟨0, rfl, fun z => absurd ((ocF kb1).symm.trans z) (by decide)⟩, ref_ne (ocF kb1) (RefC_mk (g := (va_up (va_up g 0 z0) 0 1)) rfl (by exact c69) (by exact c70) (by exact c71) (by exact c72) (by exact c73) (by exact c74) (by exact c75) (by exact c76) (by exact c77) (by exact c78) (by exact c79) (by exact c80) (by exact c81) (by exact c82) (by exact c83) (by exact c84) (by exact c85) (by exact c86) (by exact c87) (by exact c88) (by exact c89) (by exact c90) (by exact c91) (by exact c92) (by exact c93) (by exact c94) (by exact c95) (congrArg (fun n : Nat => (n : Int)) (ocF kb1).symm) (RR_mk (by first | exact e8 | exact (kp2 8 (by decide)).trans e8) (by first | exact e10 | exact (kp2 10 (by decide)).trans e10) (by first | exact e33 | exact (kp2 33 (by decide)).trans e33) (by first | exact e38 | exact (kp2 38 (by decide)).trans e38) (by first | exact e44 | exact (kp2 44 (by decide)).trans e44) (by first | exact e53 | exact (kp2 53 (by decide)).trans e53) (by first | exact tr | exact tell_kp (by exact tr) kp2) pi ni (by first | exact li | exact li2) rrf rtp htp rrd rse phl phi rim rco ht nM nsn)), (by repeat (first | exact fun _ _ => rfl | refine frr_up ?_ (by decide)))⟩
      | exact ⟨rfl, ⟨0, rfl, fun z => absurd (((ocT kb1).trans (ocF kb2)).symm.trans z) (by decide)⟩, ref_ne ((ocT kb1).trans (ocF kb2)) (RefC_mk (g := (va_up (va_up g 0 z0) 0 1)) rfl (by exact c69) (by exact c70) (by exact c71) (by exact c72) (by exact c73) (by exact c74) (by exact c75) (by exact c76) (by exact c77) (by exact c78) (by exact c79) (by exact c80) (by exact c81) (by exact c82) (by exact c83) (by exact c84) (by exact c85) (by exact c86) (by exact c87) (by exact c88) (by exact c89) (by exact c90) (by exact c91) (by exact c92) (by exact c93) (by exact c94) (by exact c95) (congrArg (fun n : Nat => (n : Int)) ((ocT kb1).trans (ocF kb2)).symm) (RR_mk (by first | exact e8 | exact (kp2 8 (by decide)).trans e8) (by first | exact e10 | exact (kp2 10 (by decide)).trans e10) (by first | exact e33 | exact (kp2 33 (by decide)).trans e33) (by first | exact e38 | exact (kp2 38 (by decide)).trans e38) (by first | exact e44 | exact (kp2 44 (by decide)).trans e44) (by first | exact e53 | exact (kp2 53 (by decide)).trans e53) (by first | exact tr | exact tell_kp (by exact tr) kp2) pi ni (by first | exact li | exact li2) rrf rtp htp rrd rse phl phi rim rco ht nM nsn)), (by repeat (first | exact fun _ _ => rfl | refine frr_up ?_ (by decide)))⟩
      | exact ⟨rfl, ⟨0, rfl, fun z => absurd (((ocT kb1).trans ((ocT kb2).trans (ocF kb3))).symm.trans z) (by decide)⟩, ref_ne ((ocT kb1).trans ((ocT kb2).trans (ocF kb3))) (RefC_mk (g := (va_up (va_up g 0 z0) 0 1)) rfl (by exact c69) (by exact c70) (by exact c71) (by exact c72) (by exact c73) (by exact c74) (by exact c75) (by exact c76) (by exact c77) (by exact c78) (by exact c79) (by exact c80) (by exact c81) (by exact c82) (by exact c83) (by exact c84) (by exact c85) (by exact c86) (by exact c87) (by exact c88) (by exact c89) (by exact c90) (by exact c91) (by exact c92) (by exact c93) (by exact c94) (by exact c95) (congrArg (fun n : Nat => (n : Int)) ((ocT kb1).trans ((ocT kb2).trans (ocF kb3))).symm) (RR_mk (by first | exact e8 | exact (kp2 8 (by decide)).trans e8) (by first | exact e10 | exact (kp2 10 (by decide)).trans e10) (by first | exact e33 | exact (kp2 33 (by decide)).trans e33) (by first | exact e38 | exact (kp2 38 (by decide)).trans e38) (by first | exact e44 | exact (kp2 44 (by decide)).trans e44) (by first | exact e53 | exact (kp2 53 (by decide)).trans e53) (by first | exact tr | exact tell_kp (by exact tr) kp2) pi ni (by first | exact li | exact li2) rrf rtp htp rrd rse phl phi rim rco ht nM nsn)), (by repeat (first | exact fun _ _ => rfl | refine frr_up ?_ (by decide)))⟩
      | exact ⟨rfl, ⟨0, rfl, fun z => absurd (((ocT kb1).trans ((ocT kb2).trans ((ocT kb3).trans (ocF kb4)))).symm.trans z) (by decide)⟩, ref_ne ((ocT kb1).trans ((ocT kb2).trans ((ocT kb3).trans (ocF kb4)))) (RefC_mk (g := (va_up (va_up g 0 z0) 0 1)) rfl (by exact c69) (by exact c70) (by exact c71) (by exact c72) (by exact c73) (by exact c74) (by exact c75) (by exact c76) (by exact c77) (by exact c78) (by exact c79) (by exact c80) (by exact c81) (by exact c82) (by exact c83) (by exact c84) (by exact c85) (by exact c86) (by exact c87) (by exact c88) (by exact c89) (by exact c90) (by exact c91) (by exact c92) (by exact c93) (by exact c94) (by exact c95) (congrArg (fun n : Nat => (n : Int)) ((ocT kb1).trans ((ocT kb2).trans ((ocT kb3).trans (ocF kb4)))).symm) (RR_mk (by first | exact e8 | exact (kp2 8 (by decide)).trans e8) (by first | exact e10 | exact (kp2 10 (by decide)).trans e10) (by first | exact e33 | exact (kp2 33 (by decide)).trans e33) (by first | exact e38 | exact (kp2 38 (by decide)).trans e38) (by first | exact e44 | exact (kp2 44 (by decide)).trans e44) (by first | exact e53 | exact (kp2 53 (by decide)).trans e53) (by first | exact tr | exact tell_kp (by exact tr) kp2) pi ni (by first | exact li | exact li2) rrf rtp htp rrd rse phl phi rim rco ht nM nsn)), (by repeat (first | exact fun _ _ => rfl | refine frr_up ?_ (by decide)))⟩

theorem s_X9_mend {h : aH} {th : Int} {t : Nat → Int} {tp : Nat} {fpl hlaw himg : Int} {rf : Nat → Int} {nd sw nc hl hs : Int} {K U I O G L cf ct fc nx cd : Nat → Int} {nr ns nm : Int} {rd ry rm rt se md my mt : Nat → Int} {M : ND} {ls : LSm} (cr : RefC h (t, tp, fpl, rf, hlaw, himg, ((nd, sw, nc), (hl, hs), K, U, I, O, G, L, cf, ct, fc, nx, cd), ((nr, ns, nm), rd, ry, rm, rt, se, md, my, mt), M, ls) th) {di day tu : Int} (idi : inR di) (iday : inR day) (itu : inR tu)  : mSem yX9_mend cX9_mend 4 (some .int) 6 0 0 [.ref 68, iv di, iv day, iv tu] 97 h (RefQ (ocL [(diaB nd di, 1), (dayB day, 1)]) (mendS (t, tp, fpl, rf, hlaw, himg, ((nd, sw, nc), (hl, hs), K, U, I, O, G, L, cf, ct, fc, nx, cd), ((nr, ns, nm), rd, ry, rm, rt, se, md, my, mt), M, ls) di day tu).1 h (if (ocL [(diaB nd di, 1), (dayB day, 1)]) = 0 then (mendS (t, tp, fpl, rf, hlaw, himg, ((nd, sw, nc), (hl, hs), K, U, I, O, G, L, cf, ct, fc, nx, cd), ((nr, ns, nm), rd, ry, rm, rt, se, md, my, mt), M, ls) di day tu).2 else (t, tp, fpl, rf, hlaw, himg, ((nd, sw, nc), (hl, hs), K, U, I, O, G, L, cf, ct, fc, nx, cd), ((nr, ns, nm), rd, ry, rm, rt, se, md, my, mt), M, ls))) noX := by
  refine RefC_elim cr (fun g dl cl lm trr rfr nD nC nL lt lgt mn rdg cpl grp sea rts row cod ncod pil opn stg bsd imo imr ims imm w c68 c69 c70 c71 c72 c73 c74 c75 c76 c77 c78 c79 c80 c81 c82 c83 c84 c85 c86 c87 c88 c89 c90 c91 c92 c93 c94 c95 hth rr => ?_)
  refine RR_elim rr (fun e8 e10 e33 e38 e44 e53 tr pi ni li rrf rtp htp rrd rse phl phi rim rco ht nM nsn => ?_)
  obtain ⟨t1, t2, t3, t31, pnm, tdl, tcl, tlm, tmd, pmt, pmd, pmy⟩ := id tr
  obtain ⟨pnd, psw, pnc, pK, pU, pI, pO, pG, pL, pcf, pct, pfc, pnx⟩ := id pi
  obtain ⟨pnr, pns, pnm2, prd, pry, prm, prt, pse, pmd2, pmy2, pmt2⟩ := id ni
  unfold inR at idi iday itu
  have e0 : mendS (t, tp, fpl, rf, hlaw, himg, ((nd, sw, nc), (hl, hs), K, U, I, O, G, L, cf, ct, fc, nx, cd), ((nr, ns, nm), rd, ry, rm, rt, se, md, my, mt), M, ls) di day tu = if nm < 40 ∧ ¬ K di.toNat = 5 ∧ -120 ≤ tu ∧ tu ≤ 120 then (nm + 1, (t, tp, fpl, rf, hlaw, himg, ((nd, sw, nc), (hl, hs), K, U, I, O, G, L, cf, ct, fc, nx, cd), ((nr, ns, nm + 1), rd, ry, rm, rt, se, va_up md nm.toNat di, va_up my nm.toNat day, va_up mt nm.toNat tu), M, ls)) else (-1, (t, tp, fpl, (va_up rf 3 (rf 3 + 1)), hlaw, himg, ((nd, sw, nc), (hl, hs), K, U, I, O, G, L, cf, ct, fc, nx, cd), ((nr, ns, nm), rd, ry, rm, rt, se, md, my, mt), M, ls)) := rfl
  refine mSem_of (own := RX9) (name := "mend") pn_X9 rfl rfl (Nat.le_of_ble_eq_true rfl) ?_
  refine r_aload_n dX9_mend_0 rfl rfl ?_
  refine r_iconst dX9_mend_1 ?_
  refine r_putR dX9_mend_2 fp_X9_102 (by decide) c68 (nar_int _) (Nat.le_of_ble_eq_true rfl) setR_0 (fun z0 hz0 => ?_)
  refine r_aload_n dX9_mend_5 rfl rfl ?_
  refine r_iload_n dX9_mend_6 rfl rfl ?_
  refine r_callV 68 [_] (s_X9_isDial (by rfl) (by first | rfl | exact hz0) (by show 0 ≤ g 1 ∧ g 1 ≤ 9; omega) idi) dX9_mend_7 cs_X9_243 im_X9_isDial (by decide) rfl rfl (by decide) (by decide) (by decide) rfl rfl (Nat.le_of_ble_eq_true rfl) (fun _ _ _ q => q.elim) (fun v n2 h2 q => ?_)
  obtain ⟨rfl, q⟩ := q
  rcases q with ⟨kb1, rfl, hh⟩ | ⟨kb1, rfl, hh⟩
  · obtain rfl := hh.symm
    replace kb1 : diaB nd di = true := by rw [← t1]; exact kb1
    have bdi := of_decide_eq_true kb1
    refine ⟨rfl, ?_⟩
    dsimp only [Option.toList, List.cons_append, List.nil_append]
    refine r_if_eq (tgt := 21) dX9_mend_10 (by decide) ⟨by omega, by omega⟩ (fun g10 => absurd g10 (by omega)) (fun g10 => ?_)
    refine r_aload_n dX9_mend_13 rfl rfl ?_
    refine r_iload_n dX9_mend_14 rfl rfl ?_
    refine r_callV 68 [_] (s_X9_isDay (by rfl) (by first | rfl | exact hz0) iday) dX9_mend_15 cs_X9_259 im_X9_isDay (by decide) rfl rfl (by decide) (by decide) (by decide) rfl rfl (Nat.le_of_ble_eq_true rfl) (fun _ _ _ q => q.elim) (fun v n2 h2 q => ?_)
    obtain ⟨rfl, q⟩ := q
    rcases q with ⟨kb2, rfl, hh⟩ | ⟨kb2, rfl, hh⟩
    · obtain rfl := hh.symm
      have bday := of_decide_eq_true kb2
      refine ⟨rfl, ?_⟩
      dsimp only [Option.toList, List.cons_append, List.nil_append]
      refine r_if_ne (tgt := 23) dX9_mend_18 (by decide) ⟨by omega, by omega⟩ (fun g18 => ?_) (fun g18 => absurd g18 (by omega))
      refine r_aload_n dX9_mend_23 rfl rfl ?_
      refine r_getR (z := (g 31)) dX9_mend_24 fl_X9_230 (by decide) rfl rfl ?_
      rw [t31]
      obtain ⟨k1, k2, k3, k4, k5⟩ := tdl di.toNat (by omega)
      have bK := pK di.toNat
      refine r_bipush dX9_mend_27 rfl ?_
      refine r_icmp_eq (tgt := 55) dX9_mend_29 (by decide) ⟨by omega, by omega⟩ ⟨by omega, by omega⟩ (fun g29 => ?_) (fun g29 => ?_)
      · refine r_aload_n dX9_mend_55 rfl rfl ?_
        refine r_iconst dX9_mend_56 ?_
        refine r_callV 68 [_] (s_X9_refuses (by rfl) (by exact c73) (by decide)) dX9_mend_57 cs_X9_282 im_X9_refuses (by decide) rfl rfl (by decide) (by decide) (by decide) rfl rfl (Nat.le_of_ble_eq_true rfl) (fun _ _ _ q => q.elim) (fun v n2 h2 q => ?_)
        obtain ⟨rfl, rfl, hh⟩ := q
        obtain rfl := hh.symm
        refine ⟨rfl, ?_⟩
        dsimp only [Option.toList, List.cons_append, List.nil_append]
        refine r_iret dX9_mend_60 ?_
        rw [if_neg (by omega)] at e0
        rw [e0]
        exact ⟨rfl, ⟨_, rfl, fun _ => rfl⟩, ref_eq ((ocT kb1).trans ((ocT kb2).trans ocE)) (RefC_mk (g := (va_up g 0 z0)) rfl (by exact c69) (by exact c70) (by exact c71) (by exact c72) rfl (by exact c74) (by exact c75) (by exact c76) (by exact c77) (by exact c78) (by exact c79) (by exact c80) (by exact c81) (by exact c82) (by exact c83) (by exact c84) (by exact c85) (by exact c86) (by exact c87) (by exact c88) (by exact c89) (by exact c90) (by exact c91) (by exact c92) (by exact c93) (by exact c94) (by exact c95) (by first | exact (hz0.trans (congrArg (fun n : Nat => (n : Int)) ((ocT kb1).trans ((ocT kb2).trans ocE)).symm)) | exact (kp2 0 (by decide)).trans (hz0.trans (congrArg (fun n : Nat => (n : Int)) ((ocT kb1).trans ((ocT kb2).trans ocE)).symm))) (RR_mk (by first | exact e8 | exact (kp2 8 (by decide)).trans e8) (by first | exact e10 | exact (kp2 10 (by decide)).trans e10) (by first | exact e33 | exact (kp2 33 (by decide)).trans e33) (by first | exact e38 | exact (kp2 38 (by decide)).trans e38) (by first | exact e44 | exact (kp2 44 (by decide)).trans e44) (by first | exact e53 | exact (kp2 53 (by decide)).trans e53) (by first | exact tr | exact tell_kp (by exact tr) kp2) pi ni (by first | exact li | exact li2) (fun j hj => by show va_up rfr 3 (rfr 3 + 1) j = va_up rf 3 (rf 3 + 1) j; by_cases q : j = 3; (subst q; rw [va_up_self, va_up_self, rrf _ (by decide)]); (rw [va_up_ne _ _ q, va_up_ne _ _ q]; exact rrf j hj)) rtp htp rrd rse phl phi rim rco ht nM nsn)), (by repeat (first | exact fun _ _ => rfl | refine frr_up ?_ (by decide)))⟩
      · refine r_aload_n dX9_mend_32 rfl rfl ?_
        refine r_get (fs := RGL _ _) dX9_mend_33 fl_X9_13 (by decide) rfl rfl ?_
        refine r_iconst dX9_mend_36 ?_
        refine r_iload_n dX9_mend_37 rfl rfl ?_
        refine r_imul dX9_mend_38 ?_
        refine r_ald dX9_mend_39 (by decide) c69 (by omega) (by omega) (by decide) ?_
        rw [show (5 * di).toNat = 5 * di.toNat by omega, k1]
        refine r_iconst dX9_mend_40 ?_
        refine r_icmp_eq (tgt := 55) dX9_mend_41 (by decide) ⟨by omega, by omega⟩ ⟨by omega, by omega⟩ (fun g41 => ?_) (fun g41 => ?_)
        · refine r_aload_n dX9_mend_55 rfl rfl ?_
          refine r_iconst dX9_mend_56 ?_
          refine r_callV 68 [_] (s_X9_refuses (by rfl) (by exact c73) (by decide)) dX9_mend_57 cs_X9_282 im_X9_refuses (by decide) rfl rfl (by decide) (by decide) (by decide) rfl rfl (Nat.le_of_ble_eq_true rfl) (fun _ _ _ q => q.elim) (fun v n2 h2 q => ?_)
          obtain ⟨rfl, rfl, hh⟩ := q
          obtain rfl := hh.symm
          refine ⟨rfl, ?_⟩
          dsimp only [Option.toList, List.cons_append, List.nil_append]
          refine r_iret dX9_mend_60 ?_
          rw [if_neg (by omega)] at e0
          rw [e0]
          exact ⟨rfl, ⟨_, rfl, fun _ => rfl⟩, ref_eq ((ocT kb1).trans ((ocT kb2).trans ocE)) (RefC_mk (g := (va_up g 0 z0)) rfl (by exact c69) (by exact c70) (by exact c71) (by exact c72) rfl (by exact c74) (by exact c75) (by exact c76) (by exact c77) (by exact c78) (by exact c79) (by exact c80) (by exact c81) (by exact c82) (by exact c83) (by exact c84) (by exact c85) (by exact c86) (by exact c87) (by exact c88) (by exact c89) (by exact c90) (by exact c91) (by exact c92) (by exact c93) (by exact c94) (by exact c95) (by first | exact (hz0.trans (congrArg (fun n : Nat => (n : Int)) ((ocT kb1).trans ((ocT kb2).trans ocE)).symm)) | exact (kp2 0 (by decide)).trans (hz0.trans (congrArg (fun n : Nat => (n : Int)) ((ocT kb1).trans ((ocT kb2).trans ocE)).symm))) (RR_mk (by first | exact e8 | exact (kp2 8 (by decide)).trans e8) (by first | exact e10 | exact (kp2 10 (by decide)).trans e10) (by first | exact e33 | exact (kp2 33 (by decide)).trans e33) (by first | exact e38 | exact (kp2 38 (by decide)).trans e38) (by first | exact e44 | exact (kp2 44 (by decide)).trans e44) (by first | exact e53 | exact (kp2 53 (by decide)).trans e53) (by first | exact tr | exact tell_kp (by exact tr) kp2) pi ni (by first | exact li | exact li2) (fun j hj => by show va_up rfr 3 (rfr 3 + 1) j = va_up rf 3 (rf 3 + 1) j; by_cases q : j = 3; (subst q; rw [va_up_self, va_up_self, rrf _ (by decide)]); (rw [va_up_ne _ _ q, va_up_ne _ _ q]; exact rrf j hj)) rtp htp rrd rse phl phi rim rco ht nM nsn)), (by repeat (first | exact fun _ _ => rfl | refine frr_up ?_ (by decide)))⟩
        · refine r_iload_n dX9_mend_44 rfl rfl ?_
          refine r_bipush dX9_mend_45 rfl ?_
          refine r_bipush dX9_mend_47 rfl ?_
          refine r_callS [_, _, _] (s_X9_within ⟨by omega, by omega⟩ ⟨by omega, by omega⟩ ⟨by omega, by omega⟩) dX9_mend_49 cs_X9_239 sm_X9_within (by decide) (by decide) (by decide) rfl rfl (Nat.le_of_ble_eq_true rfl) (fun _ _ _ q => q.elim) (fun v n2 h2 q => ?_)
          obtain ⟨rfl, rfl, hh⟩ := q
          obtain rfl := hh.symm
          refine ⟨rfl, ?_⟩
          dsimp only [Option.toList, List.cons_append, List.nil_append]
          have bwi := b2i_01 (decide ((-120) ≤ tu ∧ tu ≤ 120))
          have bw2 : b2i (decide ((-120) ≤ tu ∧ tu ≤ 120)) = 0 ↔ ¬ (-120 ≤ tu ∧ tu ≤ 120) := by rw [b2i_0, decide_eq_false_iff_not]
          refine r_if_ne (tgt := 61) dX9_mend_52 (by decide) ⟨by omega, by omega⟩ (fun g52 => ?_) (fun g52 => ?_)
          · refine r_aload_n dX9_mend_61 rfl rfl ?_
            refine r_get (fs := RGL _ _) dX9_mend_62 fl_X9_51 (by decide) rfl rfl ?_
            refine r_iconst dX9_mend_65 ?_
            refine r_aload_n dX9_mend_66 rfl rfl ?_
            refine r_getR (z := (g 31)) dX9_mend_67 fl_X9_230 (by decide) rfl rfl ?_
            rw [t31]
            refine r_imul dX9_mend_70 ?_
            refine r_iload_n dX9_mend_71 rfl rfl ?_
            refine r_ast dX9_mend_72 (by decide) c79 (by omega) (by omega) (by decide) ?_
            refine r_aload_n dX9_mend_73 rfl rfl ?_
            refine r_get (fs := RGL _ _) dX9_mend_74 fl_X9_51 (by decide) rfl rfl ?_
            refine r_iconst dX9_mend_77 ?_
            refine r_aload_n dX9_mend_78 rfl rfl ?_
            refine r_getR (z := (g 31)) dX9_mend_79 fl_X9_230 (by decide) rfl rfl ?_
            rw [t31]
            refine r_imul dX9_mend_82 ?_
            refine r_iconst dX9_mend_83 ?_
            refine r_iadd dX9_mend_84 ?_
            refine r_iload_n dX9_mend_85 rfl rfl ?_
            refine r_ast dX9_mend_86 (by decide) rfl (by omega) (by omega) (by decide) ?_
            refine r_aload_n dX9_mend_87 rfl rfl ?_
            refine r_get (fs := RGL _ _) dX9_mend_88 fl_X9_51 (by decide) rfl rfl ?_
            refine r_iconst dX9_mend_91 ?_
            refine r_aload_n dX9_mend_92 rfl rfl ?_
            refine r_getR (z := (g 31)) dX9_mend_93 fl_X9_230 (by decide) rfl rfl ?_
            rw [t31]
            refine r_imul dX9_mend_96 ?_
            refine r_iconst dX9_mend_97 ?_
            refine r_iadd dX9_mend_98 ?_
            refine r_iload_n dX9_mend_99 rfl rfl ?_
            refine r_ast dX9_mend_100 (by decide) rfl (by omega) (by omega) (by decide) ?_
            refine r_aload_n dX9_mend_101 rfl rfl ?_
            refine r_dup dX9_mend_102 rfl ?_
            refine r_getR (z := (g 31)) dX9_mend_103 fl_X9_230 (by decide) rfl rfl ?_
            refine r_iconst dX9_mend_106 ?_
            refine r_iadd dX9_mend_107 ?_
            refine r_putR dX9_mend_108 fp_X9_230 (by decide) rfl (nar_int _) (Nat.le_of_ble_eq_true rfl) setR_31 (fun z1 hz1 => ?_)
            refine r_aload_n dX9_mend_111 rfl rfl ?_
            refine r_getR (z := z1) dX9_mend_112 fl_X9_230 (by decide) rfl rfl ?_
            refine r_iret dX9_mend_115 ?_
            rw [if_pos (by omega)] at e0
            rw [e0]
            exact ⟨rfl, ⟨_, rfl, fun _ => (by show _ = nm + 1; omega)⟩, ref_eq ((ocT kb1).trans ((ocT kb2).trans ocE)) (RefC_mk (g := (va_up (va_up g 0 z0) 31 z1)) rfl (by exact c69) (by exact c70) (by exact c71) (by exact c72) (by exact c73) (by exact c74) (by exact c75) (by exact c76) (by exact c77) (by exact c78) rfl (by exact c80) (by exact c81) (by exact c82) (by exact c83) (by exact c84) (by exact c85) (by exact c86) (by exact c87) (by exact c88) (by exact c89) (by exact c90) (by exact c91) (by exact c92) (by exact c93) (by exact c94) (by exact c95) (by first | exact (hz0.trans (congrArg (fun n : Nat => (n : Int)) ((ocT kb1).trans ((ocT kb2).trans ocE)).symm)) | exact (kp2 0 (by decide)).trans (hz0.trans (congrArg (fun n : Nat => (n : Int)) ((ocT kb1).trans ((ocT kb2).trans ocE)).symm))) (RR_mk (by first | exact e8 | exact (kp2 8 (by decide)).trans e8) (by first | exact e10 | exact (kp2 10 (by decide)).trans e10) (by first | exact e33 | exact (kp2 33 (by decide)).trans e33) (by first | exact e38 | exact (kp2 38 (by decide)).trans e38) (by first | exact e44 | exact (kp2 44 (by decide)).trans e44) (by first | exact e53 | exact (kp2 53 (by decide)).trans e53) ⟨t1, t2, t3, (by show z1 = nm + 1; omega), by omega, tdl, tcl, tlm, mdR_up tmd pnm.1, up_R pmt (by omega), up_L pmd (by omega), up_L pmy (by omega)⟩ pi ⟨pnr, pns, ⟨by omega, by omega⟩, prd, pry, prm, prt, pse, (up_L pmd2 (by omega)), (up_L pmy2 (by omega)), (up_R pmt2 (by omega))⟩ (by first | exact li | exact li2) rrf rtp htp rrd rse phl phi rim rco ht nM nsn)), (by repeat (first | exact fun _ _ => rfl | refine frr_up ?_ (by decide)))⟩
          · refine r_aload_n dX9_mend_55 rfl rfl ?_
            refine r_iconst dX9_mend_56 ?_
            refine r_callV 68 [_] (s_X9_refuses (by rfl) (by exact c73) (by decide)) dX9_mend_57 cs_X9_282 im_X9_refuses (by decide) rfl rfl (by decide) (by decide) (by decide) rfl rfl (Nat.le_of_ble_eq_true rfl) (fun _ _ _ q => q.elim) (fun v n2 h2 q => ?_)
            obtain ⟨rfl, rfl, hh⟩ := q
            obtain rfl := hh.symm
            refine ⟨rfl, ?_⟩
            dsimp only [Option.toList, List.cons_append, List.nil_append]
            refine r_iret dX9_mend_60 ?_
            rw [if_neg (by omega)] at e0
            rw [e0]
            exact ⟨rfl, ⟨_, rfl, fun _ => rfl⟩, ref_eq ((ocT kb1).trans ((ocT kb2).trans ocE)) (RefC_mk (g := (va_up g 0 z0)) rfl (by exact c69) (by exact c70) (by exact c71) (by exact c72) rfl (by exact c74) (by exact c75) (by exact c76) (by exact c77) (by exact c78) (by exact c79) (by exact c80) (by exact c81) (by exact c82) (by exact c83) (by exact c84) (by exact c85) (by exact c86) (by exact c87) (by exact c88) (by exact c89) (by exact c90) (by exact c91) (by exact c92) (by exact c93) (by exact c94) (by exact c95) (by first | exact (hz0.trans (congrArg (fun n : Nat => (n : Int)) ((ocT kb1).trans ((ocT kb2).trans ocE)).symm)) | exact (kp2 0 (by decide)).trans (hz0.trans (congrArg (fun n : Nat => (n : Int)) ((ocT kb1).trans ((ocT kb2).trans ocE)).symm))) (RR_mk (by first | exact e8 | exact (kp2 8 (by decide)).trans e8) (by first | exact e10 | exact (kp2 10 (by decide)).trans e10) (by first | exact e33 | exact (kp2 33 (by decide)).trans e33) (by first | exact e38 | exact (kp2 38 (by decide)).trans e38) (by first | exact e44 | exact (kp2 44 (by decide)).trans e44) (by first | exact e53 | exact (kp2 53 (by decide)).trans e53) (by first | exact tr | exact tell_kp (by exact tr) kp2) pi ni (by first | exact li | exact li2) (fun j hj => by show va_up rfr 3 (rfr 3 + 1) j = va_up rf 3 (rf 3 + 1) j; by_cases q : j = 3; (subst q; rw [va_up_self, va_up_self, rrf _ (by decide)]); (rw [va_up_ne _ _ q, va_up_ne _ _ q]; exact rrf j hj)) rtp htp rrd rse phl phi rim rco ht nM nsn)), (by repeat (first | exact fun _ _ => rfl | refine frr_up ?_ (by decide)))⟩
    · obtain rfl := hh.symm
      refine ⟨rfl, ?_⟩
      dsimp only [Option.toList, List.cons_append, List.nil_append]
      refine r_if_ne (tgt := 23) dX9_mend_18 (by decide) ⟨by omega, by omega⟩ (fun g18 => absurd g18 (by omega)) (fun g18 => ?_)
      refine r_iconst dX9_mend_21 ?_
      refine r_iret dX9_mend_22 ?_
      first
        | exact ⟨rfl, ⟨0, rfl, fun z => absurd ((ocF kb1).symm.trans z) (by decide)⟩, ref_ne (ocF kb1) (RefC_mk (g := (va_up (va_up g 0 z0) 0 1)) rfl (by exact c69) (by exact c70) (by exact c71) (by exact c72) (by exact c73) (by exact c74) (by exact c75) (by exact c76) (by exact c77) (by exact c78) (by exact c79) (by exact c80) (by exact c81) (by exact c82) (by exact c83) (by exact c84) (by exact c85) (by exact c86) (by exact c87) (by exact c88) (by exact c89) (by exact c90) (by exact c91) (by exact c92) (by exact c93) (by exact c94) (by exact c95) (congrArg (fun n : Nat => (n : Int)) (ocF kb1).symm) (RR_mk (by first | exact e8 | exact (kp2 8 (by decide)).trans e8) (by first | exact e10 | exact (kp2 10 (by decide)).trans e10) (by first | exact e33 | exact (kp2 33 (by decide)).trans e33) (by first | exact e38 | exact (kp2 38 (by decide)).trans e38) (by first | exact e44 | exact (kp2 44 (by decide)).trans e44) (by first | exact e53 | exact (kp2 53 (by decide)).trans e53) (by first | exact tr | exact tell_kp (by exact tr) kp2) pi ni (by first | exact li | exact li2) rrf rtp htp rrd rse phl phi rim rco ht nM nsn)), (by repeat (first | exact fun _ _ => rfl | refine frr_up ?_ (by decide)))⟩
        | exact ⟨rfl, ⟨0, rfl, fun z => absurd (((ocT kb1).trans (ocF kb2)).symm.trans z) (by decide)⟩, ref_ne ((ocT kb1).trans (ocF kb2)) (RefC_mk (g := (va_up (va_up g 0 z0) 0 1)) rfl (by exact c69) (by exact c70) (by exact c71) (by exact c72) (by exact c73) (by exact c74) (by exact c75) (by exact c76) (by exact c77) (by exact c78) (by exact c79) (by exact c80) (by exact c81) (by exact c82) (by exact c83) (by exact c84) (by exact c85) (by exact c86) (by exact c87) (by exact c88) (by exact c89) (by exact c90) (by exact c91) (by exact c92) (by exact c93) (by exact c94) (by exact c95) (congrArg (fun n : Nat => (n : Int)) ((ocT kb1).trans (ocF kb2)).symm) (RR_mk (by first | exact e8 | exact (kp2 8 (by decide)).trans e8) (by first | exact e10 | exact (kp2 10 (by decide)).trans e10) (by first | exact e33 | exact (kp2 33 (by decide)).trans e33) (by first | exact e38 | exact (kp2 38 (by decide)).trans e38) (by first | exact e44 | exact (kp2 44 (by decide)).trans e44) (by first | exact e53 | exact (kp2 53 (by decide)).trans e53) (by first | exact tr | exact tell_kp (by exact tr) kp2) pi ni (by first | exact li | exact li2) rrf rtp htp rrd rse phl phi rim rco ht nM nsn)), (by repeat (first | exact fun _ _ => rfl | refine frr_up ?_ (by decide)))⟩
  · obtain rfl := hh.symm
    replace kb1 : diaB nd di = false := by rw [← t1]; exact kb1
    refine ⟨rfl, ?_⟩
    dsimp only [Option.toList, List.cons_append, List.nil_append]
    refine r_if_eq (tgt := 21) dX9_mend_10 (by decide) ⟨by omega, by omega⟩ (fun g10 => ?_) (fun g10 => absurd g10 (by omega))
    refine r_iconst dX9_mend_21 ?_
    refine r_iret dX9_mend_22 ?_
    first
      | exact ⟨rfl, ⟨0, rfl, fun z => absurd ((ocF kb1).symm.trans z) (by decide)⟩, ref_ne (ocF kb1) (RefC_mk (g := (va_up (va_up g 0 z0) 0 1)) rfl (by exact c69) (by exact c70) (by exact c71) (by exact c72) (by exact c73) (by exact c74) (by exact c75) (by exact c76) (by exact c77) (by exact c78) (by exact c79) (by exact c80) (by exact c81) (by exact c82) (by exact c83) (by exact c84) (by exact c85) (by exact c86) (by exact c87) (by exact c88) (by exact c89) (by exact c90) (by exact c91) (by exact c92) (by exact c93) (by exact c94) (by exact c95) (congrArg (fun n : Nat => (n : Int)) (ocF kb1).symm) (RR_mk (by first | exact e8 | exact (kp2 8 (by decide)).trans e8) (by first | exact e10 | exact (kp2 10 (by decide)).trans e10) (by first | exact e33 | exact (kp2 33 (by decide)).trans e33) (by first | exact e38 | exact (kp2 38 (by decide)).trans e38) (by first | exact e44 | exact (kp2 44 (by decide)).trans e44) (by first | exact e53 | exact (kp2 53 (by decide)).trans e53) (by first | exact tr | exact tell_kp (by exact tr) kp2) pi ni (by first | exact li | exact li2) rrf rtp htp rrd rse phl phi rim rco ht nM nsn)), (by repeat (first | exact fun _ _ => rfl | refine frr_up ?_ (by decide)))⟩
      | exact ⟨rfl, ⟨0, rfl, fun z => absurd (((ocT kb1).trans (ocF kb2)).symm.trans z) (by decide)⟩, ref_ne ((ocT kb1).trans (ocF kb2)) (RefC_mk (g := (va_up (va_up g 0 z0) 0 1)) rfl (by exact c69) (by exact c70) (by exact c71) (by exact c72) (by exact c73) (by exact c74) (by exact c75) (by exact c76) (by exact c77) (by exact c78) (by exact c79) (by exact c80) (by exact c81) (by exact c82) (by exact c83) (by exact c84) (by exact c85) (by exact c86) (by exact c87) (by exact c88) (by exact c89) (by exact c90) (by exact c91) (by exact c92) (by exact c93) (by exact c94) (by exact c95) (congrArg (fun n : Nat => (n : Int)) ((ocT kb1).trans (ocF kb2)).symm) (RR_mk (by first | exact e8 | exact (kp2 8 (by decide)).trans e8) (by first | exact e10 | exact (kp2 10 (by decide)).trans e10) (by first | exact e33 | exact (kp2 33 (by decide)).trans e33) (by first | exact e38 | exact (kp2 38 (by decide)).trans e38) (by first | exact e44 | exact (kp2 44 (by decide)).trans e44) (by first | exact e53 | exact (kp2 53 (by decide)).trans e53) (by first | exact tr | exact tell_kp (by exact tr) kp2) pi ni (by first | exact li | exact li2) rrf rtp htp rrd rse phl phi rim rco ht nM nsn)), (by repeat (first | exact fun _ _ => rfl | refine frr_up ?_ (by decide)))⟩

