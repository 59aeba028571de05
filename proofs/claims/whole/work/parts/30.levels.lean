/-! ===== the law: times and tests, by levels ===== -/
theorem s_X1_timeAt_0 {h : aH} {N mo : Int} {so va fp np tf sg : Nat → Int} (c28 : h 28 = L28 N mo) (c29 : h 29 = .inl (0, 350, so)) (c30 : h 30 = .inl (0, 350, va)) (c31 : h 31 = .inl (0, 350, fp)) (c32 : h 32 = .inl (0, 350, np)) (c33 : h 33 = .inl (0, 9, sg)) (c65 : h 65 = .inl (0, 9, tf)) (li : LInv N so va fp np) (htf : ∀ j, -1 ≤ tf j ∧ tf j < 1440) {p : Int} (hp : -1 ≤ p ∧ p ≤ 350)  : mSem yX1_timeAt cX1_timeAt 3 (some .int) 3 0 0 [.ref 28, iv p, iv 12] 97 h (RetA 33 9 (evI N so va fp np tf mo 0 true p) h) noX := by
  obtain ⟨pN, pso, pva, pv1, pfp, pnp⟩ := id li
  refine mSem_of (own := RX1) (name := "timeAt") pn_X1 rfl rfl (Nat.le_of_ble_eq_true rfl) ?_
  refine r_aload_n dX1_timeAt_0 rfl rfl ?_
  refine r_iload_n dX1_timeAt_1 rfl rfl ?_
  refine r_callV 28 [_] (s_X1_isNode c28 (by omega) pN) dX1_timeAt_2 cs_X1_37 im_X1_isNode (by decide) c28 rfl (by omega) (by decide) (by decide) rfl rfl (Nat.le_of_ble_eq_true rfl) (fun _ _ _ q => q.elim) (fun v n2 h2 q => ?_)
  obtain ⟨rfl, rfl, hh⟩ := q
  obtain rfl := hh.symm
  refine ⟨rfl, ?_⟩
  dsimp only [Option.toList, List.cons_append, List.nil_append]
  have bb := b2i_01 (nodI N p)
  refine r_if_eq (tgt := 14) dX1_timeAt_5 (by decide) ⟨by omega, by omega⟩ (fun g5 => ?_) (fun g5 => ?_)
  · refine r_iconst dX1_timeAt_14 ?_
    refine r_iret dX1_timeAt_15 ?_
    exact ⟨rfl, rfl, sg, up_same c33⟩
  · rw [b2i_0, Bool.not_eq_false] at g5
    have z := nod_T.mp g5
    have bs := pso p.toNat
    have bv := pva p.toNat
    have bv1 := pv1 p.toNat
    refine r_iload_n dX1_timeAt_8 rfl rfl ?_
    refine r_bipush dX1_timeAt_9 rfl ?_
    refine r_icmp_lt (tgt := 16) dX1_timeAt_11 (by decide) ⟨by omega, by omega⟩ ⟨by omega, by omega⟩ (fun g11 => absurd g11 (by omega)) (fun g11 => ?_)
    refine r_iconst dX1_timeAt_14 ?_
    refine r_iret dX1_timeAt_15 ?_
    exact ⟨rfl, rfl, sg, up_same c33⟩

theorem s_X1_testAt_0 {h : aH} {N mo : Int} {so va fp np tf sg : Nat → Int} (c28 : h 28 = L28 N mo) (c29 : h 29 = .inl (0, 350, so)) (c30 : h 30 = .inl (0, 350, va)) (c31 : h 31 = .inl (0, 350, fp)) (c32 : h 32 = .inl (0, 350, np)) (c33 : h 33 = .inl (0, 9, sg)) (c65 : h 65 = .inl (0, 9, tf)) (li : LInv N so va fp np) (htf : ∀ j, -1 ≤ tf j ∧ tf j < 1440) {p : Int} (hp : -1 ≤ p ∧ p ≤ 350)  : mSem yX1_testAt cX1_testAt 3 (some .boolean) 3 0 0 [.ref 28, iv p, iv 12] 97 h (RetA 33 9 (evI N so va fp np tf mo 0 false p) h) noX := by
  obtain ⟨pN, pso, pva, pv1, pfp, pnp⟩ := id li
  refine mSem_of (own := RX1) (name := "testAt") pn_X1 rfl rfl (Nat.le_of_ble_eq_true rfl) ?_
  refine r_aload_n dX1_testAt_0 rfl rfl ?_
  refine r_iload_n dX1_testAt_1 rfl rfl ?_
  refine r_callV 28 [_] (s_X1_isNode c28 (by omega) pN) dX1_testAt_2 cs_X1_37 im_X1_isNode (by decide) c28 rfl (by omega) (by decide) (by decide) rfl rfl (Nat.le_of_ble_eq_true rfl) (fun _ _ _ q => q.elim) (fun v n2 h2 q => ?_)
  obtain ⟨rfl, rfl, hh⟩ := q
  obtain rfl := hh.symm
  refine ⟨rfl, ?_⟩
  dsimp only [Option.toList, List.cons_append, List.nil_append]
  have bb := b2i_01 (nodI N p)
  refine r_if_eq (tgt := 14) dX1_testAt_5 (by decide) ⟨by omega, by omega⟩ (fun g5 => ?_) (fun g5 => ?_)
  · refine r_iconst dX1_testAt_14 ?_
    refine r_zret dX1_testAt_15 (nar_z (by omega)) ?_
    exact ⟨rfl, rfl, sg, up_same c33⟩
  · rw [b2i_0, Bool.not_eq_false] at g5
    have z := nod_T.mp g5
    have bs := pso p.toNat
    have bv := pva p.toNat
    have bv1 := pv1 p.toNat
    refine r_iload_n dX1_testAt_8 rfl rfl ?_
    refine r_bipush dX1_testAt_9 rfl ?_
    refine r_icmp_lt (tgt := 16) dX1_testAt_11 (by decide) ⟨by omega, by omega⟩ ⟨by omega, by omega⟩ (fun g11 => absurd g11 (by omega)) (fun g11 => ?_)
    refine r_iconst dX1_testAt_14 ?_
    refine r_zret dX1_testAt_15 (nar_z (by omega)) ?_
    exact ⟨rfl, rfl, sg, up_same c33⟩

section
variable {N mo : Int} {so va fp np tf : Nat → Int} {k : Nat} {p : Int}
theorem ev_no (h : nodI N p = false) : (evI N so va fp np tf mo k true p) = -1 := by
  cases k with
  | zero => rfl
  | succ k => unfold evI; rw [if_neg (by rw [h]; decide)]
theorem ev_nof (h : nodI N p = false) : (evI N so va fp np tf mo k false p) = 0 := by
  cases k with
  | zero => rfl
  | succ k => unfold evI; rw [if_neg (by rw [h]; decide)]

theorem evI_st : (evI N so va fp np tf mo (k + 1) true p) = if nodI N p = true then
      (if so p.toNat = 0 then tbI tf (va p.toNat) else if so p.toNat = 1 then midI (midL tf (va p.toNat).toNat 9) else if so p.toNat = 2 then fsC (evI N so va fp np tf mo k true) N np 350 (ptI N fp np p 0)
        else if so p.toNat = 3 then meI (evI N so va fp np tf mo k true (ptI N fp np p 0)) (evI N so va fp np tf mo k true (ptI N fp np p 1)) else if so p.toNat = 4 then laI (evI N so va fp np tf mo k true (ptI N fp np p 0)) (va p.toNat)
        else if so p.toNat = 5 then evI N so va fp np tf mo k true (ptI N fp np p (if evI N so va fp np tf mo k false (ptI N fp np p 0) = 0 then 2 else 1)) else -1) else -1 := rfl
theorem evI_sf : (evI N so va fp np tf mo (k + 1) false p) = if nodI N p = true then
      (if so p.toNat = 6 then 1 - evI N so va fp np tf mo k false (ptI N fp np p 0) else if so p.toNat = 7 then (if evI N so va fp np tf mo k true (ptI N fp np p 0) = -1 then 1 else 0) else if so p.toNat = 8 then (if mo = va p.toNat then 1 else 0)
        else if so p.toNat = 9 then beI (evI N so va fp np tf mo k true (ptI N fp np p 0)) (evI N so va fp np tf mo k true (ptI N fp np p 1)) else 0) else 0 := rfl

theorem ev_0 (h : nodI N p = true) (hs : so p.toNat = 0) : (evI N so va fp np tf mo (k + 1) true p) = tbI tf (va p.toNat) := by
  rw [evI_st, if_pos h, if_pos hs]
theorem ev_1 (h : nodI N p = true) (hs : so p.toNat = 1) : (evI N so va fp np tf mo (k + 1) true p) = midI (midL tf (va p.toNat).toNat 9) := by
  rw [evI_st, if_pos h, if_neg (by omega), if_pos hs]
theorem ev_2 (h : nodI N p = true) (hs : so p.toNat = 2) : (evI N so va fp np tf mo (k + 1) true p) = fsC (evI N so va fp np tf mo k true) N np 350 (ptI N fp np p 0) := by
  rw [evI_st, if_pos h, if_neg (by omega), if_neg (by omega), if_pos hs]
theorem ev_3 (h : nodI N p = true) (hs : so p.toNat = 3) : (evI N so va fp np tf mo (k + 1) true p) = meI (evI N so va fp np tf mo k true (ptI N fp np p 0)) (evI N so va fp np tf mo k true (ptI N fp np p 1)) := by
  rw [evI_st, if_pos h, if_neg (by omega), if_neg (by omega), if_neg (by omega), if_pos hs]
theorem ev_4 (h : nodI N p = true) (hs : so p.toNat = 4) : (evI N so va fp np tf mo (k + 1) true p) = laI (evI N so va fp np tf mo k true (ptI N fp np p 0)) (va p.toNat) := by
  rw [evI_st, if_pos h, if_neg (by omega), if_neg (by omega), if_neg (by omega), if_neg (by omega), if_pos hs]
theorem ev_5 (h : nodI N p = true) (hs : so p.toNat = 5) : (evI N so va fp np tf mo (k + 1) true p) = evI N so va fp np tf mo k true (ptI N fp np p (if (evI N so va fp np tf mo k false (ptI N fp np p 0)) = 0 then 2 else 1)) := by
  rw [evI_st, if_pos h, if_neg (by omega), if_neg (by omega), if_neg (by omega), if_neg (by omega), if_neg (by omega), if_pos hs]
theorem ev_6t (h : nodI N p = true) (hs : 5 < so p.toNat) : (evI N so va fp np tf mo (k + 1) true p) = -1 := by
  rw [evI_st, if_pos h, if_neg (by omega), if_neg (by omega), if_neg (by omega), if_neg (by omega), if_neg (by omega), if_neg (by omega)]
theorem ev_6 (h : nodI N p = true) (hs : so p.toNat = 6) : (evI N so va fp np tf mo (k + 1) false p) = 1 - (evI N so va fp np tf mo k false (ptI N fp np p 0)) := by
  rw [evI_sf, if_pos h, if_pos hs]
theorem ev_7 (h : nodI N p = true) (hs : so p.toNat = 7) : (evI N so va fp np tf mo (k + 1) false p) = if (evI N so va fp np tf mo k true (ptI N fp np p 0)) = -1 then 1 else 0 := by
  rw [evI_sf, if_pos h, if_neg (by omega), if_pos hs]
theorem ev_8 (h : nodI N p = true) (hs : so p.toNat = 8) : (evI N so va fp np tf mo (k + 1) false p) = if mo = va p.toNat then 1 else 0 := by
  rw [evI_sf, if_pos h, if_neg (by omega), if_neg (by omega), if_pos hs]
theorem ev_9 (h : nodI N p = true) (hs : so p.toNat = 9) : (evI N so va fp np tf mo (k + 1) false p) = beI (evI N so va fp np tf mo k true (ptI N fp np p 0)) (evI N so va fp np tf mo k true (ptI N fp np p 1)) := by
  rw [evI_sf, if_pos h, if_neg (by omega), if_neg (by omega), if_neg (by omega), if_pos hs]
theorem ev_5f (h : nodI N p = true) (hs : so p.toNat < 6) : (evI N so va fp np tf mo (k + 1) false p) = 0 := by
  rw [evI_sf, if_pos h, if_neg (by omega), if_neg (by omega), if_neg (by omega), if_neg (by omega)]
end
theorem s_X1_timeAt_s {h : aH} {N mo : Int} {so va fp np tf sg : Nat → Int} (c28 : h 28 = L28 N mo) (c29 : h 29 = .inl (0, 350, so)) (c30 : h 30 = .inl (0, 350, va)) (c31 : h 31 = .inl (0, 350, fp)) (c32 : h 32 = .inl (0, 350, np)) (c33 : h 33 = .inl (0, 9, sg)) (c65 : h 65 = .inl (0, 9, tf)) (li : LInv N so va fp np) (htf : ∀ j, -1 ≤ tf j ∧ tf j < 1440) {p : Int} (hp : -1 ≤ p ∧ p ≤ 350) {k : Nat} (hk : k < 12) (it : TSem N mo so va fp np tf k) (ie : ESem N mo so va fp np tf k) {lv : Int} (hlv : lv = 11 - (k : Int))  : mSem yX1_timeAt cX1_timeAt 3 (some .int) (2 * (k + 1) + 3) 0 0 [.ref 28, iv p, iv lv] 97 h (RetA 33 9 (evI N so va fp np tf mo (k + 1) true p) h) noX := by
  obtain ⟨pN, pso, pva, pv1, pfp, pnp⟩ := id li
  have bE := evI_B (N := N) (so := so) (va := va) (fp := fp) (np := np) (mo := mo) htf k
  have b0 := ptI_B (N := N) pfp pnp p 0
  have b1 := ptI_B (N := N) pfp pnp p 1
  have b2 := ptI_B (N := N) pfp pnp p 2
  have t0 := bE.1 (ptI N fp np p 0)
  have t1 := bE.1 (ptI N fp np p 1)
  have u0 := bE.2 (ptI N fp np p 0)
  refine mSem_of (own := RX1) (name := "timeAt") pn_X1 rfl rfl (Nat.le_of_ble_eq_true rfl) ?_
  refine r_aload_n dX1_timeAt_0 rfl rfl ?_
  refine r_iload_n dX1_timeAt_1 rfl rfl ?_
  refine r_callV 28 [_] (s_X1_isNode c28 (by omega) pN) dX1_timeAt_2 cs_X1_37 im_X1_isNode (by decide) c28 rfl (by omega) (by decide) (by decide) rfl rfl (Nat.le_of_ble_eq_true rfl) (fun _ _ _ q => q.elim) (fun v n2 h2 q => ?_)
  obtain ⟨rfl, rfl, hh⟩ := q
  obtain rfl := hh.symm
  refine ⟨rfl, ?_⟩
  dsimp only [Option.toList, List.cons_append, List.nil_append]
  have bb := b2i_01 (nodI N p)
  refine r_if_eq (tgt := 14) dX1_timeAt_5 (by decide) ⟨by omega, by omega⟩ (fun g5 => ?_) (fun g5 => ?_)
  · refine r_iconst dX1_timeAt_14 ?_
    refine r_iret dX1_timeAt_15 ?_
    rw [b2i_0] at g5
    exact ⟨ivE (ev_no g5).symm, rfl, sg, up_same c33⟩
  · rw [b2i_0, Bool.not_eq_false] at g5
    have z := nod_T.mp g5
    have bs := pso p.toNat
    have bv := pva p.toNat
    have bv1 := pv1 p.toNat
    refine r_iload_n dX1_timeAt_8 rfl rfl ?_
    refine r_bipush dX1_timeAt_9 rfl ?_
    refine r_icmp_lt (tgt := 16) dX1_timeAt_11 (by decide) ⟨by omega, by omega⟩ ⟨by omega, by omega⟩ (fun g11 => ?_) (fun g11 => absurd g11 (by omega))
    refine r_aload_n dX1_timeAt_16 rfl rfl ?_
    refine r_get (fs := [_, _, _, _, _, _, _, _]) dX1_timeAt_17 fl_X1_15 (by decide) c28 rfl ?_
    refine r_iload_n dX1_timeAt_20 rfl rfl ?_
    refine r_ald dX1_timeAt_21 (by decide) c29 (by omega) (by omega) (by decide) ?_
    refine r_tsw6 (td := 117) (t0 := 60) (t1 := 71) (t2 := 89) (t3 := 96) (t4 := 103) (t5 := 110) dX1_timeAt_22 rfl ⟨by omega, by omega⟩ (by decide) (by decide) (by decide) (by decide) (by decide) (by decide) (by decide) (fun g22 => ?_) (fun g22 => ?_) (fun g22 => ?_) (fun g22 => ?_) (fun g22 => ?_) (fun g22 => ?_) (fun g22 => ?_)
    · refine r_iconst dX1_timeAt_117 ?_
      refine r_iret dX1_timeAt_118 ?_
      exact ⟨ivE (ev_6t (k := k) g5 (by omega)).symm, rfl, sg, up_same c33⟩
    · refine r_aload_n dX1_timeAt_60 rfl rfl ?_
      refine r_aload_n dX1_timeAt_61 rfl rfl ?_
      refine r_get (fs := [_, _, _, _, _, _, _, _]) dX1_timeAt_62 fl_X1_19 (by decide) c28 rfl ?_
      refine r_iload_n dX1_timeAt_65 rfl rfl ?_
      refine r_ald dX1_timeAt_66 (by decide) c30 (by omega) (by omega) (by decide) ?_
      refine r_callV 28 [_] (s_X1_toldBy c28 c29 c30 c31 c32 c33 c65 li htf (by omega)) dX1_timeAt_67 cs_X1_45 im_X1_toldBy (by decide) c28 rfl (by omega) (by decide) (by decide) rfl rfl (Nat.le_of_ble_eq_true rfl) (fun _ _ _ q => q.elim) (fun v n2 h2 q => ?_)
      obtain ⟨rfl, rfl, hh⟩ := q
      obtain rfl := hh.symm
      refine ⟨rfl, ?_⟩
      dsimp only [Option.toList, List.cons_append, List.nil_append]
      refine r_iret dX1_timeAt_70 ?_
      exact ⟨ivE (ev_0 (k := k) g5 (by omega)).symm, rfl, sg, up_same c33⟩
    · refine r_aload_n dX1_timeAt_71 rfl rfl ?_
      refine r_get (fs := [_, _, _, _, _, _, _, _]) dX1_timeAt_72 fl_X1_31 (by decide) c28 rfl ?_
      refine r_aload_n dX1_timeAt_75 rfl rfl ?_
      refine r_get (fs := [_, _, _, _, _, _, _, _]) dX1_timeAt_76 fl_X1_19 (by decide) c28 rfl ?_
      refine r_iload_n dX1_timeAt_79 rfl rfl ?_
      refine r_ald dX1_timeAt_80 (by decide) c30 (by omega) (by omega) (by decide) ?_
      refine r_aload_n dX1_timeAt_81 rfl rfl ?_
      refine r_get (fs := [_, _, _, _, _, _, _, _]) dX1_timeAt_82 fl_X1_28 (by decide) c28 rfl ?_
      have bv2 := bv1 (by omega)
      rw [show va p.toNat = ((va p.toNat).toNat : Int) by omega]
      refine r_callSN (np := 3) [.ref 65, _, .ref 33] (s_X8_middleOf_33 (b := (va p.toNat).toNat) c65 htf (by omega) c33) dX1_timeAt_85 "LyingDials" (by decide +kernel) cd_X8_middleOf ini_X8 ⟨by decide +kernel, by decide +kernel, by decide +kernel⟩ (by decide) sm_X8_middleOf (by omega) (by decide) (by decide) rfl rfl (Nat.le_of_ble_eq_true rfl) (fun v n2 h2 q => ?_)
      obtain ⟨rfl, rfl, sg3, rfl⟩ := q
      refine ⟨rfl, ?_⟩
      dsimp only [Option.toList, List.cons_append, List.nil_append]
      refine r_iret dX1_timeAt_88 ?_
      exact ⟨ivE (ev_1 (k := k) g5 (by omega)).symm, rfl, _, rfl⟩
    · refine r_aload_n dX1_timeAt_89 rfl rfl ?_
      refine r_iload_n dX1_timeAt_90 rfl rfl ?_
      refine r_iload_n dX1_timeAt_91 rfl rfl ?_
      refine r_callV 28 [_, _] (s_X1_firstAt c28 c29 c30 c31 c32 c33 c65 li htf (by omega) hk it ie (by omega)) dX1_timeAt_92 cs_X1_53 im_X1_firstAt (by decide) c28 rfl (by omega) (by decide) (by decide) rfl rfl (Nat.le_of_ble_eq_true rfl) (fun _ _ _ q => q.elim) (fun v n2 h2 q => ?_)
      obtain ⟨rfl, rfl, sg3, rfl⟩ := q
      refine ⟨rfl, ?_⟩
      dsimp only [Option.toList, List.cons_append, List.nil_append]
      refine r_iret dX1_timeAt_95 ?_
      exact ⟨ivE (ev_2 (k := k) g5 (by omega)).symm, rfl, _, rfl⟩
    · refine r_aload_n dX1_timeAt_96 rfl rfl ?_
      refine r_iload_n dX1_timeAt_97 rfl rfl ?_
      refine r_iload_n dX1_timeAt_98 rfl rfl ?_
      refine r_callV 28 [_, _] (s_X1_meanAt c28 c29 c30 c31 c32 c33 c65 li htf (by omega) hk it ie (by omega)) dX1_timeAt_99 cs_X1_56 im_X1_meanAt (by decide) c28 rfl (by omega) (by decide) (by decide) rfl rfl (Nat.le_of_ble_eq_true rfl) (fun _ _ _ q => q.elim) (fun v n2 h2 q => ?_)
      obtain ⟨rfl, rfl, sg3, rfl⟩ := q
      refine ⟨rfl, ?_⟩
      dsimp only [Option.toList, List.cons_append, List.nil_append]
      refine r_iret dX1_timeAt_102 ?_
      exact ⟨ivE (ev_3 (k := k) g5 (by omega)).symm, rfl, _, rfl⟩
    · refine r_aload_n dX1_timeAt_103 rfl rfl ?_
      refine r_iload_n dX1_timeAt_104 rfl rfl ?_
      refine r_iload_n dX1_timeAt_105 rfl rfl ?_
      refine r_callV 28 [_, _] (s_X1_laterAt c28 c29 c30 c31 c32 c33 c65 li htf (by omega) g5 hk it ie (by omega)) dX1_timeAt_106 cs_X1_59 im_X1_laterAt (by decide) c28 rfl (by omega) (by decide) (by decide) rfl rfl (Nat.le_of_ble_eq_true rfl) (fun _ _ _ q => q.elim) (fun v n2 h2 q => ?_)
      obtain ⟨rfl, rfl, sg3, rfl⟩ := q
      refine ⟨rfl, ?_⟩
      dsimp only [Option.toList, List.cons_append, List.nil_append]
      refine r_iret dX1_timeAt_109 ?_
      exact ⟨ivE (ev_4 (k := k) g5 (by omega)).symm, rfl, _, rfl⟩
    · refine r_aload_n dX1_timeAt_110 rfl rfl ?_
      refine r_iload_n dX1_timeAt_111 rfl rfl ?_
      refine r_iload_n dX1_timeAt_112 rfl rfl ?_
      refine r_callV 28 [_, _] (s_X1_chosenAt c28 c29 c30 c31 c32 c33 c65 li htf (by omega) hk it ie (by omega)) dX1_timeAt_113 cs_X1_62 im_X1_chosenAt (by decide) c28 rfl (by omega) (by decide) (by decide) rfl rfl (Nat.le_of_ble_eq_true rfl) (fun _ _ _ q => q.elim) (fun v n2 h2 q => ?_)
      obtain ⟨rfl, rfl, sg3, rfl⟩ := q
      refine ⟨rfl, ?_⟩
      dsimp only [Option.toList, List.cons_append, List.nil_append]
      refine r_iret dX1_timeAt_116 ?_
      exact ⟨ivE (ev_5 (k := k) g5 (by omega)).symm, rfl, _, rfl⟩

theorem s_X1_testAt_s {h : aH} {N mo : Int} {so va fp np tf sg : Nat → Int} (c28 : h 28 = L28 N mo) (c29 : h 29 = .inl (0, 350, so)) (c30 : h 30 = .inl (0, 350, va)) (c31 : h 31 = .inl (0, 350, fp)) (c32 : h 32 = .inl (0, 350, np)) (c33 : h 33 = .inl (0, 9, sg)) (c65 : h 65 = .inl (0, 9, tf)) (li : LInv N so va fp np) (htf : ∀ j, -1 ≤ tf j ∧ tf j < 1440) {p : Int} (hp : -1 ≤ p ∧ p ≤ 350) (hmo : 0 ≤ mo ∧ mo ≤ 100) {k : Nat} (hk : k < 12) (it : TSem N mo so va fp np tf k) (ie : ESem N mo so va fp np tf k) {lv : Int} (hlv : lv = 11 - (k : Int))  : mSem yX1_testAt cX1_testAt 3 (some .boolean) (2 * (k + 1) + 3) 0 0 [.ref 28, iv p, iv lv] 97 h (RetA 33 9 (evI N so va fp np tf mo (k + 1) false p) h) noX := by
  obtain ⟨pN, pso, pva, pv1, pfp, pnp⟩ := id li
  have bE := evI_B (N := N) (so := so) (va := va) (fp := fp) (np := np) (mo := mo) htf k
  have b0 := ptI_B (N := N) pfp pnp p 0
  have b1 := ptI_B (N := N) pfp pnp p 1
  have b2 := ptI_B (N := N) pfp pnp p 2
  have t0 := bE.1 (ptI N fp np p 0)
  have t1 := bE.1 (ptI N fp np p 1)
  have u0 := bE.2 (ptI N fp np p 0)
  refine mSem_of (own := RX1) (name := "testAt") pn_X1 rfl rfl (Nat.le_of_ble_eq_true rfl) ?_
  refine r_aload_n dX1_testAt_0 rfl rfl ?_
  refine r_iload_n dX1_testAt_1 rfl rfl ?_
  refine r_callV 28 [_] (s_X1_isNode c28 (by omega) pN) dX1_testAt_2 cs_X1_37 im_X1_isNode (by decide) c28 rfl (by omega) (by decide) (by decide) rfl rfl (Nat.le_of_ble_eq_true rfl) (fun _ _ _ q => q.elim) (fun v n2 h2 q => ?_)
  obtain ⟨rfl, rfl, hh⟩ := q
  obtain rfl := hh.symm
  refine ⟨rfl, ?_⟩
  dsimp only [Option.toList, List.cons_append, List.nil_append]
  have bb := b2i_01 (nodI N p)
  refine r_if_eq (tgt := 14) dX1_testAt_5 (by decide) ⟨by omega, by omega⟩ (fun g5 => ?_) (fun g5 => ?_)
  · refine r_iconst dX1_testAt_14 ?_
    refine r_zret dX1_testAt_15 (nar_z (by omega)) ?_
    rw [b2i_0] at g5
    exact ⟨ivE (ev_nof g5).symm, rfl, sg, up_same c33⟩
  · rw [b2i_0, Bool.not_eq_false] at g5
    have z := nod_T.mp g5
    have bs := pso p.toNat
    have bv := pva p.toNat
    have bv1 := pv1 p.toNat
    refine r_iload_n dX1_testAt_8 rfl rfl ?_
    refine r_bipush dX1_testAt_9 rfl ?_
    refine r_icmp_lt (tgt := 16) dX1_testAt_11 (by decide) ⟨by omega, by omega⟩ ⟨by omega, by omega⟩ (fun g11 => ?_) (fun g11 => absurd g11 (by omega))
    refine r_aload_n dX1_testAt_16 rfl rfl ?_
    refine r_get (fs := [_, _, _, _, _, _, _, _]) dX1_testAt_17 fl_X1_15 (by decide) c28 rfl ?_
    refine r_iload_n dX1_testAt_20 rfl rfl ?_
    refine r_ald dX1_testAt_21 (by decide) c29 (by omega) (by omega) (by decide) ?_
    refine r_tsw4 (td := 123) (t0 := 52) (t1 := 74) (t2 := 97) (t3 := 116) dX1_testAt_22 rfl ⟨by omega, by omega⟩ (by decide) (by decide) (by decide) (by decide) (by decide) (fun g22 => ?_) (fun g22 => ?_) (fun g22 => ?_) (fun g22 => ?_) (fun g22 => ?_)
    · refine r_iconst dX1_testAt_123 ?_
      refine r_zret dX1_testAt_124 (nar_z (by omega)) ?_
      exact ⟨ivE (ev_5f (k := k) g5 (by omega)).symm, rfl, sg, up_same c33⟩
    · refine r_aload_n dX1_testAt_52 rfl rfl ?_
      refine r_aload_n dX1_testAt_53 rfl rfl ?_
      refine r_iload_n dX1_testAt_54 rfl rfl ?_
      refine r_iconst dX1_testAt_55 ?_
      refine r_callV 28 [_, _] (s_X1_partAt (n := 0) c28 c29 c30 c31 c32 c33 c65 li htf (by omega) (by decide)) dX1_testAt_56 cs_X1_65 im_X1_partAt (by decide) c28 rfl (by omega) (by decide) (by decide) rfl rfl (Nat.le_of_ble_eq_true rfl) (fun _ _ _ q => q.elim) (fun v n2 h2 q => ?_)
      obtain ⟨rfl, rfl, hh⟩ := q
      obtain rfl := hh.symm
      refine ⟨rfl, ?_⟩
      dsimp only [Option.toList, List.cons_append, List.nil_append]
      refine r_iload_n dX1_testAt_59 rfl rfl ?_
      refine r_iconst dX1_testAt_60 ?_
      refine r_iadd dX1_testAt_61 ?_
      refine r_callV 28 [_, _] (ie _ _ c28 c29 c30 c31 c32 c33 c65 _ (by omega) _ (by omega)) dX1_testAt_62 cs_X1_73 im_X1_testAt (by decide) c28 rfl (by omega) (by decide) (by decide) rfl rfl (Nat.le_of_ble_eq_true rfl) (fun _ _ _ q => q.elim) (fun v n2 h2 q => ?_)
      obtain ⟨rfl, rfl, sg1, rfl⟩ := q
      refine ⟨rfl, ?_⟩
      dsimp only [Option.toList, List.cons_append, List.nil_append]
      refine r_if_ne (tgt := 72) dX1_testAt_65 (by decide) ⟨by omega, by omega⟩ (fun g65 => ?_) (fun g65 => ?_)
      · refine r_iconst dX1_testAt_72 ?_
        refine r_zret dX1_testAt_73 (nar_z (by omega)) ?_
        exact ⟨ivE (by rw [ev_6 g5 (by omega)]; omega), rfl, _, rfl⟩
      · refine r_iconst dX1_testAt_68 ?_
        refine r_goto (tgt := 73) dX1_testAt_69 (by decide) ?_
        refine r_zret dX1_testAt_73 (nar_z (by omega)) ?_
        exact ⟨ivE (by rw [ev_6 g5 (by omega)]; omega), rfl, _, rfl⟩
    · refine r_aload_n dX1_testAt_74 rfl rfl ?_
      refine r_aload_n dX1_testAt_75 rfl rfl ?_
      refine r_iload_n dX1_testAt_76 rfl rfl ?_
      refine r_iconst dX1_testAt_77 ?_
      refine r_callV 28 [_, _] (s_X1_partAt (n := 0) c28 c29 c30 c31 c32 c33 c65 li htf (by omega) (by decide)) dX1_testAt_78 cs_X1_65 im_X1_partAt (by decide) c28 rfl (by omega) (by decide) (by decide) rfl rfl (Nat.le_of_ble_eq_true rfl) (fun _ _ _ q => q.elim) (fun v n2 h2 q => ?_)
      obtain ⟨rfl, rfl, hh⟩ := q
      obtain rfl := hh.symm
      refine ⟨rfl, ?_⟩
      dsimp only [Option.toList, List.cons_append, List.nil_append]
      refine r_iload_n dX1_testAt_81 rfl rfl ?_
      refine r_iconst dX1_testAt_82 ?_
      refine r_iadd dX1_testAt_83 ?_
      refine r_callV 28 [_, _] (it _ _ c28 c29 c30 c31 c32 c33 c65 _ (by omega) _ (by omega)) dX1_testAt_84 cs_X1_41 im_X1_timeAt (by decide) c28 rfl (by omega) (by decide) (by decide) rfl rfl (Nat.le_of_ble_eq_true rfl) (fun _ _ _ q => q.elim) (fun v n2 h2 q => ?_)
      obtain ⟨rfl, rfl, sg1, rfl⟩ := q
      refine ⟨rfl, ?_⟩
      dsimp only [Option.toList, List.cons_append, List.nil_append]
      refine r_iconst dX1_testAt_87 ?_
      refine r_icmp_ne (tgt := 95) dX1_testAt_88 (by decide) ⟨by omega, by omega⟩ ⟨by omega, by omega⟩ (fun g88 => ?_) (fun g88 => ?_)
      · refine r_iconst dX1_testAt_95 ?_
        refine r_zret dX1_testAt_96 (nar_z (by omega)) ?_
        exact ⟨ivE (by rw [ev_7 g5 (by omega)]; first | rw [if_pos g88] | rw [if_neg g88]), rfl, _, rfl⟩
      · refine r_iconst dX1_testAt_91 ?_
        refine r_goto (tgt := 96) dX1_testAt_92 (by decide) ?_
        refine r_zret dX1_testAt_96 (nar_z (by omega)) ?_
        exact ⟨ivE (by rw [ev_7 g5 (by omega)]; first | rw [if_pos g88] | rw [if_neg g88]), rfl, _, rfl⟩
    · refine r_aload_n dX1_testAt_97 rfl rfl ?_
      refine r_get (fs := [_, _, _, _, _, _, _, _]) dX1_testAt_98 fl_X1_34 (by decide) c28 rfl ?_
      refine r_aload_n dX1_testAt_101 rfl rfl ?_
      refine r_get (fs := [_, _, _, _, _, _, _, _]) dX1_testAt_102 fl_X1_19 (by decide) c28 rfl ?_
      refine r_iload_n dX1_testAt_105 rfl rfl ?_
      refine r_ald dX1_testAt_106 (by decide) c30 (by omega) (by omega) (by decide) ?_
      refine r_icmp_ne (tgt := 114) dX1_testAt_107 (by decide) ⟨by omega, by omega⟩ ⟨by omega, by omega⟩ (fun g107 => ?_) (fun g107 => ?_)
      · refine r_iconst dX1_testAt_114 ?_
        refine r_zret dX1_testAt_115 (nar_z (by omega)) ?_
        exact ⟨ivE (by rw [ev_8 g5 (by omega)]; first | rw [if_pos g107] | rw [if_neg g107]), rfl, sg, up_same c33⟩
      · refine r_iconst dX1_testAt_110 ?_
        refine r_goto (tgt := 115) dX1_testAt_111 (by decide) ?_
        refine r_zret dX1_testAt_115 (nar_z (by omega)) ?_
        exact ⟨ivE (by rw [ev_8 g5 (by omega)]; first | rw [if_pos g107] | rw [if_neg g107]), rfl, sg, up_same c33⟩
    · refine r_aload_n dX1_testAt_116 rfl rfl ?_
      refine r_iload_n dX1_testAt_117 rfl rfl ?_
      refine r_iload_n dX1_testAt_118 rfl rfl ?_
      refine r_callV 28 [_, _] (s_X1_isBefore c28 c29 c30 c31 c32 c33 c65 li htf (by omega) hk it ie (by omega)) dX1_testAt_119 cs_X1_77 im_X1_isBefore (by decide) c28 rfl (by omega) (by decide) (by decide) rfl rfl (Nat.le_of_ble_eq_true rfl) (fun _ _ _ q => q.elim) (fun v n2 h2 q => ?_)
      obtain ⟨rfl, rfl, sg3, rfl⟩ := q
      refine ⟨rfl, ?_⟩
      dsimp only [Option.toList, List.cons_append, List.nil_append]
      refine r_zret dX1_testAt_122 (nar_z (beI_B _ _)) ?_
      exact ⟨ivE (ev_9 (k := k) g5 (by omega)).symm, rfl, _, rfl⟩

theorem law_sems {N mo : Int} {so va fp np tf : Nat → Int} (li : LInv N so va fp np) (htf : ∀ j, -1 ≤ tf j ∧ tf j < 1440) (hmo : 0 ≤ mo ∧ mo ≤ 100) : ∀ k, k ≤ 12 → TSem N mo so va fp np tf k ∧ ESem N mo so va fp np tf k := by
  intro k
  induction k with
  | zero =>
    intro _
    refine ⟨fun h sg c28 c29 c30 c31 c32 c33 c65 p hp lv hlv => ?_, fun h sg c28 c29 c30 c31 c32 c33 c65 p hp lv hlv => ?_⟩
    · obtain rfl : lv = 12 := by omega
      exact s_X1_timeAt_0 c28 c29 c30 c31 c32 c33 c65 li htf hp
    · obtain rfl : lv = 12 := by omega
      exact s_X1_testAt_0 c28 c29 c30 c31 c32 c33 c65 li htf hp
  | succ k ih =>
    intro hk
    obtain ⟨it, ie⟩ := ih (by omega)
    exact ⟨fun h sg c28 c29 c30 c31 c32 c33 c65 p hp lv hlv => s_X1_timeAt_s c28 c29 c30 c31 c32 c33 c65 li htf hp (by omega) it ie (by omega), fun h sg c28 c29 c30 c31 c32 c33 c65 p hp lv hlv => s_X1_testAt_s c28 c29 c30 c31 c32 c33 c65 li htf hp hmo (by omega) it ie (by omega)⟩

theorem s_X1_tellsBy {h : aH} {N mo : Int} {so va fp np tf sg : Nat → Int} {m0 : Int} {tv : Value} (c28 : h 28 = .inr (1, [iv N, .ref 29, .ref 30, .ref 31, .ref 32, .ref 33, tv, iv m0])) (c29 : h 29 = .inl (0, 350, so)) (c30 : h 30 = .inl (0, 350, va)) (c31 : h 31 = .inl (0, 350, fp)) (c32 : h 32 = .inl (0, 350, np)) (c33 : h 33 = .inl (0, 9, sg)) (c65 : h 65 = .inl (0, 9, tf)) (li : LInv N so va fp np) (htf : ∀ j, -1 ≤ tf j ∧ tf j < 1440) (hmo : 0 ≤ mo ∧ mo ≤ 100) : mSem yX1_tellsBy cX1_tellsBy 3 (some .int) 28 0 0 [.ref 28, .ref 65, iv mo] 97 h (RetA 33 9 (evI N so va fp np tf mo 12 true 0) (va_up h 28 (L28 N mo))) noX := by
  refine mSem_of (own := RX1) (name := "tellsBy") pn_X1 rfl rfl (Nat.le_of_ble_eq_true rfl) ?_
  refine r_aload_n dX1_tellsBy_0 rfl rfl ?_
  refine r_ifnonnull_r (tgt := 6) dX1_tellsBy_1 (by decide) ?_
  refine r_aload_n dX1_tellsBy_6 rfl rfl ?_
  refine r_aload_n dX1_tellsBy_7 rfl rfl ?_
  refine r_put (fs := [_, _, _, _, _, _, _, _]) (fs2 := [_, _, _, _, _, _, _, _]) dX1_tellsBy_8 fp_X1_31 (by decide) c28 (nar_arr _ _) (Nat.le_of_ble_eq_true rfl) rfl ?_
  refine r_aload_n dX1_tellsBy_11 rfl rfl ?_
  refine r_iload_n dX1_tellsBy_12 rfl rfl ?_
  refine r_put (fs := [_, _, _, _, _, _, _, _]) (fs2 := [_, _, _, _, _, _, _, _]) dX1_tellsBy_13 fp_X1_34 (by decide) rfl (nar_int _) (Nat.le_of_ble_eq_true rfl) rfl ?_
  refine r_aload_n dX1_tellsBy_16 rfl rfl ?_
  refine r_iconst dX1_tellsBy_17 ?_
  refine r_iconst dX1_tellsBy_18 ?_
  refine r_callV 28 [_, _] ((law_sems li htf hmo 12 (by decide)).1 _ _ (by rfl) (by exact c29) (by exact c30) (by exact c31) (by exact c32) (by exact c33) (by exact c65) _ (by omega) _ (by decide)) dX1_tellsBy_19 cs_X1_41 im_X1_timeAt (by decide) rfl rfl (by decide) (by decide) (by decide) rfl rfl (Nat.le_of_ble_eq_true rfl) (fun _ _ _ q => q.elim) (fun v n2 h2 q => ?_)
  obtain ⟨rfl, rfl, sg3, rfl⟩ := q
  refine ⟨rfl, ?_⟩
  dsimp only [Option.toList, List.cons_append, List.nil_append]
  refine r_iret dX1_tellsBy_22 ?_
  refine ⟨rfl, rfl, sg3, ?_⟩
  simp only [bx_uu]
