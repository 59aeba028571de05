/-! ===== the law's reader: times, tests, the whole text ===== -/
theorem s_X2_readTime_0 {h0 h : aH} {t : Nat → Int} {nd fa pl tk m0 : Int} {le e : Nat} {tv : Value} {D : LDt} (pw : LW h0 h t nd (SC t fa pl tk le e) tv m0 D) (lo : LOK D) (hnd : 0 ≤ nd ∧ nd ≤ 9) (ht : ∀ j, -128 ≤ t j ∧ t j ≤ 127) (hle : le ≤ 700) (hee : e ≤ le) (h2N : 2 * D.1 ≤ e)  : mSem yX2_readTime cX2_readTime 2 (some .int) 7 0 0 [.ref 5, iv 12] 97 h (LQ h0 t nd fa pl le tv m0 D 0 true (pT t le nd 0 true e)) noX := by
  obtain ⟨c1, c3, c5, c34, c35, c36, c37, c38, fr⟩ := id pw
  have hB := tk_B t hee
  refine mSem_of (own := RX2) (name := "readTime") pn_X2 rfl rfl (Nat.le_of_ble_eq_true rfl) ?_
  refine r_aload_n dX2_readTime_0 rfl rfl ?_
  refine r_iload_n dX2_readTime_1 rfl rfl ?_
  refine r_callV 5 [_] (s_X2_canBegin pw lo hnd ht hle hee h2N (by omega)) dX2_readTime_2 cs_X2_45 im_X2_canBegin (by decide) c5 rfl (by decide) (by decide) (by decide) rfl rfl (Nat.le_of_ble_eq_true rfl) (fun _ _ _ q => q.elim) (fun v n2 h2 q => ?_)
  obtain ⟨rfl, q⟩ := q
  rcases q with ⟨gK, gL, rfl, hh⟩ | ⟨gK, rfl, hh⟩
  · obtain rfl := hh.symm
    refine ⟨rfl, ?_⟩
    dsimp only [Option.toList, List.cons_append, List.nil_append]
    refine r_if_ne (tgt := 10) dX2_readTime_5 (by decide) ⟨by omega, by omega⟩ (fun g5 => ?_) (fun g5 => absurd g5 (by omega))
    exact absurd gL (by omega)
  · obtain rfl := hh.symm
    refine ⟨rfl, ?_⟩
    dsimp only [Option.toList, List.cons_append, List.nil_append]
    refine r_if_ne (tgt := 10) dX2_readTime_5 (by decide) ⟨by omega, by omega⟩ (fun g5 => absurd g5 (by omega)) (fun g5 => ?_)
    refine r_iconst dX2_readTime_8 ?_
    refine r_iret dX2_readTime_9 ?_
    refine ⟨rfl, Or.inr ⟨_, _, D, _, _, _, _, ?_, rfl, ⟨(by first | rfl | exact c1), (by first | rfl | exact c3), (by first | rfl | exact c5), (by first | rfl | exact c34), (by first | rfl | exact c35), (by first | rfl | exact c36), (by first | rfl | exact c37), (by first | rfl | exact c38), (fun j hj => by obtain ⟨a1, a2, a3⟩ := hj; try simp only [va_up]; (repeat rw [if_neg (by omega)]); exact fr j ⟨a1, a2, a3⟩)⟩, lo⟩⟩
    show (if tkK t le e = 1 then _ else _) = _
    split <;> rfl

theorem s_X2_readTest_0 {h0 h : aH} {t : Nat → Int} {nd fa pl tk m0 : Int} {le e : Nat} {tv : Value} {D : LDt} (pw : LW h0 h t nd (SC t fa pl tk le e) tv m0 D) (lo : LOK D) (hnd : 0 ≤ nd ∧ nd ≤ 9) (ht : ∀ j, -128 ≤ t j ∧ t j ≤ 127) (hle : le ≤ 700) (hee : e ≤ le) (h2N : 2 * D.1 ≤ e)  : mSem yX2_readTest cX2_readTest 2 (some .int) 7 0 0 [.ref 5, iv 12] 97 h (LQ h0 t nd fa pl le tv m0 D 0 false (pT t le nd 0 false e)) noX := by
  obtain ⟨c1, c3, c5, c34, c35, c36, c37, c38, fr⟩ := id pw
  have hB := tk_B t hee
  refine mSem_of (own := RX2) (name := "readTest") pn_X2 rfl rfl (Nat.le_of_ble_eq_true rfl) ?_
  refine r_aload_n dX2_readTest_0 rfl rfl ?_
  refine r_iload_n dX2_readTest_1 rfl rfl ?_
  refine r_callV 5 [_] (s_X2_canBegin pw lo hnd ht hle hee h2N (by omega)) dX2_readTest_2 cs_X2_45 im_X2_canBegin (by decide) c5 rfl (by decide) (by decide) (by decide) rfl rfl (Nat.le_of_ble_eq_true rfl) (fun _ _ _ q => q.elim) (fun v n2 h2 q => ?_)
  obtain ⟨rfl, q⟩ := q
  rcases q with ⟨gK, gL, rfl, hh⟩ | ⟨gK, rfl, hh⟩
  · obtain rfl := hh.symm
    refine ⟨rfl, ?_⟩
    dsimp only [Option.toList, List.cons_append, List.nil_append]
    refine r_if_ne (tgt := 10) dX2_readTest_5 (by decide) ⟨by omega, by omega⟩ (fun g5 => ?_) (fun g5 => absurd g5 (by omega))
    exact absurd gL (by omega)
  · obtain rfl := hh.symm
    refine ⟨rfl, ?_⟩
    dsimp only [Option.toList, List.cons_append, List.nil_append]
    refine r_if_ne (tgt := 10) dX2_readTest_5 (by decide) ⟨by omega, by omega⟩ (fun g5 => absurd g5 (by omega)) (fun g5 => ?_)
    refine r_iconst dX2_readTest_8 ?_
    refine r_iret dX2_readTest_9 ?_
    refine ⟨rfl, Or.inr ⟨_, _, D, _, _, _, _, ?_, rfl, ⟨(by first | rfl | exact c1), (by first | rfl | exact c3), (by first | rfl | exact c5), (by first | rfl | exact c34), (by first | rfl | exact c35), (by first | rfl | exact c36), (by first | rfl | exact c37), (by first | rfl | exact c38), (fun j hj => by obtain ⟨a1, a2, a3⟩ := hj; try simp only [va_up]; (repeat rw [if_neg (by omega)]); exact fr j ⟨a1, a2, a3⟩)⟩, lo⟩⟩
    show (if tkK t le e = 1 then _ else _) = _
    split <;> rfl

theorem s_X2_readTime_s {h0 h : aH} {t : Nat → Int} {nd fa pl tk m0 : Int} {le e : Nat} {tv : Value} {D : LDt} (pw : LW h0 h t nd (SC t fa pl tk le e) tv m0 D) (lo : LOK D) (hnd : 0 ≤ nd ∧ nd ≤ 9) (ht : ∀ j, -128 ≤ t j ∧ t j ≤ 127) (hle : le ≤ 700) (hee : e ≤ le) (h2N : 2 * D.1 ≤ e) {k : Nat} (hk : k < 12) (it : RdT h0 t nd fa pl le tv m0 k) (ie : RdE h0 t nd fa pl le tv m0 k) {lv : Int} (hlv : lv = 11 - (k : Int))  : mSem yX2_readTime cX2_readTime 2 (some .int) (2 * (k + 1) + 7) 0 0 [.ref 5, iv lv] 97 h (LQ h0 t nd fa pl le tv m0 D (k + 1) true (pT t le nd (k + 1) true e)) noX := by
  obtain ⟨c1, c3, c5, c34, c35, c36, c37, c38, fr⟩ := id pw
  have hB := tk_B t hee
  refine mSem_of (own := RX2) (name := "readTime") pn_X2 rfl rfl (Nat.le_of_ble_eq_true rfl) ?_
  refine r_aload_n dX2_readTime_0 rfl rfl ?_
  refine r_iload_n dX2_readTime_1 rfl rfl ?_
  refine r_callV 5 [_] (s_X2_canBegin pw lo hnd ht hle hee h2N (by omega)) dX2_readTime_2 cs_X2_45 im_X2_canBegin (by decide) c5 rfl (by omega) (by decide) (by decide) rfl rfl (Nat.le_of_ble_eq_true rfl) (fun _ _ _ q => q.elim) (fun v n2 h2 q => ?_)
  obtain ⟨rfl, q⟩ := q
  rcases q with ⟨gK, gL, rfl, hh⟩ | ⟨gK, rfl, hh⟩
  · obtain rfl := hh.symm
    refine ⟨rfl, ?_⟩
    dsimp only [Option.toList, List.cons_append, List.nil_append]
    refine r_if_ne (tgt := 10) dX2_readTime_5 (by decide) ⟨by omega, by omega⟩ (fun g5 => ?_) (fun g5 => absurd g5 (by omega))
    have kw0 := b2i_01 (wordAt t le e 0)
    have kw11 := b2i_01 (wordAt t le e 11)
    have kw12 := b2i_01 (wordAt t le e 12)
    have kw13 := b2i_01 (wordAt t le e 13)
    have kw14 := b2i_01 (wordAt t le e 14)
    have kw15 := b2i_01 (wordAt t le e 15)
    refine r_aload_n dX2_readTime_10 rfl rfl ?_
    refine r_get (fs := [_, _, _]) dX2_readTime_11 fl_X2_9 (by decide) c5 rfl ?_
    refine r_ldcS (own2 := "") (tx := "dial") (i := 0) dX2_readTime_14 (by decide +kernel) ?_
    refine r_callV 3 [.ref (1000 + 0)] (s_X6_isWord c1 ht (by first | rfl | exact c3) hle (by omega) (by first | exact hi | decide)) dX2_readTime_16 cs_X2_50 im_X6_isWord (by decide) c3 rfl (by omega) (by decide) (by decide) rfl rfl (Nat.le_of_ble_eq_true rfl) (fun _ _ _ q => q.elim) (fun v n2 h2 q => ?_)
    obtain ⟨rfl, rfl, hh⟩ := q
    obtain rfl := hh.symm
    refine ⟨rfl, ?_⟩
    dsimp only [Option.toList, List.cons_append, List.nil_append]
    refine r_if_eq (tgt := 27) dX2_readTime_19 (by decide) ⟨by omega, by omega⟩ (fun g19 => ?_) (fun g19 => ?_)
    · rw [b2i_0] at g19
      refine r_aload_n dX2_readTime_27 rfl rfl ?_
      refine r_get (fs := [_, _, _]) dX2_readTime_28 fl_X2_9 (by decide) c5 rfl ?_
      refine r_ldcS (own2 := "") (tx := "middle") (i := 11) dX2_readTime_31 (by decide +kernel) ?_
      refine r_callV 3 [.ref (1000 + 11)] (s_X6_isWord c1 ht (by first | rfl | exact c3) hle (by omega) (by first | exact hi | decide)) dX2_readTime_33 cs_X2_50 im_X6_isWord (by decide) c3 rfl (by omega) (by decide) (by decide) rfl rfl (Nat.le_of_ble_eq_true rfl) (fun _ _ _ q => q.elim) (fun v n2 h2 q => ?_)
      obtain ⟨rfl, rfl, hh⟩ := q
      obtain rfl := hh.symm
      refine ⟨rfl, ?_⟩
      dsimp only [Option.toList, List.cons_append, List.nil_append]
      refine r_if_eq (tgt := 44) dX2_readTime_36 (by decide) ⟨by omega, by omega⟩ (fun g36 => ?_) (fun g36 => ?_)
      · rw [b2i_0] at g36
        refine r_aload_n dX2_readTime_44 rfl rfl ?_
        refine r_get (fs := [_, _, _]) dX2_readTime_45 fl_X2_9 (by decide) c5 rfl ?_
        refine r_ldcS (own2 := "") (tx := "first") (i := 12) dX2_readTime_48 (by decide +kernel) ?_
        refine r_callV 3 [.ref (1000 + 12)] (s_X6_isWord c1 ht (by first | rfl | exact c3) hle (by omega) (by first | exact hi | decide)) dX2_readTime_50 cs_X2_50 im_X6_isWord (by decide) c3 rfl (by omega) (by decide) (by decide) rfl rfl (Nat.le_of_ble_eq_true rfl) (fun _ _ _ q => q.elim) (fun v n2 h2 q => ?_)
        obtain ⟨rfl, rfl, hh⟩ := q
        obtain rfl := hh.symm
        refine ⟨rfl, ?_⟩
        dsimp only [Option.toList, List.cons_append, List.nil_append]
        refine r_if_eq (tgt := 62) dX2_readTime_53 (by decide) ⟨by omega, by omega⟩ (fun g53 => ?_) (fun g53 => ?_)
        · rw [b2i_0] at g53
          refine r_aload_n dX2_readTime_62 rfl rfl ?_
          refine r_get (fs := [_, _, _]) dX2_readTime_63 fl_X2_9 (by decide) c5 rfl ?_
          refine r_ldcS (own2 := "") (tx := "mean") (i := 13) dX2_readTime_66 (by decide +kernel) ?_
          refine r_callV 3 [.ref (1000 + 13)] (s_X6_isWord c1 ht (by first | rfl | exact c3) hle (by omega) (by first | exact hi | decide)) dX2_readTime_68 cs_X2_50 im_X6_isWord (by decide) c3 rfl (by omega) (by decide) (by decide) rfl rfl (Nat.le_of_ble_eq_true rfl) (fun _ _ _ q => q.elim) (fun v n2 h2 q => ?_)
          obtain ⟨rfl, rfl, hh⟩ := q
          obtain rfl := hh.symm
          refine ⟨rfl, ?_⟩
          dsimp only [Option.toList, List.cons_append, List.nil_append]
          refine r_if_eq (tgt := 81) dX2_readTime_71 (by decide) ⟨by omega, by omega⟩ (fun g71 => ?_) (fun g71 => ?_)
          · rw [b2i_0] at g71
            refine r_aload_n dX2_readTime_81 rfl rfl ?_
            refine r_get (fs := [_, _, _]) dX2_readTime_82 fl_X2_9 (by decide) c5 rfl ?_
            refine r_ldcS (own2 := "") (tx := "late") (i := 14) dX2_readTime_85 (by decide +kernel) ?_
            refine r_callV 3 [.ref (1000 + 14)] (s_X6_isWord c1 ht (by first | rfl | exact c3) hle (by omega) (by first | exact hi | decide)) dX2_readTime_87 cs_X2_50 im_X6_isWord (by decide) c3 rfl (by omega) (by decide) (by decide) rfl rfl (Nat.le_of_ble_eq_true rfl) (fun _ _ _ q => q.elim) (fun v n2 h2 q => ?_)
            obtain ⟨rfl, rfl, hh⟩ := q
            obtain rfl := hh.symm
            refine ⟨rfl, ?_⟩
            dsimp only [Option.toList, List.cons_append, List.nil_append]
            refine r_if_eq (tgt := 99) dX2_readTime_90 (by decide) ⟨by omega, by omega⟩ (fun g90 => ?_) (fun g90 => ?_)
            · rw [b2i_0] at g90
              refine r_aload_n dX2_readTime_99 rfl rfl ?_
              refine r_get (fs := [_, _, _]) dX2_readTime_100 fl_X2_9 (by decide) c5 rfl ?_
              refine r_ldcS (own2 := "") (tx := "if") (i := 15) dX2_readTime_103 (by decide +kernel) ?_
              refine r_callV 3 [.ref (1000 + 15)] (s_X6_isWord c1 ht (by first | rfl | exact c3) hle (by omega) (by first | exact hi | decide)) dX2_readTime_105 cs_X2_50 im_X6_isWord (by decide) c3 rfl (by omega) (by decide) (by decide) rfl rfl (Nat.le_of_ble_eq_true rfl) (fun _ _ _ q => q.elim) (fun v n2 h2 q => ?_)
              obtain ⟨rfl, rfl, hh⟩ := q
              obtain rfl := hh.symm
              refine ⟨rfl, ?_⟩
              dsimp only [Option.toList, List.cons_append, List.nil_append]
              refine r_if_eq (tgt := 117) dX2_readTime_108 (by decide) ⟨by omega, by omega⟩ (fun g108 => ?_) (fun g108 => ?_)
              · rw [b2i_0] at g108
                refine r_aload_n dX2_readTime_117 rfl rfl ?_
                refine r_get (fs := [_, _, _]) dX2_readTime_118 fl_X2_9 (by decide) c5 rfl ?_
                refine r_iconst dX2_readTime_121 ?_
                refine r_callV 3 [_] (s_X6_refuse c3) dX2_readTime_122 cs_X2_38 im_X6_refuse (by decide) c3 rfl (by omega) (by decide) (by decide) rfl rfl (Nat.le_of_ble_eq_true rfl) (fun _ _ _ q => q.elim) (fun v n2 h2 q => ?_)
                obtain ⟨rfl, rfl, hh⟩ := q
                obtain rfl := hh.symm
                refine ⟨rfl, ?_⟩
                dsimp only [Option.toList, List.cons_append, List.nil_append]
                refine r_pop dX2_readTime_125 rfl ?_
                refine r_iconst dX2_readTime_126 ?_
                refine r_iret dX2_readTime_127 ?_
                refine ⟨rfl, Or.inr ⟨_, _, D, _, _, _, _, ?_, rfl, ⟨(by first | rfl | exact c1), (by first | rfl | exact c3), (by first | rfl | exact c5), (by first | rfl | exact c34), (by first | rfl | exact c35), (by first | rfl | exact c36), (by first | rfl | exact c37), (by first | rfl | exact c38), (fun j hj => by obtain ⟨a1, a2, a3⟩ := hj; try simp only [va_up]; (repeat rw [if_neg (by omega)]); exact fr j ⟨a1, a2, a3⟩)⟩, lo⟩⟩
                rw [pT_t, if_pos gK, if_neg (by rw [g19]; decide), if_neg (by rw [g36]; decide), if_neg (by rw [g53]; decide), if_neg (by rw [g71]; decide), if_neg (by rw [g90]; decide), if_neg (by rw [g108]; decide)]
              · rw [b2i_0, Bool.not_eq_false] at g108
                refine r_aload_n dX2_readTime_111 rfl rfl ?_
                refine r_iload_n dX2_readTime_112 rfl rfl ?_
                refine r_callV 5 [_] (s_X2_readIf pw lo hnd ht hle hee h2N (word_E hee g108 (by decide)) hk it ie (by omega)) dX2_readTime_113 cs_X2_81 im_X2_readIf (by decide) c5 rfl (by omega) (by decide) (by decide) rfl rfl (Nat.le_of_ble_eq_true rfl) (fun _ _ _ q => q.elim) (fun v n2 h2 q => ?_)
                obtain ⟨rfl, q⟩ := q
                rcases q with ⟨s4, e4, D4, tk4, er4, hl4, rfl, pw4, lo4, kp4, dn4, nn4, h24⟩ | ⟨f4, p4, D4, tk4, ki4, st4, en4, er4, rfl, pw4, lo4⟩
                · skip
                  refine ⟨rfl, ?_⟩
                  dsimp only [Option.toList, List.cons_append, List.nil_append]
                  refine r_iret dX2_readTime_116 ?_
                  first
                    | refine ⟨rfl, Or.inl ⟨s4, e4, D4, tk4, ?_, hl4, rfl, pw4, lo4, kp4, dn4, nn4, h24⟩⟩
                    | refine ⟨rfl, Or.inr ⟨f4, p4, D4, tk4, ki4, st4, en4, ?_, rfl, pw4, lo4⟩⟩
                  rw [pT_t, if_pos gK, if_neg (by rw [g19]; decide), if_neg (by rw [g36]; decide), if_neg (by rw [g53]; decide), if_neg (by rw [g71]; decide), if_neg (by rw [g90]; decide), if_pos g108]
                  exact er4
                · skip
                  refine ⟨rfl, ?_⟩
                  dsimp only [Option.toList, List.cons_append, List.nil_append]
                  refine r_iret dX2_readTime_116 ?_
                  first
                    | refine ⟨rfl, Or.inl ⟨s4, e4, D4, tk4, ?_, hl4, rfl, pw4, lo4, kp4, dn4, nn4, h24⟩⟩
                    | refine ⟨rfl, Or.inr ⟨f4, p4, D4, tk4, ki4, st4, en4, ?_, rfl, pw4, lo4⟩⟩
                  rw [pT_t, if_pos gK, if_neg (by rw [g19]; decide), if_neg (by rw [g36]; decide), if_neg (by rw [g53]; decide), if_neg (by rw [g71]; decide), if_neg (by rw [g90]; decide), if_pos g108]
                  exact er4
            · rw [b2i_0, Bool.not_eq_false] at g90
              refine r_aload_n dX2_readTime_93 rfl rfl ?_
              refine r_iload_n dX2_readTime_94 rfl rfl ?_
              refine r_callV 5 [_] (s_X2_readLate pw lo hnd ht hle hee h2N (word_E hee g90 (by decide)) hk it ie (by omega)) dX2_readTime_95 cs_X2_76 im_X2_readLate (by decide) c5 rfl (by omega) (by decide) (by decide) rfl rfl (Nat.le_of_ble_eq_true rfl) (fun _ _ _ q => q.elim) (fun v n2 h2 q => ?_)
              obtain ⟨rfl, q⟩ := q
              rcases q with ⟨s4, e4, D4, tk4, er4, hl4, rfl, pw4, lo4, kp4, dn4, nn4, h24⟩ | ⟨f4, p4, D4, tk4, ki4, st4, en4, er4, rfl, pw4, lo4⟩
              · skip
                refine ⟨rfl, ?_⟩
                dsimp only [Option.toList, List.cons_append, List.nil_append]
                refine r_iret dX2_readTime_98 ?_
                first
                  | refine ⟨rfl, Or.inl ⟨s4, e4, D4, tk4, ?_, hl4, rfl, pw4, lo4, kp4, dn4, nn4, h24⟩⟩
                  | refine ⟨rfl, Or.inr ⟨f4, p4, D4, tk4, ki4, st4, en4, ?_, rfl, pw4, lo4⟩⟩
                rw [pT_t, if_pos gK, if_neg (by rw [g19]; decide), if_neg (by rw [g36]; decide), if_neg (by rw [g53]; decide), if_neg (by rw [g71]; decide), if_pos g90]
                exact er4
              · skip
                refine ⟨rfl, ?_⟩
                dsimp only [Option.toList, List.cons_append, List.nil_append]
                refine r_iret dX2_readTime_98 ?_
                first
                  | refine ⟨rfl, Or.inl ⟨s4, e4, D4, tk4, ?_, hl4, rfl, pw4, lo4, kp4, dn4, nn4, h24⟩⟩
                  | refine ⟨rfl, Or.inr ⟨f4, p4, D4, tk4, ki4, st4, en4, ?_, rfl, pw4, lo4⟩⟩
                rw [pT_t, if_pos gK, if_neg (by rw [g19]; decide), if_neg (by rw [g36]; decide), if_neg (by rw [g53]; decide), if_neg (by rw [g71]; decide), if_pos g90]
                exact er4
          · rw [b2i_0, Bool.not_eq_false] at g71
            refine r_aload_n dX2_readTime_74 rfl rfl ?_
            refine r_iconst dX2_readTime_75 ?_
            refine r_iload_n dX2_readTime_76 rfl rfl ?_
            refine r_callV 5 [_, _] (s_X2_readCouple_3 pw lo hnd ht hle hee h2N (word_E hee g71 (by decide)) hk it ie (by omega)) dX2_readTime_77 cs_X2_70 im_X2_readCouple (by decide) c5 rfl (by omega) (by decide) (by decide) rfl rfl (Nat.le_of_ble_eq_true rfl) (fun _ _ _ q => q.elim) (fun v n2 h2 q => ?_)
            obtain ⟨rfl, q⟩ := q
            rcases q with ⟨s4, e4, D4, tk4, er4, hl4, rfl, pw4, lo4, kp4, dn4, nn4, h24⟩ | ⟨f4, p4, D4, tk4, ki4, st4, en4, er4, rfl, pw4, lo4⟩
            · skip
              refine ⟨rfl, ?_⟩
              dsimp only [Option.toList, List.cons_append, List.nil_append]
              refine r_iret dX2_readTime_80 ?_
              first
                | refine ⟨rfl, Or.inl ⟨s4, e4, D4, tk4, ?_, hl4, rfl, pw4, lo4, kp4, dn4, nn4, h24⟩⟩
                | refine ⟨rfl, Or.inr ⟨f4, p4, D4, tk4, ki4, st4, en4, ?_, rfl, pw4, lo4⟩⟩
              rw [pT_t, if_pos gK, if_neg (by rw [g19]; decide), if_neg (by rw [g36]; decide), if_neg (by rw [g53]; decide), if_pos g71]
              exact er4
            · skip
              refine ⟨rfl, ?_⟩
              dsimp only [Option.toList, List.cons_append, List.nil_append]
              refine r_iret dX2_readTime_80 ?_
              first
                | refine ⟨rfl, Or.inl ⟨s4, e4, D4, tk4, ?_, hl4, rfl, pw4, lo4, kp4, dn4, nn4, h24⟩⟩
                | refine ⟨rfl, Or.inr ⟨f4, p4, D4, tk4, ki4, st4, en4, ?_, rfl, pw4, lo4⟩⟩
              rw [pT_t, if_pos gK, if_neg (by rw [g19]; decide), if_neg (by rw [g36]; decide), if_neg (by rw [g53]; decide), if_pos g71]
              exact er4
        · rw [b2i_0, Bool.not_eq_false] at g53
          refine r_aload_n dX2_readTime_56 rfl rfl ?_
          refine r_iload_n dX2_readTime_57 rfl rfl ?_
          refine r_callV 5 [_] (s_X2_readFirst pw lo hnd ht hle hee h2N (word_E hee g53 (by decide)) hk it ie (by omega)) dX2_readTime_58 cs_X2_65 im_X2_readFirst (by decide) c5 rfl (by omega) (by decide) (by decide) rfl rfl (Nat.le_of_ble_eq_true rfl) (fun _ _ _ q => q.elim) (fun v n2 h2 q => ?_)
          obtain ⟨rfl, q⟩ := q
          rcases q with ⟨s4, e4, D4, tk4, er4, hl4, rfl, pw4, lo4, kp4, dn4, nn4, h24⟩ | ⟨f4, p4, D4, tk4, ki4, st4, en4, er4, rfl, pw4, lo4⟩
          · skip
            refine ⟨rfl, ?_⟩
            dsimp only [Option.toList, List.cons_append, List.nil_append]
            refine r_iret dX2_readTime_61 ?_
            first
              | refine ⟨rfl, Or.inl ⟨s4, e4, D4, tk4, ?_, hl4, rfl, pw4, lo4, kp4, dn4, nn4, h24⟩⟩
              | refine ⟨rfl, Or.inr ⟨f4, p4, D4, tk4, ki4, st4, en4, ?_, rfl, pw4, lo4⟩⟩
            rw [pT_t, if_pos gK, if_neg (by rw [g19]; decide), if_neg (by rw [g36]; decide), if_pos g53]
            exact er4
          · skip
            refine ⟨rfl, ?_⟩
            dsimp only [Option.toList, List.cons_append, List.nil_append]
            refine r_iret dX2_readTime_61 ?_
            first
              | refine ⟨rfl, Or.inl ⟨s4, e4, D4, tk4, ?_, hl4, rfl, pw4, lo4, kp4, dn4, nn4, h24⟩⟩
              | refine ⟨rfl, Or.inr ⟨f4, p4, D4, tk4, ki4, st4, en4, ?_, rfl, pw4, lo4⟩⟩
            rw [pT_t, if_pos gK, if_neg (by rw [g19]; decide), if_neg (by rw [g36]; decide), if_pos g53]
            exact er4
      · rw [b2i_0, Bool.not_eq_false] at g36
        refine r_aload_n dX2_readTime_39 rfl rfl ?_
        refine r_callV 5 [] (s_X2_readMiddle (k := k) pw lo hnd ht hle hee h2N (word_E hee g36 (by decide))) dX2_readTime_40 cs_X2_60 im_X2_readMiddle (by decide) c5 rfl (by omega) (by decide) (by decide) rfl rfl (Nat.le_of_ble_eq_true rfl) (fun _ _ _ q => q.elim) (fun v n2 h2 q => ?_)
        obtain ⟨rfl, q⟩ := q
        rcases q with ⟨s4, e4, D4, tk4, er4, hl4, rfl, pw4, lo4, kp4, dn4, nn4, h24⟩ | ⟨f4, p4, D4, tk4, ki4, st4, en4, er4, rfl, pw4, lo4⟩
        · skip
          refine ⟨rfl, ?_⟩
          dsimp only [Option.toList, List.cons_append, List.nil_append]
          refine r_iret dX2_readTime_43 ?_
          first
            | refine ⟨rfl, Or.inl ⟨s4, e4, D4, tk4, ?_, hl4, rfl, pw4, lo4, kp4, dn4, nn4, h24⟩⟩
            | refine ⟨rfl, Or.inr ⟨f4, p4, D4, tk4, ki4, st4, en4, ?_, rfl, pw4, lo4⟩⟩
          rw [pT_t, if_pos gK, if_neg (by rw [g19]; decide), if_pos g36]
          exact er4
        · skip
          refine ⟨rfl, ?_⟩
          dsimp only [Option.toList, List.cons_append, List.nil_append]
          refine r_iret dX2_readTime_43 ?_
          first
            | refine ⟨rfl, Or.inl ⟨s4, e4, D4, tk4, ?_, hl4, rfl, pw4, lo4, kp4, dn4, nn4, h24⟩⟩
            | refine ⟨rfl, Or.inr ⟨f4, p4, D4, tk4, ki4, st4, en4, ?_, rfl, pw4, lo4⟩⟩
          rw [pT_t, if_pos gK, if_neg (by rw [g19]; decide), if_pos g36]
          exact er4
    · rw [b2i_0, Bool.not_eq_false] at g19
      refine r_aload_n dX2_readTime_22 rfl rfl ?_
      refine r_callV 5 [] (s_X2_readDial (k := k) pw lo hnd ht hle hee h2N (word_E hee g19 (by decide))) dX2_readTime_23 cs_X2_54 im_X2_readDial (by decide) c5 rfl (by omega) (by decide) (by decide) rfl rfl (Nat.le_of_ble_eq_true rfl) (fun _ _ _ q => q.elim) (fun v n2 h2 q => ?_)
      obtain ⟨rfl, q⟩ := q
      rcases q with ⟨s4, e4, D4, tk4, er4, hl4, rfl, pw4, lo4, kp4, dn4, nn4, h24⟩ | ⟨f4, p4, D4, tk4, ki4, st4, en4, er4, rfl, pw4, lo4⟩
      · skip
        refine ⟨rfl, ?_⟩
        dsimp only [Option.toList, List.cons_append, List.nil_append]
        refine r_iret dX2_readTime_26 ?_
        first
          | refine ⟨rfl, Or.inl ⟨s4, e4, D4, tk4, ?_, hl4, rfl, pw4, lo4, kp4, dn4, nn4, h24⟩⟩
          | refine ⟨rfl, Or.inr ⟨f4, p4, D4, tk4, ki4, st4, en4, ?_, rfl, pw4, lo4⟩⟩
        rw [pT_t, if_pos gK, if_pos g19]
        exact er4
      · skip
        refine ⟨rfl, ?_⟩
        dsimp only [Option.toList, List.cons_append, List.nil_append]
        refine r_iret dX2_readTime_26 ?_
        first
          | refine ⟨rfl, Or.inl ⟨s4, e4, D4, tk4, ?_, hl4, rfl, pw4, lo4, kp4, dn4, nn4, h24⟩⟩
          | refine ⟨rfl, Or.inr ⟨f4, p4, D4, tk4, ki4, st4, en4, ?_, rfl, pw4, lo4⟩⟩
        rw [pT_t, if_pos gK, if_pos g19]
        exact er4
  · obtain rfl := hh.symm
    refine ⟨rfl, ?_⟩
    dsimp only [Option.toList, List.cons_append, List.nil_append]
    refine r_if_ne (tgt := 10) dX2_readTime_5 (by decide) ⟨by omega, by omega⟩ (fun g5 => absurd g5 (by omega)) (fun g5 => ?_)
    refine r_iconst dX2_readTime_8 ?_
    refine r_iret dX2_readTime_9 ?_
    refine ⟨rfl, Or.inr ⟨_, _, D, _, _, _, _, ?_, rfl, ⟨(by first | rfl | exact c1), (by first | rfl | exact c3), (by first | rfl | exact c5), (by first | rfl | exact c34), (by first | rfl | exact c35), (by first | rfl | exact c36), (by first | rfl | exact c37), (by first | rfl | exact c38), (fun j hj => by obtain ⟨a1, a2, a3⟩ := hj; try simp only [va_up]; (repeat rw [if_neg (by omega)]); exact fr j ⟨a1, a2, a3⟩)⟩, lo⟩⟩
    rw [pT_t, if_neg (fun z => gK ⟨z, by omega⟩), if_neg (fun z => gK ⟨z, by omega⟩)]

theorem s_X2_readTest_s {h0 h : aH} {t : Nat → Int} {nd fa pl tk m0 : Int} {le e : Nat} {tv : Value} {D : LDt} (pw : LW h0 h t nd (SC t fa pl tk le e) tv m0 D) (lo : LOK D) (hnd : 0 ≤ nd ∧ nd ≤ 9) (ht : ∀ j, -128 ≤ t j ∧ t j ≤ 127) (hle : le ≤ 700) (hee : e ≤ le) (h2N : 2 * D.1 ≤ e) {k : Nat} (hk : k < 12) (it : RdT h0 t nd fa pl le tv m0 k) (ie : RdE h0 t nd fa pl le tv m0 k) {lv : Int} (hlv : lv = 11 - (k : Int))  : mSem yX2_readTest cX2_readTest 2 (some .int) (2 * (k + 1) + 7) 0 0 [.ref 5, iv lv] 97 h (LQ h0 t nd fa pl le tv m0 D (k + 1) false (pT t le nd (k + 1) false e)) noX := by
  obtain ⟨c1, c3, c5, c34, c35, c36, c37, c38, fr⟩ := id pw
  have hB := tk_B t hee
  refine mSem_of (own := RX2) (name := "readTest") pn_X2 rfl rfl (Nat.le_of_ble_eq_true rfl) ?_
  refine r_aload_n dX2_readTest_0 rfl rfl ?_
  refine r_iload_n dX2_readTest_1 rfl rfl ?_
  refine r_callV 5 [_] (s_X2_canBegin pw lo hnd ht hle hee h2N (by omega)) dX2_readTest_2 cs_X2_45 im_X2_canBegin (by decide) c5 rfl (by omega) (by decide) (by decide) rfl rfl (Nat.le_of_ble_eq_true rfl) (fun _ _ _ q => q.elim) (fun v n2 h2 q => ?_)
  obtain ⟨rfl, q⟩ := q
  rcases q with ⟨gK, gL, rfl, hh⟩ | ⟨gK, rfl, hh⟩
  · obtain rfl := hh.symm
    refine ⟨rfl, ?_⟩
    dsimp only [Option.toList, List.cons_append, List.nil_append]
    refine r_if_ne (tgt := 10) dX2_readTest_5 (by decide) ⟨by omega, by omega⟩ (fun g5 => ?_) (fun g5 => absurd g5 (by omega))
    have kw16 := b2i_01 (wordAt t le e 16)
    have kw17 := b2i_01 (wordAt t le e 17)
    have kw18 := b2i_01 (wordAt t le e 18)
    have kw19 := b2i_01 (wordAt t le e 19)
    refine r_aload_n dX2_readTest_10 rfl rfl ?_
    refine r_get (fs := [_, _, _]) dX2_readTest_11 fl_X2_9 (by decide) c5 rfl ?_
    refine r_ldcS (own2 := "") (tx := "not") (i := 16) dX2_readTest_14 (by decide +kernel) ?_
    refine r_callV 3 [.ref (1000 + 16)] (s_X6_isWord c1 ht (by first | rfl | exact c3) hle (by omega) (by first | exact hi | decide)) dX2_readTest_16 cs_X2_50 im_X6_isWord (by decide) c3 rfl (by omega) (by decide) (by decide) rfl rfl (Nat.le_of_ble_eq_true rfl) (fun _ _ _ q => q.elim) (fun v n2 h2 q => ?_)
    obtain ⟨rfl, rfl, hh⟩ := q
    obtain rfl := hh.symm
    refine ⟨rfl, ?_⟩
    dsimp only [Option.toList, List.cons_append, List.nil_append]
    refine r_if_eq (tgt := 28) dX2_readTest_19 (by decide) ⟨by omega, by omega⟩ (fun g19 => ?_) (fun g19 => ?_)
    · rw [b2i_0] at g19
      refine r_aload_n dX2_readTest_28 rfl rfl ?_
      refine r_get (fs := [_, _, _]) dX2_readTest_29 fl_X2_9 (by decide) c5 rfl ?_
      refine r_ldcS (own2 := "") (tx := "dark") (i := 17) dX2_readTest_32 (by decide +kernel) ?_
      refine r_callV 3 [.ref (1000 + 17)] (s_X6_isWord c1 ht (by first | rfl | exact c3) hle (by omega) (by first | exact hi | decide)) dX2_readTest_34 cs_X2_50 im_X6_isWord (by decide) c3 rfl (by omega) (by decide) (by decide) rfl rfl (Nat.le_of_ble_eq_true rfl) (fun _ _ _ q => q.elim) (fun v n2 h2 q => ?_)
      obtain ⟨rfl, rfl, hh⟩ := q
      obtain rfl := hh.symm
      refine ⟨rfl, ?_⟩
      dsimp only [Option.toList, List.cons_append, List.nil_append]
      refine r_if_eq (tgt := 46) dX2_readTest_37 (by decide) ⟨by omega, by omega⟩ (fun g37 => ?_) (fun g37 => ?_)
      · rw [b2i_0] at g37
        refine r_aload_n dX2_readTest_46 rfl rfl ?_
        refine r_get (fs := [_, _, _]) dX2_readTest_47 fl_X2_9 (by decide) c5 rfl ?_
        refine r_ldcS (own2 := "") (tx := "month") (i := 18) dX2_readTest_50 (by decide +kernel) ?_
        refine r_callV 3 [.ref (1000 + 18)] (s_X6_isWord c1 ht (by first | rfl | exact c3) hle (by omega) (by first | exact hi | decide)) dX2_readTest_52 cs_X2_50 im_X6_isWord (by decide) c3 rfl (by omega) (by decide) (by decide) rfl rfl (Nat.le_of_ble_eq_true rfl) (fun _ _ _ q => q.elim) (fun v n2 h2 q => ?_)
        obtain ⟨rfl, rfl, hh⟩ := q
        obtain rfl := hh.symm
        refine ⟨rfl, ?_⟩
        dsimp only [Option.toList, List.cons_append, List.nil_append]
        refine r_if_eq (tgt := 63) dX2_readTest_55 (by decide) ⟨by omega, by omega⟩ (fun g55 => ?_) (fun g55 => ?_)
        · rw [b2i_0] at g55
          refine r_aload_n dX2_readTest_63 rfl rfl ?_
          refine r_get (fs := [_, _, _]) dX2_readTest_64 fl_X2_9 (by decide) c5 rfl ?_
          refine r_ldcS (own2 := "") (tx := "before") (i := 19) dX2_readTest_67 (by decide +kernel) ?_
          refine r_callV 3 [.ref (1000 + 19)] (s_X6_isWord c1 ht (by first | rfl | exact c3) hle (by omega) (by first | exact hi | decide)) dX2_readTest_69 cs_X2_50 im_X6_isWord (by decide) c3 rfl (by omega) (by decide) (by decide) rfl rfl (Nat.le_of_ble_eq_true rfl) (fun _ _ _ q => q.elim) (fun v n2 h2 q => ?_)
          obtain ⟨rfl, rfl, hh⟩ := q
          obtain rfl := hh.symm
          refine ⟨rfl, ?_⟩
          dsimp only [Option.toList, List.cons_append, List.nil_append]
          refine r_if_eq (tgt := 83) dX2_readTest_72 (by decide) ⟨by omega, by omega⟩ (fun g72 => ?_) (fun g72 => ?_)
          · rw [b2i_0] at g72
            refine r_aload_n dX2_readTest_83 rfl rfl ?_
            refine r_get (fs := [_, _, _]) dX2_readTest_84 fl_X2_9 (by decide) c5 rfl ?_
            refine r_iconst dX2_readTest_87 ?_
            refine r_callV 3 [_] (s_X6_refuse c3) dX2_readTest_88 cs_X2_38 im_X6_refuse (by decide) c3 rfl (by omega) (by decide) (by decide) rfl rfl (Nat.le_of_ble_eq_true rfl) (fun _ _ _ q => q.elim) (fun v n2 h2 q => ?_)
            obtain ⟨rfl, rfl, hh⟩ := q
            obtain rfl := hh.symm
            refine ⟨rfl, ?_⟩
            dsimp only [Option.toList, List.cons_append, List.nil_append]
            refine r_pop dX2_readTest_91 rfl ?_
            refine r_iconst dX2_readTest_92 ?_
            refine r_iret dX2_readTest_93 ?_
            refine ⟨rfl, Or.inr ⟨_, _, D, _, _, _, _, ?_, rfl, ⟨(by first | rfl | exact c1), (by first | rfl | exact c3), (by first | rfl | exact c5), (by first | rfl | exact c34), (by first | rfl | exact c35), (by first | rfl | exact c36), (by first | rfl | exact c37), (by first | rfl | exact c38), (fun j hj => by obtain ⟨a1, a2, a3⟩ := hj; try simp only [va_up]; (repeat rw [if_neg (by omega)]); exact fr j ⟨a1, a2, a3⟩)⟩, lo⟩⟩
            rw [pT_f, if_pos gK, if_neg (by rw [g19]; decide), if_neg (by rw [g37]; decide), if_neg (by rw [g55]; decide), if_neg (by rw [g72]; decide)]
          · rw [b2i_0, Bool.not_eq_false] at g72
            refine r_aload_n dX2_readTest_75 rfl rfl ?_
            refine r_bipush dX2_readTest_76 rfl ?_
            refine r_iload_n dX2_readTest_78 rfl rfl ?_
            refine r_callV 5 [_, _] (s_X2_readCouple_9 pw lo hnd ht hle hee h2N (word_E hee g72 (by decide)) hk it ie (by omega)) dX2_readTest_79 cs_X2_70 im_X2_readCouple (by decide) c5 rfl (by omega) (by decide) (by decide) rfl rfl (Nat.le_of_ble_eq_true rfl) (fun _ _ _ q => q.elim) (fun v n2 h2 q => ?_)
            obtain ⟨rfl, q⟩ := q
            rcases q with ⟨s4, e4, D4, tk4, er4, hl4, rfl, pw4, lo4, kp4, dn4, nn4, h24⟩ | ⟨f4, p4, D4, tk4, ki4, st4, en4, er4, rfl, pw4, lo4⟩
            · skip
              refine ⟨rfl, ?_⟩
              dsimp only [Option.toList, List.cons_append, List.nil_append]
              refine r_iret dX2_readTest_82 ?_
              first
                | refine ⟨rfl, Or.inl ⟨s4, e4, D4, tk4, ?_, hl4, rfl, pw4, lo4, kp4, dn4, nn4, h24⟩⟩
                | refine ⟨rfl, Or.inr ⟨f4, p4, D4, tk4, ki4, st4, en4, ?_, rfl, pw4, lo4⟩⟩
              rw [pT_f, if_pos gK, if_neg (by rw [g19]; decide), if_neg (by rw [g37]; decide), if_neg (by rw [g55]; decide), if_pos g72]
              exact er4
            · skip
              refine ⟨rfl, ?_⟩
              dsimp only [Option.toList, List.cons_append, List.nil_append]
              refine r_iret dX2_readTest_82 ?_
              first
                | refine ⟨rfl, Or.inl ⟨s4, e4, D4, tk4, ?_, hl4, rfl, pw4, lo4, kp4, dn4, nn4, h24⟩⟩
                | refine ⟨rfl, Or.inr ⟨f4, p4, D4, tk4, ki4, st4, en4, ?_, rfl, pw4, lo4⟩⟩
              rw [pT_f, if_pos gK, if_neg (by rw [g19]; decide), if_neg (by rw [g37]; decide), if_neg (by rw [g55]; decide), if_pos g72]
              exact er4
        · rw [b2i_0, Bool.not_eq_false] at g55
          refine r_aload_n dX2_readTest_58 rfl rfl ?_
          refine r_callV 5 [] (s_X2_readMonth (k := k) pw lo hnd ht hle hee h2N (word_E hee g55 (by decide))) dX2_readTest_59 cs_X2_96 im_X2_readMonth (by decide) c5 rfl (by omega) (by decide) (by decide) rfl rfl (Nat.le_of_ble_eq_true rfl) (fun _ _ _ q => q.elim) (fun v n2 h2 q => ?_)
          obtain ⟨rfl, q⟩ := q
          rcases q with ⟨s4, e4, D4, tk4, er4, hl4, rfl, pw4, lo4, kp4, dn4, nn4, h24⟩ | ⟨f4, p4, D4, tk4, ki4, st4, en4, er4, rfl, pw4, lo4⟩
          · skip
            refine ⟨rfl, ?_⟩
            dsimp only [Option.toList, List.cons_append, List.nil_append]
            refine r_iret dX2_readTest_62 ?_
            first
              | refine ⟨rfl, Or.inl ⟨s4, e4, D4, tk4, ?_, hl4, rfl, pw4, lo4, kp4, dn4, nn4, h24⟩⟩
              | refine ⟨rfl, Or.inr ⟨f4, p4, D4, tk4, ki4, st4, en4, ?_, rfl, pw4, lo4⟩⟩
            rw [pT_f, if_pos gK, if_neg (by rw [g19]; decide), if_neg (by rw [g37]; decide), if_pos g55]
            exact er4
          · skip
            refine ⟨rfl, ?_⟩
            dsimp only [Option.toList, List.cons_append, List.nil_append]
            refine r_iret dX2_readTest_62 ?_
            first
              | refine ⟨rfl, Or.inl ⟨s4, e4, D4, tk4, ?_, hl4, rfl, pw4, lo4, kp4, dn4, nn4, h24⟩⟩
              | refine ⟨rfl, Or.inr ⟨f4, p4, D4, tk4, ki4, st4, en4, ?_, rfl, pw4, lo4⟩⟩
            rw [pT_f, if_pos gK, if_neg (by rw [g19]; decide), if_neg (by rw [g37]; decide), if_pos g55]
            exact er4
      · rw [b2i_0, Bool.not_eq_false] at g37
        refine r_aload_n dX2_readTest_40 rfl rfl ?_
        refine r_iload_n dX2_readTest_41 rfl rfl ?_
        refine r_callV 5 [_] (s_X2_readDark pw lo hnd ht hle hee h2N (word_E hee g37 (by decide)) hk it ie (by omega)) dX2_readTest_42 cs_X2_91 im_X2_readDark (by decide) c5 rfl (by omega) (by decide) (by decide) rfl rfl (Nat.le_of_ble_eq_true rfl) (fun _ _ _ q => q.elim) (fun v n2 h2 q => ?_)
        obtain ⟨rfl, q⟩ := q
        rcases q with ⟨s4, e4, D4, tk4, er4, hl4, rfl, pw4, lo4, kp4, dn4, nn4, h24⟩ | ⟨f4, p4, D4, tk4, ki4, st4, en4, er4, rfl, pw4, lo4⟩
        · skip
          refine ⟨rfl, ?_⟩
          dsimp only [Option.toList, List.cons_append, List.nil_append]
          refine r_iret dX2_readTest_45 ?_
          first
            | refine ⟨rfl, Or.inl ⟨s4, e4, D4, tk4, ?_, hl4, rfl, pw4, lo4, kp4, dn4, nn4, h24⟩⟩
            | refine ⟨rfl, Or.inr ⟨f4, p4, D4, tk4, ki4, st4, en4, ?_, rfl, pw4, lo4⟩⟩
          rw [pT_f, if_pos gK, if_neg (by rw [g19]; decide), if_pos g37]
          exact er4
        · skip
          refine ⟨rfl, ?_⟩
          dsimp only [Option.toList, List.cons_append, List.nil_append]
          refine r_iret dX2_readTest_45 ?_
          first
            | refine ⟨rfl, Or.inl ⟨s4, e4, D4, tk4, ?_, hl4, rfl, pw4, lo4, kp4, dn4, nn4, h24⟩⟩
            | refine ⟨rfl, Or.inr ⟨f4, p4, D4, tk4, ki4, st4, en4, ?_, rfl, pw4, lo4⟩⟩
          rw [pT_f, if_pos gK, if_neg (by rw [g19]; decide), if_pos g37]
          exact er4
    · rw [b2i_0, Bool.not_eq_false] at g19
      refine r_aload_n dX2_readTest_22 rfl rfl ?_
      refine r_iload_n dX2_readTest_23 rfl rfl ?_
      refine r_callV 5 [_] (s_X2_readNot pw lo hnd ht hle hee h2N (word_E hee g19 (by decide)) hk it ie (by omega)) dX2_readTest_24 cs_X2_86 im_X2_readNot (by decide) c5 rfl (by omega) (by decide) (by decide) rfl rfl (Nat.le_of_ble_eq_true rfl) (fun _ _ _ q => q.elim) (fun v n2 h2 q => ?_)
      obtain ⟨rfl, q⟩ := q
      rcases q with ⟨s4, e4, D4, tk4, er4, hl4, rfl, pw4, lo4, kp4, dn4, nn4, h24⟩ | ⟨f4, p4, D4, tk4, ki4, st4, en4, er4, rfl, pw4, lo4⟩
      · skip
        refine ⟨rfl, ?_⟩
        dsimp only [Option.toList, List.cons_append, List.nil_append]
        refine r_iret dX2_readTest_27 ?_
        first
          | refine ⟨rfl, Or.inl ⟨s4, e4, D4, tk4, ?_, hl4, rfl, pw4, lo4, kp4, dn4, nn4, h24⟩⟩
          | refine ⟨rfl, Or.inr ⟨f4, p4, D4, tk4, ki4, st4, en4, ?_, rfl, pw4, lo4⟩⟩
        rw [pT_f, if_pos gK, if_pos g19]
        exact er4
      · skip
        refine ⟨rfl, ?_⟩
        dsimp only [Option.toList, List.cons_append, List.nil_append]
        refine r_iret dX2_readTest_27 ?_
        first
          | refine ⟨rfl, Or.inl ⟨s4, e4, D4, tk4, ?_, hl4, rfl, pw4, lo4, kp4, dn4, nn4, h24⟩⟩
          | refine ⟨rfl, Or.inr ⟨f4, p4, D4, tk4, ki4, st4, en4, ?_, rfl, pw4, lo4⟩⟩
        rw [pT_f, if_pos gK, if_pos g19]
        exact er4
  · obtain rfl := hh.symm
    refine ⟨rfl, ?_⟩
    dsimp only [Option.toList, List.cons_append, List.nil_append]
    refine r_if_ne (tgt := 10) dX2_readTest_5 (by decide) ⟨by omega, by omega⟩ (fun g5 => absurd g5 (by omega)) (fun g5 => ?_)
    refine r_iconst dX2_readTest_8 ?_
    refine r_iret dX2_readTest_9 ?_
    refine ⟨rfl, Or.inr ⟨_, _, D, _, _, _, _, ?_, rfl, ⟨(by first | rfl | exact c1), (by first | rfl | exact c3), (by first | rfl | exact c5), (by first | rfl | exact c34), (by first | rfl | exact c35), (by first | rfl | exact c36), (by first | rfl | exact c37), (by first | rfl | exact c38), (fun j hj => by obtain ⟨a1, a2, a3⟩ := hj; try simp only [va_up]; (repeat rw [if_neg (by omega)]); exact fr j ⟨a1, a2, a3⟩)⟩, lo⟩⟩
    rw [pT_f, if_neg (fun z => gK ⟨z, by omega⟩), if_neg (fun z => gK ⟨z, by omega⟩)]

theorem rd_sems {h0 : aH} {t : Nat → Int} {nd fa pl : Int} {le : Nat} {tv : Value} {m0 : Int} (hnd : 0 ≤ nd ∧ nd ≤ 9) (ht : ∀ j, -128 ≤ t j ∧ t j ≤ 127) (hle : le ≤ 700) : ∀ k, k ≤ 12 → RdT h0 t nd fa pl le tv m0 k ∧ RdE h0 t nd fa pl le tv m0 k := by
  intro k
  induction k with
  | zero =>
    intro _
    refine ⟨fun h tk e D pw lo hee h2N lv hlv => ?_, fun h tk e D pw lo hee h2N lv hlv => ?_⟩
    · obtain rfl : lv = 12 := by omega
      exact s_X2_readTime_0 pw lo hnd ht hle hee h2N
    · obtain rfl : lv = 12 := by omega
      exact s_X2_readTest_0 pw lo hnd ht hle hee h2N
  | succ k ih =>
    intro hk
    obtain ⟨it, ie⟩ := ih (by omega)
    exact ⟨fun h tk e D pw lo hee h2N lv hlv => s_X2_readTime_s pw lo hnd ht hle hee h2N (by omega) it ie (by omega), fun h tk e D pw lo hee h2N lv hlv => s_X2_readTest_s pw lo hnd ht hle hee h2N (by omega) it ie (by omega)⟩
def LI (h0 : aH) (t : Nat → Int) (nd fa pl : Int) (le : Nat) (tv : Value) (m0 : Int) : Option Value → Nat → aH → Prop := fun v n' h' => n' = 97 ∧ ((∃ s e2 D2 tk2, pLaw t le nd = .inr s ∧ e2 ≤ le ∧ v = some (iv 1) ∧ LW h0 h' t nd (SC t fa pl tk2 le e2) tv m0 D2 ∧ LOK D2 ∧ ∀ tf mo, evD D2 tf mo 12 true 0 = s tf mo) ∨ (∃ f p D2 tk2 ki st en, pLaw t le nd = .inl (f, p) ∧ v = some (iv 0) ∧ LW h0 h' t nd (SCN f p tk2 le ki st en) tv m0 D2 ∧ LOK D2))

theorem s_X2_readInto {h : aH} {t : Nat → Int} {nd fa pl tk m0 : Int} {n0 : Value} {le : Nat} {tv v1 v2 : Value} {D : LDt} (c1 : h 1 = .inl (1, 700, t)) (c3 : h 3 = SC t fa pl tk le 0) (c5 : h 5 = .inr (2, [v1, v2, n0])) (c34 : h 34 = L34 (D.1 : Int) tv m0) (c35 : h 35 = .inl (0, 350, D.2.1)) (c36 : h 36 = .inl (0, 350, D.2.2.1)) (c37 : h 37 = .inl (0, 350, D.2.2.2.1)) (c38 : h 38 = .inl (0, 350, D.2.2.2.2)) (lo : LOK D) (hnd : 0 ≤ nd ∧ nd ≤ 9) (ht : ∀ j, -128 ≤ t j ∧ t j ≤ 127) (hle : le ≤ 700) : mSem yX2_readInto cX2_readInto 4 (some .boolean) 32 0 0 [.ref 5, .ref 34, .ref 3, iv nd] 97 h (LI h t nd fa pl le tv m0) noX := by
  refine mSem_of (own := RX2) (name := "readInto") pn_X2 rfl rfl (Nat.le_of_ble_eq_true rfl) ?_
  have lo0 : LOK ((0, D.2.1, D.2.2.1, D.2.2.2.1, D.2.2.2.2) : LDt) := ⟨⟨Int.le_refl 0, by show (0 : Int) ≤ 350; decide⟩, lo.2⟩
  have eP : pLaw t le nd = match pT t le nd 12 true 0 with | .inl x => .inl x | .inr (s, e) => if tkK t le e = 0 then .inr s else .inl (1, tkS t le e) := rfl
  refine r_aload_n dX2_readInto_0 rfl rfl ?_
  refine r_ifnull_r dX2_readInto_1 ?_
  refine r_aload_n dX2_readInto_4 rfl rfl ?_
  refine r_ifnonnull_r (tgt := 10) dX2_readInto_5 (by decide) ?_
  refine r_aload_n dX2_readInto_10 rfl rfl ?_
  refine r_aload_n dX2_readInto_11 rfl rfl ?_
  refine r_put (fs := [_, _, _]) (fs2 := [_, _, _]) dX2_readInto_12 fp_X2_15 (by decide) c5 (nar_ref _ _) (Nat.le_of_ble_eq_true rfl) rfl ?_
  refine r_aload_n dX2_readInto_15 rfl rfl ?_
  refine r_aload_n dX2_readInto_16 rfl rfl ?_
  refine r_put (fs := [_, _, _]) (fs2 := [_, _, _]) dX2_readInto_17 fp_X2_9 (by decide) rfl (nar_ref _ _) (Nat.le_of_ble_eq_true rfl) rfl ?_
  refine r_aload_n dX2_readInto_20 rfl rfl ?_
  refine r_iload_n dX2_readInto_21 rfl rfl ?_
  refine r_put (fs := [_, _, _]) (fs2 := [_, _, _]) dX2_readInto_22 fp_X2_19 (by decide) rfl (nar_int _) (Nat.le_of_ble_eq_true rfl) rfl ?_
  refine r_aload_n dX2_readInto_25 rfl rfl ?_
  refine r_get (fs := [_, _, _]) dX2_readInto_26 fl_X2_15 (by decide) rfl rfl ?_
  refine r_callV 34 [] (s_X1_clear (by exact c34)) dX2_readInto_29 cs_X2_23 im_X1_clear (by decide) c34 rfl (by decide) (by decide) (by decide) rfl rfl (Nat.le_of_ble_eq_true rfl) (fun _ _ _ q => q.elim) (fun v n2 h2 q => ?_)
  obtain ⟨rfl, rfl, hh⟩ := q
  obtain rfl := hh.symm
  refine ⟨rfl, ?_⟩
  dsimp only [Option.toList, List.cons_append, List.nil_append]
  refine r_aload_n dX2_readInto_32 rfl rfl ?_
  refine r_iconst dX2_readInto_33 ?_
  refine r_callV 5 [_] ((rd_sems (h0 := h) (fa := fa) (pl := pl) (tv := tv) (m0 := m0) hnd ht hle 12 (by decide)).1 _ tk 0 ((0, D.2.1, D.2.2.1, D.2.2.2.1, D.2.2.2.2) : LDt) ⟨(by first | rfl | exact c1), (by first | rfl | exact c3), (by first | rfl | exact c5), (by first | rfl | exact c34), (by first | rfl | exact c35), (by first | rfl | exact c36), (by first | rfl | exact c37), (by first | rfl | exact c38), (fun j hj => by obtain ⟨a1, a2, a3⟩ := hj; try simp only [va_up]; (repeat rw [if_neg (by omega)]); first | done | rfl)⟩ lo0 (by omega) (Nat.le_refl 0) _ (by decide)) dX2_readInto_34 cs_X2_28 im_X2_readTime (by decide) rfl rfl (by decide) (by decide) (by decide) rfl rfl (Nat.le_of_ble_eq_true rfl) (fun _ _ _ q => q.elim) (fun v n2 h2 q => ?_)
  obtain ⟨rfl, q⟩ := q
  rcases q with ⟨s1, e1, D1, tk1, er1, hl1, rfl, pw1, lo1, kp1, dn1, nn1, h21⟩ | ⟨f1, p1, D1, tk1, ki1, st1, en1, er1, rfl, pw1, lo1⟩
  · obtain ⟨c1, c3, c5, c34, c35, c36, c37, c38, fr⟩ := id pw1
    have hE := tk_B t hl1
    have kb := b2i_01 (decide (tkK t le e1 = 0))
    refine ⟨rfl, ?_⟩
    dsimp only [Option.toList, List.cons_append, List.nil_append]
    refine r_iconst dX2_readInto_37 ?_
    refine r_icmp_ne (tgt := 43) dX2_readInto_38 (by decide) ⟨by omega, by omega⟩ ⟨by omega, by omega⟩ (fun g38 => ?_) (fun g38 => absurd g38 (by omega))
    refine r_aload_n dX2_readInto_43 rfl rfl ?_
    refine r_get (fs := [_, _, _]) dX2_readInto_44 fl_X2_9 (by decide) c5 rfl ?_
    refine r_callV 3 [] (s_X6_isEnd c1 ht (by first | rfl | exact c3) hle (by omega)) dX2_readInto_47 cs_X2_32 im_X6_isEnd (by decide) c3 rfl (by decide) (by decide) (by decide) rfl rfl (Nat.le_of_ble_eq_true rfl) (fun _ _ _ q => q.elim) (fun v n2 h2 q => ?_)
    obtain ⟨rfl, rfl, hh⟩ := q
    obtain rfl := hh.symm
    refine ⟨rfl, ?_⟩
    dsimp only [Option.toList, List.cons_append, List.nil_append]
    refine r_if_ne (tgt := 64) dX2_readInto_50 (by decide) ⟨by omega, by omega⟩ (fun g50 => ?_) (fun g50 => ?_)
    · rw [b2i_0, decide_eq_false_iff_not, Decidable.not_not] at g50
      refine r_iconst dX2_readInto_64 ?_
      refine r_goto (tgt := 69) dX2_readInto_65 (by decide) ?_
      refine r_zret dX2_readInto_69 (nar_z (by omega)) ?_
      first
        | exact ⟨rfl, Or.inl ⟨s1, e1, D1, tk1, by rw [eP, er1]; exact if_pos g50, hl1, rfl, pw1, lo1, fun tf mo => dn1.2 D1 (fun j _ _ => ⟨rfl, rfl, rfl, Or.inr rfl⟩) (Nat.le_refl _) tf mo⟩⟩
        | exact ⟨rfl, Or.inr ⟨_, _, D1, _, _, _, _, by rw [eP, er1]; exact if_neg g50, rfl, ⟨(by first | rfl | exact c1), (by first | rfl | exact c3), (by first | rfl | exact c5), (by first | rfl | exact c34), (by first | rfl | exact c35), (by first | rfl | exact c36), (by first | rfl | exact c37), (by first | rfl | exact c38), (fun j hj => by obtain ⟨a1, a2, a3⟩ := hj; try simp only [va_up]; (repeat rw [if_neg (by omega)]); exact fr j ⟨a1, a2, a3⟩)⟩, lo1⟩⟩
    · rw [b2i_0, decide_eq_false_iff_not] at g50
      refine r_aload_n dX2_readInto_53 rfl rfl ?_
      refine r_get (fs := [_, _, _]) dX2_readInto_54 fl_X2_9 (by decide) c5 rfl ?_
      refine r_iconst dX2_readInto_57 ?_
      refine r_callV 3 [_] (s_X6_refuse c3) dX2_readInto_58 cs_X2_38 im_X6_refuse (by decide) c3 rfl (by decide) (by decide) (by decide) rfl rfl (Nat.le_of_ble_eq_true rfl) (fun _ _ _ q => q.elim) (fun v n2 h2 q => ?_)
      obtain ⟨rfl, rfl, hh⟩ := q
      obtain rfl := hh.symm
      refine ⟨rfl, ?_⟩
      dsimp only [Option.toList, List.cons_append, List.nil_append]
      refine r_if_eq (tgt := 68) dX2_readInto_61 (by decide) ⟨by omega, by omega⟩ (fun g61 => ?_) (fun g61 => absurd g61 (by omega))
      refine r_iconst dX2_readInto_68 ?_
      refine r_zret dX2_readInto_69 (nar_z (by omega)) ?_
      first
        | exact ⟨rfl, Or.inl ⟨s1, e1, D1, tk1, by rw [eP, er1]; exact if_pos g50, hl1, rfl, pw1, lo1, fun tf mo => dn1.2 D1 (fun j _ _ => ⟨rfl, rfl, rfl, Or.inr rfl⟩) (Nat.le_refl _) tf mo⟩⟩
        | exact ⟨rfl, Or.inr ⟨_, _, D1, _, _, _, _, by rw [eP, er1]; exact if_neg g50, rfl, ⟨(by first | rfl | exact c1), (by first | rfl | exact c3), (by first | rfl | exact c5), (by first | rfl | exact c34), (by first | rfl | exact c35), (by first | rfl | exact c36), (by first | rfl | exact c37), (by first | rfl | exact c38), (fun j hj => by obtain ⟨a1, a2, a3⟩ := hj; try simp only [va_up]; (repeat rw [if_neg (by omega)]); exact fr j ⟨a1, a2, a3⟩)⟩, lo1⟩⟩
  · obtain ⟨c1, c3, c5, c34, c35, c36, c37, c38, fr⟩ := id pw1
    refine ⟨rfl, ?_⟩
    dsimp only [Option.toList, List.cons_append, List.nil_append]
    refine r_iconst dX2_readInto_37 ?_
    refine r_icmp_ne (tgt := 43) dX2_readInto_38 (by decide) ⟨by omega, by omega⟩ ⟨by omega, by omega⟩ (fun g38 => absurd g38 (by omega)) (fun g38 => ?_)
    refine r_iconst dX2_readInto_41 ?_
    refine r_zret dX2_readInto_42 (nar_z (by omega)) ?_
    exact ⟨rfl, Or.inr ⟨f1, p1, D1, tk1, ki1, st1, en1, by rw [eP, er1], rfl, pw1, lo1⟩⟩
