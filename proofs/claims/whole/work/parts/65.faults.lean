/-! ===== the reference: faults, next ===== -/
theorem upI_ne {f : Nat → Int} {k j : Nat} {v : Int} (h : j ≠ k) : va_up f k v j = f j := by simp [va_up, h]
theorem upI_eq {f : Nat → Int} {k : Nat} {v : Int} : va_up f k v k = v := by simp [va_up]
theorem drop_c {l : List Int} {j : Nat} {x : Int} {r : List Int} (h : l.drop j = x :: r) : j < l.length ∧ l.getD j 0 = x ∧ x ∈ l ∧ l.drop (j + 1) = r := by
  have hj : j < l.length := by
    rcases Nat.lt_or_ge j l.length with q | q
    · exact q
    · rw [List.drop_eq_nil_of_le q] at h; exact absurd h (by simp)
  have h2 := List.drop_eq_getElem_cons hj
  rw [h] at h2
  injection h2 with h3 h4
  refine ⟨hj, ?_, ?_, h4.symm⟩
  · rw [List.getD_eq_getElem?_getD, List.getElem?_eq_getElem hj, h3]; rfl
  · rw [h3]; exact List.getElem_mem hj

theorem l_X9_seeks {h : aH} {w : Int} {dl cl lm mn : Nat → Int} (c69 : h 69 = .inl (0, 45, dl)) (c70 : h 70 = .inl (0, 60, cl)) (c71 : h 71 = .inl (0, 12, lm)) (c79 : h 79 = .inl (0, 120, mn)) {nd sw nc nm : Int} {K U I O G L cf ct fc nx cd md my mt : Nat → Int} (pi : PInv nd sw nc K U I O G L cf ct fc nx cd) {rdg : Nat → Int} (c80 : h 80 = .inl (0, 48, rdg)) {nr ns : Int} {rd ry rm rt se : Nat → Int} (rrd : RdR nr rdg rd ry rm rt) (ni : NInv nr ns nm rd ry rm rt se md my mt) {g : Nat → Int} {di : Int} (hdi : 0 ≤ di ∧ di < nd) {lc : List Int} (hlc : cpL (fun c => allR (fun dy mi => tldI sw nc K O G L cf ct cd di dy mi (c / 41 - 60) (c % 41 - 20)) rd ry rm rt di nr.toNat) 4961 = lc) : ∀ (k j : Nat) (cp gg lt lgt : Nat → Int), j + k = 4961 → agL cp (cpL (fun c => allR (fun dy mi => tldI sw nc K O G L cf ct cd di dy mi (c / 41 - 60) (c % 41 - 20)) rd ry rm rt di nr.toNat) j) → gg 36 = ((cpL (fun c => allR (fun dy mi => tldI sw nc K O G L cf ct cd di dy mi (c / 41 - 60) (c % 41 - 20)) rd ry rm rt di nr.toNat) j).length : Int) → gg 33 = nr → TellR gg dl cl lm mn nd sw nc nm K U I O G L cf ct cd md my mt → LitR (gg 30) lt lgt sw nc L cf ct cd → (∀ k, (k ≠ 30 ∧ k ≠ 36) → gg k = g k) → Ev RX9 "seeks" cX9_seeks 3 none 6 0 0 (fun v n' h' => v = none ∧ n' = 97 ∧ ∃ cp g2 lt2 lg2, h' = UT (va_up h 81 (.inl (0, 4961, cp))) g2 w lt2 lg2 ∧ LitR (g2 30) lt2 lg2 sw nc L cf ct cd ∧ g2 36 = (lc.length : Int) ∧ agL cp lc ∧ ∀ k, (k ≠ 30 ∧ k ≠ 36) → g2 k = g k) noX 97 (UT (va_up h 81 (.inl (0, 4961, cp))) gg w lt lgt) 7 [(0, .ref 68), (1, iv di), (2, iv j)] [] := by
  obtain ⟨pnd, psw, pnc, pK, pU, pI, pO, pG, pL, pcf, pct, pfc, pnx⟩ := id pi
  obtain ⟨pnr, pns, pnm2, prd, pry, prm, prt, pse, pmd2, pmy2, pmt2⟩ := id ni
  intro k
  induction k with
  | zero =>
    intro j cp gg lt lgt hj ha e36 e33 trg lig kp
    obtain rfl : j = 4961 := by omega
    rw [hlc] at ha e36
    refine r_iload_n dX9_seeks_7 rfl rfl ?_
    refine r_sipush dX9_seeks_8 rfl ?_
    refine r_icmp_ge (tgt := 65) dX9_seeks_11 (by decide) ⟨by omega, by omega⟩ ⟨by omega, by omega⟩ (fun g11 => ?_) (fun g11 => absurd g11 (by omega))
    refine r_vret dX9_seeks_65 ?_
    exact ⟨rfl, rfl, cp, gg, lt, lgt, rfl, lig, e36, ha, kp⟩
  | succ k ih =>
    intro j cp gg lt lgt hj ha e36 e33 trg lig kp
    have bl := cpL_len (fun c => allR (fun dy mi => tldI sw nc K O G L cf ct cd di dy mi (c / 41 - 60) (c % 41 - 20)) rd ry rm rt di nr.toNat) j
    have es := cpL_s (fun c => allR (fun dy mi => tldI sw nc K O G L cf ct cd di dy mi (c / 41 - 60) (c % 41 - 20)) rd ry rm rt di nr.toNat) j
    have hi := ih (j + 1)
    obtain ⟨lj, elj⟩ : ∃ l, cpL (fun c => allR (fun dy mi => tldI sw nc K O G L cf ct cd di dy mi (c / 41 - 60) (c % 41 - 20)) rd ry rm rt di nr.toNat) j = l := ⟨_, rfl⟩
    rw [elj] at ha e36 bl es
    have kb := b2i_01 (allR (fun dy mi => tldI sw nc K O G L cf ct cd di dy mi ((j : Int) / 41 - 60) ((j : Int) % 41 - 20)) rd ry rm rt di nr.toNat)
    refine r_iload_n dX9_seeks_7 rfl rfl ?_
    refine r_sipush dX9_seeks_8 rfl ?_
    refine r_icmp_ge (tgt := 65) dX9_seeks_11 (by decide) ⟨by omega, by omega⟩ ⟨by omega, by omega⟩ (fun g11 => absurd g11 (by omega)) (fun g11 => ?_)
    refine r_aload_n dX9_seeks_14 rfl rfl ?_
    refine r_iload_n dX9_seeks_15 rfl rfl ?_
    refine r_iload_n dX9_seeks_16 rfl rfl ?_
    refine r_bipush dX9_seeks_17 rfl ?_
    refine r_idivN dX9_seeks_19 (by omega) (by omega) (by omega) (by omega) ?_
    refine r_bipush dX9_seeks_20 rfl ?_
    refine r_isub dX9_seeks_22 ?_
    refine r_iload_n dX9_seeks_23 rfl rfl ?_
    refine r_bipush dX9_seeks_24 rfl ?_
    refine r_iremN dX9_seeks_26 (by omega) (by omega) (by omega) (by omega) ?_
    refine r_bipush dX9_seeks_27 rfl ?_
    refine r_isub dX9_seeks_29 ?_
    refine r_callV 68 [_, _, _] (s_X9_fits (g := gg) (by rfl) (by exact c69) (by exact c70) (by exact c71) (by rfl) (by rfl) (by exact c79) trg pi lig (by exact c80) rrd ni e33 hdi (by omega) (by omega)) dX9_seeks_30 cs_X9_288 im_X9_fits (by decide) rfl rfl (by decide) (by decide) (by decide) rfl rfl (Nat.le_of_ble_eq_true rfl) (fun _ _ _ q => q.elim) (fun v n2 h2 q => ?_)
    obtain ⟨rfl, rfl, gn, lt2, lg2, rfl, li2, kp2⟩ := q
    rw [ut_ut]
    have tr2 := tell_kp trg kp2
    refine ⟨rfl, ?_⟩
    dsimp only [Option.toList, List.cons_append, List.nil_append]
    have e37 := (kp2 36 (by decide)).trans e36
    refine r_if_ne (tgt := 39) dX9_seeks_33 (by decide) ⟨by omega, by omega⟩ (fun g33 => ?_) (fun g33 => ?_)
    · refine r_aload_n dX9_seeks_39 rfl rfl ?_
      refine r_get (fs := RGL _ _) dX9_seeks_40 fl_X9_57 (by decide) rfl rfl ?_
      refine r_aload_n dX9_seeks_43 rfl rfl ?_
      refine r_getR (z := (gn 36)) dX9_seeks_44 fl_X9_285 (by decide) rfl rfl ?_
      refine r_iload_n dX9_seeks_47 rfl rfl ?_
      refine r_ast dX9_seeks_48 (by decide) rfl (by omega) (by omega) (by decide) ?_
      refine r_aload_n dX9_seeks_49 rfl rfl ?_
      refine r_dup dX9_seeks_50 rfl ?_
      refine r_getR (z := (gn 36)) dX9_seeks_51 fl_X9_285 (by decide) rfl rfl ?_
      refine r_iconst dX9_seeks_54 ?_
      refine r_iadd dX9_seeks_55 ?_
      refine r_putR dX9_seeks_56 fp_X9_285 (by decide) rfl (nar_int _) (Nat.le_of_ble_eq_true rfl) setR_36 (fun z0 hz0 => ?_)
      refine r_iinc (lv2 := [(0, _), (1, _), (2, _)]) dX9_seeks_59 (by decide) rfl rfl rfl ?_
      refine r_goto (tgt := 7) dX9_seeks_62 (by decide) ?_
      rw [show (j : Int) + 1 = ((j + 1 : Nat) : Int) by omega]
      first
        | (rw [ut_c _ _ _ _ _ _ _ (by decide), ut_put]
           rw [b2i_0, Bool.not_eq_false] at g33
           rw [if_pos g33] at es
           rw [es] at hi
           rw [show (gn 36).toNat = lj.length by omega]
           exact hi _ (va_up gn 36 z0) lt2 lg2 (by omega) (agL_put ha _) (by rw [List.length_append, List.length_singleton]; show z0 = _; omega) ((kp2 33 (by decide)).trans e33) (by exact tr2) (by exact li2) (fun k hk => by rw [upI_ne hk.2]; exact (kp2 k hk.1).trans (kp k hk)))
        | (rw [b2i_0] at g33
           rw [if_neg (by rw [g33]; decide)] at es
           rw [es] at hi
           exact hi cp gn lt2 lg2 (by omega) ha e37 ((kp2 33 (by decide)).trans e33) tr2 li2 (fun k hk => (kp2 k hk.1).trans (kp k hk)))
    · refine r_goto (tgt := 59) dX9_seeks_36 (by decide) ?_
      refine r_iinc (lv2 := [(0, _), (1, _), (2, _)]) dX9_seeks_59 (by decide) rfl rfl rfl ?_
      refine r_goto (tgt := 7) dX9_seeks_62 (by decide) ?_
      rw [show (j : Int) + 1 = ((j + 1 : Nat) : Int) by omega]
      first
        | (rw [ut_c _ _ _ _ _ _ _ (by decide), ut_put]
           rw [b2i_0, Bool.not_eq_false] at g33
           rw [if_pos g33] at es
           rw [es] at hi
           rw [show (gn 36).toNat = lj.length by omega]
           exact hi _ (va_up gn 36 z0) lt2 lg2 (by omega) (agL_put ha _) (by rw [List.length_append, List.length_singleton]; show z0 = _; omega) ((kp2 33 (by decide)).trans e33) (by exact tr2) (by exact li2) (fun k hk => by rw [upI_ne hk.2]; exact (kp2 k hk.1).trans (kp k hk)))
        | (rw [b2i_0] at g33
           rw [if_neg (by rw [g33]; decide)] at es
           rw [es] at hi
           exact hi cp gn lt2 lg2 (by omega) ha e37 ((kp2 33 (by decide)).trans e33) tr2 li2 (fun k hk => (kp2 k hk.1).trans (kp k hk)))

theorem up_cm {h : aH} {i j : Nat} {a b : aE} (hij : i ≠ j) : va_up (va_up h i a) j b = va_up (va_up h j b) i a := by
  funext k
  unfold va_up
  by_cases q1 : k = j
  · by_cases q2 : k = i
    · exact absurd (q2.symm.trans q1) hij
    · simp [q1, q2]; intro z; exact absurd z.symm hij
  · by_cases q2 : k = i
    · simp [q1, q2]
      intro z; exact absurd z hij
    · simp [q1, q2]
theorem s_X9_seeks {h : aH} {g : Nat → Int} {w : Int} (c68 : h 68 = RG g w) {dl cl lm lt lgt mn : Nat → Int} (c69 : h 69 = .inl (0, 45, dl)) (c70 : h 70 = .inl (0, 60, cl)) (c71 : h 71 = .inl (0, 12, lm)) (c77 : h 77 = .inl (2, 1440, lt)) (c78 : h 78 = .inl (2, 1440, lgt)) (c79 : h 79 = .inl (0, 120, mn)) {nd sw nc nm : Int} {K U I O G L cf ct fc nx cd md my mt : Nat → Int} (tr : TellR g dl cl lm mn nd sw nc nm K U I O G L cf ct cd md my mt) (pi : PInv nd sw nc K U I O G L cf ct fc nx cd) {cpl : Nat → Int} (c81 : h 81 = .inl (0, 4961, cpl)) (li : LitR (g 30) lt lgt sw nc L cf ct cd) {rdg : Nat → Int} (c80 : h 80 = .inl (0, 48, rdg)) {nr ns : Int} {rd ry rm rt se : Nat → Int} (rrd : RdR nr rdg rd ry rm rt) (ni : NInv nr ns nm rd ry rm rt se md my mt) (e33 : g 33 = nr) {di : Int} (hdi : 0 ≤ di ∧ di < nd) {lc : List Int} (hlc : cpL (fun c => allR (fun dy mi => tldI sw nc K O G L cf ct cd di dy mi (c / 41 - 60) (c % 41 - 20)) rd ry rm rt di nr.toNat) 4961 = lc)  : mSem yX9_seeks cX9_seeks 3 none 6 0 0 [.ref 68, iv di] 97 h (fun v n' h' => v = none ∧ n' = 97 ∧ ∃ cp g2 lt2 lg2, h' = UT (va_up h 81 (.inl (0, 4961, cp))) g2 w lt2 lg2 ∧ LitR (g2 30) lt2 lg2 sw nc L cf ct cd ∧ g2 36 = (lc.length : Int) ∧ agL cp lc ∧ ∀ k, (k ≠ 30 ∧ k ≠ 36) → g2 k = g k) noX := by
  obtain ⟨t1, t2, t3, t31, pnm, tdl, tcl, tlm, tmd, pmt, pmd, pmy⟩ := id tr
  obtain ⟨pnd, psw, pnc, pK, pU, pI, pO, pG, pL, pcf, pct, pfc, pnx⟩ := id pi
  obtain ⟨pnr, pns, pnm2, prd, pry, prm, prt, pse, pmd2, pmy2, pmt2⟩ := id ni
  refine mSem_of (own := RX9) (name := "seeks") pn_X9 rfl rfl (Nat.le_of_ble_eq_true rfl) ?_
  refine r_aload_n dX9_seeks_0 rfl rfl ?_
  refine r_iconst dX9_seeks_1 ?_
  refine r_putR dX9_seeks_2 fp_X9_285 (by decide) c68 (nar_int _) (Nat.le_of_ble_eq_true rfl) setR_36 (fun z0 hz0 => ?_)
  refine r_iconst dX9_seeks_5 ?_
  refine r_istore_n (lv2 := [(0, _), (1, _), (2, _)]) dX9_seeks_6 rfl (by decide) rfl rfl ?_
  have hk := l_X9_seeks (w := w) c69 c70 c71 c79 pi c80 rrd ni hdi hlc 4961 0 cpl (va_up g 36 z0) lt lgt (by omega) (fun j hj => absurd hj (Nat.not_lt_zero j)) (by show z0 = 0; omega) (by exact e33) (by exact tr) (by exact li) (g := g) (fun k hk => upI_ne hk.2)
  refine ev_h (ut_sc (h := va_up h 68 (RG (va_up g 36 z0) w)) (c := 81) rfl c77 c78 (by exact c81)) ?_
  rw [show va_up (va_up h 68 (RG (va_up g 36 z0) w)) 81 (.inl (0, 4961, cpl)) = va_up (va_up h 81 (.inl (0, 4961, cpl))) 68 (RG (va_up g 36 z0) w) from up_cm (by decide), ut_68]
  exact hk

theorem l_X9_faults {h : aH} {g cp : Nat → Int} {w : Int} (c68 : h 68 = RG g w) (c81 : h 81 = .inl (0, 4961, cp)) {l : List Int} (hl : ∀ x ∈ l, 0 ≤ x ∧ x < 4961) (hl2 : l.length ≤ 4961) (ha : agL cp l) (e36 : g 36 = (l.length : Int)) {di w_ : Int} {Q : Option Value → Nat → aH → Prop} : ∀ (l2 : List Int) (j : Nat) (s : Int × Int), l.drop j = l2 → j ≤ l.length → (0 ≤ s.1 ∧ s.1 ≤ 40) → (0 ≤ s.2 ∧ s.2 ≤ 40) → (∀ (s2 : Int × Int) (j : Nat), s2 = l2.foldl lmF s → (0 ≤ s2.1 ∧ s2.1 ≤ 40) → (0 ≤ s2.2 ∧ s2.2 ≤ 40) → Ev RX9 "faults" cX9_faults 7 (some .int) 8 0 0 Q noX 97 h 157 [(0, .ref 68), (1, iv di), (2, iv w_), (3, iv s2.1), (4, iv s2.2), (5, iv (j : Nat))] []) → Ev RX9 "faults" cX9_faults 7 (some .int) 8 0 0 Q noX 97 h 101 [(0, .ref 68), (1, iv di), (2, iv w_), (3, iv s.1), (4, iv s.2), (5, iv (j : Nat))] [] := by
  intro l2
  induction l2 with
  | nil =>
    intro j s hd hj b1 b2 kk
    have hj2 : l.length ≤ j := List.drop_eq_nil_iff.mp hd
    refine r_iload dX9_faults_101 rfl ?_
    refine r_aload_n dX9_faults_103 rfl rfl ?_
    refine r_getR (z := (g 36)) dX9_faults_104 fl_X9_285 (by decide) c68 rfl ?_
    refine r_icmp_ge (tgt := 157) dX9_faults_107 (by decide) ⟨by omega, by omega⟩ ⟨by omega, by omega⟩ (fun g107 => ?_) (fun g107 => absurd g107 (by omega))
    exact kk s j rfl b1 b2
  | cons x r ih =>
    intro j s hd hj b1 b2 kk
    obtain ⟨d1, d2, d3, d4⟩ := drop_c hd
    have bx := hl x d3
    have e8 := ha j d1
    rw [d2] at e8
    have hi := ih (j + 1) (lmF s x) d4 (by omega)
    have e9 : lmF s x = (if x % 41 < s.1 then x % 41 else s.1, if s.2 < x % 41 then x % 41 else s.2) := rfl
    have kk2 : ∀ (s2 : Int × Int) (j : Nat), s2 = r.foldl lmF (lmF s x) → (0 ≤ s2.1 ∧ s2.1 ≤ 40) → (0 ≤ s2.2 ∧ s2.2 ≤ 40) → Ev RX9 "faults" cX9_faults 7 (some .int) 8 0 0 Q noX 97 h 157 [(0, .ref 68), (1, iv di), (2, iv w_), (3, iv s2.1), (4, iv s2.2), (5, iv (j : Nat))] [] := kk
    refine r_iload dX9_faults_101 rfl ?_
    refine r_aload_n dX9_faults_103 rfl rfl ?_
    refine r_getR (z := (g 36)) dX9_faults_104 fl_X9_285 (by decide) c68 rfl ?_
    refine r_icmp_ge (tgt := 157) dX9_faults_107 (by decide) ⟨by omega, by omega⟩ ⟨by omega, by omega⟩ (fun g107 => absurd g107 (by omega)) (fun g107 => ?_)
    refine r_aload_n dX9_faults_110 rfl rfl ?_
    refine r_get (fs := RGL _ _) dX9_faults_111 fl_X9_57 (by decide) c68 rfl ?_
    refine r_iload dX9_faults_114 rfl ?_
    refine r_ald dX9_faults_116 (by decide) c81 (by omega) (by omega) (by decide) ?_
    rw [Int.toNat_natCast, e8]
    refine r_bipush dX9_faults_117 rfl ?_
    refine r_iremN dX9_faults_119 (by omega) (by omega) (by omega) (by omega) ?_
    refine r_istore (lv2 := [(0, _), (1, _), (2, _), (3, _), (4, _), (5, _), (6, _)]) dX9_faults_120 (by decide) rfl rfl ?_
    refine r_iload dX9_faults_122 rfl ?_
    refine r_iload_n dX9_faults_124 rfl rfl ?_
    refine r_icmp_ge (tgt := 133) dX9_faults_125 (by decide) ⟨by omega, by omega⟩ ⟨by omega, by omega⟩ (fun g125 => ?_) (fun g125 => ?_)
    · refine r_iload_n dX9_faults_133 rfl rfl ?_
      refine r_istore_n (lv2 := [(0, _), (1, _), (2, _), (3, _), (4, _), (5, _), (6, _)]) dX9_faults_134 rfl (by decide) rfl rfl ?_
      refine r_iload dX9_faults_135 rfl ?_
      refine r_iload dX9_faults_137 rfl ?_
      refine r_icmp_le (tgt := 147) dX9_faults_139 (by decide) ⟨by omega, by omega⟩ ⟨by omega, by omega⟩ (fun g139 => ?_) (fun g139 => ?_)
      · refine r_iload dX9_faults_147 rfl ?_
        refine r_istore (lv2 := [(0, _), (1, _), (2, _), (3, _), (4, _), (5, _), (6, _)]) dX9_faults_149 (by decide) rfl rfl ?_
        refine r_iinc (lv2 := [(0, _), (1, _), (2, _), (3, _), (4, _), (5, _), (6, _)]) dX9_faults_151 (by decide) rfl rfl rfl ?_
        refine r_goto (tgt := 101) dX9_faults_154 (by decide) ?_
        refine r_lv (lv2 := [(0, _), (1, _), (2, _), (3, _), (4, _), (5, _)]) rfl ?_
        rw [show (j : Int) + 1 = ((j + 1 : Nat) : Int) by omega]
        first
          | rw [if_pos (by omega), if_pos (by omega)] at e9
          | rw [if_pos (by omega), if_neg (by omega)] at e9
          | rw [if_neg (by omega), if_pos (by omega)] at e9
          | rw [if_neg (by omega), if_neg (by omega)] at e9
        rw [e9] at hi kk2
        exact hi (by dsimp only; omega) (by dsimp only; omega) kk2
      · refine r_iload dX9_faults_142 rfl ?_
        refine r_goto (tgt := 149) dX9_faults_144 (by decide) ?_
        refine r_istore (lv2 := [(0, _), (1, _), (2, _), (3, _), (4, _), (5, _), (6, _)]) dX9_faults_149 (by decide) rfl rfl ?_
        refine r_iinc (lv2 := [(0, _), (1, _), (2, _), (3, _), (4, _), (5, _), (6, _)]) dX9_faults_151 (by decide) rfl rfl rfl ?_
        refine r_goto (tgt := 101) dX9_faults_154 (by decide) ?_
        refine r_lv (lv2 := [(0, _), (1, _), (2, _), (3, _), (4, _), (5, _)]) rfl ?_
        rw [show (j : Int) + 1 = ((j + 1 : Nat) : Int) by omega]
        first
          | rw [if_pos (by omega), if_pos (by omega)] at e9
          | rw [if_pos (by omega), if_neg (by omega)] at e9
          | rw [if_neg (by omega), if_pos (by omega)] at e9
          | rw [if_neg (by omega), if_neg (by omega)] at e9
        rw [e9] at hi kk2
        exact hi (by dsimp only; omega) (by dsimp only; omega) kk2
    · refine r_iload dX9_faults_128 rfl ?_
      refine r_goto (tgt := 134) dX9_faults_130 (by decide) ?_
      refine r_istore_n (lv2 := [(0, _), (1, _), (2, _), (3, _), (4, _), (5, _), (6, _)]) dX9_faults_134 rfl (by decide) rfl rfl ?_
      refine r_iload dX9_faults_135 rfl ?_
      refine r_iload dX9_faults_137 rfl ?_
      refine r_icmp_le (tgt := 147) dX9_faults_139 (by decide) ⟨by omega, by omega⟩ ⟨by omega, by omega⟩ (fun g139 => ?_) (fun g139 => ?_)
      · refine r_iload dX9_faults_147 rfl ?_
        refine r_istore (lv2 := [(0, _), (1, _), (2, _), (3, _), (4, _), (5, _), (6, _)]) dX9_faults_149 (by decide) rfl rfl ?_
        refine r_iinc (lv2 := [(0, _), (1, _), (2, _), (3, _), (4, _), (5, _), (6, _)]) dX9_faults_151 (by decide) rfl rfl rfl ?_
        refine r_goto (tgt := 101) dX9_faults_154 (by decide) ?_
        refine r_lv (lv2 := [(0, _), (1, _), (2, _), (3, _), (4, _), (5, _)]) rfl ?_
        rw [show (j : Int) + 1 = ((j + 1 : Nat) : Int) by omega]
        first
          | rw [if_pos (by omega), if_pos (by omega)] at e9
          | rw [if_pos (by omega), if_neg (by omega)] at e9
          | rw [if_neg (by omega), if_pos (by omega)] at e9
          | rw [if_neg (by omega), if_neg (by omega)] at e9
        rw [e9] at hi kk2
        exact hi (by dsimp only; omega) (by dsimp only; omega) kk2
      · refine r_iload dX9_faults_142 rfl ?_
        refine r_goto (tgt := 149) dX9_faults_144 (by decide) ?_
        refine r_istore (lv2 := [(0, _), (1, _), (2, _), (3, _), (4, _), (5, _), (6, _)]) dX9_faults_149 (by decide) rfl rfl ?_
        refine r_iinc (lv2 := [(0, _), (1, _), (2, _), (3, _), (4, _), (5, _), (6, _)]) dX9_faults_151 (by decide) rfl rfl rfl ?_
        refine r_goto (tgt := 101) dX9_faults_154 (by decide) ?_
        refine r_lv (lv2 := [(0, _), (1, _), (2, _), (3, _), (4, _), (5, _)]) rfl ?_
        rw [show (j : Int) + 1 = ((j + 1 : Nat) : Int) by omega]
        first
          | rw [if_pos (by omega), if_pos (by omega)] at e9
          | rw [if_pos (by omega), if_neg (by omega)] at e9
          | rw [if_neg (by omega), if_pos (by omega)] at e9
          | rw [if_neg (by omega), if_neg (by omega)] at e9
        rw [e9] at hi kk2
        exact hi (by dsimp only; omega) (by dsimp only; omega) kk2

theorem s_X9_faults {h : aH} {th : Int} {t : Nat → Int} {tp : Nat} {fpl hlaw himg : Int} {rf : Nat → Int} {nd sw nc hl hs : Int} {K U I O G L cf ct fc nx cd : Nat → Int} {nr ns nm : Int} {rd ry rm rt se md my mt : Nat → Int} {M : ND} {ls : LSm} (cr : RefC h (t, tp, fpl, rf, hlaw, himg, ((nd, sw, nc), (hl, hs), K, U, I, O, G, L, cf, ct, fc, nx, cd), ((nr, ns, nm), rd, ry, rm, rt, se, md, my, mt), M, ls) th) {di w_ : Int} (idi : inR di) (iw_ : inR w_)  : mSem yX9_faults cX9_faults 7 (some .int) 8 0 0 [.ref 68, iv di, iv w_] 97 h (RefQ (ocL [(diaB nd di, 1), (whaB w_ 4, 1), (decide (w_ = 0 ∨ ¬ (cpL (fun c => allR (fun dy mi => tldI sw nc K O G L cf ct cd di dy mi (c / 41 - 60) (c % 41 - 20)) rd ry rm rt di nr.toNat) 4961).length = 0), 2)]) (ftR (cpL (fun c => allR (fun dy mi => tldI sw nc K O G L cf ct cd di dy mi (c / 41 - 60) (c % 41 - 20)) rd ry rm rt di nr.toNat) 4961) w_) h (t, tp, fpl, rf, hlaw, himg, ((nd, sw, nc), (hl, hs), K, U, I, O, G, L, cf, ct, fc, nx, cd), ((nr, ns, nm), rd, ry, rm, rt, se, md, my, mt), M, ls)) noX := by
  refine RefC_elim cr (fun g dl cl lm trr rfr nD nC nL lt lgt mn rdg cpl grp sea rts row cod ncod pil opn stg bsd imo imr ims imm w c68 c69 c70 c71 c72 c73 c74 c75 c76 c77 c78 c79 c80 c81 c82 c83 c84 c85 c86 c87 c88 c89 c90 c91 c92 c93 c94 c95 hth rr => ?_)
  refine RR_elim rr (fun e8 e10 e33 e38 e44 e53 tr pi ni li rrf rtp htp rrd rse phl phi rim rco ht nM nsn => ?_)
  obtain ⟨t1, t2, t3, t31, pnm, tdl, tcl, tlm, tmd, pmt, pmd, pmy⟩ := id tr
  obtain ⟨pnd, psw, pnc, pK, pU, pI, pO, pG, pL, pcf, pct, pfc, pnx⟩ := id pi
  obtain ⟨pnr, pns, pnm2, prd, pry, prm, prt, pse, pmd2, pmy2, pmt2⟩ := id ni
  unfold inR at idi iw_
  obtain ⟨lc, elc⟩ : ∃ l, cpL (fun c => allR (fun dy mi => tldI sw nc K O G L cf ct cd di dy mi (c / 41 - 60) (c % 41 - 20)) rd ry rm rt di nr.toNat) 4961 = l := ⟨_, rfl⟩
  have bll : lc.length ≤ 4961 := by rw [← elc]; exact cpL_len _ _
  have blb : ∀ x ∈ lc, 0 ≤ x ∧ x < 4961 := by rw [← elc]; exact cpL_B _ _
  rw [elc]
  refine mSem_of (own := RX9) (name := "faults") pn_X9 rfl rfl (Nat.le_of_ble_eq_true rfl) ?_
  refine r_aload_n dX9_faults_0 rfl rfl ?_
  refine r_iconst dX9_faults_1 ?_
  refine r_putR dX9_faults_2 fp_X9_102 (by decide) c68 (nar_int _) (Nat.le_of_ble_eq_true rfl) setR_0 (fun z0 hz0 => ?_)
  refine r_aload_n dX9_faults_5 rfl rfl ?_
  refine r_iload_n dX9_faults_6 rfl rfl ?_
  refine r_callV 68 [_] (s_X9_isDial (by rfl) (by first | rfl | exact hz0) (by show 0 ≤ g 1 ∧ g 1 ≤ 9; omega) idi) dX9_faults_7 cs_X9_243 im_X9_isDial (by decide) rfl rfl (by decide) (by decide) (by decide) rfl rfl (Nat.le_of_ble_eq_true rfl) (fun _ _ _ q => q.elim) (fun v n2 h2 q => ?_)
  obtain ⟨rfl, q⟩ := q
  rcases q with ⟨kb1, rfl, hh⟩ | ⟨kb1, rfl, hh⟩
  · obtain rfl := hh.symm
    replace kb1 : diaB nd di = true := by rw [← t1]; exact kb1
    have bdi := of_decide_eq_true kb1
    refine ⟨rfl, ?_⟩
    dsimp only [Option.toList, List.cons_append, List.nil_append]
    refine r_if_eq (tgt := 22) dX9_faults_10 (by decide) ⟨by omega, by omega⟩ (fun g10 => absurd g10 (by omega)) (fun g10 => ?_)
    refine r_aload_n dX9_faults_13 rfl rfl ?_
    refine r_iload_n dX9_faults_14 rfl rfl ?_
    refine r_iconst dX9_faults_15 ?_
    refine r_callV 68 [_, _] (s_X9_isWhat (by rfl) (by first | rfl | exact hz0) iw_ ⟨by decide, by decide⟩) dX9_faults_16 cs_X9_246 im_X9_isWhat (by decide) rfl rfl (by decide) (by decide) (by decide) rfl rfl (Nat.le_of_ble_eq_true rfl) (fun _ _ _ q => q.elim) (fun v n2 h2 q => ?_)
    obtain ⟨rfl, q⟩ := q
    rcases q with ⟨kb2, rfl, hh⟩ | ⟨kb2, rfl, hh⟩
    · obtain rfl := hh.symm
      have bw_ := of_decide_eq_true kb2
      refine ⟨rfl, ?_⟩
      dsimp only [Option.toList, List.cons_append, List.nil_append]
      refine r_if_ne (tgt := 24) dX9_faults_19 (by decide) ⟨by omega, by omega⟩ (fun g19 => ?_) (fun g19 => absurd g19 (by omega))
      refine r_aload_n dX9_faults_24 rfl rfl ?_
      refine r_iload_n dX9_faults_25 rfl rfl ?_
      refine r_callV 68 [_] (s_X9_seeks (g := (va_up g 0 z0)) (hlc := elc) (by rfl) (by exact c69) (by exact c70) (by exact c71) (by exact c77) (by exact c78) (by exact c79) (by exact tr) pi (by exact c81) (by exact li) (by exact c80) rrd ni (by exact e33) bdi) dX9_faults_26 cs_X9_291 im_X9_seeks (by decide) rfl rfl (by decide) (by decide) (by decide) rfl rfl (Nat.le_of_ble_eq_true rfl) (fun _ _ _ q => q.elim) (fun v n2 h2 q => ?_)
      obtain ⟨rfl, rfl, cp, gn, lt2, lg2, rfl, li2, e36, hag, kp2⟩ := q
      refine ⟨rfl, ?_⟩
      dsimp only [Option.toList, List.cons_append, List.nil_append]
      have e370 := hag 0
      have e371 := hag (lc.length - 1)
      refine r_iload_n dX9_faults_29 rfl rfl ?_
      refine r_if_ne (tgt := 38) dX9_faults_30 (by decide) ⟨by omega, by omega⟩ (fun g30 => ?_) (fun g30 => ?_)
      · refine r_aload_n dX9_faults_38 rfl rfl ?_
        refine r_aload_n dX9_faults_39 rfl rfl ?_
        refine r_getR (z := (gn 36)) dX9_faults_40 fl_X9_285 (by decide) rfl rfl ?_
        refine r_if_le (tgt := 50) dX9_faults_43 (by decide) ⟨by omega, by omega⟩ (fun g43 => ?_) (fun g43 => ?_)
        · refine r_iconst dX9_faults_50 ?_
          refine r_iconst dX9_faults_51 ?_
          refine r_callV 68 [_, _] (s_X9_right (b := false) (by rfl) ((kp2 0 (by decide)).trans hz0) (by omega)) dX9_faults_52 cs_X9_207 im_X9_right (by decide) rfl rfl (by decide) (by decide) (by decide) rfl rfl (Nat.le_of_ble_eq_true rfl) (fun _ _ _ q => q.elim) (fun v n2 h2 q => ?_)
          obtain ⟨rfl, q⟩ := q
          rcases q with ⟨kb0, rfl, hh⟩ | ⟨kb0, rfl, hh⟩
          · exact absurd kb0 (by decide)
          · obtain rfl := hh.symm
            have kb3 : decide (w_ = 0 ∨ ¬ lc.length = 0) = false := decide_eq_false (by omega)
            refine ⟨rfl, ?_⟩
            dsimp only [Option.toList, List.cons_append, List.nil_append]
            refine r_if_ne (tgt := 60) dX9_faults_55 (by decide) ⟨by omega, by omega⟩ (fun g55 => absurd g55 (by omega)) (fun g55 => ?_)
            refine r_iconst dX9_faults_58 ?_
            refine r_iret dX9_faults_59 ?_
            first
              | exact ⟨rfl, ⟨0, rfl, fun z => absurd ((ocF kb1).symm.trans z) (by decide)⟩, (RefC_mk (g := (va_up gn 0 2)) rfl (by exact c69) (by exact c70) (by exact c71) (by exact c72) (by exact c73) (by exact c74) (by exact c75) (by exact c76) rfl rfl (by exact c79) (by exact c80) rfl (by exact c82) (by exact c83) (by exact c84) (by exact c85) (by exact c86) (by exact c87) (by exact c88) (by exact c89) (by exact c90) (by exact c91) (by exact c92) (by exact c93) (by exact c94) (by exact c95) (congrArg (fun n : Nat => (n : Int)) (ocF kb1).symm) (RR_mk (by first | exact e8 | exact (kp2 8 (by decide)).trans e8) (by first | exact e10 | exact (kp2 10 (by decide)).trans e10) (by first | exact e33 | exact (kp2 33 (by decide)).trans e33) (by first | exact e38 | exact (kp2 38 (by decide)).trans e38) (by first | exact e44 | exact (kp2 44 (by decide)).trans e44) (by first | exact e53 | exact (kp2 53 (by decide)).trans e53) (tell_k4 (by exact tr) (kp2 1 (by decide)) (kp2 2 (by decide)) (kp2 3 (by decide)) (kp2 31 (by decide))) pi ni (by first | exact li | exact li2) rrf rtp htp rrd rse phl phi rim rco ht nM nsn)), (by repeat (first | exact fun _ _ => rfl | refine frr_up ?_ (by decide)))⟩
              | exact ⟨rfl, ⟨0, rfl, fun z => absurd (((ocT kb1).trans (ocF kb2)).symm.trans z) (by decide)⟩, (RefC_mk (g := (va_up gn 0 2)) rfl (by exact c69) (by exact c70) (by exact c71) (by exact c72) (by exact c73) (by exact c74) (by exact c75) (by exact c76) rfl rfl (by exact c79) (by exact c80) rfl (by exact c82) (by exact c83) (by exact c84) (by exact c85) (by exact c86) (by exact c87) (by exact c88) (by exact c89) (by exact c90) (by exact c91) (by exact c92) (by exact c93) (by exact c94) (by exact c95) (congrArg (fun n : Nat => (n : Int)) ((ocT kb1).trans (ocF kb2)).symm) (RR_mk (by first | exact e8 | exact (kp2 8 (by decide)).trans e8) (by first | exact e10 | exact (kp2 10 (by decide)).trans e10) (by first | exact e33 | exact (kp2 33 (by decide)).trans e33) (by first | exact e38 | exact (kp2 38 (by decide)).trans e38) (by first | exact e44 | exact (kp2 44 (by decide)).trans e44) (by first | exact e53 | exact (kp2 53 (by decide)).trans e53) (tell_k4 (by exact tr) (kp2 1 (by decide)) (kp2 2 (by decide)) (kp2 3 (by decide)) (kp2 31 (by decide))) pi ni (by first | exact li | exact li2) rrf rtp htp rrd rse phl phi rim rco ht nM nsn)), (by repeat (first | exact fun _ _ => rfl | refine frr_up ?_ (by decide)))⟩
              | exact ⟨rfl, ⟨0, rfl, fun z => absurd (((ocT kb1).trans ((ocT kb2).trans (ocF kb3))).symm.trans z) (by decide)⟩, (RefC_mk (g := (va_up gn 0 2)) rfl (by exact c69) (by exact c70) (by exact c71) (by exact c72) (by exact c73) (by exact c74) (by exact c75) (by exact c76) rfl rfl (by exact c79) (by exact c80) rfl (by exact c82) (by exact c83) (by exact c84) (by exact c85) (by exact c86) (by exact c87) (by exact c88) (by exact c89) (by exact c90) (by exact c91) (by exact c92) (by exact c93) (by exact c94) (by exact c95) (congrArg (fun n : Nat => (n : Int)) ((ocT kb1).trans ((ocT kb2).trans (ocF kb3))).symm) (RR_mk (by first | exact e8 | exact (kp2 8 (by decide)).trans e8) (by first | exact e10 | exact (kp2 10 (by decide)).trans e10) (by first | exact e33 | exact (kp2 33 (by decide)).trans e33) (by first | exact e38 | exact (kp2 38 (by decide)).trans e38) (by first | exact e44 | exact (kp2 44 (by decide)).trans e44) (by first | exact e53 | exact (kp2 53 (by decide)).trans e53) (tell_k4 (by exact tr) (kp2 1 (by decide)) (kp2 2 (by decide)) (kp2 3 (by decide)) (kp2 31 (by decide))) pi ni (by first | exact li | exact li2) rrf rtp htp rrd rse phl phi rim rco ht nM nsn)), (by repeat (first | exact fun _ _ => rfl | refine frr_up ?_ (by decide)))⟩
        · refine r_iconst dX9_faults_46 ?_
          refine r_goto (tgt := 51) dX9_faults_47 (by decide) ?_
          refine r_iconst dX9_faults_51 ?_
          refine r_callV 68 [_, _] (s_X9_right (b := true) (by rfl) ((kp2 0 (by decide)).trans hz0) (by omega)) dX9_faults_52 cs_X9_207 im_X9_right (by decide) rfl rfl (by decide) (by decide) (by decide) rfl rfl (Nat.le_of_ble_eq_true rfl) (fun _ _ _ q => q.elim) (fun v n2 h2 q => ?_)
          obtain ⟨rfl, q⟩ := q
          rcases q with ⟨kb0, rfl, hh⟩ | ⟨kb0, rfl, hh⟩
          · obtain rfl := hh.symm
            have kb3 : decide (w_ = 0 ∨ ¬ lc.length = 0) = true := decide_eq_true (by omega)
            refine ⟨rfl, ?_⟩
            dsimp only [Option.toList, List.cons_append, List.nil_append]
            refine r_if_ne (tgt := 60) dX9_faults_55 (by decide) ⟨by omega, by omega⟩ (fun g55 => ?_) (fun g55 => absurd g55 (by omega))
            have b370 := blb _ (getD_mem (l := lc) (k := 0) (by omega))
            have b371 := blb _ (getD_mem (l := lc) (k := lc.length - 1) (by omega))
            refine r_iload_n dX9_faults_60 rfl rfl ?_
            refine r_iconst dX9_faults_61 ?_
            refine r_icmp_ge (tgt := 92) dX9_faults_62 (by decide) ⟨by omega, by omega⟩ ⟨by omega, by omega⟩ (fun g62 => ?_) (fun g62 => ?_)
            · refine r_bipush dX9_faults_92 rfl ?_
              refine r_istore_n (lv2 := [(0, _), (1, _), (2, _), (3, _)]) dX9_faults_94 rfl (by decide) rfl rfl ?_
              refine r_iconst dX9_faults_95 ?_
              refine r_istore (lv2 := [(0, _), (1, _), (2, _), (3, _), (4, _)]) dX9_faults_96 (by decide) rfl rfl ?_
              refine r_iconst dX9_faults_98 ?_
              refine r_istore (lv2 := [(0, _), (1, _), (2, _), (3, _), (4, _), (5, _)]) dX9_faults_99 (by decide) rfl rfl ?_
              refine l_X9_faults rfl rfl blb bll hag e36 lc 0 (40, 0) rfl (by omega) ⟨show (0 : Int) ≤ 40 by decide, show (40 : Int) ≤ 40 by decide⟩ ⟨show (0 : Int) ≤ 0 by decide, show (0 : Int) ≤ 40 by decide⟩ (fun s j hs bs1 bs2 => ?_)
              refine r_iload_n dX9_faults_157 rfl rfl ?_
              refine r_iconst dX9_faults_158 ?_
              refine r_icmp_ne (tgt := 166) dX9_faults_159 (by decide) ⟨by omega, by omega⟩ ⟨by omega, by omega⟩ (fun g159 => ?_) (fun g159 => ?_)
              · refine r_iload dX9_faults_166 rfl ?_
                refine r_bipush dX9_faults_168 rfl ?_
                refine r_isub dX9_faults_170 ?_
                refine r_iret dX9_faults_171 ?_
                first
                  | exact ⟨rfl, ⟨_, rfl, fun _ => (by show _ = ftR lc w_; unfold ftR; rw [if_neg (by omega), if_neg (by omega), if_neg (by omega), if_pos (by omega), ← hs])⟩, (RefC_mk (g := gn) rfl (by exact c69) (by exact c70) (by exact c71) (by exact c72) (by exact c73) (by exact c74) (by exact c75) (by exact c76) rfl rfl (by exact c79) (by exact c80) rfl (by exact c82) (by exact c83) (by exact c84) (by exact c85) (by exact c86) (by exact c87) (by exact c88) (by exact c89) (by exact c90) (by exact c91) (by exact c92) (by exact c93) (by exact c94) (by exact c95) (by first | exact (hz0.trans (congrArg (fun n : Nat => (n : Int)) ((ocT kb1).trans ((ocT kb2).trans ((ocT kb3).trans ocE))).symm)) | exact (kp2 0 (by decide)).trans (hz0.trans (congrArg (fun n : Nat => (n : Int)) ((ocT kb1).trans ((ocT kb2).trans ((ocT kb3).trans ocE))).symm))) (RR_mk (by first | exact e8 | exact (kp2 8 (by decide)).trans e8) (by first | exact e10 | exact (kp2 10 (by decide)).trans e10) (by first | exact e33 | exact (kp2 33 (by decide)).trans e33) (by first | exact e38 | exact (kp2 38 (by decide)).trans e38) (by first | exact e44 | exact (kp2 44 (by decide)).trans e44) (by first | exact e53 | exact (kp2 53 (by decide)).trans e53) (tell_k4 (by exact tr) (kp2 1 (by decide)) (kp2 2 (by decide)) (kp2 3 (by decide)) (kp2 31 (by decide))) pi ni (by first | exact li | exact li2) rrf rtp htp rrd rse phl phi rim rco ht nM nsn)), (by repeat (first | exact fun _ _ => rfl | refine frr_up ?_ (by decide)))⟩
                  | exact ⟨rfl, ⟨_, rfl, fun _ => (by show _ = ftR lc w_; unfold ftR; rw [if_neg (by omega), if_neg (by omega), if_neg (by omega), if_neg (by omega), ← hs])⟩, (RefC_mk (g := gn) rfl (by exact c69) (by exact c70) (by exact c71) (by exact c72) (by exact c73) (by exact c74) (by exact c75) (by exact c76) rfl rfl (by exact c79) (by exact c80) rfl (by exact c82) (by exact c83) (by exact c84) (by exact c85) (by exact c86) (by exact c87) (by exact c88) (by exact c89) (by exact c90) (by exact c91) (by exact c92) (by exact c93) (by exact c94) (by exact c95) (by first | exact (hz0.trans (congrArg (fun n : Nat => (n : Int)) ((ocT kb1).trans ((ocT kb2).trans ((ocT kb3).trans ocE))).symm)) | exact (kp2 0 (by decide)).trans (hz0.trans (congrArg (fun n : Nat => (n : Int)) ((ocT kb1).trans ((ocT kb2).trans ((ocT kb3).trans ocE))).symm))) (RR_mk (by first | exact e8 | exact (kp2 8 (by decide)).trans e8) (by first | exact e10 | exact (kp2 10 (by decide)).trans e10) (by first | exact e33 | exact (kp2 33 (by decide)).trans e33) (by first | exact e38 | exact (kp2 38 (by decide)).trans e38) (by first | exact e44 | exact (kp2 44 (by decide)).trans e44) (by first | exact e53 | exact (kp2 53 (by decide)).trans e53) (tell_k4 (by exact tr) (kp2 1 (by decide)) (kp2 2 (by decide)) (kp2 3 (by decide)) (kp2 31 (by decide))) pi ni (by first | exact li | exact li2) rrf rtp htp rrd rse phl phi rim rco ht nM nsn)), (by repeat (first | exact fun _ _ => rfl | refine frr_up ?_ (by decide)))⟩
              · refine r_iload_n dX9_faults_162 rfl rfl ?_
                refine r_goto (tgt := 168) dX9_faults_163 (by decide) ?_
                refine r_bipush dX9_faults_168 rfl ?_
                refine r_isub dX9_faults_170 ?_
                refine r_iret dX9_faults_171 ?_
                first
                  | exact ⟨rfl, ⟨_, rfl, fun _ => (by show _ = ftR lc w_; unfold ftR; rw [if_neg (by omega), if_neg (by omega), if_neg (by omega), if_pos (by omega), ← hs])⟩, (RefC_mk (g := gn) rfl (by exact c69) (by exact c70) (by exact c71) (by exact c72) (by exact c73) (by exact c74) (by exact c75) (by exact c76) rfl rfl (by exact c79) (by exact c80) rfl (by exact c82) (by exact c83) (by exact c84) (by exact c85) (by exact c86) (by exact c87) (by exact c88) (by exact c89) (by exact c90) (by exact c91) (by exact c92) (by exact c93) (by exact c94) (by exact c95) (by first | exact (hz0.trans (congrArg (fun n : Nat => (n : Int)) ((ocT kb1).trans ((ocT kb2).trans ((ocT kb3).trans ocE))).symm)) | exact (kp2 0 (by decide)).trans (hz0.trans (congrArg (fun n : Nat => (n : Int)) ((ocT kb1).trans ((ocT kb2).trans ((ocT kb3).trans ocE))).symm))) (RR_mk (by first | exact e8 | exact (kp2 8 (by decide)).trans e8) (by first | exact e10 | exact (kp2 10 (by decide)).trans e10) (by first | exact e33 | exact (kp2 33 (by decide)).trans e33) (by first | exact e38 | exact (kp2 38 (by decide)).trans e38) (by first | exact e44 | exact (kp2 44 (by decide)).trans e44) (by first | exact e53 | exact (kp2 53 (by decide)).trans e53) (tell_k4 (by exact tr) (kp2 1 (by decide)) (kp2 2 (by decide)) (kp2 3 (by decide)) (kp2 31 (by decide))) pi ni (by first | exact li | exact li2) rrf rtp htp rrd rse phl phi rim rco ht nM nsn)), (by repeat (first | exact fun _ _ => rfl | refine frr_up ?_ (by decide)))⟩
                  | exact ⟨rfl, ⟨_, rfl, fun _ => (by show _ = ftR lc w_; unfold ftR; rw [if_neg (by omega), if_neg (by omega), if_neg (by omega), if_neg (by omega), ← hs])⟩, (RefC_mk (g := gn) rfl (by exact c69) (by exact c70) (by exact c71) (by exact c72) (by exact c73) (by exact c74) (by exact c75) (by exact c76) rfl rfl (by exact c79) (by exact c80) rfl (by exact c82) (by exact c83) (by exact c84) (by exact c85) (by exact c86) (by exact c87) (by exact c88) (by exact c89) (by exact c90) (by exact c91) (by exact c92) (by exact c93) (by exact c94) (by exact c95) (by first | exact (hz0.trans (congrArg (fun n : Nat => (n : Int)) ((ocT kb1).trans ((ocT kb2).trans ((ocT kb3).trans ocE))).symm)) | exact (kp2 0 (by decide)).trans (hz0.trans (congrArg (fun n : Nat => (n : Int)) ((ocT kb1).trans ((ocT kb2).trans ((ocT kb3).trans ocE))).symm))) (RR_mk (by first | exact e8 | exact (kp2 8 (by decide)).trans e8) (by first | exact e10 | exact (kp2 10 (by decide)).trans e10) (by first | exact e33 | exact (kp2 33 (by decide)).trans e33) (by first | exact e38 | exact (kp2 38 (by decide)).trans e38) (by first | exact e44 | exact (kp2 44 (by decide)).trans e44) (by first | exact e53 | exact (kp2 53 (by decide)).trans e53) (tell_k4 (by exact tr) (kp2 1 (by decide)) (kp2 2 (by decide)) (kp2 3 (by decide)) (kp2 31 (by decide))) pi ni (by first | exact li | exact li2) rrf rtp htp rrd rse phl phi rim rco ht nM nsn)), (by repeat (first | exact fun _ _ => rfl | refine frr_up ?_ (by decide)))⟩
            · refine r_aload_n dX9_faults_65 rfl rfl ?_
              refine r_get (fs := RGL _ _) dX9_faults_66 fl_X9_57 (by decide) rfl rfl ?_
              refine r_iload_n dX9_faults_69 rfl rfl ?_
              refine r_iconst dX9_faults_70 ?_
              refine r_icmp_ne (tgt := 78) dX9_faults_71 (by decide) ⟨by omega, by omega⟩ ⟨by omega, by omega⟩ (fun g71 => ?_) (fun g71 => ?_)
              · refine r_aload_n dX9_faults_78 rfl rfl ?_
                refine r_getR (z := (gn 36)) dX9_faults_79 fl_X9_285 (by decide) rfl rfl ?_
                refine r_iconst dX9_faults_82 ?_
                refine r_isub dX9_faults_83 ?_
                refine r_ald dX9_faults_84 (by decide) rfl (by omega) (by omega) (by decide) ?_
                first
                  | rw [show (0 : Int).toNat = 0 from rfl, e370 (by omega)]
                  | rw [show (gn 36 - 1).toNat = lc.length - 1 by omega, e371 (by omega)]
                refine r_bipush dX9_faults_85 rfl ?_
                refine r_idivN dX9_faults_87 (by omega) (by omega) (by omega) (by omega) ?_
                refine r_bipush dX9_faults_88 rfl ?_
                refine r_isub dX9_faults_90 ?_
                refine r_iret dX9_faults_91 ?_
                first
                  | exact ⟨rfl, ⟨_, rfl, fun _ => (by show _ = ftR lc w_; unfold ftR; rw [if_neg (by omega), if_pos (by omega)])⟩, (RefC_mk (g := gn) rfl (by exact c69) (by exact c70) (by exact c71) (by exact c72) (by exact c73) (by exact c74) (by exact c75) (by exact c76) rfl rfl (by exact c79) (by exact c80) rfl (by exact c82) (by exact c83) (by exact c84) (by exact c85) (by exact c86) (by exact c87) (by exact c88) (by exact c89) (by exact c90) (by exact c91) (by exact c92) (by exact c93) (by exact c94) (by exact c95) (by first | exact (hz0.trans (congrArg (fun n : Nat => (n : Int)) ((ocT kb1).trans ((ocT kb2).trans ((ocT kb3).trans ocE))).symm)) | exact (kp2 0 (by decide)).trans (hz0.trans (congrArg (fun n : Nat => (n : Int)) ((ocT kb1).trans ((ocT kb2).trans ((ocT kb3).trans ocE))).symm))) (RR_mk (by first | exact e8 | exact (kp2 8 (by decide)).trans e8) (by first | exact e10 | exact (kp2 10 (by decide)).trans e10) (by first | exact e33 | exact (kp2 33 (by decide)).trans e33) (by first | exact e38 | exact (kp2 38 (by decide)).trans e38) (by first | exact e44 | exact (kp2 44 (by decide)).trans e44) (by first | exact e53 | exact (kp2 53 (by decide)).trans e53) (tell_k4 (by exact tr) (kp2 1 (by decide)) (kp2 2 (by decide)) (kp2 3 (by decide)) (kp2 31 (by decide))) pi ni (by first | exact li | exact li2) rrf rtp htp rrd rse phl phi rim rco ht nM nsn)), (by repeat (first | exact fun _ _ => rfl | refine frr_up ?_ (by decide)))⟩
                  | exact ⟨rfl, ⟨_, rfl, fun _ => (by show _ = ftR lc w_; unfold ftR; rw [if_neg (by omega), if_neg (by omega), if_pos (by omega)])⟩, (RefC_mk (g := gn) rfl (by exact c69) (by exact c70) (by exact c71) (by exact c72) (by exact c73) (by exact c74) (by exact c75) (by exact c76) rfl rfl (by exact c79) (by exact c80) rfl (by exact c82) (by exact c83) (by exact c84) (by exact c85) (by exact c86) (by exact c87) (by exact c88) (by exact c89) (by exact c90) (by exact c91) (by exact c92) (by exact c93) (by exact c94) (by exact c95) (by first | exact (hz0.trans (congrArg (fun n : Nat => (n : Int)) ((ocT kb1).trans ((ocT kb2).trans ((ocT kb3).trans ocE))).symm)) | exact (kp2 0 (by decide)).trans (hz0.trans (congrArg (fun n : Nat => (n : Int)) ((ocT kb1).trans ((ocT kb2).trans ((ocT kb3).trans ocE))).symm))) (RR_mk (by first | exact e8 | exact (kp2 8 (by decide)).trans e8) (by first | exact e10 | exact (kp2 10 (by decide)).trans e10) (by first | exact e33 | exact (kp2 33 (by decide)).trans e33) (by first | exact e38 | exact (kp2 38 (by decide)).trans e38) (by first | exact e44 | exact (kp2 44 (by decide)).trans e44) (by first | exact e53 | exact (kp2 53 (by decide)).trans e53) (tell_k4 (by exact tr) (kp2 1 (by decide)) (kp2 2 (by decide)) (kp2 3 (by decide)) (kp2 31 (by decide))) pi ni (by first | exact li | exact li2) rrf rtp htp rrd rse phl phi rim rco ht nM nsn)), (by repeat (first | exact fun _ _ => rfl | refine frr_up ?_ (by decide)))⟩
              · refine r_iconst dX9_faults_74 ?_
                refine r_goto (tgt := 84) dX9_faults_75 (by decide) ?_
                refine r_ald dX9_faults_84 (by decide) rfl (by omega) (by omega) (by decide) ?_
                first
                  | rw [show (0 : Int).toNat = 0 from rfl, e370 (by omega)]
                  | rw [show (gn 36 - 1).toNat = lc.length - 1 by omega, e371 (by omega)]
                refine r_bipush dX9_faults_85 rfl ?_
                refine r_idivN dX9_faults_87 (by omega) (by omega) (by omega) (by omega) ?_
                refine r_bipush dX9_faults_88 rfl ?_
                refine r_isub dX9_faults_90 ?_
                refine r_iret dX9_faults_91 ?_
                first
                  | exact ⟨rfl, ⟨_, rfl, fun _ => (by show _ = ftR lc w_; unfold ftR; rw [if_neg (by omega), if_pos (by omega)])⟩, (RefC_mk (g := gn) rfl (by exact c69) (by exact c70) (by exact c71) (by exact c72) (by exact c73) (by exact c74) (by exact c75) (by exact c76) rfl rfl (by exact c79) (by exact c80) rfl (by exact c82) (by exact c83) (by exact c84) (by exact c85) (by exact c86) (by exact c87) (by exact c88) (by exact c89) (by exact c90) (by exact c91) (by exact c92) (by exact c93) (by exact c94) (by exact c95) (by first | exact (hz0.trans (congrArg (fun n : Nat => (n : Int)) ((ocT kb1).trans ((ocT kb2).trans ((ocT kb3).trans ocE))).symm)) | exact (kp2 0 (by decide)).trans (hz0.trans (congrArg (fun n : Nat => (n : Int)) ((ocT kb1).trans ((ocT kb2).trans ((ocT kb3).trans ocE))).symm))) (RR_mk (by first | exact e8 | exact (kp2 8 (by decide)).trans e8) (by first | exact e10 | exact (kp2 10 (by decide)).trans e10) (by first | exact e33 | exact (kp2 33 (by decide)).trans e33) (by first | exact e38 | exact (kp2 38 (by decide)).trans e38) (by first | exact e44 | exact (kp2 44 (by decide)).trans e44) (by first | exact e53 | exact (kp2 53 (by decide)).trans e53) (tell_k4 (by exact tr) (kp2 1 (by decide)) (kp2 2 (by decide)) (kp2 3 (by decide)) (kp2 31 (by decide))) pi ni (by first | exact li | exact li2) rrf rtp htp rrd rse phl phi rim rco ht nM nsn)), (by repeat (first | exact fun _ _ => rfl | refine frr_up ?_ (by decide)))⟩
                  | exact ⟨rfl, ⟨_, rfl, fun _ => (by show _ = ftR lc w_; unfold ftR; rw [if_neg (by omega), if_neg (by omega), if_pos (by omega)])⟩, (RefC_mk (g := gn) rfl (by exact c69) (by exact c70) (by exact c71) (by exact c72) (by exact c73) (by exact c74) (by exact c75) (by exact c76) rfl rfl (by exact c79) (by exact c80) rfl (by exact c82) (by exact c83) (by exact c84) (by exact c85) (by exact c86) (by exact c87) (by exact c88) (by exact c89) (by exact c90) (by exact c91) (by exact c92) (by exact c93) (by exact c94) (by exact c95) (by first | exact (hz0.trans (congrArg (fun n : Nat => (n : Int)) ((ocT kb1).trans ((ocT kb2).trans ((ocT kb3).trans ocE))).symm)) | exact (kp2 0 (by decide)).trans (hz0.trans (congrArg (fun n : Nat => (n : Int)) ((ocT kb1).trans ((ocT kb2).trans ((ocT kb3).trans ocE))).symm))) (RR_mk (by first | exact e8 | exact (kp2 8 (by decide)).trans e8) (by first | exact e10 | exact (kp2 10 (by decide)).trans e10) (by first | exact e33 | exact (kp2 33 (by decide)).trans e33) (by first | exact e38 | exact (kp2 38 (by decide)).trans e38) (by first | exact e44 | exact (kp2 44 (by decide)).trans e44) (by first | exact e53 | exact (kp2 53 (by decide)).trans e53) (tell_k4 (by exact tr) (kp2 1 (by decide)) (kp2 2 (by decide)) (kp2 3 (by decide)) (kp2 31 (by decide))) pi ni (by first | exact li | exact li2) rrf rtp htp rrd rse phl phi rim rco ht nM nsn)), (by repeat (first | exact fun _ _ => rfl | refine frr_up ?_ (by decide)))⟩
          · exact absurd kb0 (by decide)
      · have kb3 : decide (w_ = 0 ∨ ¬ lc.length = 0) = true := decide_eq_true (by omega)
        refine r_aload_n dX9_faults_33 rfl rfl ?_
        refine r_getR (z := (gn 36)) dX9_faults_34 fl_X9_285 (by decide) rfl rfl ?_
        refine r_iret dX9_faults_37 ?_
        exact ⟨rfl, ⟨_, rfl, fun _ => (by show _ = ftR lc w_; unfold ftR; rw [if_pos (by omega)]; exact e36)⟩, (RefC_mk (g := gn) rfl (by exact c69) (by exact c70) (by exact c71) (by exact c72) (by exact c73) (by exact c74) (by exact c75) (by exact c76) rfl rfl (by exact c79) (by exact c80) rfl (by exact c82) (by exact c83) (by exact c84) (by exact c85) (by exact c86) (by exact c87) (by exact c88) (by exact c89) (by exact c90) (by exact c91) (by exact c92) (by exact c93) (by exact c94) (by exact c95) (by first | exact (hz0.trans (congrArg (fun n : Nat => (n : Int)) ((ocT kb1).trans ((ocT kb2).trans ((ocT kb3).trans ocE))).symm)) | exact (kp2 0 (by decide)).trans (hz0.trans (congrArg (fun n : Nat => (n : Int)) ((ocT kb1).trans ((ocT kb2).trans ((ocT kb3).trans ocE))).symm))) (RR_mk (by first | exact e8 | exact (kp2 8 (by decide)).trans e8) (by first | exact e10 | exact (kp2 10 (by decide)).trans e10) (by first | exact e33 | exact (kp2 33 (by decide)).trans e33) (by first | exact e38 | exact (kp2 38 (by decide)).trans e38) (by first | exact e44 | exact (kp2 44 (by decide)).trans e44) (by first | exact e53 | exact (kp2 53 (by decide)).trans e53) (tell_k4 (by exact tr) (kp2 1 (by decide)) (kp2 2 (by decide)) (kp2 3 (by decide)) (kp2 31 (by decide))) pi ni (by first | exact li | exact li2) rrf rtp htp rrd rse phl phi rim rco ht nM nsn)), (by repeat (first | exact fun _ _ => rfl | refine frr_up ?_ (by decide)))⟩
    · obtain rfl := hh.symm
      refine ⟨rfl, ?_⟩
      dsimp only [Option.toList, List.cons_append, List.nil_append]
      refine r_if_ne (tgt := 24) dX9_faults_19 (by decide) ⟨by omega, by omega⟩ (fun g19 => absurd g19 (by omega)) (fun g19 => ?_)
      refine r_iconst dX9_faults_22 ?_
      refine r_iret dX9_faults_23 ?_
      first
        | exact ⟨rfl, ⟨0, rfl, fun z => absurd ((ocF kb1).symm.trans z) (by decide)⟩, (RefC_mk (g := (va_up (va_up g 0 z0) 0 1)) rfl (by exact c69) (by exact c70) (by exact c71) (by exact c72) (by exact c73) (by exact c74) (by exact c75) (by exact c76) (by exact c77) (by exact c78) (by exact c79) (by exact c80) (by exact c81) (by exact c82) (by exact c83) (by exact c84) (by exact c85) (by exact c86) (by exact c87) (by exact c88) (by exact c89) (by exact c90) (by exact c91) (by exact c92) (by exact c93) (by exact c94) (by exact c95) (congrArg (fun n : Nat => (n : Int)) (ocF kb1).symm) (RR_mk (by first | exact e8 | exact (kp2 8 (by decide)).trans e8) (by first | exact e10 | exact (kp2 10 (by decide)).trans e10) (by first | exact e33 | exact (kp2 33 (by decide)).trans e33) (by first | exact e38 | exact (kp2 38 (by decide)).trans e38) (by first | exact e44 | exact (kp2 44 (by decide)).trans e44) (by first | exact e53 | exact (kp2 53 (by decide)).trans e53) (by first | exact tr | exact tell_kp (by exact tr) kp2) pi ni (by first | exact li | exact li2) rrf rtp htp rrd rse phl phi rim rco ht nM nsn)), (by repeat (first | exact fun _ _ => rfl | refine frr_up ?_ (by decide)))⟩
        | exact ⟨rfl, ⟨0, rfl, fun z => absurd (((ocT kb1).trans (ocF kb2)).symm.trans z) (by decide)⟩, (RefC_mk (g := (va_up (va_up g 0 z0) 0 1)) rfl (by exact c69) (by exact c70) (by exact c71) (by exact c72) (by exact c73) (by exact c74) (by exact c75) (by exact c76) (by exact c77) (by exact c78) (by exact c79) (by exact c80) (by exact c81) (by exact c82) (by exact c83) (by exact c84) (by exact c85) (by exact c86) (by exact c87) (by exact c88) (by exact c89) (by exact c90) (by exact c91) (by exact c92) (by exact c93) (by exact c94) (by exact c95) (congrArg (fun n : Nat => (n : Int)) ((ocT kb1).trans (ocF kb2)).symm) (RR_mk (by first | exact e8 | exact (kp2 8 (by decide)).trans e8) (by first | exact e10 | exact (kp2 10 (by decide)).trans e10) (by first | exact e33 | exact (kp2 33 (by decide)).trans e33) (by first | exact e38 | exact (kp2 38 (by decide)).trans e38) (by first | exact e44 | exact (kp2 44 (by decide)).trans e44) (by first | exact e53 | exact (kp2 53 (by decide)).trans e53) (by first | exact tr | exact tell_kp (by exact tr) kp2) pi ni (by first | exact li | exact li2) rrf rtp htp rrd rse phl phi rim rco ht nM nsn)), (by repeat (first | exact fun _ _ => rfl | refine frr_up ?_ (by decide)))⟩
  · obtain rfl := hh.symm
    replace kb1 : diaB nd di = false := by rw [← t1]; exact kb1
    refine ⟨rfl, ?_⟩
    dsimp only [Option.toList, List.cons_append, List.nil_append]
    refine r_if_eq (tgt := 22) dX9_faults_10 (by decide) ⟨by omega, by omega⟩ (fun g10 => ?_) (fun g10 => absurd g10 (by omega))
    refine r_iconst dX9_faults_22 ?_
    refine r_iret dX9_faults_23 ?_
    first
      | exact ⟨rfl, ⟨0, rfl, fun z => absurd ((ocF kb1).symm.trans z) (by decide)⟩, (RefC_mk (g := (va_up (va_up g 0 z0) 0 1)) rfl (by exact c69) (by exact c70) (by exact c71) (by exact c72) (by exact c73) (by exact c74) (by exact c75) (by exact c76) (by exact c77) (by exact c78) (by exact c79) (by exact c80) (by exact c81) (by exact c82) (by exact c83) (by exact c84) (by exact c85) (by exact c86) (by exact c87) (by exact c88) (by exact c89) (by exact c90) (by exact c91) (by exact c92) (by exact c93) (by exact c94) (by exact c95) (congrArg (fun n : Nat => (n : Int)) (ocF kb1).symm) (RR_mk (by first | exact e8 | exact (kp2 8 (by decide)).trans e8) (by first | exact e10 | exact (kp2 10 (by decide)).trans e10) (by first | exact e33 | exact (kp2 33 (by decide)).trans e33) (by first | exact e38 | exact (kp2 38 (by decide)).trans e38) (by first | exact e44 | exact (kp2 44 (by decide)).trans e44) (by first | exact e53 | exact (kp2 53 (by decide)).trans e53) (by first | exact tr | exact tell_kp (by exact tr) kp2) pi ni (by first | exact li | exact li2) rrf rtp htp rrd rse phl phi rim rco ht nM nsn)), (by repeat (first | exact fun _ _ => rfl | refine frr_up ?_ (by decide)))⟩
      | exact ⟨rfl, ⟨0, rfl, fun z => absurd (((ocT kb1).trans (ocF kb2)).symm.trans z) (by decide)⟩, (RefC_mk (g := (va_up (va_up g 0 z0) 0 1)) rfl (by exact c69) (by exact c70) (by exact c71) (by exact c72) (by exact c73) (by exact c74) (by exact c75) (by exact c76) (by exact c77) (by exact c78) (by exact c79) (by exact c80) (by exact c81) (by exact c82) (by exact c83) (by exact c84) (by exact c85) (by exact c86) (by exact c87) (by exact c88) (by exact c89) (by exact c90) (by exact c91) (by exact c92) (by exact c93) (by exact c94) (by exact c95) (congrArg (fun n : Nat => (n : Int)) ((ocT kb1).trans (ocF kb2)).symm) (RR_mk (by first | exact e8 | exact (kp2 8 (by decide)).trans e8) (by first | exact e10 | exact (kp2 10 (by decide)).trans e10) (by first | exact e33 | exact (kp2 33 (by decide)).trans e33) (by first | exact e38 | exact (kp2 38 (by decide)).trans e38) (by first | exact e44 | exact (kp2 44 (by decide)).trans e44) (by first | exact e53 | exact (kp2 53 (by decide)).trans e53) (by first | exact tr | exact tell_kp (by exact tr) kp2) pi ni (by first | exact li | exact li2) rrf rtp htp rrd rse phl phi rim rco ht nM nsn)), (by repeat (first | exact fun _ _ => rfl | refine frr_up ?_ (by decide)))⟩

