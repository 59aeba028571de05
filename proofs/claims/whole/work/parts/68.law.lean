/-! ===== the reference: what the law tells ===== -/
theorem cEx_cases {nd : Int} {cod tf : Nat → Int} {mo : Int} {f k : Nat} {st : List Int} {v : Int} (h : cEx nd cod tf mo (f + 1) k st = some v) : (k ≤ 1498 ∧ st.length < 799) ∧ ((cod k = 0 ∧ st = [v]) ∨ (cod k = 1 ∧ (0 ≤ cod (k + 1) ∧ cod (k + 1) < nd) ∧ cEx nd cod tf mo f (k + 2) (tf (cod (k + 1)).toNat :: st) = some v) ∨ (cod k = 2 ∧ (0 ≤ cod (k + 1) ∧ cod (k + 1) < 512) ∧ cEx nd cod tf mo f (k + 2) (midI (midL tf (cod (k + 1)).toNat nd.toNat) :: st) = some v) ∨ (cod k = 9 ∧ (0 ≤ cod (k + 1) ∧ cod (k + 1) ≤ 11) ∧ cEx nd cod tf mo f (k + 2) ((if mo = cod (k + 1) then 1 else 0) :: st) = some v) ∨ (cod k = 3 ∧ (1 ≤ cod (k + 1) ∧ cod (k + 1) ≤ (st.length : Int)) ∧ cEx nd cod tf mo f (k + 2) (chs (st.take (cod (k + 1)).toNat) :: st.drop (cod (k + 1)).toNat) = some v) ∨ (cod k = 4 ∧ ∃ y x r, st = y :: x :: r ∧ cEx nd cod tf mo f (k + 1) (meI x y :: r) = some v) ∨ (cod k = 10 ∧ ∃ y x r, st = y :: x :: r ∧ cEx nd cod tf mo f (k + 1) (beI x y :: r) = some v) ∨ (cod k = 5 ∧ ∃ x r, st = x :: r ∧ (-720 ≤ cod (k + 1) ∧ cod (k + 1) ≤ 720) ∧ cEx nd cod tf mo f (k + 2) (laI x (cod (k + 1)) :: r) = some v) ∨ (cod k = 6 ∧ ∃ z y x r, st = z :: y :: x :: r ∧ cEx nd cod tf mo f (k + 1) ((if x = 1 then y else z) :: r) = some v) ∨ (cod k = 7 ∧ ∃ x r, st = x :: r ∧ (x = 0 ∨ x = 1) ∧ cEx nd cod tf mo f (k + 1) (ntI x :: r) = some v) ∨ (cod k = 8 ∧ ∃ x r, st = x :: r ∧ cEx nd cod tf mo f (k + 1) (dkI x :: r) = some v)) := by
  unfold cEx at h
  by_cases h0 : 1498 < k ∨ 799 ≤ st.length
  · rw [if_pos h0] at h
    exact absurd h (by simp)
  rw [if_neg h0] at h
  refine ⟨⟨by omega, by omega⟩, ?_⟩
  by_cases q0 : cod k = 0
  · rw [if_pos q0] at h
    refine Or.inl ⟨q0, ?_⟩
    split at h
    · next v2 => rw [Option.some.inj h]
    · exact absurd h (by simp)
  by_cases q1 : cod k = 1
  · rw [if_neg q0, if_pos q1] at h
    refine Or.inr (Or.inl ⟨q1, ?_⟩)
    split at h
    · next h1 => exact ⟨h1, h⟩
    · exact absurd h (by simp)
  by_cases q2 : cod k = 2
  · rw [if_neg q0, if_neg q1, if_pos q2] at h
    refine Or.inr (Or.inr (Or.inl ⟨q2, ?_⟩))
    split at h
    · next h1 => exact ⟨h1, h⟩
    · exact absurd h (by simp)
  by_cases q9 : cod k = 9
  · rw [if_neg q0, if_neg q1, if_neg q2, if_pos q9] at h
    refine Or.inr (Or.inr (Or.inr (Or.inl ⟨q9, ?_⟩)))
    split at h
    · next h1 => exact ⟨h1, h⟩
    · exact absurd h (by simp)
  by_cases q3 : cod k = 3
  · rw [if_neg q0, if_neg q1, if_neg q2, if_neg q9, if_pos q3] at h
    refine Or.inr (Or.inr (Or.inr (Or.inr (Or.inl ⟨q3, ?_⟩))))
    split at h
    · next h1 => exact ⟨h1, h⟩
    · exact absurd h (by simp)
  by_cases q4 : cod k = 4
  · rw [if_neg q0, if_neg q1, if_neg q2, if_neg q9, if_neg q3, if_pos q4] at h
    refine Or.inr (Or.inr (Or.inr (Or.inr (Or.inr (Or.inl ⟨q4, ?_⟩)))))
    split at h
    · next y x r => exact ⟨y, x, r, rfl, h⟩
    · exact absurd h (by simp)
  by_cases q10 : cod k = 10
  · rw [if_neg q0, if_neg q1, if_neg q2, if_neg q9, if_neg q3, if_neg q4, if_pos q10] at h
    refine Or.inr (Or.inr (Or.inr (Or.inr (Or.inr (Or.inr (Or.inl ⟨q10, ?_⟩))))))
    split at h
    · next y x r => exact ⟨y, x, r, rfl, h⟩
    · exact absurd h (by simp)
  by_cases q5 : cod k = 5
  · rw [if_neg q0, if_neg q1, if_neg q2, if_neg q9, if_neg q3, if_neg q4, if_neg q10, if_pos q5] at h
    refine Or.inr (Or.inr (Or.inr (Or.inr (Or.inr (Or.inr (Or.inr (Or.inl ⟨q5, ?_⟩)))))))
    split at h
    · next h1 =>
      split at h
      · next x r => exact ⟨x, r, rfl, h1, h⟩
      · exact absurd h (by simp)
    · exact absurd h (by simp)
  by_cases q6 : cod k = 6
  · rw [if_neg q0, if_neg q1, if_neg q2, if_neg q9, if_neg q3, if_neg q4, if_neg q10, if_neg q5, if_pos q6] at h
    refine Or.inr (Or.inr (Or.inr (Or.inr (Or.inr (Or.inr (Or.inr (Or.inr (Or.inl ⟨q6, ?_⟩))))))))
    split at h
    · next z y x r => exact ⟨z, y, x, r, rfl, h⟩
    · exact absurd h (by simp)
  by_cases q7 : cod k = 7
  · rw [if_neg q0, if_neg q1, if_neg q2, if_neg q9, if_neg q3, if_neg q4, if_neg q10, if_neg q5, if_neg q6, if_pos q7] at h
    refine Or.inr (Or.inr (Or.inr (Or.inr (Or.inr (Or.inr (Or.inr (Or.inr (Or.inr (Or.inl ⟨q7, ?_⟩)))))))))
    split at h
    · next x r =>
      split at h
      · next h1 => exact ⟨x, r, rfl, h1, h⟩
      · exact absurd h (by simp)
    · exact absurd h (by simp)
  by_cases q8 : cod k = 8
  · rw [if_neg q0, if_neg q1, if_neg q2, if_neg q9, if_neg q3, if_neg q4, if_neg q10, if_neg q5, if_neg q6, if_neg q7, if_pos q8] at h
    refine Or.inr (Or.inr (Or.inr (Or.inr (Or.inr (Or.inr (Or.inr (Or.inr (Or.inr (Or.inr (⟨q8, ?_⟩))))))))))
    split at h
    · next x r => exact ⟨x, r, rfl, h⟩
    · exact absurd h (by simp)
  rw [if_neg q0, if_neg q1, if_neg q2, if_neg q9, if_neg q3, if_neg q4, if_neg q10, if_neg q5, if_neg q6, if_neg q7, if_neg q8] at h
  exact absurd h (by simp)
theorem ag_hd {g : Nat → Int} {x : Int} {r : List Int} (h : ag g (x :: r)) : g r.length = x := by
  have := h r.length (by rw [List.length_cons]; omega)
  rw [this, List.length_cons, show r.length + 1 - 1 - r.length = 0 by omega]
  rfl
theorem ag_tl {g : Nat → Int} {x : Int} {r : List Int} (h : ag g (x :: r)) : ag g r := by
  intro j hj
  have := h j (by rw [List.length_cons]; omega)
  rw [List.length_cons, show r.length + 1 - 1 - j = (r.length - 1 - j) + 1 by omega] at this
  exact this
theorem ag_push {g : Nat → Int} {r : List Int} (h : ag g r) (v : Int) : ag (va_up g r.length v) (v :: r) := ag_put (A := []) (B := r) h (fun j hj => absurd hj (Nat.not_lt_zero j))
theorem ag_drop {g : Nat → Int} (c : Nat) : ∀ {l : List Int}, ag g l → ag g (l.drop c) := by
  induction c with
  | zero => intro l h; exact h
  | succ c ih =>
    intro l h
    cases l with
    | nil => exact h
    | cons x r => exact ih (ag_tl h)
theorem chs_B : ∀ (l : List Int) (v : Int), (-1 ≤ v ∧ v < 1440) → (∀ x ∈ l, -1 ≤ x ∧ x < 1440) → -1 ≤ l.foldl (fun v x => if x = -1 then v else x) v ∧ l.foldl (fun v x => if x = -1 then v else x) v < 1440 := by
  intro l
  induction l with
  | nil => intro v h _; exact h
  | cons x r ih =>
    intro v h hl
    refine ih _ ?_ (fun z hz => hl z (List.mem_cons_of_mem _ hz))
    dsimp only
    split
    · exact h
    · exact hl x List.mem_cons_self
theorem ut_58 (h : aH) (a b c : aE) (g g2 : Nat → Int) (w w2 : Int) (lt lgt l3 l4 : Nat → Int) : UT (va_up (UT (va_up (va_up h 85 a) 88 b) g w lt lgt) 85 c) g2 w2 l3 l4 = UT (va_up (va_up h 85 c) 88 b) g2 w2 l3 l4 := by
  funext j
  unfold UT va_up
  by_cases q1 : j = 78
  · simp [q1]
  · by_cases q2 : j = 77
    · simp [q2]
    · by_cases q3 : j = 68
      · simp [q3]
      · by_cases q4 : j = 85
        · simp [q4]
        · simp [q1, q2, q3, q4]
theorem ut_s58 {h : aH} {a b : aE} {g : Nat → Int} {w : Int} {lt lgt : Nat → Int} (c68 : h 68 = RG g w) (c77 : h 77 = .inl (2, 1440, lt)) (c78 : h 78 = .inl (2, 1440, lgt)) (c85 : h 85 = a) (c88 : h 88 = b) : h = UT (va_up (va_up h 85 a) 88 b) g w lt lgt := by
  have e1 : va_up h 85 a = h := (up_same c85).symm
  rw [e1]
  have e2 : va_up h 88 b = h := (up_same c88).symm
  rw [e2]
  exact ut_self c68 c77 c78

theorem l_X9_choose {h : aH} {g pl : Nat → Int} {w : Int} (c68 : h 68 = RG g w) (c88 : h 88 = .inl (0, 800, pl)) {Q : Option Value → Nat → aH → Prop} {day m kk2 its : Int} {n : Nat} (hn : 1 ≤ n) : ∀ (l : List Int) (v : Int), n + l.length ≤ 800 → (-1 ≤ v ∧ v < 1440) → (∀ x ∈ l, -1 ≤ x ∧ x < 1440) → (∀ t, t < l.length → pl (n - 1 + (l.length - 1 - t)) = l.getD t 0) →
    (∀ v2, v2 = l.foldl (fun v x => if x = -1 then v else x) v → Ev RX9 "toldBy" cX9_toldBy 9 (some .int) 6 0 0 Q noX 97 h 221 [(0, .ref 68), (1, iv day), (2, iv m), (3, iv (n : Nat)), (4, iv kk2), (5, iv 3), (6, iv its), (7, iv v2), (8, iv (-1))] []) → Ev RX9 "toldBy" cX9_toldBy 9 (some .int) 6 0 0 Q noX 97 h 177 [(0, .ref 68), (1, iv day), (2, iv m), (3, iv (n : Nat)), (4, iv kk2), (5, iv 3), (6, iv its), (7, iv v), (8, iv ((l.length : Int) - 1))] [] := by
  intro l
  induction l with
  | nil =>
    intro v hl bv bl hp kk
    rw [List.length_nil]
    refine r_iload dX9_toldBy_177 rfl ?_
    refine r_if_lt (tgt := 221) dX9_toldBy_179 (by decide) ⟨by omega, by omega⟩ (fun g179 => ?_) (fun g179 => absurd g179 (by omega))
    exact kk v rfl
  | cons x r ih =>
    intro v hl bv bl hp kk
    rw [List.length_cons] at hl hp ⊢
    have bx := bl x List.mem_cons_self
    have hi := ih (if x = -1 then v else x) (by omega) (by split <;> omega) (fun z hz => bl z (List.mem_cons_of_mem _ hz)) (fun t ht => by
      have := hp (t + 1) (by omega)
      rw [show r.length + 1 - 1 - (t + 1) = r.length - 1 - t by omega] at this
      exact this) kk
    have e1 := hp 0 (by omega)
    rw [show r.length + 1 - 1 - 0 = r.length by omega] at e1
    have e2 : pl (n - 1 + r.length) = x := e1
    have e3 : ((n : Int) - 1 + (((r.length + 1 : Nat) : Int) - 1)).toNat = n - 1 + r.length := by omega
    refine r_iload dX9_toldBy_177 rfl ?_
    refine r_if_lt (tgt := 221) dX9_toldBy_179 (by decide) ⟨by omega, by omega⟩ (fun g179 => absurd g179 (by omega)) (fun g179 => ?_)
    refine r_aload_n dX9_toldBy_182 rfl rfl ?_
    refine r_get (fs := RGL _ _) dX9_toldBy_183 fl_X9_78 (by decide) c68 rfl ?_
    refine r_iload_n dX9_toldBy_186 rfl rfl ?_
    refine r_iconst dX9_toldBy_187 ?_
    refine r_isub dX9_toldBy_188 ?_
    refine r_iload dX9_toldBy_189 rfl ?_
    refine r_iadd dX9_toldBy_191 ?_
    refine r_ald dX9_toldBy_192 (by decide) c88 (by omega) (by omega) (by decide) ?_
    rw [e3, e2]
    refine r_iconst dX9_toldBy_193 ?_
    refine r_icmp_eq (tgt := 211) dX9_toldBy_194 (by decide) ⟨by omega, by omega⟩ ⟨by omega, by omega⟩ (fun g194 => ?_) (fun g194 => ?_)
    · refine r_iload dX9_toldBy_211 rfl ?_
      refine r_istore (lv2 := [(0, _), (1, _), (2, _), (3, _), (4, _), (5, _), (6, _), (7, _), (8, _)]) dX9_toldBy_213 (by decide) rfl rfl ?_
      refine r_iinc (lv2 := [(0, _), (1, _), (2, _), (3, _), (4, _), (5, _), (6, _), (7, _), (8, _)]) dX9_toldBy_215 (by decide) rfl rfl rfl ?_
      refine r_goto (tgt := 177) dX9_toldBy_218 (by decide) ?_
      rw [show ((r.length + 1 : Nat) : Int) - 1 + -1 = (r.length : Int) - 1 by omega]
      first
        | (rw [if_pos (by omega)] at hi
           exact hi)
        | (rw [if_neg (by omega)] at hi
           exact hi)
    · refine r_aload_n dX9_toldBy_197 rfl rfl ?_
      refine r_get (fs := RGL _ _) dX9_toldBy_198 fl_X9_78 (by decide) c68 rfl ?_
      refine r_iload_n dX9_toldBy_201 rfl rfl ?_
      refine r_iconst dX9_toldBy_202 ?_
      refine r_isub dX9_toldBy_203 ?_
      refine r_iload dX9_toldBy_204 rfl ?_
      refine r_iadd dX9_toldBy_206 ?_
      refine r_ald dX9_toldBy_207 (by decide) c88 (by omega) (by omega) (by decide) ?_
      rw [e3, e2]
      refine r_goto (tgt := 213) dX9_toldBy_208 (by decide) ?_
      refine r_istore (lv2 := [(0, _), (1, _), (2, _), (3, _), (4, _), (5, _), (6, _), (7, _), (8, _)]) dX9_toldBy_213 (by decide) rfl rfl ?_
      refine r_iinc (lv2 := [(0, _), (1, _), (2, _), (3, _), (4, _), (5, _), (6, _), (7, _), (8, _)]) dX9_toldBy_215 (by decide) rfl rfl rfl ?_
      refine r_goto (tgt := 177) dX9_toldBy_218 (by decide) ?_
      rw [show ((r.length + 1 : Nat) : Int) - 1 + -1 = (r.length : Int) - 1 by omega]
      first
        | (rw [if_pos (by omega)] at hi
           exact hi)
        | (rw [if_neg (by omega)] at hi
           exact hi)

theorem l_X9_toldBy {h : aH} {w : Int} {dl cl lm mn : Nat → Int} (c69 : h 69 = .inl (0, 45, dl)) (c70 : h 70 = .inl (0, 60, cl)) (c71 : h 71 = .inl (0, 12, lm)) (c79 : h 79 = .inl (0, 120, mn)) {nd sw nc nm : Int} {K U I O G L cf ct fc nx cd md my mt : Nat → Int} (pi : PInv nd sw nc K U I O G L cf ct fc nx cd) {cod : Nat → Int} (c86 : h 86 = .inl (0, 1500, cod)) {g : Nat → Int} {day : Int} (hd : 0 ≤ day ∧ day < 365) {m : Int} (hm : 0 ≤ m ∧ m < 1440) {tf : Nat → Int} (htf : ∀ j : Nat, nowI sw nc nm K U I O G L cf ct cd md my mt (j : Int) day m = tf j) {vv : Int} : ∀ (f k : Nat) (st : List Int) (row pl gg lt lgt : Nat → Int), cEx nd cod tf (day / 31) f k st = some vv → ag pl st → (∀ x ∈ st, -1 ≤ x ∧ x < 1440) → TellR gg dl cl lm mn nd sw nc nm K U I O G L cf ct cd md my mt → LitR (gg 30) lt lgt sw nc L cf ct cd → (∀ k, k ≠ 30 → gg k = g k) → Ev RX9 "toldBy" cX9_toldBy 9 (some .int) 6 0 0 (fun v n' h' => v = some (iv vv) ∧ n' = 97 ∧ ∃ rw2 pl2 g2 lt2 lg2, h' = UT (va_up (va_up h 85 (.inl (0, 9, rw2))) 88 (.inl (0, 800, pl2))) g2 w lt2 lg2 ∧ LitR (g2 30) lt2 lg2 sw nc L cf ct cd ∧ ∀ k, k ≠ 30 → g2 k = g k) noX 97 (UT (va_up (va_up h 85 (.inl (0, 9, row))) 88 (.inl (0, 800, pl))) gg w lt lgt) 5 [(0, .ref 68), (1, iv day), (2, iv m), (3, iv (st.length : Nat)), (4, iv (k : Nat))] [] := by
  obtain ⟨pnd, psw, pnc, pK, pU, pI, pO, pG, pL, pcf, pct, pfc, pnx⟩ := id pi
  have btf : ∀ j, -1 ≤ tf j ∧ tf j < 1440 := fun j => by rw [← htf]; exact now_B sw nc nm K U I O G L cf ct cd md my mt j day m
  intro f
  induction f with
  | zero => intro k st row pl gg lt lgt he; exact absurd he (by simp [cEx])
  | succ f ih =>
    intro k st row pl gg lt lgt he hag hB trg lig kp
    have hcc := cEx_cases he
    clear he
    obtain ⟨⟨hk1, hk2⟩, hcs⟩ := hcc
    have ek1 : ((k : Int) + 1).toNat = k + 1 := by omega
    rcases hcs with ⟨hc, he⟩ | ⟨hc, he⟩ | ⟨hc, he⟩ | ⟨hc, he⟩ | ⟨hc, he⟩ | ⟨hc, he⟩ | ⟨hc, he⟩ | ⟨hc, he⟩ | ⟨hc, he⟩ | ⟨hc, he⟩ | ⟨hc, he⟩
    · subst he
      refine r_aload_n dX9_toldBy_5 rfl rfl ?_
      refine r_get (fs := RGL _ _) dX9_toldBy_6 fl_X9_72 (by decide) rfl rfl ?_
      refine r_iload dX9_toldBy_9 rfl ?_
      refine r_ald dX9_toldBy_11 (by decide) c86 (by omega) (by omega) (by decide) ?_
      rw [Int.toNat_natCast, hc]
      refine r_if_eq (tgt := 505) dX9_toldBy_12 (by decide) ⟨by omega, by omega⟩ (fun g12 => ?_) (fun g12 => absurd g12 (by omega))
      refine r_aload_n dX9_toldBy_505 rfl rfl ?_
      refine r_get (fs := RGL _ _) dX9_toldBy_506 fl_X9_78 (by decide) rfl rfl ?_
      refine r_iconst dX9_toldBy_509 ?_
      refine r_ald dX9_toldBy_510 (by decide) rfl (by omega) (by omega) (by decide) ?_
      refine r_iret dX9_toldBy_511 ?_
      rw [show pl (0 : Int).toNat = vv from ag_hd (r := []) hag]
      exact ⟨rfl, rfl, row, pl, gg, lt, lgt, rfl, lig, kp⟩
    · obtain ⟨hb, he⟩ := he
      have hv : nowI sw nc nm K U I O G L cf ct cd md my mt (cod (k + 1)) day m = tf (cod (k + 1)).toNat := by rw [← htf, Int.toNat_of_nonneg hb.1]
      refine r_aload_n dX9_toldBy_5 rfl rfl ?_
      refine r_get (fs := RGL _ _) dX9_toldBy_6 fl_X9_72 (by decide) rfl rfl ?_
      refine r_iload dX9_toldBy_9 rfl ?_
      refine r_ald dX9_toldBy_11 (by decide) c86 (by omega) (by omega) (by decide) ?_
      rw [Int.toNat_natCast, hc]
      refine r_if_eq (tgt := 505) dX9_toldBy_12 (by decide) ⟨by omega, by omega⟩ (fun g12 => absurd g12 (by omega)) (fun g12 => ?_)
      refine r_aload_n dX9_toldBy_15 rfl rfl ?_
      refine r_get (fs := RGL _ _) dX9_toldBy_16 fl_X9_72 (by decide) rfl rfl ?_
      refine r_iload dX9_toldBy_19 rfl ?_
      refine r_ald dX9_toldBy_21 (by decide) c86 (by omega) (by omega) (by decide) ?_
      rw [Int.toNat_natCast, hc]
      refine r_istore (lv2 := [(0, _), (1, _), (2, _), (3, _), (4, _), (5, _)]) dX9_toldBy_22 (by decide) rfl rfl ?_
      refine r_aload_n dX9_toldBy_24 rfl rfl ?_
      refine r_get (fs := RGL _ _) dX9_toldBy_25 fl_X9_72 (by decide) rfl rfl ?_
      refine r_iload dX9_toldBy_28 rfl ?_
      refine r_iconst dX9_toldBy_30 ?_
      refine r_iadd dX9_toldBy_31 ?_
      refine r_ald dX9_toldBy_32 (by decide) c86 (by omega) (by omega) (by decide) ?_
      rw [ek1]
      refine r_istore (lv2 := [(0, _), (1, _), (2, _), (3, _), (4, _), (5, _), (6, _)]) dX9_toldBy_33 (by decide) rfl rfl ?_
      refine r_iload dX9_toldBy_35 rfl ?_
      refine r_iload dX9_toldBy_37 rfl ?_
      refine r_iconst dX9_toldBy_39 ?_
      refine r_icmp_eq (tgt := 68) dX9_toldBy_40 (by decide) ⟨by omega, by omega⟩ ⟨by omega, by omega⟩ (fun g40 => ?_) (fun g40 => absurd g40 (by omega))
      refine r_iconst dX9_toldBy_68 ?_
      refine r_goto (tgt := 73) dX9_toldBy_69 (by decide) ?_
      refine r_iadd dX9_toldBy_73 ?_
      refine r_istore (lv2 := [(0, _), (1, _), (2, _), (3, _), (4, _), (5, _), (6, _)]) dX9_toldBy_74 (by decide) rfl rfl ?_
      refine r_iload dX9_toldBy_76 rfl ?_
      refine r_iconst dX9_toldBy_78 ?_
      refine r_icmp_eq (tgt := 95) dX9_toldBy_79 (by decide) ⟨by omega, by omega⟩ ⟨by omega, by omega⟩ (fun g79 => ?_) (fun g79 => absurd g79 (by omega))
      refine r_aload_n dX9_toldBy_95 rfl rfl ?_
      refine r_get (fs := RGL _ _) dX9_toldBy_96 fl_X9_78 (by decide) rfl rfl ?_
      refine r_iload_n dX9_toldBy_99 rfl rfl ?_
      refine r_iload dX9_toldBy_100 rfl ?_
      refine r_iconst dX9_toldBy_102 ?_
      refine r_icmp_ne (tgt := 117) dX9_toldBy_103 (by decide) ⟨by omega, by omega⟩ ⟨by omega, by omega⟩ (fun g103 => absurd g103 (by omega)) (fun g103 => ?_)
      refine r_aload_n dX9_toldBy_106 rfl rfl ?_
      refine r_iload dX9_toldBy_107 rfl ?_
      refine r_iload_n dX9_toldBy_109 rfl rfl ?_
      refine r_iload_n dX9_toldBy_110 rfl rfl ?_
      refine r_callV 68 [_, _, _] (s_X9_tellsNow (g := gg) (by rfl) (by exact c69) (by exact c70) (by exact c71) (by rfl) (by rfl) (by exact c79) trg pi lig (by omega) (by omega) (by omega)) dX9_toldBy_111 cs_X9_278 im_X9_tellsNow (by decide) rfl rfl (by decide) (by decide) (by decide) rfl rfl (Nat.le_of_ble_eq_true rfl) (fun _ _ _ q => q.elim) (fun v n2 h2 q => ?_)
      obtain ⟨rfl, rfl, gn, lt2, lg2, rfl, li2, kp2⟩ := q
      rw [ut_ut]
      have tr2 := tell_kp trg kp2
      refine ⟨rfl, ?_⟩
      dsimp only [Option.toList, List.cons_append, List.nil_append]
      refine r_goto (tgt := 148) dX9_toldBy_114 (by decide) ?_
      refine r_ast dX9_toldBy_148 (by decide) rfl (by omega) (by omega) (by decide) ?_
      refine r_iinc (lv2 := [(0, _), (1, _), (2, _), (3, _), (4, _), (5, _), (6, _)]) dX9_toldBy_149 (by decide) rfl rfl rfl ?_
      refine r_goto (tgt := 502) dX9_toldBy_152 (by decide) ?_
      refine r_goto (tgt := 5) dX9_toldBy_502 (by decide) ?_
      rw [ut_c _ _ _ _ _ _ _ (by decide)]
      refine r_lv (lv2 := [(0, _), (1, _), (2, _), (3, _), (4, _)]) rfl ?_
      rw [hv]
      rw [show (k : Int) + 2 = ((k + 2 : Nat) : Int) by omega]
      rw [show ((st.length : Nat) : Int) + 1 = ((st.length + 1 : Nat) : Int) by omega]
      rw [Int.toNat_natCast]
      refine ih (k + 2) (tf (cod (k + 1)).toNat :: st) row _ gn lt2 lg2 he (ag_push hag _) ?_ tr2 li2 (fun k hk => (kp2 k hk).trans (kp k hk))
      intro z hz
      rcases List.mem_cons.mp hz with rfl | hz
      · exact btf _
      · exact hB z hz
    · obtain ⟨hb, he⟩ := he
      obtain ⟨bn, hbn⟩ : ∃ q : Nat, cod (k + 1) = q := ⟨(cod (k + 1)).toNat, by omega⟩
      rw [hbn, Int.toNat_natCast] at he
      have ml : midL (fun j => nowI sw nc nm K U I O G L cf ct cd md my mt ((j : Nat) : Int) day m) bn nd.toNat = midL tf bn nd.toNat := by congr 1; funext j; exact htf j
      refine r_aload_n dX9_toldBy_5 rfl rfl ?_
      refine r_get (fs := RGL _ _) dX9_toldBy_6 fl_X9_72 (by decide) rfl rfl ?_
      refine r_iload dX9_toldBy_9 rfl ?_
      refine r_ald dX9_toldBy_11 (by decide) c86 (by omega) (by omega) (by decide) ?_
      rw [Int.toNat_natCast, hc]
      refine r_if_eq (tgt := 505) dX9_toldBy_12 (by decide) ⟨by omega, by omega⟩ (fun g12 => absurd g12 (by omega)) (fun g12 => ?_)
      refine r_aload_n dX9_toldBy_15 rfl rfl ?_
      refine r_get (fs := RGL _ _) dX9_toldBy_16 fl_X9_72 (by decide) rfl rfl ?_
      refine r_iload dX9_toldBy_19 rfl ?_
      refine r_ald dX9_toldBy_21 (by decide) c86 (by omega) (by omega) (by decide) ?_
      rw [Int.toNat_natCast, hc]
      refine r_istore (lv2 := [(0, _), (1, _), (2, _), (3, _), (4, _), (5, _)]) dX9_toldBy_22 (by decide) rfl rfl ?_
      refine r_aload_n dX9_toldBy_24 rfl rfl ?_
      refine r_get (fs := RGL _ _) dX9_toldBy_25 fl_X9_72 (by decide) rfl rfl ?_
      refine r_iload dX9_toldBy_28 rfl ?_
      refine r_iconst dX9_toldBy_30 ?_
      refine r_iadd dX9_toldBy_31 ?_
      refine r_ald dX9_toldBy_32 (by decide) c86 (by omega) (by omega) (by decide) ?_
      rw [ek1, hbn]
      refine r_istore (lv2 := [(0, _), (1, _), (2, _), (3, _), (4, _), (5, _), (6, _)]) dX9_toldBy_33 (by decide) rfl rfl ?_
      refine r_iload dX9_toldBy_35 rfl ?_
      refine r_iload dX9_toldBy_37 rfl ?_
      refine r_iconst dX9_toldBy_39 ?_
      refine r_icmp_eq (tgt := 68) dX9_toldBy_40 (by decide) ⟨by omega, by omega⟩ ⟨by omega, by omega⟩ (fun g40 => absurd g40 (by omega)) (fun g40 => ?_)
      refine r_iload dX9_toldBy_43 rfl ?_
      refine r_iconst dX9_toldBy_45 ?_
      refine r_icmp_eq (tgt := 68) dX9_toldBy_46 (by decide) ⟨by omega, by omega⟩ ⟨by omega, by omega⟩ (fun g46 => ?_) (fun g46 => absurd g46 (by omega))
      refine r_iconst dX9_toldBy_68 ?_
      refine r_goto (tgt := 73) dX9_toldBy_69 (by decide) ?_
      refine r_iadd dX9_toldBy_73 ?_
      refine r_istore (lv2 := [(0, _), (1, _), (2, _), (3, _), (4, _), (5, _), (6, _)]) dX9_toldBy_74 (by decide) rfl rfl ?_
      refine r_iload dX9_toldBy_76 rfl ?_
      refine r_iconst dX9_toldBy_78 ?_
      refine r_icmp_eq (tgt := 95) dX9_toldBy_79 (by decide) ⟨by omega, by omega⟩ ⟨by omega, by omega⟩ (fun g79 => absurd g79 (by omega)) (fun g79 => ?_)
      refine r_iload dX9_toldBy_82 rfl ?_
      refine r_iconst dX9_toldBy_84 ?_
      refine r_icmp_eq (tgt := 95) dX9_toldBy_85 (by decide) ⟨by omega, by omega⟩ ⟨by omega, by omega⟩ (fun g85 => ?_) (fun g85 => absurd g85 (by omega))
      refine r_aload_n dX9_toldBy_95 rfl rfl ?_
      refine r_get (fs := RGL _ _) dX9_toldBy_96 fl_X9_78 (by decide) rfl rfl ?_
      refine r_iload_n dX9_toldBy_99 rfl rfl ?_
      refine r_iload dX9_toldBy_100 rfl ?_
      refine r_iconst dX9_toldBy_102 ?_
      refine r_icmp_ne (tgt := 117) dX9_toldBy_103 (by decide) ⟨by omega, by omega⟩ ⟨by omega, by omega⟩ (fun g103 => ?_) (fun g103 => absurd g103 (by omega))
      refine r_iload dX9_toldBy_117 rfl ?_
      refine r_iconst dX9_toldBy_119 ?_
      refine r_icmp_ne (tgt := 134) dX9_toldBy_120 (by decide) ⟨by omega, by omega⟩ ⟨by omega, by omega⟩ (fun g120 => absurd g120 (by omega)) (fun g120 => ?_)
      refine r_aload_n dX9_toldBy_123 rfl rfl ?_
      refine r_iload dX9_toldBy_124 rfl ?_
      refine r_iload_n dX9_toldBy_126 rfl rfl ?_
      refine r_iload_n dX9_toldBy_127 rfl rfl ?_
      refine r_callV 68 [_, _, _] (s_X9_middleOf (b := bn) (g := gg) (by rfl) (by exact c69) (by exact c70) (by exact c71) (by rfl) (by rfl) (by exact c79) trg pi (by rfl) lig (by omega) hd hm) dX9_toldBy_128 cs_X9_320 im_X9_middleOf (by decide) rfl rfl (by decide) (by decide) (by decide) rfl rfl (Nat.le_of_ble_eq_true rfl) (fun _ _ _ q => q.elim) (fun v n2 h2 q => ?_)
      obtain ⟨rfl, rfl, rw2, gn, lt2, lg2, rfl, li2, kp2⟩ := q
      rw [ut_58]
      have tr2 := tell_kp trg kp2
      rw [ml]
      refine ⟨rfl, ?_⟩
      dsimp only [Option.toList, List.cons_append, List.nil_append]
      refine r_goto (tgt := 148) dX9_toldBy_131 (by decide) ?_
      refine r_ast dX9_toldBy_148 (by decide) rfl (by omega) (by omega) (by decide) ?_
      refine r_iinc (lv2 := [(0, _), (1, _), (2, _), (3, _), (4, _), (5, _), (6, _)]) dX9_toldBy_149 (by decide) rfl rfl rfl ?_
      refine r_goto (tgt := 502) dX9_toldBy_152 (by decide) ?_
      refine r_goto (tgt := 5) dX9_toldBy_502 (by decide) ?_
      rw [ut_c _ _ _ _ _ _ _ (by decide)]
      refine r_lv (lv2 := [(0, _), (1, _), (2, _), (3, _), (4, _)]) rfl ?_
      rw [show (k : Int) + 2 = ((k + 2 : Nat) : Int) by omega]
      rw [show ((st.length : Nat) : Int) + 1 = ((st.length + 1 : Nat) : Int) by omega]
      rw [Int.toNat_natCast]
      refine ih (k + 2) (midI (midL tf bn nd.toNat) :: st) rw2 _ gn lt2 lg2 he (ag_push hag _) ?_ tr2 li2 (fun k hk => (kp2 k hk).trans (kp k hk))
      intro z hz
      rcases List.mem_cons.mp hz with rfl | hz
      · exact midI_B (midL_B btf _)
      · exact hB z hz
    · obtain ⟨hb, he⟩ := he
      refine r_aload_n dX9_toldBy_5 rfl rfl ?_
      refine r_get (fs := RGL _ _) dX9_toldBy_6 fl_X9_72 (by decide) rfl rfl ?_
      refine r_iload dX9_toldBy_9 rfl ?_
      refine r_ald dX9_toldBy_11 (by decide) c86 (by omega) (by omega) (by decide) ?_
      rw [Int.toNat_natCast, hc]
      refine r_if_eq (tgt := 505) dX9_toldBy_12 (by decide) ⟨by omega, by omega⟩ (fun g12 => absurd g12 (by omega)) (fun g12 => ?_)
      refine r_aload_n dX9_toldBy_15 rfl rfl ?_
      refine r_get (fs := RGL _ _) dX9_toldBy_16 fl_X9_72 (by decide) rfl rfl ?_
      refine r_iload dX9_toldBy_19 rfl ?_
      refine r_ald dX9_toldBy_21 (by decide) c86 (by omega) (by omega) (by decide) ?_
      rw [Int.toNat_natCast, hc]
      refine r_istore (lv2 := [(0, _), (1, _), (2, _), (3, _), (4, _), (5, _)]) dX9_toldBy_22 (by decide) rfl rfl ?_
      refine r_aload_n dX9_toldBy_24 rfl rfl ?_
      refine r_get (fs := RGL _ _) dX9_toldBy_25 fl_X9_72 (by decide) rfl rfl ?_
      refine r_iload dX9_toldBy_28 rfl ?_
      refine r_iconst dX9_toldBy_30 ?_
      refine r_iadd dX9_toldBy_31 ?_
      refine r_ald dX9_toldBy_32 (by decide) c86 (by omega) (by omega) (by decide) ?_
      rw [ek1]
      refine r_istore (lv2 := [(0, _), (1, _), (2, _), (3, _), (4, _), (5, _), (6, _)]) dX9_toldBy_33 (by decide) rfl rfl ?_
      refine r_iload dX9_toldBy_35 rfl ?_
      refine r_iload dX9_toldBy_37 rfl ?_
      refine r_iconst dX9_toldBy_39 ?_
      refine r_icmp_eq (tgt := 68) dX9_toldBy_40 (by decide) ⟨by omega, by omega⟩ ⟨by omega, by omega⟩ (fun g40 => absurd g40 (by omega)) (fun g40 => ?_)
      refine r_iload dX9_toldBy_43 rfl ?_
      refine r_iconst dX9_toldBy_45 ?_
      refine r_icmp_eq (tgt := 68) dX9_toldBy_46 (by decide) ⟨by omega, by omega⟩ ⟨by omega, by omega⟩ (fun g46 => absurd g46 (by omega)) (fun g46 => ?_)
      refine r_iload dX9_toldBy_49 rfl ?_
      refine r_iconst dX9_toldBy_51 ?_
      refine r_icmp_eq (tgt := 68) dX9_toldBy_52 (by decide) ⟨by omega, by omega⟩ ⟨by omega, by omega⟩ (fun g52 => absurd g52 (by omega)) (fun g52 => ?_)
      refine r_iload dX9_toldBy_55 rfl ?_
      refine r_iconst dX9_toldBy_57 ?_
      refine r_icmp_eq (tgt := 68) dX9_toldBy_58 (by decide) ⟨by omega, by omega⟩ ⟨by omega, by omega⟩ (fun g58 => absurd g58 (by omega)) (fun g58 => ?_)
      refine r_iload dX9_toldBy_61 rfl ?_
      refine r_bipush dX9_toldBy_63 rfl ?_
      refine r_icmp_ne (tgt := 72) dX9_toldBy_65 (by decide) ⟨by omega, by omega⟩ ⟨by omega, by omega⟩ (fun g65 => absurd g65 (by omega)) (fun g65 => ?_)
      refine r_iconst dX9_toldBy_68 ?_
      refine r_goto (tgt := 73) dX9_toldBy_69 (by decide) ?_
      refine r_iadd dX9_toldBy_73 ?_
      refine r_istore (lv2 := [(0, _), (1, _), (2, _), (3, _), (4, _), (5, _), (6, _)]) dX9_toldBy_74 (by decide) rfl rfl ?_
      refine r_iload dX9_toldBy_76 rfl ?_
      refine r_iconst dX9_toldBy_78 ?_
      refine r_icmp_eq (tgt := 95) dX9_toldBy_79 (by decide) ⟨by omega, by omega⟩ ⟨by omega, by omega⟩ (fun g79 => absurd g79 (by omega)) (fun g79 => ?_)
      refine r_iload dX9_toldBy_82 rfl ?_
      refine r_iconst dX9_toldBy_84 ?_
      refine r_icmp_eq (tgt := 95) dX9_toldBy_85 (by decide) ⟨by omega, by omega⟩ ⟨by omega, by omega⟩ (fun g85 => absurd g85 (by omega)) (fun g85 => ?_)
      refine r_iload dX9_toldBy_88 rfl ?_
      refine r_bipush dX9_toldBy_90 rfl ?_
      refine r_icmp_ne (tgt := 155) dX9_toldBy_92 (by decide) ⟨by omega, by omega⟩ ⟨by omega, by omega⟩ (fun g92 => absurd g92 (by omega)) (fun g92 => ?_)
      refine r_aload_n dX9_toldBy_95 rfl rfl ?_
      refine r_get (fs := RGL _ _) dX9_toldBy_96 fl_X9_78 (by decide) rfl rfl ?_
      refine r_iload_n dX9_toldBy_99 rfl rfl ?_
      refine r_iload dX9_toldBy_100 rfl ?_
      refine r_iconst dX9_toldBy_102 ?_
      refine r_icmp_ne (tgt := 117) dX9_toldBy_103 (by decide) ⟨by omega, by omega⟩ ⟨by omega, by omega⟩ (fun g103 => ?_) (fun g103 => absurd g103 (by omega))
      refine r_iload dX9_toldBy_117 rfl ?_
      refine r_iconst dX9_toldBy_119 ?_
      refine r_icmp_ne (tgt := 134) dX9_toldBy_120 (by decide) ⟨by omega, by omega⟩ ⟨by omega, by omega⟩ (fun g120 => ?_) (fun g120 => absurd g120 (by omega))
      refine r_iload_n dX9_toldBy_134 rfl rfl ?_
      refine r_bipush dX9_toldBy_135 rfl ?_
      refine r_idivN dX9_toldBy_137 (by omega) (by omega) (by omega) (by omega) ?_
      refine r_iload dX9_toldBy_138 rfl ?_
      refine r_icmp_ne (tgt := 147) dX9_toldBy_140 (by decide) ⟨by omega, by omega⟩ ⟨by omega, by omega⟩ (fun g140 => ?_) (fun g140 => ?_)
      · refine r_iconst dX9_toldBy_147 ?_
        refine r_ast dX9_toldBy_148 (by decide) rfl (by omega) (by omega) (by decide) ?_
        refine r_iinc (lv2 := [(0, _), (1, _), (2, _), (3, _), (4, _), (5, _), (6, _)]) dX9_toldBy_149 (by decide) rfl rfl rfl ?_
        refine r_goto (tgt := 502) dX9_toldBy_152 (by decide) ?_
        refine r_goto (tgt := 5) dX9_toldBy_502 (by decide) ?_
        first
          | rw [if_pos (by omega)] at he
          | rw [if_neg (by omega)] at he
        rw [ut_c _ _ _ _ _ _ _ (by decide)]
        refine r_lv (lv2 := [(0, _), (1, _), (2, _), (3, _), (4, _)]) rfl ?_
        rw [show (k : Int) + 2 = ((k + 2 : Nat) : Int) by omega]
        rw [show ((st.length : Nat) : Int) + 1 = ((st.length + 1 : Nat) : Int) by omega]
        rw [Int.toNat_natCast]
        refine ih (k + 2) (_ :: st) row _ gg lt lgt he (ag_push hag _) ?_ trg lig kp
        intro z hz
        rcases List.mem_cons.mp hz with rfl | hz
        · omega
        · exact hB z hz
      · refine r_iconst dX9_toldBy_143 ?_
        refine r_goto (tgt := 148) dX9_toldBy_144 (by decide) ?_
        refine r_ast dX9_toldBy_148 (by decide) rfl (by omega) (by omega) (by decide) ?_
        refine r_iinc (lv2 := [(0, _), (1, _), (2, _), (3, _), (4, _), (5, _), (6, _)]) dX9_toldBy_149 (by decide) rfl rfl rfl ?_
        refine r_goto (tgt := 502) dX9_toldBy_152 (by decide) ?_
        refine r_goto (tgt := 5) dX9_toldBy_502 (by decide) ?_
        first
          | rw [if_pos (by omega)] at he
          | rw [if_neg (by omega)] at he
        rw [ut_c _ _ _ _ _ _ _ (by decide)]
        refine r_lv (lv2 := [(0, _), (1, _), (2, _), (3, _), (4, _)]) rfl ?_
        rw [show (k : Int) + 2 = ((k + 2 : Nat) : Int) by omega]
        rw [show ((st.length : Nat) : Int) + 1 = ((st.length + 1 : Nat) : Int) by omega]
        rw [Int.toNat_natCast]
        refine ih (k + 2) (_ :: st) row _ gg lt lgt he (ag_push hag _) ?_ trg lig kp
        intro z hz
        rcases List.mem_cons.mp hz with rfl | hz
        · omega
        · exact hB z hz
    · obtain ⟨hb, he⟩ := he
      obtain ⟨c, hcn⟩ : ∃ q : Nat, cod (k + 1) = q := ⟨(cod (k + 1)).toNat, by omega⟩
      rw [hcn, Int.toNat_natCast] at he
      have hcl : (st.take c).length = c := by rw [List.length_take]; omega
      have hdl : (st.drop c).length = st.length - c := List.length_drop
      have hlb : ∀ x ∈ st.take c, -1 ≤ x ∧ x < 1440 := fun x hx => hB x (List.mem_of_mem_take hx)
      have hpp : ∀ t, t < (st.take c).length → pl ((st.length - c + 1) - 1 + ((st.take c).length - 1 - t)) = (st.take c).getD t 0 := fun t ht => by
        rw [hcl] at ht ⊢
        rw [hag _ (by omega), show st.length - 1 - (st.length - c + 1 - 1 + (c - 1 - t)) = t by omega, List.getD_eq_getElem?_getD, List.getD_eq_getElem?_getD, List.getElem?_take_of_lt ht]
      refine r_aload_n dX9_toldBy_5 rfl rfl ?_
      refine r_get (fs := RGL _ _) dX9_toldBy_6 fl_X9_72 (by decide) rfl rfl ?_
      refine r_iload dX9_toldBy_9 rfl ?_
      refine r_ald dX9_toldBy_11 (by decide) c86 (by omega) (by omega) (by decide) ?_
      rw [Int.toNat_natCast, hc]
      refine r_if_eq (tgt := 505) dX9_toldBy_12 (by decide) ⟨by omega, by omega⟩ (fun g12 => absurd g12 (by omega)) (fun g12 => ?_)
      refine r_aload_n dX9_toldBy_15 rfl rfl ?_
      refine r_get (fs := RGL _ _) dX9_toldBy_16 fl_X9_72 (by decide) rfl rfl ?_
      refine r_iload dX9_toldBy_19 rfl ?_
      refine r_ald dX9_toldBy_21 (by decide) c86 (by omega) (by omega) (by decide) ?_
      rw [Int.toNat_natCast, hc]
      refine r_istore (lv2 := [(0, _), (1, _), (2, _), (3, _), (4, _), (5, _)]) dX9_toldBy_22 (by decide) rfl rfl ?_
      refine r_aload_n dX9_toldBy_24 rfl rfl ?_
      refine r_get (fs := RGL _ _) dX9_toldBy_25 fl_X9_72 (by decide) rfl rfl ?_
      refine r_iload dX9_toldBy_28 rfl ?_
      refine r_iconst dX9_toldBy_30 ?_
      refine r_iadd dX9_toldBy_31 ?_
      refine r_ald dX9_toldBy_32 (by decide) c86 (by omega) (by omega) (by decide) ?_
      rw [ek1, hcn]
      refine r_istore (lv2 := [(0, _), (1, _), (2, _), (3, _), (4, _), (5, _), (6, _)]) dX9_toldBy_33 (by decide) rfl rfl ?_
      refine r_iload dX9_toldBy_35 rfl ?_
      refine r_iload dX9_toldBy_37 rfl ?_
      refine r_iconst dX9_toldBy_39 ?_
      refine r_icmp_eq (tgt := 68) dX9_toldBy_40 (by decide) ⟨by omega, by omega⟩ ⟨by omega, by omega⟩ (fun g40 => absurd g40 (by omega)) (fun g40 => ?_)
      refine r_iload dX9_toldBy_43 rfl ?_
      refine r_iconst dX9_toldBy_45 ?_
      refine r_icmp_eq (tgt := 68) dX9_toldBy_46 (by decide) ⟨by omega, by omega⟩ ⟨by omega, by omega⟩ (fun g46 => absurd g46 (by omega)) (fun g46 => ?_)
      refine r_iload dX9_toldBy_49 rfl ?_
      refine r_iconst dX9_toldBy_51 ?_
      refine r_icmp_eq (tgt := 68) dX9_toldBy_52 (by decide) ⟨by omega, by omega⟩ ⟨by omega, by omega⟩ (fun g52 => ?_) (fun g52 => absurd g52 (by omega))
      refine r_iconst dX9_toldBy_68 ?_
      refine r_goto (tgt := 73) dX9_toldBy_69 (by decide) ?_
      refine r_iadd dX9_toldBy_73 ?_
      refine r_istore (lv2 := [(0, _), (1, _), (2, _), (3, _), (4, _), (5, _), (6, _)]) dX9_toldBy_74 (by decide) rfl rfl ?_
      refine r_iload dX9_toldBy_76 rfl ?_
      refine r_iconst dX9_toldBy_78 ?_
      refine r_icmp_eq (tgt := 95) dX9_toldBy_79 (by decide) ⟨by omega, by omega⟩ ⟨by omega, by omega⟩ (fun g79 => absurd g79 (by omega)) (fun g79 => ?_)
      refine r_iload dX9_toldBy_82 rfl ?_
      refine r_iconst dX9_toldBy_84 ?_
      refine r_icmp_eq (tgt := 95) dX9_toldBy_85 (by decide) ⟨by omega, by omega⟩ ⟨by omega, by omega⟩ (fun g85 => absurd g85 (by omega)) (fun g85 => ?_)
      refine r_iload dX9_toldBy_88 rfl ?_
      refine r_bipush dX9_toldBy_90 rfl ?_
      refine r_icmp_ne (tgt := 155) dX9_toldBy_92 (by decide) ⟨by omega, by omega⟩ ⟨by omega, by omega⟩ (fun g92 => ?_) (fun g92 => absurd g92 (by omega))
      refine r_iload dX9_toldBy_155 rfl ?_
      refine r_iconst dX9_toldBy_157 ?_
      refine r_icmp_ne (tgt := 234) dX9_toldBy_158 (by decide) ⟨by omega, by omega⟩ ⟨by omega, by omega⟩ (fun g158 => absurd g158 (by omega)) (fun g158 => ?_)
      refine r_iload_n dX9_toldBy_161 rfl rfl ?_
      refine r_iload dX9_toldBy_162 rfl ?_
      refine r_iconst dX9_toldBy_164 ?_
      refine r_isub dX9_toldBy_165 ?_
      refine r_isub dX9_toldBy_166 ?_
      refine r_istore_n (lv2 := [(0, _), (1, _), (2, _), (3, _), (4, _), (5, _), (6, _)]) dX9_toldBy_167 rfl (by decide) rfl rfl ?_
      refine r_iconst dX9_toldBy_168 ?_
      refine r_istore (lv2 := [(0, _), (1, _), (2, _), (3, _), (4, _), (5, _), (6, _), (7, _)]) dX9_toldBy_169 (by decide) rfl rfl ?_
      refine r_iload dX9_toldBy_171 rfl ?_
      refine r_iconst dX9_toldBy_173 ?_
      refine r_isub dX9_toldBy_174 ?_
      refine r_istore (lv2 := [(0, _), (1, _), (2, _), (3, _), (4, _), (5, _), (6, _), (7, _), (8, _)]) dX9_toldBy_175 (by decide) rfl rfl ?_
      rw [show (st.length : Int) - ((c : Int) - 1) = ((st.length - c + 1 : Nat) : Int) by omega, show (c : Int) - 1 = (((st.take c).length : Nat) : Int) - 1 by omega]
      refine l_X9_choose rfl rfl (by omega) (st.take c) (-1) (by omega) ⟨by decide, by decide⟩ hlb hpp (fun v2 hv2 => ?_)
      have hch : chs (st.take c) = v2 := hv2.symm
      rw [hch] at he
      have bch := chs_B (st.take c) (-1) ⟨by decide, by decide⟩ hlb
      rw [← hv2] at bch
      refine r_aload_n dX9_toldBy_221 rfl rfl ?_
      refine r_get (fs := RGL _ _) dX9_toldBy_222 fl_X9_78 (by decide) rfl rfl ?_
      refine r_iload_n dX9_toldBy_225 rfl rfl ?_
      refine r_iconst dX9_toldBy_226 ?_
      refine r_isub dX9_toldBy_227 ?_
      refine r_iload dX9_toldBy_228 rfl ?_
      refine r_ast dX9_toldBy_230 (by decide) rfl (by omega) (by omega) (by decide) ?_
      refine r_goto (tgt := 502) dX9_toldBy_231 (by decide) ?_
      refine r_goto (tgt := 5) dX9_toldBy_502 (by decide) ?_
      rw [ut_c _ _ _ _ _ _ _ (by decide)]
      refine r_lv (lv2 := [(0, _), (1, _), (2, _), (3, _), (4, _)]) rfl ?_
      rw [show (k : Int) + 2 = ((k + 2 : Nat) : Int) by omega]
      rw [show (((st.length - c + 1 : Nat) : Int) - 1).toNat = (st.drop c).length by omega]
      have hk := ih (k + 2) (v2 :: st.drop c) row (va_up pl (st.drop c).length v2) gg lt lgt he (ag_push (ag_drop c hag) v2) (fun z hz => by
        rcases List.mem_cons.mp hz with rfl | hz
        · exact bch
        · exact hB z (List.mem_of_mem_drop hz)) trg lig kp
      rw [List.length_cons, hdl] at hk
      rw [hdl]
      exact hk
    · obtain ⟨y, x, r, rfl, he⟩ := he
      have by_ := hB y List.mem_cons_self
      have bx := hB x (List.mem_cons_of_mem _ List.mem_cons_self)
      have er : ∀ z ∈ r, -1 ≤ z ∧ z < 1440 := fun z hz => hB z (List.mem_cons_of_mem _ (List.mem_cons_of_mem _ hz))
      have a1 := ag_hd hag
      have a2 := ag_hd (ag_tl hag)
      rw [List.length_cons] at a1
      rw [List.length_cons, List.length_cons] at hk2 ⊢
      have n0 : (((r.length + 1 + 1 : Nat) : Int) + -1).toNat = r.length + 1 := by omega
      have n1 : (((r.length + 1 + 1 : Nat) : Int) + -1 - 1).toNat = r.length := by omega
      have em : meI x y = if x = -1 ∨ y = -1 then -1 else (x + y) / 2 := rfl
      refine r_aload_n dX9_toldBy_5 rfl rfl ?_
      refine r_get (fs := RGL _ _) dX9_toldBy_6 fl_X9_72 (by decide) rfl rfl ?_
      refine r_iload dX9_toldBy_9 rfl ?_
      refine r_ald dX9_toldBy_11 (by decide) c86 (by omega) (by omega) (by decide) ?_
      rw [Int.toNat_natCast, hc]
      refine r_if_eq (tgt := 505) dX9_toldBy_12 (by decide) ⟨by omega, by omega⟩ (fun g12 => absurd g12 (by omega)) (fun g12 => ?_)
      refine r_aload_n dX9_toldBy_15 rfl rfl ?_
      refine r_get (fs := RGL _ _) dX9_toldBy_16 fl_X9_72 (by decide) rfl rfl ?_
      refine r_iload dX9_toldBy_19 rfl ?_
      refine r_ald dX9_toldBy_21 (by decide) c86 (by omega) (by omega) (by decide) ?_
      rw [Int.toNat_natCast, hc]
      refine r_istore (lv2 := [(0, _), (1, _), (2, _), (3, _), (4, _), (5, _)]) dX9_toldBy_22 (by decide) rfl rfl ?_
      refine r_aload_n dX9_toldBy_24 rfl rfl ?_
      refine r_get (fs := RGL _ _) dX9_toldBy_25 fl_X9_72 (by decide) rfl rfl ?_
      refine r_iload dX9_toldBy_28 rfl ?_
      refine r_iconst dX9_toldBy_30 ?_
      refine r_iadd dX9_toldBy_31 ?_
      refine r_ald dX9_toldBy_32 (by decide) c86 (by omega) (by omega) (by decide) ?_
      rw [ek1]
      refine r_istore (lv2 := [(0, _), (1, _), (2, _), (3, _), (4, _), (5, _), (6, _)]) dX9_toldBy_33 (by decide) rfl rfl ?_
      refine r_iload dX9_toldBy_35 rfl ?_
      refine r_iload dX9_toldBy_37 rfl ?_
      refine r_iconst dX9_toldBy_39 ?_
      refine r_icmp_eq (tgt := 68) dX9_toldBy_40 (by decide) ⟨by omega, by omega⟩ ⟨by omega, by omega⟩ (fun g40 => absurd g40 (by omega)) (fun g40 => ?_)
      refine r_iload dX9_toldBy_43 rfl ?_
      refine r_iconst dX9_toldBy_45 ?_
      refine r_icmp_eq (tgt := 68) dX9_toldBy_46 (by decide) ⟨by omega, by omega⟩ ⟨by omega, by omega⟩ (fun g46 => absurd g46 (by omega)) (fun g46 => ?_)
      refine r_iload dX9_toldBy_49 rfl ?_
      refine r_iconst dX9_toldBy_51 ?_
      refine r_icmp_eq (tgt := 68) dX9_toldBy_52 (by decide) ⟨by omega, by omega⟩ ⟨by omega, by omega⟩ (fun g52 => absurd g52 (by omega)) (fun g52 => ?_)
      refine r_iload dX9_toldBy_55 rfl ?_
      refine r_iconst dX9_toldBy_57 ?_
      refine r_icmp_eq (tgt := 68) dX9_toldBy_58 (by decide) ⟨by omega, by omega⟩ ⟨by omega, by omega⟩ (fun g58 => absurd g58 (by omega)) (fun g58 => ?_)
      refine r_iload dX9_toldBy_61 rfl ?_
      refine r_bipush dX9_toldBy_63 rfl ?_
      refine r_icmp_ne (tgt := 72) dX9_toldBy_65 (by decide) ⟨by omega, by omega⟩ ⟨by omega, by omega⟩ (fun g65 => ?_) (fun g65 => absurd g65 (by omega))
      refine r_iconst dX9_toldBy_72 ?_
      refine r_iadd dX9_toldBy_73 ?_
      refine r_istore (lv2 := [(0, _), (1, _), (2, _), (3, _), (4, _), (5, _), (6, _)]) dX9_toldBy_74 (by decide) rfl rfl ?_
      refine r_iload dX9_toldBy_76 rfl ?_
      refine r_iconst dX9_toldBy_78 ?_
      refine r_icmp_eq (tgt := 95) dX9_toldBy_79 (by decide) ⟨by omega, by omega⟩ ⟨by omega, by omega⟩ (fun g79 => absurd g79 (by omega)) (fun g79 => ?_)
      refine r_iload dX9_toldBy_82 rfl ?_
      refine r_iconst dX9_toldBy_84 ?_
      refine r_icmp_eq (tgt := 95) dX9_toldBy_85 (by decide) ⟨by omega, by omega⟩ ⟨by omega, by omega⟩ (fun g85 => absurd g85 (by omega)) (fun g85 => ?_)
      refine r_iload dX9_toldBy_88 rfl ?_
      refine r_bipush dX9_toldBy_90 rfl ?_
      refine r_icmp_ne (tgt := 155) dX9_toldBy_92 (by decide) ⟨by omega, by omega⟩ ⟨by omega, by omega⟩ (fun g92 => ?_) (fun g92 => absurd g92 (by omega))
      refine r_iload dX9_toldBy_155 rfl ?_
      refine r_iconst dX9_toldBy_157 ?_
      refine r_icmp_ne (tgt := 234) dX9_toldBy_158 (by decide) ⟨by omega, by omega⟩ ⟨by omega, by omega⟩ (fun g158 => ?_) (fun g158 => absurd g158 (by omega))
      refine r_iload dX9_toldBy_234 rfl ?_
      refine r_iconst dX9_toldBy_236 ?_
      refine r_icmp_eq (tgt := 247) dX9_toldBy_237 (by decide) ⟨by omega, by omega⟩ ⟨by omega, by omega⟩ (fun g237 => ?_) (fun g237 => absurd g237 (by omega))
      refine r_iinc (lv2 := [(0, _), (1, _), (2, _), (3, _), (4, _), (5, _), (6, _)]) dX9_toldBy_247 (by decide) rfl rfl rfl ?_
      refine r_aload_n dX9_toldBy_250 rfl rfl ?_
      refine r_get (fs := RGL _ _) dX9_toldBy_251 fl_X9_78 (by decide) rfl rfl ?_
      refine r_iload_n dX9_toldBy_254 rfl rfl ?_
      refine r_iconst dX9_toldBy_255 ?_
      refine r_isub dX9_toldBy_256 ?_
      refine r_ald dX9_toldBy_257 (by decide) rfl (by omega) (by omega) (by decide) ?_
      rw [n1, a2]
      refine r_iconst dX9_toldBy_258 ?_
      refine r_icmp_eq (tgt := 272) dX9_toldBy_259 (by decide) ⟨by omega, by omega⟩ ⟨by omega, by omega⟩ (fun g259 => ?_) (fun g259 => ?_)
      · refine r_iconst dX9_toldBy_272 ?_
        refine r_goto (tgt := 277) dX9_toldBy_273 (by decide) ?_
        refine r_istore (lv2 := [(0, _), (1, _), (2, _), (3, _), (4, _), (5, _), (6, _), (7, _)]) dX9_toldBy_277 (by decide) rfl rfl ?_
        refine r_iload dX9_toldBy_279 rfl ?_
        refine r_iconst dX9_toldBy_281 ?_
        refine r_icmp_ne (tgt := 322) dX9_toldBy_282 (by decide) ⟨by omega, by omega⟩ ⟨by omega, by omega⟩ (fun g282 => absurd g282 (by omega)) (fun g282 => ?_)
        refine r_aload_n dX9_toldBy_285 rfl rfl ?_
        refine r_get (fs := RGL _ _) dX9_toldBy_286 fl_X9_78 (by decide) rfl rfl ?_
        refine r_iload_n dX9_toldBy_289 rfl rfl ?_
        refine r_iconst dX9_toldBy_290 ?_
        refine r_isub dX9_toldBy_291 ?_
        refine r_iload dX9_toldBy_292 rfl ?_
        refine r_if_eq (tgt := 301) dX9_toldBy_294 (by decide) ⟨by omega, by omega⟩ (fun g294 => absurd g294 (by omega)) (fun g294 => ?_)
        refine r_iconst dX9_toldBy_297 ?_
        refine r_goto (tgt := 318) dX9_toldBy_298 (by decide) ?_
        refine r_ast dX9_toldBy_318 (by decide) rfl (by omega) (by omega) (by decide) ?_
        refine r_goto (tgt := 357) dX9_toldBy_319 (by decide) ?_
        refine r_goto (tgt := 502) dX9_toldBy_357 (by decide) ?_
        refine r_goto (tgt := 5) dX9_toldBy_502 (by decide) ?_
        first
          | rw [if_pos (by omega)] at em
          | rw [if_neg (by omega)] at em
        rw [em] at he
        rw [ut_c _ _ _ _ _ _ _ (by decide)]
        refine r_lv (lv2 := [(0, _), (1, _), (2, _), (3, _), (4, _)]) rfl ?_
        rw [show (k : Int) + 1 = ((k + 1 : Nat) : Int) by omega]
        rw [n1, show ((r.length + 1 + 1 : Nat) : Int) + -1 = ((r.length + 1 : Nat) : Int) by omega]
        refine ih (k + 1) (_ :: r) row _ gg lt lgt he (ag_push (ag_tl (ag_tl hag)) _) ?_ trg lig kp
        intro z hz
        rcases List.mem_cons.mp hz with rfl | hz
        · omega
        · exact er z hz
      · refine r_aload_n dX9_toldBy_262 rfl rfl ?_
        refine r_get (fs := RGL _ _) dX9_toldBy_263 fl_X9_78 (by decide) rfl rfl ?_
        refine r_iload_n dX9_toldBy_266 rfl rfl ?_
        refine r_ald dX9_toldBy_267 (by decide) rfl (by omega) (by omega) (by decide) ?_
        rw [n0, a1]
        refine r_iconst dX9_toldBy_268 ?_
        refine r_icmp_ne (tgt := 276) dX9_toldBy_269 (by decide) ⟨by omega, by omega⟩ ⟨by omega, by omega⟩ (fun g269 => ?_) (fun g269 => ?_)
        · refine r_iconst dX9_toldBy_276 ?_
          refine r_istore (lv2 := [(0, _), (1, _), (2, _), (3, _), (4, _), (5, _), (6, _), (7, _)]) dX9_toldBy_277 (by decide) rfl rfl ?_
          refine r_iload dX9_toldBy_279 rfl ?_
          refine r_iconst dX9_toldBy_281 ?_
          refine r_icmp_ne (tgt := 322) dX9_toldBy_282 (by decide) ⟨by omega, by omega⟩ ⟨by omega, by omega⟩ (fun g282 => absurd g282 (by omega)) (fun g282 => ?_)
          refine r_aload_n dX9_toldBy_285 rfl rfl ?_
          refine r_get (fs := RGL _ _) dX9_toldBy_286 fl_X9_78 (by decide) rfl rfl ?_
          refine r_iload_n dX9_toldBy_289 rfl rfl ?_
          refine r_iconst dX9_toldBy_290 ?_
          refine r_isub dX9_toldBy_291 ?_
          refine r_iload dX9_toldBy_292 rfl ?_
          refine r_if_eq (tgt := 301) dX9_toldBy_294 (by decide) ⟨by omega, by omega⟩ (fun g294 => ?_) (fun g294 => absurd g294 (by omega))
          refine r_aload_n dX9_toldBy_301 rfl rfl ?_
          refine r_get (fs := RGL _ _) dX9_toldBy_302 fl_X9_78 (by decide) rfl rfl ?_
          refine r_iload_n dX9_toldBy_305 rfl rfl ?_
          refine r_iconst dX9_toldBy_306 ?_
          refine r_isub dX9_toldBy_307 ?_
          refine r_ald dX9_toldBy_308 (by decide) rfl (by omega) (by omega) (by decide) ?_
          rw [n1, a2]
          refine r_aload_n dX9_toldBy_309 rfl rfl ?_
          refine r_get (fs := RGL _ _) dX9_toldBy_310 fl_X9_78 (by decide) rfl rfl ?_
          refine r_iload_n dX9_toldBy_313 rfl rfl ?_
          refine r_ald dX9_toldBy_314 (by decide) rfl (by omega) (by omega) (by decide) ?_
          rw [n0, a1]
          refine r_iadd dX9_toldBy_315 ?_
          refine r_iconst dX9_toldBy_316 ?_
          refine r_idivN dX9_toldBy_317 (by omega) (by omega) (by omega) (by omega) ?_
          refine r_ast dX9_toldBy_318 (by decide) rfl (by omega) (by omega) (by decide) ?_
          refine r_goto (tgt := 357) dX9_toldBy_319 (by decide) ?_
          refine r_goto (tgt := 502) dX9_toldBy_357 (by decide) ?_
          refine r_goto (tgt := 5) dX9_toldBy_502 (by decide) ?_
          first
            | rw [if_pos (by omega)] at em
            | rw [if_neg (by omega)] at em
          rw [em] at he
          rw [ut_c _ _ _ _ _ _ _ (by decide)]
          refine r_lv (lv2 := [(0, _), (1, _), (2, _), (3, _), (4, _)]) rfl ?_
          rw [show (k : Int) + 1 = ((k + 1 : Nat) : Int) by omega]
          rw [n1, show ((r.length + 1 + 1 : Nat) : Int) + -1 = ((r.length + 1 : Nat) : Int) by omega]
          refine ih (k + 1) (_ :: r) row _ gg lt lgt he (ag_push (ag_tl (ag_tl hag)) _) ?_ trg lig kp
          intro z hz
          rcases List.mem_cons.mp hz with rfl | hz
          · omega
          · exact er z hz
        · refine r_iconst dX9_toldBy_272 ?_
          refine r_goto (tgt := 277) dX9_toldBy_273 (by decide) ?_
          refine r_istore (lv2 := [(0, _), (1, _), (2, _), (3, _), (4, _), (5, _), (6, _), (7, _)]) dX9_toldBy_277 (by decide) rfl rfl ?_
          refine r_iload dX9_toldBy_279 rfl ?_
          refine r_iconst dX9_toldBy_281 ?_
          refine r_icmp_ne (tgt := 322) dX9_toldBy_282 (by decide) ⟨by omega, by omega⟩ ⟨by omega, by omega⟩ (fun g282 => absurd g282 (by omega)) (fun g282 => ?_)
          refine r_aload_n dX9_toldBy_285 rfl rfl ?_
          refine r_get (fs := RGL _ _) dX9_toldBy_286 fl_X9_78 (by decide) rfl rfl ?_
          refine r_iload_n dX9_toldBy_289 rfl rfl ?_
          refine r_iconst dX9_toldBy_290 ?_
          refine r_isub dX9_toldBy_291 ?_
          refine r_iload dX9_toldBy_292 rfl ?_
          refine r_if_eq (tgt := 301) dX9_toldBy_294 (by decide) ⟨by omega, by omega⟩ (fun g294 => absurd g294 (by omega)) (fun g294 => ?_)
          refine r_iconst dX9_toldBy_297 ?_
          refine r_goto (tgt := 318) dX9_toldBy_298 (by decide) ?_
          refine r_ast dX9_toldBy_318 (by decide) rfl (by omega) (by omega) (by decide) ?_
          refine r_goto (tgt := 357) dX9_toldBy_319 (by decide) ?_
          refine r_goto (tgt := 502) dX9_toldBy_357 (by decide) ?_
          refine r_goto (tgt := 5) dX9_toldBy_502 (by decide) ?_
          first
            | rw [if_pos (by omega)] at em
            | rw [if_neg (by omega)] at em
          rw [em] at he
          rw [ut_c _ _ _ _ _ _ _ (by decide)]
          refine r_lv (lv2 := [(0, _), (1, _), (2, _), (3, _), (4, _)]) rfl ?_
          rw [show (k : Int) + 1 = ((k + 1 : Nat) : Int) by omega]
          rw [n1, show ((r.length + 1 + 1 : Nat) : Int) + -1 = ((r.length + 1 : Nat) : Int) by omega]
          refine ih (k + 1) (_ :: r) row _ gg lt lgt he (ag_push (ag_tl (ag_tl hag)) _) ?_ trg lig kp
          intro z hz
          rcases List.mem_cons.mp hz with rfl | hz
          · omega
          · exact er z hz
    · obtain ⟨y, x, r, rfl, he⟩ := he
      have by_ := hB y List.mem_cons_self
      have bx := hB x (List.mem_cons_of_mem _ List.mem_cons_self)
      have er : ∀ z ∈ r, -1 ≤ z ∧ z < 1440 := fun z hz => hB z (List.mem_cons_of_mem _ (List.mem_cons_of_mem _ hz))
      have a1 := ag_hd hag
      have a2 := ag_hd (ag_tl hag)
      rw [List.length_cons] at a1
      rw [List.length_cons, List.length_cons] at hk2 ⊢
      have n0 : (((r.length + 1 + 1 : Nat) : Int) + -1).toNat = r.length + 1 := by omega
      have n1 : (((r.length + 1 + 1 : Nat) : Int) + -1 - 1).toNat = r.length := by omega
      have em : beI x y = if ¬ x = -1 ∧ ¬ y = -1 ∧ x < y then 1 else 0 := rfl
      refine r_aload_n dX9_toldBy_5 rfl rfl ?_
      refine r_get (fs := RGL _ _) dX9_toldBy_6 fl_X9_72 (by decide) rfl rfl ?_
      refine r_iload dX9_toldBy_9 rfl ?_
      refine r_ald dX9_toldBy_11 (by decide) c86 (by omega) (by omega) (by decide) ?_
      rw [Int.toNat_natCast, hc]
      refine r_if_eq (tgt := 505) dX9_toldBy_12 (by decide) ⟨by omega, by omega⟩ (fun g12 => absurd g12 (by omega)) (fun g12 => ?_)
      refine r_aload_n dX9_toldBy_15 rfl rfl ?_
      refine r_get (fs := RGL _ _) dX9_toldBy_16 fl_X9_72 (by decide) rfl rfl ?_
      refine r_iload dX9_toldBy_19 rfl ?_
      refine r_ald dX9_toldBy_21 (by decide) c86 (by omega) (by omega) (by decide) ?_
      rw [Int.toNat_natCast, hc]
      refine r_istore (lv2 := [(0, _), (1, _), (2, _), (3, _), (4, _), (5, _)]) dX9_toldBy_22 (by decide) rfl rfl ?_
      refine r_aload_n dX9_toldBy_24 rfl rfl ?_
      refine r_get (fs := RGL _ _) dX9_toldBy_25 fl_X9_72 (by decide) rfl rfl ?_
      refine r_iload dX9_toldBy_28 rfl ?_
      refine r_iconst dX9_toldBy_30 ?_
      refine r_iadd dX9_toldBy_31 ?_
      refine r_ald dX9_toldBy_32 (by decide) c86 (by omega) (by omega) (by decide) ?_
      rw [ek1]
      refine r_istore (lv2 := [(0, _), (1, _), (2, _), (3, _), (4, _), (5, _), (6, _)]) dX9_toldBy_33 (by decide) rfl rfl ?_
      refine r_iload dX9_toldBy_35 rfl ?_
      refine r_iload dX9_toldBy_37 rfl ?_
      refine r_iconst dX9_toldBy_39 ?_
      refine r_icmp_eq (tgt := 68) dX9_toldBy_40 (by decide) ⟨by omega, by omega⟩ ⟨by omega, by omega⟩ (fun g40 => absurd g40 (by omega)) (fun g40 => ?_)
      refine r_iload dX9_toldBy_43 rfl ?_
      refine r_iconst dX9_toldBy_45 ?_
      refine r_icmp_eq (tgt := 68) dX9_toldBy_46 (by decide) ⟨by omega, by omega⟩ ⟨by omega, by omega⟩ (fun g46 => absurd g46 (by omega)) (fun g46 => ?_)
      refine r_iload dX9_toldBy_49 rfl ?_
      refine r_iconst dX9_toldBy_51 ?_
      refine r_icmp_eq (tgt := 68) dX9_toldBy_52 (by decide) ⟨by omega, by omega⟩ ⟨by omega, by omega⟩ (fun g52 => absurd g52 (by omega)) (fun g52 => ?_)
      refine r_iload dX9_toldBy_55 rfl ?_
      refine r_iconst dX9_toldBy_57 ?_
      refine r_icmp_eq (tgt := 68) dX9_toldBy_58 (by decide) ⟨by omega, by omega⟩ ⟨by omega, by omega⟩ (fun g58 => absurd g58 (by omega)) (fun g58 => ?_)
      refine r_iload dX9_toldBy_61 rfl ?_
      refine r_bipush dX9_toldBy_63 rfl ?_
      refine r_icmp_ne (tgt := 72) dX9_toldBy_65 (by decide) ⟨by omega, by omega⟩ ⟨by omega, by omega⟩ (fun g65 => ?_) (fun g65 => absurd g65 (by omega))
      refine r_iconst dX9_toldBy_72 ?_
      refine r_iadd dX9_toldBy_73 ?_
      refine r_istore (lv2 := [(0, _), (1, _), (2, _), (3, _), (4, _), (5, _), (6, _)]) dX9_toldBy_74 (by decide) rfl rfl ?_
      refine r_iload dX9_toldBy_76 rfl ?_
      refine r_iconst dX9_toldBy_78 ?_
      refine r_icmp_eq (tgt := 95) dX9_toldBy_79 (by decide) ⟨by omega, by omega⟩ ⟨by omega, by omega⟩ (fun g79 => absurd g79 (by omega)) (fun g79 => ?_)
      refine r_iload dX9_toldBy_82 rfl ?_
      refine r_iconst dX9_toldBy_84 ?_
      refine r_icmp_eq (tgt := 95) dX9_toldBy_85 (by decide) ⟨by omega, by omega⟩ ⟨by omega, by omega⟩ (fun g85 => absurd g85 (by omega)) (fun g85 => ?_)
      refine r_iload dX9_toldBy_88 rfl ?_
      refine r_bipush dX9_toldBy_90 rfl ?_
      refine r_icmp_ne (tgt := 155) dX9_toldBy_92 (by decide) ⟨by omega, by omega⟩ ⟨by omega, by omega⟩ (fun g92 => ?_) (fun g92 => absurd g92 (by omega))
      refine r_iload dX9_toldBy_155 rfl ?_
      refine r_iconst dX9_toldBy_157 ?_
      refine r_icmp_ne (tgt := 234) dX9_toldBy_158 (by decide) ⟨by omega, by omega⟩ ⟨by omega, by omega⟩ (fun g158 => ?_) (fun g158 => absurd g158 (by omega))
      refine r_iload dX9_toldBy_234 rfl ?_
      refine r_iconst dX9_toldBy_236 ?_
      refine r_icmp_eq (tgt := 247) dX9_toldBy_237 (by decide) ⟨by omega, by omega⟩ ⟨by omega, by omega⟩ (fun g237 => absurd g237 (by omega)) (fun g237 => ?_)
      refine r_iload dX9_toldBy_240 rfl ?_
      refine r_bipush dX9_toldBy_242 rfl ?_
      refine r_icmp_ne (tgt := 360) dX9_toldBy_244 (by decide) ⟨by omega, by omega⟩ ⟨by omega, by omega⟩ (fun g244 => absurd g244 (by omega)) (fun g244 => ?_)
      refine r_iinc (lv2 := [(0, _), (1, _), (2, _), (3, _), (4, _), (5, _), (6, _)]) dX9_toldBy_247 (by decide) rfl rfl rfl ?_
      refine r_aload_n dX9_toldBy_250 rfl rfl ?_
      refine r_get (fs := RGL _ _) dX9_toldBy_251 fl_X9_78 (by decide) rfl rfl ?_
      refine r_iload_n dX9_toldBy_254 rfl rfl ?_
      refine r_iconst dX9_toldBy_255 ?_
      refine r_isub dX9_toldBy_256 ?_
      refine r_ald dX9_toldBy_257 (by decide) rfl (by omega) (by omega) (by decide) ?_
      rw [n1, a2]
      refine r_iconst dX9_toldBy_258 ?_
      refine r_icmp_eq (tgt := 272) dX9_toldBy_259 (by decide) ⟨by omega, by omega⟩ ⟨by omega, by omega⟩ (fun g259 => ?_) (fun g259 => ?_)
      · refine r_iconst dX9_toldBy_272 ?_
        refine r_goto (tgt := 277) dX9_toldBy_273 (by decide) ?_
        refine r_istore (lv2 := [(0, _), (1, _), (2, _), (3, _), (4, _), (5, _), (6, _), (7, _)]) dX9_toldBy_277 (by decide) rfl rfl ?_
        refine r_iload dX9_toldBy_279 rfl ?_
        refine r_iconst dX9_toldBy_281 ?_
        refine r_icmp_ne (tgt := 322) dX9_toldBy_282 (by decide) ⟨by omega, by omega⟩ ⟨by omega, by omega⟩ (fun g282 => ?_) (fun g282 => absurd g282 (by omega))
        refine r_aload_n dX9_toldBy_322 rfl rfl ?_
        refine r_get (fs := RGL _ _) dX9_toldBy_323 fl_X9_78 (by decide) rfl rfl ?_
        refine r_iload_n dX9_toldBy_326 rfl rfl ?_
        refine r_iconst dX9_toldBy_327 ?_
        refine r_isub dX9_toldBy_328 ?_
        refine r_iload dX9_toldBy_329 rfl ?_
        refine r_if_ne (tgt := 355) dX9_toldBy_331 (by decide) ⟨by omega, by omega⟩ (fun g331 => ?_) (fun g331 => absurd g331 (by omega))
        refine r_iconst dX9_toldBy_355 ?_
        refine r_ast dX9_toldBy_356 (by decide) rfl (by omega) (by omega) (by decide) ?_
        refine r_goto (tgt := 502) dX9_toldBy_357 (by decide) ?_
        refine r_goto (tgt := 5) dX9_toldBy_502 (by decide) ?_
        first
          | rw [if_pos (by omega)] at em
          | rw [if_neg (by omega)] at em
        rw [em] at he
        rw [ut_c _ _ _ _ _ _ _ (by decide)]
        refine r_lv (lv2 := [(0, _), (1, _), (2, _), (3, _), (4, _)]) rfl ?_
        rw [show (k : Int) + 1 = ((k + 1 : Nat) : Int) by omega]
        rw [n1, show ((r.length + 1 + 1 : Nat) : Int) + -1 = ((r.length + 1 : Nat) : Int) by omega]
        refine ih (k + 1) (_ :: r) row _ gg lt lgt he (ag_push (ag_tl (ag_tl hag)) _) ?_ trg lig kp
        intro z hz
        rcases List.mem_cons.mp hz with rfl | hz
        · omega
        · exact er z hz
      · refine r_aload_n dX9_toldBy_262 rfl rfl ?_
        refine r_get (fs := RGL _ _) dX9_toldBy_263 fl_X9_78 (by decide) rfl rfl ?_
        refine r_iload_n dX9_toldBy_266 rfl rfl ?_
        refine r_ald dX9_toldBy_267 (by decide) rfl (by omega) (by omega) (by decide) ?_
        rw [n0, a1]
        refine r_iconst dX9_toldBy_268 ?_
        refine r_icmp_ne (tgt := 276) dX9_toldBy_269 (by decide) ⟨by omega, by omega⟩ ⟨by omega, by omega⟩ (fun g269 => ?_) (fun g269 => ?_)
        · refine r_iconst dX9_toldBy_276 ?_
          refine r_istore (lv2 := [(0, _), (1, _), (2, _), (3, _), (4, _), (5, _), (6, _), (7, _)]) dX9_toldBy_277 (by decide) rfl rfl ?_
          refine r_iload dX9_toldBy_279 rfl ?_
          refine r_iconst dX9_toldBy_281 ?_
          refine r_icmp_ne (tgt := 322) dX9_toldBy_282 (by decide) ⟨by omega, by omega⟩ ⟨by omega, by omega⟩ (fun g282 => ?_) (fun g282 => absurd g282 (by omega))
          refine r_aload_n dX9_toldBy_322 rfl rfl ?_
          refine r_get (fs := RGL _ _) dX9_toldBy_323 fl_X9_78 (by decide) rfl rfl ?_
          refine r_iload_n dX9_toldBy_326 rfl rfl ?_
          refine r_iconst dX9_toldBy_327 ?_
          refine r_isub dX9_toldBy_328 ?_
          refine r_iload dX9_toldBy_329 rfl ?_
          refine r_if_ne (tgt := 355) dX9_toldBy_331 (by decide) ⟨by omega, by omega⟩ (fun g331 => absurd g331 (by omega)) (fun g331 => ?_)
          refine r_aload_n dX9_toldBy_334 rfl rfl ?_
          refine r_get (fs := RGL _ _) dX9_toldBy_335 fl_X9_78 (by decide) rfl rfl ?_
          refine r_iload_n dX9_toldBy_338 rfl rfl ?_
          refine r_iconst dX9_toldBy_339 ?_
          refine r_isub dX9_toldBy_340 ?_
          refine r_ald dX9_toldBy_341 (by decide) rfl (by omega) (by omega) (by decide) ?_
          rw [n1, a2]
          refine r_aload_n dX9_toldBy_342 rfl rfl ?_
          refine r_get (fs := RGL _ _) dX9_toldBy_343 fl_X9_78 (by decide) rfl rfl ?_
          refine r_iload_n dX9_toldBy_346 rfl rfl ?_
          refine r_ald dX9_toldBy_347 (by decide) rfl (by omega) (by omega) (by decide) ?_
          rw [n0, a1]
          refine r_icmp_ge (tgt := 355) dX9_toldBy_348 (by decide) ⟨by omega, by omega⟩ ⟨by omega, by omega⟩ (fun g348 => ?_) (fun g348 => ?_)
          · refine r_iconst dX9_toldBy_355 ?_
            refine r_ast dX9_toldBy_356 (by decide) rfl (by omega) (by omega) (by decide) ?_
            refine r_goto (tgt := 502) dX9_toldBy_357 (by decide) ?_
            refine r_goto (tgt := 5) dX9_toldBy_502 (by decide) ?_
            first
              | rw [if_pos (by omega)] at em
              | rw [if_neg (by omega)] at em
            rw [em] at he
            rw [ut_c _ _ _ _ _ _ _ (by decide)]
            refine r_lv (lv2 := [(0, _), (1, _), (2, _), (3, _), (4, _)]) rfl ?_
            rw [show (k : Int) + 1 = ((k + 1 : Nat) : Int) by omega]
            rw [n1, show ((r.length + 1 + 1 : Nat) : Int) + -1 = ((r.length + 1 : Nat) : Int) by omega]
            refine ih (k + 1) (_ :: r) row _ gg lt lgt he (ag_push (ag_tl (ag_tl hag)) _) ?_ trg lig kp
            intro z hz
            rcases List.mem_cons.mp hz with rfl | hz
            · omega
            · exact er z hz
          · refine r_iconst dX9_toldBy_351 ?_
            refine r_goto (tgt := 356) dX9_toldBy_352 (by decide) ?_
            refine r_ast dX9_toldBy_356 (by decide) rfl (by omega) (by omega) (by decide) ?_
            refine r_goto (tgt := 502) dX9_toldBy_357 (by decide) ?_
            refine r_goto (tgt := 5) dX9_toldBy_502 (by decide) ?_
            first
              | rw [if_pos (by omega)] at em
              | rw [if_neg (by omega)] at em
            rw [em] at he
            rw [ut_c _ _ _ _ _ _ _ (by decide)]
            refine r_lv (lv2 := [(0, _), (1, _), (2, _), (3, _), (4, _)]) rfl ?_
            rw [show (k : Int) + 1 = ((k + 1 : Nat) : Int) by omega]
            rw [n1, show ((r.length + 1 + 1 : Nat) : Int) + -1 = ((r.length + 1 : Nat) : Int) by omega]
            refine ih (k + 1) (_ :: r) row _ gg lt lgt he (ag_push (ag_tl (ag_tl hag)) _) ?_ trg lig kp
            intro z hz
            rcases List.mem_cons.mp hz with rfl | hz
            · omega
            · exact er z hz
        · refine r_iconst dX9_toldBy_272 ?_
          refine r_goto (tgt := 277) dX9_toldBy_273 (by decide) ?_
          refine r_istore (lv2 := [(0, _), (1, _), (2, _), (3, _), (4, _), (5, _), (6, _), (7, _)]) dX9_toldBy_277 (by decide) rfl rfl ?_
          refine r_iload dX9_toldBy_279 rfl ?_
          refine r_iconst dX9_toldBy_281 ?_
          refine r_icmp_ne (tgt := 322) dX9_toldBy_282 (by decide) ⟨by omega, by omega⟩ ⟨by omega, by omega⟩ (fun g282 => ?_) (fun g282 => absurd g282 (by omega))
          refine r_aload_n dX9_toldBy_322 rfl rfl ?_
          refine r_get (fs := RGL _ _) dX9_toldBy_323 fl_X9_78 (by decide) rfl rfl ?_
          refine r_iload_n dX9_toldBy_326 rfl rfl ?_
          refine r_iconst dX9_toldBy_327 ?_
          refine r_isub dX9_toldBy_328 ?_
          refine r_iload dX9_toldBy_329 rfl ?_
          refine r_if_ne (tgt := 355) dX9_toldBy_331 (by decide) ⟨by omega, by omega⟩ (fun g331 => ?_) (fun g331 => absurd g331 (by omega))
          refine r_iconst dX9_toldBy_355 ?_
          refine r_ast dX9_toldBy_356 (by decide) rfl (by omega) (by omega) (by decide) ?_
          refine r_goto (tgt := 502) dX9_toldBy_357 (by decide) ?_
          refine r_goto (tgt := 5) dX9_toldBy_502 (by decide) ?_
          first
            | rw [if_pos (by omega)] at em
            | rw [if_neg (by omega)] at em
          rw [em] at he
          rw [ut_c _ _ _ _ _ _ _ (by decide)]
          refine r_lv (lv2 := [(0, _), (1, _), (2, _), (3, _), (4, _)]) rfl ?_
          rw [show (k : Int) + 1 = ((k + 1 : Nat) : Int) by omega]
          rw [n1, show ((r.length + 1 + 1 : Nat) : Int) + -1 = ((r.length + 1 : Nat) : Int) by omega]
          refine ih (k + 1) (_ :: r) row _ gg lt lgt he (ag_push (ag_tl (ag_tl hag)) _) ?_ trg lig kp
          intro z hz
          rcases List.mem_cons.mp hz with rfl | hz
          · omega
          · exact er z hz
    · obtain ⟨x, r, rfl, hb, he⟩ := he
      have bx := hB x List.mem_cons_self
      have er : ∀ z ∈ r, -1 ≤ z ∧ z < 1440 := fun z hz => hB z (List.mem_cons_of_mem _ hz)
      have a1 := ag_hd hag
      rw [List.length_cons] at hk2 ⊢
      have n1 : (((r.length + 1 : Nat) : Int) - 1).toNat = r.length := by omega
      have em : laI x (cod (k + 1)) = if x = -1 then -1 else (x + cod (k + 1)) % 1440 := rfl
      refine r_aload_n dX9_toldBy_5 rfl rfl ?_
      refine r_get (fs := RGL _ _) dX9_toldBy_6 fl_X9_72 (by decide) rfl rfl ?_
      refine r_iload dX9_toldBy_9 rfl ?_
      refine r_ald dX9_toldBy_11 (by decide) c86 (by omega) (by omega) (by decide) ?_
      rw [Int.toNat_natCast, hc]
      refine r_if_eq (tgt := 505) dX9_toldBy_12 (by decide) ⟨by omega, by omega⟩ (fun g12 => absurd g12 (by omega)) (fun g12 => ?_)
      refine r_aload_n dX9_toldBy_15 rfl rfl ?_
      refine r_get (fs := RGL _ _) dX9_toldBy_16 fl_X9_72 (by decide) rfl rfl ?_
      refine r_iload dX9_toldBy_19 rfl ?_
      refine r_ald dX9_toldBy_21 (by decide) c86 (by omega) (by omega) (by decide) ?_
      rw [Int.toNat_natCast, hc]
      refine r_istore (lv2 := [(0, _), (1, _), (2, _), (3, _), (4, _), (5, _)]) dX9_toldBy_22 (by decide) rfl rfl ?_
      refine r_aload_n dX9_toldBy_24 rfl rfl ?_
      refine r_get (fs := RGL _ _) dX9_toldBy_25 fl_X9_72 (by decide) rfl rfl ?_
      refine r_iload dX9_toldBy_28 rfl ?_
      refine r_iconst dX9_toldBy_30 ?_
      refine r_iadd dX9_toldBy_31 ?_
      refine r_ald dX9_toldBy_32 (by decide) c86 (by omega) (by omega) (by decide) ?_
      rw [ek1]
      refine r_istore (lv2 := [(0, _), (1, _), (2, _), (3, _), (4, _), (5, _), (6, _)]) dX9_toldBy_33 (by decide) rfl rfl ?_
      refine r_iload dX9_toldBy_35 rfl ?_
      refine r_iload dX9_toldBy_37 rfl ?_
      refine r_iconst dX9_toldBy_39 ?_
      refine r_icmp_eq (tgt := 68) dX9_toldBy_40 (by decide) ⟨by omega, by omega⟩ ⟨by omega, by omega⟩ (fun g40 => absurd g40 (by omega)) (fun g40 => ?_)
      refine r_iload dX9_toldBy_43 rfl ?_
      refine r_iconst dX9_toldBy_45 ?_
      refine r_icmp_eq (tgt := 68) dX9_toldBy_46 (by decide) ⟨by omega, by omega⟩ ⟨by omega, by omega⟩ (fun g46 => absurd g46 (by omega)) (fun g46 => ?_)
      refine r_iload dX9_toldBy_49 rfl ?_
      refine r_iconst dX9_toldBy_51 ?_
      refine r_icmp_eq (tgt := 68) dX9_toldBy_52 (by decide) ⟨by omega, by omega⟩ ⟨by omega, by omega⟩ (fun g52 => absurd g52 (by omega)) (fun g52 => ?_)
      refine r_iload dX9_toldBy_55 rfl ?_
      refine r_iconst dX9_toldBy_57 ?_
      refine r_icmp_eq (tgt := 68) dX9_toldBy_58 (by decide) ⟨by omega, by omega⟩ ⟨by omega, by omega⟩ (fun g58 => ?_) (fun g58 => absurd g58 (by omega))
      refine r_iconst dX9_toldBy_68 ?_
      refine r_goto (tgt := 73) dX9_toldBy_69 (by decide) ?_
      refine r_iadd dX9_toldBy_73 ?_
      refine r_istore (lv2 := [(0, _), (1, _), (2, _), (3, _), (4, _), (5, _), (6, _)]) dX9_toldBy_74 (by decide) rfl rfl ?_
      refine r_iload dX9_toldBy_76 rfl ?_
      refine r_iconst dX9_toldBy_78 ?_
      refine r_icmp_eq (tgt := 95) dX9_toldBy_79 (by decide) ⟨by omega, by omega⟩ ⟨by omega, by omega⟩ (fun g79 => absurd g79 (by omega)) (fun g79 => ?_)
      refine r_iload dX9_toldBy_82 rfl ?_
      refine r_iconst dX9_toldBy_84 ?_
      refine r_icmp_eq (tgt := 95) dX9_toldBy_85 (by decide) ⟨by omega, by omega⟩ ⟨by omega, by omega⟩ (fun g85 => absurd g85 (by omega)) (fun g85 => ?_)
      refine r_iload dX9_toldBy_88 rfl ?_
      refine r_bipush dX9_toldBy_90 rfl ?_
      refine r_icmp_ne (tgt := 155) dX9_toldBy_92 (by decide) ⟨by omega, by omega⟩ ⟨by omega, by omega⟩ (fun g92 => ?_) (fun g92 => absurd g92 (by omega))
      refine r_iload dX9_toldBy_155 rfl ?_
      refine r_iconst dX9_toldBy_157 ?_
      refine r_icmp_ne (tgt := 234) dX9_toldBy_158 (by decide) ⟨by omega, by omega⟩ ⟨by omega, by omega⟩ (fun g158 => ?_) (fun g158 => absurd g158 (by omega))
      refine r_iload dX9_toldBy_234 rfl ?_
      refine r_iconst dX9_toldBy_236 ?_
      refine r_icmp_eq (tgt := 247) dX9_toldBy_237 (by decide) ⟨by omega, by omega⟩ ⟨by omega, by omega⟩ (fun g237 => absurd g237 (by omega)) (fun g237 => ?_)
      refine r_iload dX9_toldBy_240 rfl ?_
      refine r_bipush dX9_toldBy_242 rfl ?_
      refine r_icmp_ne (tgt := 360) dX9_toldBy_244 (by decide) ⟨by omega, by omega⟩ ⟨by omega, by omega⟩ (fun g244 => ?_) (fun g244 => absurd g244 (by omega))
      refine r_iload dX9_toldBy_360 rfl ?_
      refine r_iconst dX9_toldBy_362 ?_
      refine r_icmp_ne (tgt := 407) dX9_toldBy_363 (by decide) ⟨by omega, by omega⟩ ⟨by omega, by omega⟩ (fun g363 => absurd g363 (by omega)) (fun g363 => ?_)
      refine r_aload_n dX9_toldBy_366 rfl rfl ?_
      refine r_get (fs := RGL _ _) dX9_toldBy_367 fl_X9_78 (by decide) rfl rfl ?_
      refine r_iload_n dX9_toldBy_370 rfl rfl ?_
      refine r_iconst dX9_toldBy_371 ?_
      refine r_isub dX9_toldBy_372 ?_
      refine r_aload_n dX9_toldBy_373 rfl rfl ?_
      refine r_get (fs := RGL _ _) dX9_toldBy_374 fl_X9_78 (by decide) rfl rfl ?_
      refine r_iload_n dX9_toldBy_377 rfl rfl ?_
      refine r_iconst dX9_toldBy_378 ?_
      refine r_isub dX9_toldBy_379 ?_
      refine r_ald dX9_toldBy_380 (by decide) rfl (by omega) (by omega) (by decide) ?_
      rw [n1, a1]
      refine r_iconst dX9_toldBy_381 ?_
      refine r_icmp_ne (tgt := 389) dX9_toldBy_382 (by decide) ⟨by omega, by omega⟩ ⟨by omega, by omega⟩ (fun g382 => ?_) (fun g382 => ?_)
      · refine r_aload_n dX9_toldBy_389 rfl rfl ?_
        refine r_get (fs := RGL _ _) dX9_toldBy_390 fl_X9_78 (by decide) rfl rfl ?_
        refine r_iload_n dX9_toldBy_393 rfl rfl ?_
        refine r_iconst dX9_toldBy_394 ?_
        refine r_isub dX9_toldBy_395 ?_
        refine r_ald dX9_toldBy_396 (by decide) rfl (by omega) (by omega) (by decide) ?_
        rw [n1, a1]
        refine r_iload dX9_toldBy_397 rfl ?_
        refine r_iadd dX9_toldBy_399 ?_
        refine r_callS [_] (s_X9_round (by omega)) dX9_toldBy_400 cs_X9_262 sm_X9_round (by decide) (by decide) (by decide) rfl rfl (Nat.le_of_ble_eq_true rfl) (fun _ _ _ q => q.elim) (fun v n2 h2 q => ?_)
        obtain ⟨rfl, rfl, hh⟩ := q
        obtain rfl := hh.symm
        refine ⟨rfl, ?_⟩
        dsimp only [Option.toList, List.cons_append, List.nil_append]
        refine r_ast dX9_toldBy_403 (by decide) rfl (by omega) (by omega) (by decide) ?_
        refine r_goto (tgt := 502) dX9_toldBy_404 (by decide) ?_
        refine r_goto (tgt := 5) dX9_toldBy_502 (by decide) ?_
        first
          | rw [if_pos (by omega)] at em
          | rw [if_neg (by omega)] at em
        rw [em] at he
        rw [ut_c _ _ _ _ _ _ _ (by decide)]
        refine r_lv (lv2 := [(0, _), (1, _), (2, _), (3, _), (4, _)]) rfl ?_
        rw [show (k : Int) + 2 = ((k + 2 : Nat) : Int) by omega]
        rw [n1]
        refine ih (k + 2) (_ :: r) row _ gg lt lgt he (ag_push (ag_tl hag) _) ?_ trg lig kp
        intro z hz
        rcases List.mem_cons.mp hz with rfl | hz
        · omega
        · exact er z hz
      · refine r_iconst dX9_toldBy_385 ?_
        refine r_goto (tgt := 403) dX9_toldBy_386 (by decide) ?_
        refine r_ast dX9_toldBy_403 (by decide) rfl (by omega) (by omega) (by decide) ?_
        refine r_goto (tgt := 502) dX9_toldBy_404 (by decide) ?_
        refine r_goto (tgt := 5) dX9_toldBy_502 (by decide) ?_
        first
          | rw [if_pos (by omega)] at em
          | rw [if_neg (by omega)] at em
        rw [em] at he
        rw [ut_c _ _ _ _ _ _ _ (by decide)]
        refine r_lv (lv2 := [(0, _), (1, _), (2, _), (3, _), (4, _)]) rfl ?_
        rw [show (k : Int) + 2 = ((k + 2 : Nat) : Int) by omega]
        rw [n1]
        refine ih (k + 2) (_ :: r) row _ gg lt lgt he (ag_push (ag_tl hag) _) ?_ trg lig kp
        intro z hz
        rcases List.mem_cons.mp hz with rfl | hz
        · omega
        · exact er z hz
    · obtain ⟨z0, y, x, r, rfl, he⟩ := he
      have bz := hB z0 List.mem_cons_self
      have by_ := hB y (List.mem_cons_of_mem _ List.mem_cons_self)
      have bx := hB x (List.mem_cons_of_mem _ (List.mem_cons_of_mem _ List.mem_cons_self))
      have er : ∀ z ∈ r, -1 ≤ z ∧ z < 1440 := fun z hz => hB z (List.mem_cons_of_mem _ (List.mem_cons_of_mem _ (List.mem_cons_of_mem _ hz)))
      have a1 := ag_hd hag
      have a2 := ag_hd (ag_tl hag)
      have a3 := ag_hd (ag_tl (ag_tl hag))
      rw [List.length_cons, List.length_cons] at a1
      rw [List.length_cons] at a2
      rw [List.length_cons, List.length_cons, List.length_cons] at hk2 ⊢
      have n0 : (((r.length + 1 + 1 + 1 : Nat) : Int) + -2).toNat = r.length + 1 := by omega
      have n2 : (((r.length + 1 + 1 + 1 : Nat) : Int) + -2 + 1).toNat = r.length + 1 + 1 := by omega
      have n1 : (((r.length + 1 + 1 + 1 : Nat) : Int) + -2 - 1).toNat = r.length := by omega
      refine r_aload_n dX9_toldBy_5 rfl rfl ?_
      refine r_get (fs := RGL _ _) dX9_toldBy_6 fl_X9_72 (by decide) rfl rfl ?_
      refine r_iload dX9_toldBy_9 rfl ?_
      refine r_ald dX9_toldBy_11 (by decide) c86 (by omega) (by omega) (by decide) ?_
      rw [Int.toNat_natCast, hc]
      refine r_if_eq (tgt := 505) dX9_toldBy_12 (by decide) ⟨by omega, by omega⟩ (fun g12 => absurd g12 (by omega)) (fun g12 => ?_)
      refine r_aload_n dX9_toldBy_15 rfl rfl ?_
      refine r_get (fs := RGL _ _) dX9_toldBy_16 fl_X9_72 (by decide) rfl rfl ?_
      refine r_iload dX9_toldBy_19 rfl ?_
      refine r_ald dX9_toldBy_21 (by decide) c86 (by omega) (by omega) (by decide) ?_
      rw [Int.toNat_natCast, hc]
      refine r_istore (lv2 := [(0, _), (1, _), (2, _), (3, _), (4, _), (5, _)]) dX9_toldBy_22 (by decide) rfl rfl ?_
      refine r_aload_n dX9_toldBy_24 rfl rfl ?_
      refine r_get (fs := RGL _ _) dX9_toldBy_25 fl_X9_72 (by decide) rfl rfl ?_
      refine r_iload dX9_toldBy_28 rfl ?_
      refine r_iconst dX9_toldBy_30 ?_
      refine r_iadd dX9_toldBy_31 ?_
      refine r_ald dX9_toldBy_32 (by decide) c86 (by omega) (by omega) (by decide) ?_
      rw [ek1]
      refine r_istore (lv2 := [(0, _), (1, _), (2, _), (3, _), (4, _), (5, _), (6, _)]) dX9_toldBy_33 (by decide) rfl rfl ?_
      refine r_iload dX9_toldBy_35 rfl ?_
      refine r_iload dX9_toldBy_37 rfl ?_
      refine r_iconst dX9_toldBy_39 ?_
      refine r_icmp_eq (tgt := 68) dX9_toldBy_40 (by decide) ⟨by omega, by omega⟩ ⟨by omega, by omega⟩ (fun g40 => absurd g40 (by omega)) (fun g40 => ?_)
      refine r_iload dX9_toldBy_43 rfl ?_
      refine r_iconst dX9_toldBy_45 ?_
      refine r_icmp_eq (tgt := 68) dX9_toldBy_46 (by decide) ⟨by omega, by omega⟩ ⟨by omega, by omega⟩ (fun g46 => absurd g46 (by omega)) (fun g46 => ?_)
      refine r_iload dX9_toldBy_49 rfl ?_
      refine r_iconst dX9_toldBy_51 ?_
      refine r_icmp_eq (tgt := 68) dX9_toldBy_52 (by decide) ⟨by omega, by omega⟩ ⟨by omega, by omega⟩ (fun g52 => absurd g52 (by omega)) (fun g52 => ?_)
      refine r_iload dX9_toldBy_55 rfl ?_
      refine r_iconst dX9_toldBy_57 ?_
      refine r_icmp_eq (tgt := 68) dX9_toldBy_58 (by decide) ⟨by omega, by omega⟩ ⟨by omega, by omega⟩ (fun g58 => absurd g58 (by omega)) (fun g58 => ?_)
      refine r_iload dX9_toldBy_61 rfl ?_
      refine r_bipush dX9_toldBy_63 rfl ?_
      refine r_icmp_ne (tgt := 72) dX9_toldBy_65 (by decide) ⟨by omega, by omega⟩ ⟨by omega, by omega⟩ (fun g65 => ?_) (fun g65 => absurd g65 (by omega))
      refine r_iconst dX9_toldBy_72 ?_
      refine r_iadd dX9_toldBy_73 ?_
      refine r_istore (lv2 := [(0, _), (1, _), (2, _), (3, _), (4, _), (5, _), (6, _)]) dX9_toldBy_74 (by decide) rfl rfl ?_
      refine r_iload dX9_toldBy_76 rfl ?_
      refine r_iconst dX9_toldBy_78 ?_
      refine r_icmp_eq (tgt := 95) dX9_toldBy_79 (by decide) ⟨by omega, by omega⟩ ⟨by omega, by omega⟩ (fun g79 => absurd g79 (by omega)) (fun g79 => ?_)
      refine r_iload dX9_toldBy_82 rfl ?_
      refine r_iconst dX9_toldBy_84 ?_
      refine r_icmp_eq (tgt := 95) dX9_toldBy_85 (by decide) ⟨by omega, by omega⟩ ⟨by omega, by omega⟩ (fun g85 => absurd g85 (by omega)) (fun g85 => ?_)
      refine r_iload dX9_toldBy_88 rfl ?_
      refine r_bipush dX9_toldBy_90 rfl ?_
      refine r_icmp_ne (tgt := 155) dX9_toldBy_92 (by decide) ⟨by omega, by omega⟩ ⟨by omega, by omega⟩ (fun g92 => ?_) (fun g92 => absurd g92 (by omega))
      refine r_iload dX9_toldBy_155 rfl ?_
      refine r_iconst dX9_toldBy_157 ?_
      refine r_icmp_ne (tgt := 234) dX9_toldBy_158 (by decide) ⟨by omega, by omega⟩ ⟨by omega, by omega⟩ (fun g158 => ?_) (fun g158 => absurd g158 (by omega))
      refine r_iload dX9_toldBy_234 rfl ?_
      refine r_iconst dX9_toldBy_236 ?_
      refine r_icmp_eq (tgt := 247) dX9_toldBy_237 (by decide) ⟨by omega, by omega⟩ ⟨by omega, by omega⟩ (fun g237 => absurd g237 (by omega)) (fun g237 => ?_)
      refine r_iload dX9_toldBy_240 rfl ?_
      refine r_bipush dX9_toldBy_242 rfl ?_
      refine r_icmp_ne (tgt := 360) dX9_toldBy_244 (by decide) ⟨by omega, by omega⟩ ⟨by omega, by omega⟩ (fun g244 => ?_) (fun g244 => absurd g244 (by omega))
      refine r_iload dX9_toldBy_360 rfl ?_
      refine r_iconst dX9_toldBy_362 ?_
      refine r_icmp_ne (tgt := 407) dX9_toldBy_363 (by decide) ⟨by omega, by omega⟩ ⟨by omega, by omega⟩ (fun g363 => ?_) (fun g363 => absurd g363 (by omega))
      refine r_iload dX9_toldBy_407 rfl ?_
      refine r_bipush dX9_toldBy_409 rfl ?_
      refine r_icmp_ne (tgt := 457) dX9_toldBy_411 (by decide) ⟨by omega, by omega⟩ ⟨by omega, by omega⟩ (fun g411 => absurd g411 (by omega)) (fun g411 => ?_)
      refine r_iinc (lv2 := [(0, _), (1, _), (2, _), (3, _), (4, _), (5, _), (6, _)]) dX9_toldBy_414 (by decide) rfl rfl rfl ?_
      refine r_aload_n dX9_toldBy_417 rfl rfl ?_
      refine r_get (fs := RGL _ _) dX9_toldBy_418 fl_X9_78 (by decide) rfl rfl ?_
      refine r_iload_n dX9_toldBy_421 rfl rfl ?_
      refine r_iconst dX9_toldBy_422 ?_
      refine r_isub dX9_toldBy_423 ?_
      refine r_aload_n dX9_toldBy_424 rfl rfl ?_
      refine r_get (fs := RGL _ _) dX9_toldBy_425 fl_X9_78 (by decide) rfl rfl ?_
      refine r_iload_n dX9_toldBy_428 rfl rfl ?_
      refine r_iconst dX9_toldBy_429 ?_
      refine r_isub dX9_toldBy_430 ?_
      refine r_ald dX9_toldBy_431 (by decide) rfl (by omega) (by omega) (by decide) ?_
      rw [n1, a3]
      refine r_iconst dX9_toldBy_432 ?_
      refine r_icmp_ne (tgt := 445) dX9_toldBy_433 (by decide) ⟨by omega, by omega⟩ ⟨by omega, by omega⟩ (fun g433 => ?_) (fun g433 => ?_)
      · refine r_aload_n dX9_toldBy_445 rfl rfl ?_
        refine r_get (fs := RGL _ _) dX9_toldBy_446 fl_X9_78 (by decide) rfl rfl ?_
        refine r_iload_n dX9_toldBy_449 rfl rfl ?_
        refine r_iconst dX9_toldBy_450 ?_
        refine r_iadd dX9_toldBy_451 ?_
        refine r_ald dX9_toldBy_452 (by decide) rfl (by omega) (by omega) (by decide) ?_
        first | rw [n2, a1] | skip
        refine r_ast dX9_toldBy_453 (by decide) rfl (by omega) (by omega) (by decide) ?_
        refine r_goto (tgt := 502) dX9_toldBy_454 (by decide) ?_
        refine r_goto (tgt := 5) dX9_toldBy_502 (by decide) ?_
        first
          | rw [if_pos (by omega)] at he
          | rw [if_neg (by omega)] at he
        rw [ut_c _ _ _ _ _ _ _ (by decide)]
        refine r_lv (lv2 := [(0, _), (1, _), (2, _), (3, _), (4, _)]) rfl ?_
        rw [show (k : Int) + 1 = ((k + 1 : Nat) : Int) by omega]
        rw [n1, show ((r.length + 1 + 1 + 1 : Nat) : Int) + -2 = ((r.length + 1 : Nat) : Int) by omega]
        refine ih (k + 1) (_ :: r) row _ gg lt lgt he (ag_push (ag_tl (ag_tl (ag_tl hag))) _) ?_ trg lig kp
        intro z hz
        rcases List.mem_cons.mp hz with rfl | hz
        · omega
        · exact er z hz
      · refine r_aload_n dX9_toldBy_436 rfl rfl ?_
        refine r_get (fs := RGL _ _) dX9_toldBy_437 fl_X9_78 (by decide) rfl rfl ?_
        refine r_iload_n dX9_toldBy_440 rfl rfl ?_
        refine r_ald dX9_toldBy_441 (by decide) rfl (by omega) (by omega) (by decide) ?_
        rw [n0, a2]
        refine r_goto (tgt := 453) dX9_toldBy_442 (by decide) ?_
        first | rw [n2, a1] | skip
        refine r_ast dX9_toldBy_453 (by decide) rfl (by omega) (by omega) (by decide) ?_
        refine r_goto (tgt := 502) dX9_toldBy_454 (by decide) ?_
        refine r_goto (tgt := 5) dX9_toldBy_502 (by decide) ?_
        first
          | rw [if_pos (by omega)] at he
          | rw [if_neg (by omega)] at he
        rw [ut_c _ _ _ _ _ _ _ (by decide)]
        refine r_lv (lv2 := [(0, _), (1, _), (2, _), (3, _), (4, _)]) rfl ?_
        rw [show (k : Int) + 1 = ((k + 1 : Nat) : Int) by omega]
        rw [n1, show ((r.length + 1 + 1 + 1 : Nat) : Int) + -2 = ((r.length + 1 : Nat) : Int) by omega]
        refine ih (k + 1) (_ :: r) row _ gg lt lgt he (ag_push (ag_tl (ag_tl (ag_tl hag))) _) ?_ trg lig kp
        intro z hz
        rcases List.mem_cons.mp hz with rfl | hz
        · omega
        · exact er z hz
    · obtain ⟨x, r, rfl, hb, he⟩ := he
      have bx := hB x List.mem_cons_self
      have er : ∀ z ∈ r, -1 ≤ z ∧ z < 1440 := fun z hz => hB z (List.mem_cons_of_mem _ hz)
      have a1 := ag_hd hag
      rw [List.length_cons] at hk2 ⊢
      have n1 : (((r.length + 1 : Nat) : Int) - 1).toNat = r.length := by omega
      have em : ntI x = 1 - x := rfl
      refine r_aload_n dX9_toldBy_5 rfl rfl ?_
      refine r_get (fs := RGL _ _) dX9_toldBy_6 fl_X9_72 (by decide) rfl rfl ?_
      refine r_iload dX9_toldBy_9 rfl ?_
      refine r_ald dX9_toldBy_11 (by decide) c86 (by omega) (by omega) (by decide) ?_
      rw [Int.toNat_natCast, hc]
      refine r_if_eq (tgt := 505) dX9_toldBy_12 (by decide) ⟨by omega, by omega⟩ (fun g12 => absurd g12 (by omega)) (fun g12 => ?_)
      refine r_aload_n dX9_toldBy_15 rfl rfl ?_
      refine r_get (fs := RGL _ _) dX9_toldBy_16 fl_X9_72 (by decide) rfl rfl ?_
      refine r_iload dX9_toldBy_19 rfl ?_
      refine r_ald dX9_toldBy_21 (by decide) c86 (by omega) (by omega) (by decide) ?_
      rw [Int.toNat_natCast, hc]
      refine r_istore (lv2 := [(0, _), (1, _), (2, _), (3, _), (4, _), (5, _)]) dX9_toldBy_22 (by decide) rfl rfl ?_
      refine r_aload_n dX9_toldBy_24 rfl rfl ?_
      refine r_get (fs := RGL _ _) dX9_toldBy_25 fl_X9_72 (by decide) rfl rfl ?_
      refine r_iload dX9_toldBy_28 rfl ?_
      refine r_iconst dX9_toldBy_30 ?_
      refine r_iadd dX9_toldBy_31 ?_
      refine r_ald dX9_toldBy_32 (by decide) c86 (by omega) (by omega) (by decide) ?_
      rw [ek1]
      refine r_istore (lv2 := [(0, _), (1, _), (2, _), (3, _), (4, _), (5, _), (6, _)]) dX9_toldBy_33 (by decide) rfl rfl ?_
      refine r_iload dX9_toldBy_35 rfl ?_
      refine r_iload dX9_toldBy_37 rfl ?_
      refine r_iconst dX9_toldBy_39 ?_
      refine r_icmp_eq (tgt := 68) dX9_toldBy_40 (by decide) ⟨by omega, by omega⟩ ⟨by omega, by omega⟩ (fun g40 => absurd g40 (by omega)) (fun g40 => ?_)
      refine r_iload dX9_toldBy_43 rfl ?_
      refine r_iconst dX9_toldBy_45 ?_
      refine r_icmp_eq (tgt := 68) dX9_toldBy_46 (by decide) ⟨by omega, by omega⟩ ⟨by omega, by omega⟩ (fun g46 => absurd g46 (by omega)) (fun g46 => ?_)
      refine r_iload dX9_toldBy_49 rfl ?_
      refine r_iconst dX9_toldBy_51 ?_
      refine r_icmp_eq (tgt := 68) dX9_toldBy_52 (by decide) ⟨by omega, by omega⟩ ⟨by omega, by omega⟩ (fun g52 => absurd g52 (by omega)) (fun g52 => ?_)
      refine r_iload dX9_toldBy_55 rfl ?_
      refine r_iconst dX9_toldBy_57 ?_
      refine r_icmp_eq (tgt := 68) dX9_toldBy_58 (by decide) ⟨by omega, by omega⟩ ⟨by omega, by omega⟩ (fun g58 => absurd g58 (by omega)) (fun g58 => ?_)
      refine r_iload dX9_toldBy_61 rfl ?_
      refine r_bipush dX9_toldBy_63 rfl ?_
      refine r_icmp_ne (tgt := 72) dX9_toldBy_65 (by decide) ⟨by omega, by omega⟩ ⟨by omega, by omega⟩ (fun g65 => ?_) (fun g65 => absurd g65 (by omega))
      refine r_iconst dX9_toldBy_72 ?_
      refine r_iadd dX9_toldBy_73 ?_
      refine r_istore (lv2 := [(0, _), (1, _), (2, _), (3, _), (4, _), (5, _), (6, _)]) dX9_toldBy_74 (by decide) rfl rfl ?_
      refine r_iload dX9_toldBy_76 rfl ?_
      refine r_iconst dX9_toldBy_78 ?_
      refine r_icmp_eq (tgt := 95) dX9_toldBy_79 (by decide) ⟨by omega, by omega⟩ ⟨by omega, by omega⟩ (fun g79 => absurd g79 (by omega)) (fun g79 => ?_)
      refine r_iload dX9_toldBy_82 rfl ?_
      refine r_iconst dX9_toldBy_84 ?_
      refine r_icmp_eq (tgt := 95) dX9_toldBy_85 (by decide) ⟨by omega, by omega⟩ ⟨by omega, by omega⟩ (fun g85 => absurd g85 (by omega)) (fun g85 => ?_)
      refine r_iload dX9_toldBy_88 rfl ?_
      refine r_bipush dX9_toldBy_90 rfl ?_
      refine r_icmp_ne (tgt := 155) dX9_toldBy_92 (by decide) ⟨by omega, by omega⟩ ⟨by omega, by omega⟩ (fun g92 => ?_) (fun g92 => absurd g92 (by omega))
      refine r_iload dX9_toldBy_155 rfl ?_
      refine r_iconst dX9_toldBy_157 ?_
      refine r_icmp_ne (tgt := 234) dX9_toldBy_158 (by decide) ⟨by omega, by omega⟩ ⟨by omega, by omega⟩ (fun g158 => ?_) (fun g158 => absurd g158 (by omega))
      refine r_iload dX9_toldBy_234 rfl ?_
      refine r_iconst dX9_toldBy_236 ?_
      refine r_icmp_eq (tgt := 247) dX9_toldBy_237 (by decide) ⟨by omega, by omega⟩ ⟨by omega, by omega⟩ (fun g237 => absurd g237 (by omega)) (fun g237 => ?_)
      refine r_iload dX9_toldBy_240 rfl ?_
      refine r_bipush dX9_toldBy_242 rfl ?_
      refine r_icmp_ne (tgt := 360) dX9_toldBy_244 (by decide) ⟨by omega, by omega⟩ ⟨by omega, by omega⟩ (fun g244 => ?_) (fun g244 => absurd g244 (by omega))
      refine r_iload dX9_toldBy_360 rfl ?_
      refine r_iconst dX9_toldBy_362 ?_
      refine r_icmp_ne (tgt := 407) dX9_toldBy_363 (by decide) ⟨by omega, by omega⟩ ⟨by omega, by omega⟩ (fun g363 => ?_) (fun g363 => absurd g363 (by omega))
      refine r_iload dX9_toldBy_407 rfl ?_
      refine r_bipush dX9_toldBy_409 rfl ?_
      refine r_icmp_ne (tgt := 457) dX9_toldBy_411 (by decide) ⟨by omega, by omega⟩ ⟨by omega, by omega⟩ (fun g411 => ?_) (fun g411 => absurd g411 (by omega))
      refine r_aload_n dX9_toldBy_457 rfl rfl ?_
      refine r_get (fs := RGL _ _) dX9_toldBy_458 fl_X9_78 (by decide) rfl rfl ?_
      refine r_iload_n dX9_toldBy_461 rfl rfl ?_
      refine r_iconst dX9_toldBy_462 ?_
      refine r_isub dX9_toldBy_463 ?_
      refine r_iload dX9_toldBy_464 rfl ?_
      refine r_bipush dX9_toldBy_466 rfl ?_
      refine r_icmp_ne (tgt := 484) dX9_toldBy_468 (by decide) ⟨by omega, by omega⟩ ⟨by omega, by omega⟩ (fun g468 => absurd g468 (by omega)) (fun g468 => ?_)
      refine r_iconst dX9_toldBy_471 ?_
      refine r_aload_n dX9_toldBy_472 rfl rfl ?_
      refine r_get (fs := RGL _ _) dX9_toldBy_473 fl_X9_78 (by decide) rfl rfl ?_
      refine r_iload_n dX9_toldBy_476 rfl rfl ?_
      refine r_iconst dX9_toldBy_477 ?_
      refine r_isub dX9_toldBy_478 ?_
      refine r_ald dX9_toldBy_479 (by decide) rfl (by omega) (by omega) (by decide) ?_
      rw [n1, a1]
      refine r_isub dX9_toldBy_480 ?_
      refine r_goto (tgt := 501) dX9_toldBy_481 (by decide) ?_
      refine r_ast dX9_toldBy_501 (by decide) rfl (by omega) (by omega) (by decide) ?_
      refine r_goto (tgt := 5) dX9_toldBy_502 (by decide) ?_
      rw [em] at he
      rw [ut_c _ _ _ _ _ _ _ (by decide)]
      refine r_lv (lv2 := [(0, _), (1, _), (2, _), (3, _), (4, _)]) rfl ?_
      rw [show (k : Int) + 1 = ((k + 1 : Nat) : Int) by omega]
      rw [n1]
      refine ih (k + 1) (_ :: r) row _ gg lt lgt he (ag_push (ag_tl hag) _) ?_ trg lig kp
      intro z hz
      rcases List.mem_cons.mp hz with rfl | hz
      · omega
      · exact er z hz
    · obtain ⟨x, r, rfl, he⟩ := he
      have bx := hB x List.mem_cons_self
      have er : ∀ z ∈ r, -1 ≤ z ∧ z < 1440 := fun z hz => hB z (List.mem_cons_of_mem _ hz)
      have a1 := ag_hd hag
      rw [List.length_cons] at hk2 ⊢
      have n1 : (((r.length + 1 : Nat) : Int) - 1).toNat = r.length := by omega
      have em : dkI x = if x = -1 then 1 else 0 := rfl
      refine r_aload_n dX9_toldBy_5 rfl rfl ?_
      refine r_get (fs := RGL _ _) dX9_toldBy_6 fl_X9_72 (by decide) rfl rfl ?_
      refine r_iload dX9_toldBy_9 rfl ?_
      refine r_ald dX9_toldBy_11 (by decide) c86 (by omega) (by omega) (by decide) ?_
      rw [Int.toNat_natCast, hc]
      refine r_if_eq (tgt := 505) dX9_toldBy_12 (by decide) ⟨by omega, by omega⟩ (fun g12 => absurd g12 (by omega)) (fun g12 => ?_)
      refine r_aload_n dX9_toldBy_15 rfl rfl ?_
      refine r_get (fs := RGL _ _) dX9_toldBy_16 fl_X9_72 (by decide) rfl rfl ?_
      refine r_iload dX9_toldBy_19 rfl ?_
      refine r_ald dX9_toldBy_21 (by decide) c86 (by omega) (by omega) (by decide) ?_
      rw [Int.toNat_natCast, hc]
      refine r_istore (lv2 := [(0, _), (1, _), (2, _), (3, _), (4, _), (5, _)]) dX9_toldBy_22 (by decide) rfl rfl ?_
      refine r_aload_n dX9_toldBy_24 rfl rfl ?_
      refine r_get (fs := RGL _ _) dX9_toldBy_25 fl_X9_72 (by decide) rfl rfl ?_
      refine r_iload dX9_toldBy_28 rfl ?_
      refine r_iconst dX9_toldBy_30 ?_
      refine r_iadd dX9_toldBy_31 ?_
      refine r_ald dX9_toldBy_32 (by decide) c86 (by omega) (by omega) (by decide) ?_
      rw [ek1]
      refine r_istore (lv2 := [(0, _), (1, _), (2, _), (3, _), (4, _), (5, _), (6, _)]) dX9_toldBy_33 (by decide) rfl rfl ?_
      refine r_iload dX9_toldBy_35 rfl ?_
      refine r_iload dX9_toldBy_37 rfl ?_
      refine r_iconst dX9_toldBy_39 ?_
      refine r_icmp_eq (tgt := 68) dX9_toldBy_40 (by decide) ⟨by omega, by omega⟩ ⟨by omega, by omega⟩ (fun g40 => absurd g40 (by omega)) (fun g40 => ?_)
      refine r_iload dX9_toldBy_43 rfl ?_
      refine r_iconst dX9_toldBy_45 ?_
      refine r_icmp_eq (tgt := 68) dX9_toldBy_46 (by decide) ⟨by omega, by omega⟩ ⟨by omega, by omega⟩ (fun g46 => absurd g46 (by omega)) (fun g46 => ?_)
      refine r_iload dX9_toldBy_49 rfl ?_
      refine r_iconst dX9_toldBy_51 ?_
      refine r_icmp_eq (tgt := 68) dX9_toldBy_52 (by decide) ⟨by omega, by omega⟩ ⟨by omega, by omega⟩ (fun g52 => absurd g52 (by omega)) (fun g52 => ?_)
      refine r_iload dX9_toldBy_55 rfl ?_
      refine r_iconst dX9_toldBy_57 ?_
      refine r_icmp_eq (tgt := 68) dX9_toldBy_58 (by decide) ⟨by omega, by omega⟩ ⟨by omega, by omega⟩ (fun g58 => absurd g58 (by omega)) (fun g58 => ?_)
      refine r_iload dX9_toldBy_61 rfl ?_
      refine r_bipush dX9_toldBy_63 rfl ?_
      refine r_icmp_ne (tgt := 72) dX9_toldBy_65 (by decide) ⟨by omega, by omega⟩ ⟨by omega, by omega⟩ (fun g65 => ?_) (fun g65 => absurd g65 (by omega))
      refine r_iconst dX9_toldBy_72 ?_
      refine r_iadd dX9_toldBy_73 ?_
      refine r_istore (lv2 := [(0, _), (1, _), (2, _), (3, _), (4, _), (5, _), (6, _)]) dX9_toldBy_74 (by decide) rfl rfl ?_
      refine r_iload dX9_toldBy_76 rfl ?_
      refine r_iconst dX9_toldBy_78 ?_
      refine r_icmp_eq (tgt := 95) dX9_toldBy_79 (by decide) ⟨by omega, by omega⟩ ⟨by omega, by omega⟩ (fun g79 => absurd g79 (by omega)) (fun g79 => ?_)
      refine r_iload dX9_toldBy_82 rfl ?_
      refine r_iconst dX9_toldBy_84 ?_
      refine r_icmp_eq (tgt := 95) dX9_toldBy_85 (by decide) ⟨by omega, by omega⟩ ⟨by omega, by omega⟩ (fun g85 => absurd g85 (by omega)) (fun g85 => ?_)
      refine r_iload dX9_toldBy_88 rfl ?_
      refine r_bipush dX9_toldBy_90 rfl ?_
      refine r_icmp_ne (tgt := 155) dX9_toldBy_92 (by decide) ⟨by omega, by omega⟩ ⟨by omega, by omega⟩ (fun g92 => ?_) (fun g92 => absurd g92 (by omega))
      refine r_iload dX9_toldBy_155 rfl ?_
      refine r_iconst dX9_toldBy_157 ?_
      refine r_icmp_ne (tgt := 234) dX9_toldBy_158 (by decide) ⟨by omega, by omega⟩ ⟨by omega, by omega⟩ (fun g158 => ?_) (fun g158 => absurd g158 (by omega))
      refine r_iload dX9_toldBy_234 rfl ?_
      refine r_iconst dX9_toldBy_236 ?_
      refine r_icmp_eq (tgt := 247) dX9_toldBy_237 (by decide) ⟨by omega, by omega⟩ ⟨by omega, by omega⟩ (fun g237 => absurd g237 (by omega)) (fun g237 => ?_)
      refine r_iload dX9_toldBy_240 rfl ?_
      refine r_bipush dX9_toldBy_242 rfl ?_
      refine r_icmp_ne (tgt := 360) dX9_toldBy_244 (by decide) ⟨by omega, by omega⟩ ⟨by omega, by omega⟩ (fun g244 => ?_) (fun g244 => absurd g244 (by omega))
      refine r_iload dX9_toldBy_360 rfl ?_
      refine r_iconst dX9_toldBy_362 ?_
      refine r_icmp_ne (tgt := 407) dX9_toldBy_363 (by decide) ⟨by omega, by omega⟩ ⟨by omega, by omega⟩ (fun g363 => ?_) (fun g363 => absurd g363 (by omega))
      refine r_iload dX9_toldBy_407 rfl ?_
      refine r_bipush dX9_toldBy_409 rfl ?_
      refine r_icmp_ne (tgt := 457) dX9_toldBy_411 (by decide) ⟨by omega, by omega⟩ ⟨by omega, by omega⟩ (fun g411 => ?_) (fun g411 => absurd g411 (by omega))
      refine r_aload_n dX9_toldBy_457 rfl rfl ?_
      refine r_get (fs := RGL _ _) dX9_toldBy_458 fl_X9_78 (by decide) rfl rfl ?_
      refine r_iload_n dX9_toldBy_461 rfl rfl ?_
      refine r_iconst dX9_toldBy_462 ?_
      refine r_isub dX9_toldBy_463 ?_
      refine r_iload dX9_toldBy_464 rfl ?_
      refine r_bipush dX9_toldBy_466 rfl ?_
      refine r_icmp_ne (tgt := 484) dX9_toldBy_468 (by decide) ⟨by omega, by omega⟩ ⟨by omega, by omega⟩ (fun g468 => ?_) (fun g468 => absurd g468 (by omega))
      refine r_aload_n dX9_toldBy_484 rfl rfl ?_
      refine r_get (fs := RGL _ _) dX9_toldBy_485 fl_X9_78 (by decide) rfl rfl ?_
      refine r_iload_n dX9_toldBy_488 rfl rfl ?_
      refine r_iconst dX9_toldBy_489 ?_
      refine r_isub dX9_toldBy_490 ?_
      refine r_ald dX9_toldBy_491 (by decide) rfl (by omega) (by omega) (by decide) ?_
      rw [n1, a1]
      refine r_iconst dX9_toldBy_492 ?_
      refine r_icmp_ne (tgt := 500) dX9_toldBy_493 (by decide) ⟨by omega, by omega⟩ ⟨by omega, by omega⟩ (fun g493 => ?_) (fun g493 => ?_)
      · refine r_iconst dX9_toldBy_500 ?_
        refine r_ast dX9_toldBy_501 (by decide) rfl (by omega) (by omega) (by decide) ?_
        refine r_goto (tgt := 5) dX9_toldBy_502 (by decide) ?_
        first
          | rw [if_pos (by omega)] at em
          | rw [if_neg (by omega)] at em
        rw [em] at he
        rw [ut_c _ _ _ _ _ _ _ (by decide)]
        refine r_lv (lv2 := [(0, _), (1, _), (2, _), (3, _), (4, _)]) rfl ?_
        rw [show (k : Int) + 1 = ((k + 1 : Nat) : Int) by omega]
        rw [n1]
        refine ih (k + 1) (_ :: r) row _ gg lt lgt he (ag_push (ag_tl hag) _) ?_ trg lig kp
        intro z hz
        rcases List.mem_cons.mp hz with rfl | hz
        · omega
        · exact er z hz
      · refine r_iconst dX9_toldBy_496 ?_
        refine r_goto (tgt := 501) dX9_toldBy_497 (by decide) ?_
        refine r_ast dX9_toldBy_501 (by decide) rfl (by omega) (by omega) (by decide) ?_
        refine r_goto (tgt := 5) dX9_toldBy_502 (by decide) ?_
        first
          | rw [if_pos (by omega)] at em
          | rw [if_neg (by omega)] at em
        rw [em] at he
        rw [ut_c _ _ _ _ _ _ _ (by decide)]
        refine r_lv (lv2 := [(0, _), (1, _), (2, _), (3, _), (4, _)]) rfl ?_
        rw [show (k : Int) + 1 = ((k + 1 : Nat) : Int) by omega]
        rw [n1]
        refine ih (k + 1) (_ :: r) row _ gg lt lgt he (ag_push (ag_tl hag) _) ?_ trg lig kp
        intro z hz
        rcases List.mem_cons.mp hz with rfl | hz
        · omega
        · exact er z hz

theorem s_X9_toldBy {h : aH} {g : Nat → Int} {w : Int} (c68 : h 68 = RG g w) {dl cl lm lt lgt mn : Nat → Int} (c69 : h 69 = .inl (0, 45, dl)) (c70 : h 70 = .inl (0, 60, cl)) (c71 : h 71 = .inl (0, 12, lm)) (c77 : h 77 = .inl (2, 1440, lt)) (c78 : h 78 = .inl (2, 1440, lgt)) (c79 : h 79 = .inl (0, 120, mn)) {nd sw nc nm : Int} {K U I O G L cf ct fc nx cd md my mt : Nat → Int} (tr : TellR g dl cl lm mn nd sw nc nm K U I O G L cf ct cd md my mt) (pi : PInv nd sw nc K U I O G L cf ct fc nx cd) {row pl cod : Nat → Int} (c85 : h 85 = .inl (0, 9, row)) (c86 : h 86 = .inl (0, 1500, cod)) (c88 : h 88 = .inl (0, 800, pl)) (li : LitR (g 30) lt lgt sw nc L cf ct cd) {ls : LSm} (hls : CodR nd cod ls) {day : Int} (hd : 0 ≤ day ∧ day < 365) {m : Int} (hm : 0 ≤ m ∧ m < 1440) : mSem yX9_toldBy cX9_toldBy 9 (some .int) 6 0 0 [.ref 68, iv day, iv m] 97 h (fun v n' h' => v = some (iv (ls (fun j => nowI sw nc nm K U I O G L cf ct cd md my mt ((j : Nat) : Int) day m) (day / 31))) ∧ n' = 97 ∧ ∃ rw2 pl2 g2 lt2 lg2, h' = UT (va_up (va_up h 85 (.inl (0, 9, rw2))) 88 (.inl (0, 800, pl2))) g2 w lt2 lg2 ∧ LitR (g2 30) lt2 lg2 sw nc L cf ct cd ∧ ∀ k, k ≠ 30 → g2 k = g k) noX := by
  obtain ⟨t1, t2, t3, t31, pnm, tdl, tcl, tlm, tmd, pmt, pmd, pmy⟩ := id tr
  obtain ⟨pnd, psw, pnc, pK, pU, pI, pO, pG, pL, pcf, pct, pfc, pnx⟩ := id pi
  refine mSem_of (own := RX9) (name := "toldBy") pn_X9 rfl rfl (Nat.le_of_ble_eq_true rfl) ?_
  refine r_iconst dX9_toldBy_0 ?_
  refine r_istore_n (lv2 := [(0, _), (1, _), (2, _), (3, _)]) dX9_toldBy_1 rfl (by decide) rfl rfl ?_
  refine r_iconst dX9_toldBy_2 ?_
  refine r_istore (lv2 := [(0, _), (1, _), (2, _), (3, _), (4, _)]) dX9_toldBy_3 (by decide) rfl rfl ?_
  refine ev_h (ut_s58 c68 c77 c78 c85 c88) ?_
  exact l_X9_toldBy c69 c70 c71 c79 pi c86 hd hm (tf := (fun j => nowI sw nc nm K U I O G L cf ct cd md my mt ((j : Nat) : Int) day m)) (fun _ => rfl) 1500 0 [] row pl g lt lgt (hls _ _ (fun j => now_B sw nc nm K U I O G L cf ct cd md my mt j day m) (by omega)) (fun j hj => absurd hj (Nat.not_lt_zero j)) (fun x hx => absurd hx List.not_mem_nil) tr li (fun _ _ => rfl)

