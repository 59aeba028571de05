/-! ===== pure: which minute to read next ===== -/
def toV (plain : Int → Int) (kind t ti : Int) : Int := (if plain ti = -1 then -1 else if kind = 4 ∧ (plain ti + t) % 1440 ≠ 720 then -1 else (plain ti + t) % 1440)
def grV (plain : Int → Int) (kind t ti : Int) : Int := if toV plain kind t ti = -1 then 1440 else toV plain kind t ti
theorem grV_nn (plain : Int → Int) (kind t ti : Int) : 0 ≤ grV plain kind t ti := by
  have h : -1 ≤ toV plain kind t ti := by
    unfold toV
    split
    · exact Int.le_refl _
    · split
      · exact Int.le_refl _
      · omega
  unfold grV
  split <;> omega
theorem mul_cnt (f : Int → Int) (ok : Int → Bool) (v : Int) : ∀ n, mulL f (cpL ok n) v = cntR (fun c => ok c && decide (f c = v)) 0 n := by
  intro n
  induction n with
  | zero => rfl
  | succ n ih =>
    have e1 : cpL ok (n + 1) = if ok ((n : Nat) : Int) = true then cpL ok n ++ [((n : Nat) : Int)] else cpL ok n := rfl
    rw [cnt_snoc, ← ih, e1, show (0 : Int) + (n : Int) = ((n : Nat) : Int) by omega]
    unfold mulL
    by_cases q : ok ((n : Nat) : Int) = true
    · rw [if_pos q, q, List.filter_append, List.length_append, List.filter_cons, Bool.true_and, b2i_d]
      by_cases z : f ((n : Nat) : Int) = v
      · rw [if_pos (decide_eq_true z), if_pos z]
        show (((List.filter (fun x => decide (f x = v)) (cpL ok n)).length + 1 : Nat) : Int) = _
        omega
      · rw [if_neg (by rw [decide_eq_true_eq]; exact z), if_neg z]
        show (((List.filter (fun x => decide (f x = v)) (cpL ok n)).length + 0 : Nat) : Int) = _
        omega
    · rw [if_neg q, Bool.eq_false_iff.mpr q, Bool.false_and]
      show _ = _ + (0 : Int)
      omega
theorem mul_grid {fr tt : Nat → Int} {ok : Int → Bool} (hW : ∀ c : Int, 0 ≤ c → c < 4961 → (ok c = true ↔ fr (c % 41).toNat ≤ c / 41 - 60 ∧ c / 41 - 60 ≤ tt (c % 41).toNat)) (F : Int → Int → Int) (v : Int) : mulL (fun c => F (c / 41 - 60) (c % 41 - 20)) (cpL ok 4961) v = sumI (fun i => cntR (fun t => decide ((fr i ≤ t ∧ t ≤ tt i) ∧ F t ((i : Int) - 20) = v)) (-60) 121) 41 := by
  rw [mul_cnt]
  refine Eq.trans ?_ (cnt_grid (fun t i => decide ((fr i ≤ t ∧ t ≤ tt i) ∧ F t ((i : Int) - 20) = v)) 121)
  refine cnt_congr (41 * 121) 0 (fun m h1 h2 => ?_)
  rw [Bool.eq_iff_iff, Bool.and_eq_true, decide_eq_true_eq, decide_eq_true_eq, hW m h1 (by omega), show (((m % 41).toNat : Nat) : Int) - 20 = m % 41 - 20 by omega]
theorem cnt_one {fr tt a : Int} (hB : (fr = 1 ∧ tt = 0) ∨ (-60 ≤ fr ∧ fr ≤ tt ∧ tt ≤ 60)) {p : Int → Prop} [DecidablePred p] (hp : ∀ t, -60 ≤ t → t ≤ 60 → (p t ↔ t = a)) : cntR (fun t => decide ((fr ≤ t ∧ t ≤ tt) ∧ p t)) (-60) 121 = if fr ≤ a ∧ a ≤ tt then 1 else 0 := by
  by_cases q : fr ≤ a ∧ a ≤ tt
  · rw [if_pos q]
    refine (cnt_congr (q := fun t => decide (a ≤ t ∧ t ≤ a)) 121 (-60) (fun m h1 h2 => ?_)).trans ?_
    · rw [decide_eq_decide, hp m h1 (by omega)]
      omega
    · rw [cnt_iv]
      omega
  · rw [if_neg q]
    refine (cnt_congr (q := fun _ => false) 121 (-60) (fun m h1 h2 => ?_)).trans (cnt_zero 121 (-60))
    rw [decide_eq_false_iff_not, hp m h1 (by omega)]
    omega
theorem co_sum (fr tt : Nat → Int) (a : Int) : ∀ k, coI fr tt a k = sumI (fun i => if fr i ≤ a ∧ a ≤ tt i then 1 else 0) k := by
  intro k
  induction k with
  | zero => rfl
  | succ k ih => unfold coI sumI; rw [ih]
theorem mul_two (f : Int → Int) {u v : Int} (huv : ¬ u = v) : ∀ l : List Int, (∀ x ∈ l, f x = u ∨ f x = v) → mulL f l u + mulL f l v = (l.length : Int) := by
  intro l
  induction l with
  | nil => intro _; rfl
  | cons x r ih =>
    intro h
    have h1 := ih (fun y hy => h y (List.mem_cons_of_mem _ hy))
    rw [mul_cons, mul_cons, List.length_cons]
    rcases h x List.mem_cons_self with e | e
    · rw [if_pos e, if_neg (fun z => huv (e.symm.trans z))]
      omega
    · rw [if_neg (fun z => huv (z.symm.trans e)), if_pos e]
      omega
theorem mul_0 {f : Int → Int} {l : List Int} {v : Int} (h : ∀ x ∈ l, ¬ f x = v) : mulL f l v = 0 := by
  unfold mulL
  rw [List.filter_eq_nil_iff.mpr (fun y hy => by rw [decide_eq_true_eq]; exact h y hy)]
  rfl
theorem pSum_u2 (f : Nat → Int) (p : Nat) (u : Int) : ∀ n, pSum (va_up f p (f p + u)) n = pSum f n + (if p < n then u else 0) := by
  intro n
  induction n with
  | zero => rw [if_neg (by omega)]; rfl
  | succ n ih =>
    show pSum (va_up f p (f p + u)) n + va_up f p (f p + u) n = pSum f n + f n + _
    rw [ih]
    by_cases e : n = p
    · subst e
      rw [va_up_self, if_neg (by omega), if_pos (by omega)]
      omega
    · rw [va_up_ne _ _ e]
      by_cases z : p < n
      · rw [if_pos z, if_pos (by omega)]
        omega
      · rw [if_neg z, if_neg (by omega)]
        omega
theorem pSum_st (f : Nat → Int) {at_ : Int} (h : 0 ≤ at_ + 310 ∧ at_ + 310 < 621) (u : Int) (n : Nat) : pSum (stI f at_ u) n = pSum f n + (if at_ + 310 < (n : Int) then u else 0) := by
  unfold stI
  rw [if_pos h, pSum_u2]
  by_cases z : at_ + 310 < (n : Int)
  · rw [if_pos z, if_pos (by omega)]
  · rw [if_neg z, if_neg (by omega)]
theorem pSum_0 : ∀ n, pSum (fun _ => 0) n = 0 := by
  intro n
  induction n with
  | zero => rfl
  | succ n ih => show pSum (fun _ => 0) n + 0 = 0; rw [ih]; rfl
theorem gs_sum {fr tt : Nat → Int} (hB : ∀ i, i < 41 → (fr i = 1 ∧ tt i = 0) ∨ (-60 ≤ fr i ∧ fr i ≤ tt i ∧ tt i ≤ 60)) {off : Int → Int} (ho : ∀ i : Nat, i < 41 → -240 ≤ off ((i : Int) - 20) ∧ off ((i : Int) - 20) ≤ 240) (n : Nat) : ∀ k, k ≤ 41 → pSum (gsS fr tt off (fun _ => 0) k) (n + 1) = sumI (fun i => if fr i ≤ ((n : Int) - 310) - off ((i : Int) - 20) ∧ ((n : Int) - 310) - off ((i : Int) - 20) ≤ tt i then 1 else 0) k := by
  intro k
  induction k with
  | zero => intro _; exact pSum_0 _
  | succ k ih =>
    intro hk
    have h1 := ih (by omega)
    have h2 := ho k (by omega)
    have h3 := hB k (by omega)
    unfold gsS sumI
    rw [← h1]
    by_cases q : fr k ≤ tt k
    · rw [if_pos q, pSum_st _ (by omega), pSum_st _ (by omega)]
      by_cases z : fr k ≤ ((n : Int) - 310) - off ((k : Int) - 20) ∧ ((n : Int) - 310) - off ((k : Int) - 20) ≤ tt k
      · rw [if_pos z, if_pos (by omega), if_neg (by omega)]
        omega
      · rw [if_neg z]
        by_cases z2 : off ((k : Int) - 20) + fr k + 310 < ((n + 1 : Nat) : Int)
        · rw [if_pos z2, if_pos (by omega)]
          omega
        · rw [if_neg z2, if_neg (by omega)]
          omega
    · rw [if_neg q, if_neg (by omega)]
      omega
theorem hi_spec (f : Nat → Int) : ∀ n, 0 ≤ hiI f n ∧ (∀ k, k < n → pSum f (k + 1) ≤ hiI f n) ∧ (hiI f n = 0 ∨ ∃ k, k < n ∧ hiI f n = pSum f (k + 1)) := by
  intro n
  induction n with
  | zero => exact ⟨Int.le_refl _, fun k hk => absurd hk (Nat.not_lt_zero k), Or.inl rfl⟩
  | succ n ih =>
    obtain ⟨h1, h2, h3⟩ := ih
    have e1 : hiI f (n + 1) = max (hiI f n) (pSum f (n + 1)) := rfl
    rw [e1]
    refine ⟨by omega, fun k hk => ?_, ?_⟩
    · by_cases e : k = n
      · subst e; omega
      · have := h2 k (by omega)
        omega
    · rcases (show max (hiI f n) (pSum f (n + 1)) = hiI f n ∨ max (hiI f n) (pSum f (n + 1)) = pSum f (n + 1) by omega) with e | e
      · rw [e]
        rcases h3 with h3 | ⟨k, a, b⟩
        · exact Or.inl h3
        · exact Or.inr ⟨k, by omega, b⟩
      · exact Or.inr ⟨n, by omega, e⟩
theorem sum_pos {f : Nat → Int} : ∀ k, (∀ i, i < k → 0 ≤ f i) → 0 < sumI f k → ∃ i, i < k ∧ 0 < f i := by
  intro k
  induction k with
  | zero => intro _ h; exact absurd h (show ¬ (0 : Int) < 0 by decide)
  | succ k ih =>
    intro h0 h
    by_cases q : 0 < f k
    · exact ⟨k, by omega, q⟩
    · have e1 : sumI f (k + 1) = sumI f k + f k := rfl
      obtain ⟨i, a, b⟩ := ih (fun i hi => h0 i (by omega)) (by have := h0 k (by omega); omega)
      exact ⟨i, by omega, b⟩
theorem gg_eq {fr tt : Nat → Int} {ok : Int → Bool} (hB : ∀ i, i < 41 → (fr i = 1 ∧ tt i = 0) ∨ (-60 ≤ fr i ∧ fr i ≤ tt i ∧ tt i ≤ 60)) (hW : ∀ c : Int, 0 ≤ c → c < 4961 → (ok c = true ↔ fr (c % 41).toNat ≤ c / 41 - 60 ∧ c / 41 - 60 ≤ tt (c % 41).toNat)) {plain : Int → Int} {kind : Int} (hpb : ∀ ti, -1 ≤ plain ti ∧ plain ti < 1440) (h1 : ∀ ti, plain ti = -1 ↔ plain 0 = -1) (h2 : kind = 4 → ∀ ti, plain ti = plain 0) (h3 : ¬ kind = 4 → ¬ plain 0 = -1 → ∀ ti, -20 ≤ ti → ti ≤ 20 → (-240 ≤ aroundI (plain ti - plain 0) ∧ aroundI (plain ti - plain 0) ≤ 240)) {cp : Int} (hcp : cp = ((cpL ok 4961).length : Int)) (hne : ¬ cp = 0) : ggI fr tt plain kind cp = (grF (fun c => grV plain kind (c / 41 - 60) (c % 41 - 20)) (cpL ok 4961) (fun _ => 0, 0)).2 := by
  have hm := fun x => cpL_mem (ok := ok) (x := x) 4961
  have hlc : ∃ x, x ∈ cpL ok 4961 := by
    cases hq : cpL ok 4961 with
    | nil => rw [hq] at hcp; exact absurd hcp hne
    | cons a r => exact ⟨a, List.mem_cons_self⟩
  have hf0 : ∀ x ∈ cpL ok 4961, 0 ≤ grV plain kind (x / 41 - 60) (x % 41 - 20) := by
    intro x _
    exact grV_nn _ _ _ _
  obtain ⟨g1, g2, g3⟩ := gr_spec (fun c => grV plain kind (c / 41 - 60) (c % 41 - 20)) (cpL ok 4961) (fun _ => 0) 0 hf0
  obtain ⟨R, hR⟩ : ∃ z, (grF (fun c => grV plain kind (c / 41 - 60) (c % 41 - 20)) (cpL ok 4961) (fun _ => 0, 0)).2 = z := ⟨_, rfl⟩
  rw [hR] at g1 g2 g3 ⊢
  have hgrid := fun v => mul_grid hW (grV plain kind) v
  obtain ⟨x0, hx0⟩ := hlc
  unfold ggI
  by_cases q1 : plain 0 = -1
  · rw [if_pos q1]
    have hc : ∀ t ti, grV plain kind t ti = 1440 := by
      intro t ti
      unfold grV toV
      rw [if_pos ((h1 ti).mpr q1), if_pos rfl]
    have hl : mulL (fun c => grV plain kind (c / 41 - 60) (c % 41 - 20)) (cpL ok 4961) 1440 = cp := by
      rw [hcp]
      unfold mulL
      rw [List.filter_eq_self.mpr (fun a _ => decide_eq_true (hc _ _))]
    have g4 := g2 x0 hx0
    rw [hc, hl] at g4
    rcases g3 with g3 | ⟨y, hy, g3⟩
    · omega
    · rw [hc, hl] at g3
      omega
  · rw [if_neg q1]
    by_cases q2 : kind = 4
    · rw [if_pos q2]
      have hp := h2 q2
      obtain ⟨a, ha⟩ : ∃ z, aroundI (720 - plain 0) = z := ⟨_, rfl⟩
      rw [ha]
      have hb0 := hpb 0
      have hv : ∀ t ti, -60 ≤ t → t ≤ 60 → grV plain kind t ti = if t = a then 720 else 1440 := by
        intro t ti t1 t2
        unfold grV toV
        rw [hp ti, if_neg q1]
        unfold aroundI at ha
        by_cases z : t = a
        · rw [if_pos z, if_neg (show ¬ (kind = 4 ∧ (plain 0 + t) % 1440 ≠ 720) by omega), if_neg (show ¬ (plain 0 + t) % 1440 = -1 by omega)]
          omega
        · rw [if_neg z, if_pos (show kind = 4 ∧ (plain 0 + t) % 1440 ≠ 720 from ⟨q2, by omega⟩), if_pos rfl]
      have hx : ∀ x ∈ cpL ok 4961, grV plain kind (x / 41 - 60) (x % 41 - 20) = 720 ∨ grV plain kind (x / 41 - 60) (x % 41 - 20) = 1440 := by
        intro x hx
        obtain ⟨b1, b2⟩ := (hm x).mp hx
        rw [hv _ _ (by omega) (by omega)]
        split
        · exact Or.inl rfl
        · exact Or.inr rfl
      have hco : mulL (fun c => grV plain kind (c / 41 - 60) (c % 41 - 20)) (cpL ok 4961) 720 = coI fr tt a 41 := by
        rw [hgrid, co_sum]
        refine sumI_congr 41 (fun i hi => ?_)
        refine cnt_one (hB i hi) (fun t t1 t2 => ?_)
        rw [hv t _ t1 t2]
        by_cases z : t = a
        · rw [if_pos z]; exact ⟨fun _ => z, fun _ => rfl⟩
        · rw [if_neg z]; exact ⟨fun w => absurd w (by decide), fun w => absurd w z⟩
      have hsum := mul_two (fun c => grV plain kind (c / 41 - 60) (c % 41 - 20)) (u := 720) (v := 1440) (by decide) (cpL ok 4961) hx
      rw [hco, ← hcp] at hsum
      have n1 := mul_nn (fun c => grV plain kind (c / 41 - 60) (c % 41 - 20)) (cpL ok 4961) 1440
      have n2 := mul_nn (fun c => grV plain kind (c / 41 - 60) (c % 41 - 20)) (cpL ok 4961) 720
      rw [hco] at n2
      have u1 : coI fr tt a 41 ≤ R := by
        by_cases z : ∃ x ∈ cpL ok 4961, grV plain kind (x / 41 - 60) (x % 41 - 20) = 720
        · obtain ⟨x, hx, z⟩ := z
          have := g2 x hx
          rw [z, hco] at this
          omega
        · have := mul_0 (f := fun c => grV plain kind (c / 41 - 60) (c % 41 - 20)) (l := cpL ok 4961) (v := 720) (fun x hx w => z ⟨x, hx, w⟩)
          omega
      have u2 : mulL (fun c => grV plain kind (c / 41 - 60) (c % 41 - 20)) (cpL ok 4961) 1440 ≤ R := by
        by_cases z : ∃ x ∈ cpL ok 4961, grV plain kind (x / 41 - 60) (x % 41 - 20) = 1440
        · obtain ⟨x, hx, z⟩ := z
          have := g2 x hx
          rw [z] at this
          omega
        · have := mul_0 (f := fun c => grV plain kind (c / 41 - 60) (c % 41 - 20)) (l := cpL ok 4961) (v := 1440) (fun x hx w => z ⟨x, hx, w⟩)
          omega
      rcases g3 with g3 | ⟨y, hy, g3⟩
      · omega
      · rcases hx y hy with e | e
        · rw [e, hco] at g3
          omega
        · rw [e] at g3
          omega
    · rw [if_neg q2]
      have hof := h3 q2 q1
      have hb0 := hpb 0
      have hv : ∀ t ti, grV plain kind t ti = (plain ti + t) % 1440 := by
        intro t ti
        unfold grV toV
        rw [if_neg (fun w => q1 ((h1 ti).mp w)), if_neg (show ¬ (kind = 4 ∧ (plain ti + t) % 1440 ≠ 720) from fun w => q2 w.1), if_neg (show ¬ (plain ti + t) % 1440 = -1 by omega)]
      -- the height at a place
      have hH : ∀ p : Int, -310 ≤ p → p ≤ 310 → mulL (fun c => grV plain kind (c / 41 - 60) (c % 41 - 20)) (cpL ok 4961) ((plain 0 + p) % 1440) = sumI (fun i => if fr i ≤ p - aroundI (plain ((i : Int) - 20) - plain 0) ∧ p - aroundI (plain ((i : Int) - 20) - plain 0) ≤ tt i then 1 else 0) 41 := by
        intro p p1 p2
        rw [hgrid]
        refine sumI_congr 41 (fun i hi => ?_)
        have ho := hof ((i : Int) - 20) (by omega) (by omega)
        refine cnt_one (hB i hi) (fun t t1 t2 => ?_)
        rw [hv]
        unfold aroundI at ho ⊢
        omega
      obtain ⟨i1, i2, i3⟩ := hi_spec (gsS fr tt (fun ti => aroundI (plain ti - plain 0)) (fun _ => 0) 41) 621
      have hps := fun n => gs_sum hB (off := fun ti => aroundI (plain ti - plain 0)) (fun i hi => hof ((i : Int) - 20) (by omega) (by omega)) n 41 (Nat.le_refl _)
      obtain ⟨X, hX⟩ : ∃ z, hiI (gsS fr tt (fun ti => aroundI (plain ti - plain 0)) (fun _ => 0) 41) 621 = z := ⟨_, rfl⟩
      rw [hX] at i1 i2 i3 ⊢
      have hle : X ≤ R := by
        rcases i3 with i3 | ⟨k, k1, k2⟩
        · omega
        · rw [hps k] at k2
          by_cases z : 0 < X
          · have z2 := z
            rw [k2] at z2
            obtain ⟨i, a, b⟩ := sum_pos 41 (fun i _ => by show (0 : Int) ≤ (if _ then _ else _); split <;> decide) z2
            by_cases w : fr i ≤ ((k : Int) - 310) - aroundI (plain ((i : Int) - 20) - plain 0) ∧ ((k : Int) - 310) - aroundI (plain ((i : Int) - 20) - plain 0) ≤ tt i
            · skip
              have ho := hof ((i : Int) - 20) (by omega) (by omega)
              have hb := hB i a
              have hin : 41 * ((k : Int) - 310 - aroundI (plain ((i : Int) - 20) - plain 0) + 60) + (i : Int) ∈ cpL ok 4961 := by
                refine (hm _).mpr ⟨by omega, (hW _ (by omega) (by omega)).mpr ?_⟩
                rw [show (41 * ((k : Int) - 310 - aroundI (plain ((i : Int) - 20) - plain 0) + 60) + (i : Int)) / 41 - 60 = (k : Int) - 310 - aroundI (plain ((i : Int) - 20) - plain 0) by omega, show ((41 * ((k : Int) - 310 - aroundI (plain ((i : Int) - 20) - plain 0) + 60) + (i : Int)) % 41).toNat = i by omega]
                exact w
              have h5 := g2 _ hin
              have e5 : grV plain kind ((41 * ((k : Int) - 310 - aroundI (plain ((i : Int) - 20) - plain 0) + 60) + (i : Int)) / 41 - 60) ((41 * ((k : Int) - 310 - aroundI (plain ((i : Int) - 20) - plain 0) + 60) + (i : Int)) % 41 - 20) = (plain 0 + ((k : Int) - 310)) % 1440 := by
                rw [show (41 * ((k : Int) - 310 - aroundI (plain ((i : Int) - 20) - plain 0) + 60) + (i : Int)) / 41 - 60 = (k : Int) - 310 - aroundI (plain ((i : Int) - 20) - plain 0) by omega, show (41 * ((k : Int) - 310 - aroundI (plain ((i : Int) - 20) - plain 0) + 60) + (i : Int)) % 41 - 20 = (i : Int) - 20 by omega, hv]
                unfold aroundI
                omega
              rw [e5, hH _ (by omega) (by omega)] at h5
              omega
            · have b3 : (0 : Int) < (if fr i ≤ ((k : Int) - 310) - aroundI (plain ((i : Int) - 20) - plain 0) ∧ ((k : Int) - 310) - aroundI (plain ((i : Int) - 20) - plain 0) ≤ tt i then 1 else 0) := b
              rw [if_neg w] at b3
              exact absurd b3 (by decide)
          · omega
      have hge : R ≤ X := by
        rcases g3 with g3 | ⟨y, hy, g3⟩
        · omega
        · obtain ⟨b1, b2⟩ := (hm y).mp hy
          have ho := hof (y % 41 - 20) (by omega) (by omega)
          obtain ⟨p, hp⟩ : ∃ p, aroundI (plain (y % 41 - 20) - plain 0) + (y / 41 - 60) = p := ⟨_, rfl⟩
          have e6 : grV plain kind (y / 41 - 60) (y % 41 - 20) = (plain 0 + p) % 1440 := by
            rw [hv, ← hp]
            unfold aroundI
            omega
          rw [e6, hH p (by omega) (by omega)] at g3
          have h6 := i2 (p + 310).toNat (by omega)
          rw [hps] at h6
          rw [show (((p + 310).toNat : Nat) : Int) - 310 = p by omega] at h6
          omega
      omega
theorem pln_dark {kind tilt t2 town g day m noon half : Int} {cl : Bool} : plainI kind tilt town g day m noon half cl = -1 ↔ plainI kind t2 town g day m noon half cl = -1 := by
  unfold plainI
  by_cases q1 : grownI g kind day = true
  · rw [if_pos q1, if_pos q1]
  · rw [if_neg q1, if_neg q1]
    by_cases q2 : angI kind day m noon half cl = -100000
    · rw [if_pos q2, if_pos q2]
    · rw [if_neg q2, if_neg q2]
      constructor
      · intro h; omega
      · intro h; omega
theorem pln_can {tilt t2 town g day m noon half : Int} {cl : Bool} : plainI 4 tilt town g day m noon half cl = plainI 4 t2 town g day m noon half cl := by
  unfold plainI tiltI
  simp
theorem pln_off {kind ti town g day m noon half : Int} {cl : Bool} (hm : 0 ≤ m ∧ m < 1440) (hn : 690 ≤ noon ∧ noon ≤ 750) (hh : 120 ≤ half ∧ half ≤ 600) (hk : ¬ kind = 4) (h0 : ¬ plainI kind 0 town g day m noon half cl = -1) (ht : -20 ≤ ti ∧ ti ≤ 20) : -240 ≤ aroundI (plainI kind ti town g day m noon half cl - plainI kind 0 town g day m noon half cl) ∧ aroundI (plainI kind ti town g day m noon half cl - plainI kind 0 town g day m noon half cl) ≤ 240 := by
  unfold plainI at h0 ⊢
  by_cases q1 : grownI g kind day = true
  · rw [if_pos q1] at h0; exact absurd rfl h0
  · rw [if_neg q1] at h0 ⊢
    rw [if_neg q1]
    obtain ⟨a, ha⟩ : ∃ a, angI kind day m noon half cl = a := ⟨_, rfl⟩
    rw [ha] at h0 ⊢
    by_cases q2 : a = -100000
    · rw [if_pos q2] at h0; exact absurd rfl h0
    · rw [if_neg q2, if_neg q2]
      have hab : -600 ≤ a ∧ a ≤ 600 := by
        by_cases q5 : kind = 5
        · unfold angI at ha
          rw [if_neg (by omega), if_pos q5] at ha
          omega
        · exact (ang_min q5 hm hn hh ha q2).2
      unfold aroundI
      by_cases q3 : tiltI kind = true
      · rw [if_pos q3, if_pos q3, mul100]
        obtain ⟨r, e1, e2, e3⟩ := td_B (a * (100 + ti)) (s := 100) (by decide)
        have e4 : a * (100 + ti) = a * 100 + a * ti := Int.mul_add _ _ _
        have e5 : -12000 ≤ a * ti ∧ a * ti ≤ 12000 := by
          have a1 := Int.mul_le_mul_of_nonneg_right hab.2 (show (0 : Int) ≤ ti + 20 by omega)
          have a2 := Int.mul_le_mul_of_nonneg_right hab.1 (show (0 : Int) ≤ ti + 20 by omega)
          have a3 : a * (ti + 20) = a * ti + a * 20 := Int.mul_add _ _ _
          have b1 := Int.mul_le_mul_of_nonneg_right hab.2 (show (0 : Int) ≤ 20 - ti by omega)
          have b2 := Int.mul_le_mul_of_nonneg_right hab.1 (show (0 : Int) ≤ 20 - ti by omega)
          have b3 : a * (20 - ti) = a * 20 - a * ti := Int.mul_sub _ _ _
          omega
        omega
      · rw [if_neg q3, if_neg q3]
        omega

theorem grV_tld {kind town g day m noon half : Int} {cl : Bool} (t ti : Int) : (if toldI kind t ti town g day m noon half cl = -1 then 1440 else toldI kind t ti town g day m noon half cl) = grV (fun ti => plainI kind ti town g day m noon half cl) kind t ti := rfl

