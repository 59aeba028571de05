/-! ===== pure: faults ===== -/
def sumI (f : Nat → Int) : Nat → Int
  | 0 => 0
  | k + 1 => sumI f k + f k
theorem sumI_congr {f g : Nat → Int} : ∀ k, (∀ i, i < k → f i = g i) → sumI f k = sumI g k := by
  intro k
  induction k with
  | zero => intro _; rfl
  | succ k ih =>
    intro h
    unfold sumI
    rw [ih (fun i hi => h i (by omega)), h k (by omega)]
theorem sumI_add (f g : Nat → Int) : ∀ k, sumI (fun i => f i + g i) k = sumI f k + sumI g k := by
  intro k
  induction k with
  | zero => rfl
  | succ k ih =>
    unfold sumI
    rw [ih]
    omega
theorem sumI_nn {f : Nat → Int} : ∀ k, (∀ i, i < k → 0 ≤ f i) → 0 ≤ sumI f k := by
  intro k
  induction k with
  | zero => intro _; exact Int.le_refl _
  | succ k ih =>
    intro h
    have h1 := ih (fun i hi => h i (by omega))
    have h2 := h k (by omega)
    unfold sumI
    omega
theorem cnt_split (p : Int → Bool) (n : Nat) : ∀ (k : Nat) (a : Int), cntR p a (n + k) = cntR p a n + cntR p (a + n) k := by
  intro k
  induction k with
  | zero => intro a; show cntR p a n = cntR p a n + 0; omega
  | succ k ih =>
    intro a
    rw [← Nat.add_assoc, cnt_snoc, ih, cnt_snoc, show a + ((n + k : Nat) : Int) = a + (n : Int) + (k : Int) by omega]
    omega
theorem cnt_sum (p : Int → Bool) (a : Int) : ∀ k : Nat, cntR p a k = sumI (fun i => b2i (p (a + (i : Nat)))) k := by
  intro k
  induction k with
  | zero => rfl
  | succ k ih => rw [cnt_snoc, ih]; rfl
/-- a grid, by rows or by columns -/
theorem cnt_grid (p : Int → Nat → Bool) : ∀ n : Nat, cntR (fun c => p (c / 41 - 60) (c % 41).toNat) 0 (41 * n) = sumI (fun i => cntR (fun t => p t i) (-60) n) 41 := by
  intro n
  induction n with
  | zero =>
    show (0 : Int) = sumI (fun _ => 0) 41
    decide
  | succ n ih =>
    rw [show 41 * (n + 1) = 41 * n + 41 by omega, cnt_split, ih, cnt_sum]
    rw [← sumI_add]
    refine sumI_congr 41 (fun i hi => ?_)
    rw [cnt_snoc]
    congr 2
    show p ((0 + ((41 * n : Nat) : Int) + (i : Int)) / 41 - 60) ((0 + ((41 * n : Nat) : Int) + (i : Int)) % 41).toNat = p (-60 + (n : Int)) i
    rw [show (0 + ((41 * n : Nat) : Int) + (i : Int)) / 41 - 60 = -60 + (n : Int) by omega, show ((0 + ((41 * n : Nat) : Int) + (i : Int)) % 41).toNat = i by omega]
theorem cpL_cnt (ok : Int → Bool) : ∀ n, ((cpL ok n).length : Int) = cntR ok 0 n := by
  intro n
  induction n with
  | zero => rfl
  | succ n ih =>
    have e1 : cpL ok (n + 1) = if ok ((n : Nat) : Int) = true then cpL ok n ++ [((n : Nat) : Int)] else cpL ok n := rfl
    rw [cnt_snoc, ← ih, e1, show (0 : Int) + (n : Int) = ((n : Nat) : Int) by omega]
    by_cases q : ok ((n : Nat) : Int) = true
    · rw [if_pos q, q, List.length_append]
      show (((cpL ok n).length + 1 : Nat) : Int) = _ + 1
      omega
    · rw [if_neg q, Bool.eq_false_iff.mpr q]
      show _ = _ + (0 : Int)
      omega
theorem cpL_mem {ok : Int → Bool} {x : Int} : ∀ n, x ∈ cpL ok n ↔ (0 ≤ x ∧ x < (n : Int)) ∧ ok x = true := by
  intro n
  induction n with
  | zero => constructor
            · intro h; exact absurd h List.not_mem_nil
            · rintro ⟨h, _⟩; omega
  | succ n ih =>
    unfold cpL
    by_cases q : ok ((n : Nat) : Int) = true
    · rw [if_pos q, List.mem_append, ih, List.mem_singleton]
      constructor
      · rintro (⟨h1, h2⟩ | h)
        · exact ⟨by omega, h2⟩
        · subst h; exact ⟨by omega, q⟩
      · rintro ⟨h1, h2⟩
        by_cases e : x = ((n : Nat) : Int)
        · exact Or.inr e
        · exact Or.inl ⟨by omega, h2⟩
    · rw [if_neg q, ih]
      constructor
      · rintro ⟨h1, h2⟩; exact ⟨by omega, h2⟩
      · rintro ⟨h1, h2⟩
        by_cases e : x = ((n : Nat) : Int)
        · subst e; exact absurd h2 q
        · exact ⟨by omega, h2⟩
theorem cpL_ends {ok : Int → Bool} : ∀ n, ¬ cpL ok n = [] → ((cpL ok n).getD 0 0 ∈ cpL ok n ∧ ∀ x ∈ cpL ok n, (cpL ok n).getD 0 0 ≤ x) ∧ ((cpL ok n).getD ((cpL ok n).length - 1) 0 ∈ cpL ok n ∧ ∀ x ∈ cpL ok n, x ≤ (cpL ok n).getD ((cpL ok n).length - 1) 0) := by
  intro n
  induction n with
  | zero => intro h; exact absurd rfl h
  | succ n ih =>
    intro h
    have hm := fun x => cpL_mem (ok := ok) (x := x) n
    by_cases q : ok ((n : Nat) : Int) = true
    · have e1 : cpL ok (n + 1) = cpL ok n ++ [((n : Nat) : Int)] := if_pos q
      have hlast : (cpL ok (n + 1)).getD ((cpL ok (n + 1)).length - 1) 0 = ((n : Nat) : Int) := by
        rw [e1, List.length_append, List.getD_eq_getElem?_getD]
        show ((cpL ok n ++ [((n : Nat) : Int)])[(cpL ok n).length + 1 - 1]?).getD 0 = _
        rw [Nat.add_sub_cancel, List.getElem?_append_right (Nat.le_refl _), Nat.sub_self]
        rfl
      refine ⟨?_, ?_, fun x hx => ?_⟩
      · by_cases hn : cpL ok n = []
        · rw [e1, hn]
          refine ⟨List.mem_cons_self, fun x hx => ?_⟩
          rw [List.nil_append, List.mem_singleton] at hx
          rw [hx]
          exact Int.le_refl _
        · obtain ⟨h1, h2⟩ := (ih hn).1
          have hl : 0 < (cpL ok n).length := List.length_pos_iff.mpr hn
          have e2 : (cpL ok (n + 1)).getD 0 0 = (cpL ok n).getD 0 0 := by
            rw [e1, List.getD_eq_getElem?_getD, List.getElem?_append_left hl, ← List.getD_eq_getElem?_getD]
          rw [e2]
          refine ⟨by rw [e1]; exact List.mem_append_left _ h1, fun x hx => ?_⟩
          rw [e1, List.mem_append, List.mem_singleton] at hx
          rcases hx with hx | hx
          · exact h2 x hx
          · have := (hm _).mp h1
            omega
      · rw [hlast, e1]
        exact List.mem_append_right _ List.mem_cons_self
      · rw [hlast]
        rw [e1, List.mem_append, List.mem_singleton] at hx
        rcases hx with hx | hx
        · have := (hm _).mp hx
          omega
        · omega
    · have e1 : cpL ok (n + 1) = cpL ok n := if_neg q
      rw [e1] at h ⊢
      exact ih h
theorem cpS_sum (w : Nat → Int × Int) : ∀ k, cpS w k = sumI (fun i => (w i).2 - (w i).1 + 1) k := by
  intro k
  induction k with
  | zero => rfl
  | succ k ih => unfold cpS sumI; rw [ih]
theorem ft_cnt {fr tt : Nat → Int} {ok : Int → Bool} (hB : ∀ i, i < 41 → (fr i = 1 ∧ tt i = 0) ∨ (-60 ≤ fr i ∧ fr i ≤ tt i ∧ tt i ≤ 60)) (hW : ∀ c : Int, 0 ≤ c → c < 4961 → (ok c = true ↔ fr (c % 41).toNat ≤ c / 41 - 60 ∧ c / 41 - 60 ≤ tt (c % 41).toNat)) : ((cpL ok 4961).length : Int) = sumI (fun i => tt i - fr i + 1) 41 := by
  rw [cpL_cnt]
  have e1 : cntR ok 0 4961 = cntR (fun c => decide (fr (c % 41).toNat ≤ c / 41 - 60 ∧ c / 41 - 60 ≤ tt (c % 41).toNat)) 0 (41 * 121) := by
    refine cnt_congr (41 * 121) 0 (fun m h1 h2 => ?_)
    rw [Bool.eq_iff_iff, decide_eq_true_eq]
    exact hW m h1 (by omega)
  rw [e1]
  refine (cnt_grid (fun t i => decide (fr i ≤ t ∧ t ≤ tt i)) 121).trans ?_
  refine sumI_congr 41 (fun i hi => ?_)
  rw [cnt_iv]
  rcases hB i hi with ⟨h1, h2⟩ | h1 <;> omega
theorem lt_spec (fr tt : Nat → Int) : ∀ k, (∀ i, i < k → fr i ≤ tt i → ltI fr tt k ≤ fr i) ∧ (ltI fr tt k = 60 ∨ ∃ i, i < k ∧ fr i ≤ tt i ∧ ltI fr tt k = fr i) ∧ ltI fr tt k ≤ 60 := by
  intro k
  induction k with
  | zero => exact ⟨fun i hi => absurd hi (Nat.not_lt_zero i), Or.inl rfl, Int.le_refl _⟩
  | succ k ih =>
    obtain ⟨h1, h2, h3⟩ := ih
    unfold ltI
    by_cases q : fr k ≤ tt k
    · rw [if_pos q]
      refine ⟨fun i hi hf => ?_, ?_, by omega⟩
      · by_cases e : i = k
        · subst e; omega
        · have := h1 i (by omega) hf
          omega
      · rcases (show min (ltI fr tt k) (fr k) = ltI fr tt k ∨ min (ltI fr tt k) (fr k) = fr k by omega) with e | e
        · rw [e]
          rcases h2 with h2 | ⟨i, a, b, c⟩
          · exact Or.inl h2
          · exact Or.inr ⟨i, by omega, b, c⟩
        · exact Or.inr ⟨k, by omega, q, e⟩
    · rw [if_neg q]
      refine ⟨fun i hi hf => ?_, ?_, h3⟩
      · by_cases e : i = k
        · subst e; exact absurd hf q
        · exact h1 i (by omega) hf
      · rcases h2 with h2 | ⟨i, a, b, c⟩
        · exact Or.inl h2
        · exact Or.inr ⟨i, by omega, b, c⟩
theorem gt_spec (fr tt : Nat → Int) : ∀ k, (∀ i, i < k → fr i ≤ tt i → tt i ≤ gtI fr tt k) ∧ (gtI fr tt k = -60 ∨ ∃ i, i < k ∧ fr i ≤ tt i ∧ gtI fr tt k = tt i) ∧ -60 ≤ gtI fr tt k := by
  intro k
  induction k with
  | zero => exact ⟨fun i hi => absurd hi (Nat.not_lt_zero i), Or.inl rfl, Int.le_refl _⟩
  | succ k ih =>
    obtain ⟨h1, h2, h3⟩ := ih
    unfold gtI
    by_cases q : fr k ≤ tt k
    · rw [if_pos q]
      refine ⟨fun i hi hf => ?_, ?_, by omega⟩
      · by_cases e : i = k
        · subst e; omega
        · have := h1 i (by omega) hf
          omega
      · rcases (show max (gtI fr tt k) (tt k) = gtI fr tt k ∨ max (gtI fr tt k) (tt k) = tt k by omega) with e | e
        · rw [e]
          rcases h2 with h2 | ⟨i, a, b, c⟩
          · exact Or.inl h2
          · exact Or.inr ⟨i, by omega, b, c⟩
        · exact Or.inr ⟨k, by omega, q, e⟩
    · rw [if_neg q]
      refine ⟨fun i hi hf => ?_, ?_, h3⟩
      · by_cases e : i = k
        · subst e; exact absurd hf q
        · exact h1 i (by omega) hf
      · rcases h2 with h2 | ⟨i, a, b, c⟩
        · exact Or.inl h2
        · exact Or.inr ⟨i, by omega, b, c⟩
theorem ls_spec (fr tt : Nat → Int) : ∀ (k i : Nat), (lsI fr tt i k = -1 ∧ ∀ j, i ≤ j → j < i + k → ¬ fr j ≤ tt j) ∨ ∃ x, i ≤ x ∧ x < i + k ∧ fr x ≤ tt x ∧ lsI fr tt i k = (x : Int) - 20 ∧ ∀ j, i ≤ j → j < x → ¬ fr j ≤ tt j := by
  intro k
  induction k with
  | zero => intro i; exact Or.inl ⟨rfl, fun j a b => by omega⟩
  | succ k ih =>
    intro i
    unfold lsI
    by_cases q : fr i ≤ tt i
    · rw [if_pos q]
      exact Or.inr ⟨i, by omega, by omega, q, rfl, fun j a b => by omega⟩
    · rw [if_neg q]
      rcases ih (i + 1) with ⟨h1, h2⟩ | ⟨x, h1, h2, h3, h4, h5⟩
      · refine Or.inl ⟨h1, fun j a b => ?_⟩
        by_cases e : j = i
        · subst e; exact q
        · exact h2 j (by omega) (by omega)
      · refine Or.inr ⟨x, by omega, by omega, h3, h4, fun j a b => ?_⟩
        by_cases e : j = i
        · subst e; exact q
        · exact h5 j (by omega) b
theorem gs_spec (fr tt : Nat → Int) : ∀ (k : Nat), (gsI fr tt k = -1 ∧ ∀ j, j < k → ¬ fr j ≤ tt j) ∨ ∃ x, x < k ∧ fr x ≤ tt x ∧ gsI fr tt k = (x : Int) - 20 ∧ ∀ j, x < j → j < k → ¬ fr j ≤ tt j := by
  intro k
  induction k with
  | zero => exact Or.inl ⟨rfl, fun j a => by omega⟩
  | succ k ih =>
    unfold gsI
    by_cases q : fr k ≤ tt k
    · rw [if_pos q]
      exact Or.inr ⟨k, by omega, q, rfl, fun j a b => by omega⟩
    · rw [if_neg q]
      rcases ih with ⟨h1, h2⟩ | ⟨x, h2, h3, h4, h5⟩
      · refine Or.inl ⟨h1, fun j a => ?_⟩
        by_cases e : j = k
        · subst e; exact q
        · exact h2 j (by omega)
      · refine Or.inr ⟨x, by omega, h3, h4, fun j a b => ?_⟩
        by_cases e : j = k
        · subst e; exact q
        · exact h5 j a (by omega)
theorem lm_spec : ∀ (l : List Int) (s : Int × Int), ((l.foldl lmF s).1 ≤ s.1 ∧ (∀ x ∈ l, (l.foldl lmF s).1 ≤ x % 41) ∧ ((l.foldl lmF s).1 = s.1 ∨ ∃ x ∈ l, (l.foldl lmF s).1 = x % 41)) ∧ (s.2 ≤ (l.foldl lmF s).2 ∧ (∀ x ∈ l, x % 41 ≤ (l.foldl lmF s).2) ∧ ((l.foldl lmF s).2 = s.2 ∨ ∃ x ∈ l, (l.foldl lmF s).2 = x % 41)) := by
  intro l
  induction l with
  | nil => intro s; exact ⟨⟨Int.le_refl _, fun x hx => absurd hx List.not_mem_nil, Or.inl rfl⟩, Int.le_refl _, fun x hx => absurd hx List.not_mem_nil, Or.inl rfl⟩
  | cons a r ih =>
    intro s
    rw [List.foldl_cons]
    obtain ⟨⟨h1, h2, h3⟩, h4, h5, h6⟩ := ih (lmF s a)
    have e1 : (lmF s a).1 = if a % 41 < s.1 then a % 41 else s.1 := rfl
    have e2 : (lmF s a).2 = if s.2 < a % 41 then a % 41 else s.2 := rfl
    have b1 : (lmF s a).1 ≤ s.1 ∧ (lmF s a).1 ≤ a % 41 ∧ ((lmF s a).1 = s.1 ∨ (lmF s a).1 = a % 41) := by rw [e1]; split <;> omega
    have b2 : s.2 ≤ (lmF s a).2 ∧ a % 41 ≤ (lmF s a).2 ∧ ((lmF s a).2 = s.2 ∨ (lmF s a).2 = a % 41) := by rw [e2]; split <;> omega
    refine ⟨⟨by omega, fun x hx => ?_, ?_⟩, by omega, fun x hx => ?_, ?_⟩
    · rcases List.mem_cons.mp hx with rfl | hx
      · omega
      · exact h2 x hx
    · rcases h3 with h3 | ⟨x, hx, h3⟩
      · rcases b1.2.2 with b | b
        · exact Or.inl (h3.trans b)
        · exact Or.inr ⟨a, List.mem_cons_self, h3.trans b⟩
      · exact Or.inr ⟨x, List.mem_cons_of_mem _ hx, h3⟩
    · rcases List.mem_cons.mp hx with rfl | hx
      · omega
      · exact h5 x hx
    · rcases h6 with h6 | ⟨x, hx, h6⟩
      · rcases b2.2.2 with b | b
        · exact Or.inl (h6.trans b)
        · exact Or.inr ⟨a, List.mem_cons_self, h6.trans b⟩
      · exact Or.inr ⟨x, List.mem_cons_of_mem _ hx, h6⟩
theorem ft_eq {fr tt : Nat → Int} {ok : Int → Bool} (hB : ∀ i, i < 41 → (fr i = 1 ∧ tt i = 0) ∨ (-60 ≤ fr i ∧ fr i ≤ tt i ∧ tt i ≤ 60)) (hW : ∀ c : Int, 0 ≤ c → c < 4961 → (ok c = true ↔ fr (c % 41).toNat ≤ c / 41 - 60 ∧ c / 41 - 60 ≤ tt (c % 41).toNat)) {w : Int} (hw : 0 ≤ w ∧ w ≤ 4) {cp : Int} (hcp : cp = sumI (fun i => tt i - fr i + 1) 41) (h0 : w = 0 ∨ ¬ cp = 0) : ftV cp fr tt w = ftR (cpL ok 4961) w := by
  have hc := ft_cnt hB hW
  have hm := fun x => cpL_mem (ok := ok) (x := x) 4961
  -- a couple of a turn and a tilt
  have hin : ∀ (i : Nat) (t : Int), i < 41 → fr i ≤ t → t ≤ tt i → 41 * (t + 60) + (i : Int) ∈ cpL ok 4961 := by
    intro i t hi h1 h2
    have hb := hB i hi
    refine (hm _).mpr ⟨by omega, (hW _ (by omega) (by omega)).mpr ?_⟩
    rw [show (41 * (t + 60) + (i : Int)) / 41 - 60 = t by omega, show ((41 * (t + 60) + (i : Int)) % 41).toNat = i by omega]
    exact ⟨h1, h2⟩
  have hout : ∀ x ∈ cpL ok 4961, (0 ≤ x ∧ x < 4961) ∧ fr (x % 41).toNat ≤ x / 41 - 60 ∧ x / 41 - 60 ≤ tt (x % 41).toNat := by
    intro x hx
    obtain ⟨h1, h2⟩ := (hm x).mp hx
    exact ⟨by omega, (hW x (by omega) (by omega)).mp h2⟩
  unfold ftV ftR
  by_cases w0 : w = 0
  · rw [if_pos w0, if_pos w0, hc, hcp]
  have hne : ¬ cpL ok 4961 = [] := by
    intro q
    rw [q, ← hcp] at hc
    exact (h0.resolve_left w0) hc.symm
  obtain ⟨⟨a1, a2⟩, a3, a4⟩ := cpL_ends 4961 hne
  rw [if_neg w0, if_neg w0]
  by_cases w1 : w = 1
  · rw [if_pos w1, if_pos w1]
    obtain ⟨s1, s2, s3⟩ := lt_spec fr tt 41
    obtain ⟨o1, o2, o3⟩ := hout _ a1
    have q1 := s1 ((cpL ok 4961).getD 0 0 % 41).toNat (by omega) (by omega)
    have hb := hB ((cpL ok 4961).getD 0 0 % 41).toNat (by omega)
    rcases s2 with s2 | ⟨i, i1, i2, i3⟩
    · have := a2 _ (hin ((cpL ok 4961).getD 0 0 % 41).toNat ((cpL ok 4961).getD 0 0 / 41 - 60) (by omega) o2 o3)
      omega
    · have hbi := hB i i1
      have := a2 _ (hin i (fr i) i1 (Int.le_refl _) i2)
      omega
  rw [if_neg w1, if_neg w1]
  by_cases w2 : w = 2
  · rw [if_pos w2, if_pos w2]
    obtain ⟨s1, s2, s3⟩ := gt_spec fr tt 41
    obtain ⟨o1, o2, o3⟩ := hout _ a3
    have q1 := s1 ((cpL ok 4961).getD ((cpL ok 4961).length - 1) 0 % 41).toNat (by omega) (by omega)
    have hb := hB ((cpL ok 4961).getD ((cpL ok 4961).length - 1) 0 % 41).toNat (by omega)
    rcases s2 with s2 | ⟨i, i1, i2, i3⟩
    · omega
    · have hbi := hB i i1
      have := a4 _ (hin i (tt i) i1 i2 (Int.le_refl _))
      omega
  rw [if_neg w2, if_neg w2]
  obtain ⟨⟨l1, l2, l3⟩, l4, l5, l6⟩ := lm_spec (cpL ok 4961) (40, 0)
  obtain ⟨o1, o2, o3⟩ := hout _ a1
  by_cases w3 : w = 3
  · rw [if_pos w3, if_pos w3]
    rcases ls_spec fr tt 41 0 with ⟨h1, h2⟩ | ⟨x, h1, h2, h3, h4, h5⟩
    · exact absurd (by omega) (h2 ((cpL ok 4961).getD 0 0 % 41).toNat (by omega) (by omega))
    · rw [h4]
      have hx := hin x (fr x) (by omega) (Int.le_refl _) h3
      have q1 := l2 _ hx
      rcases l3 with l3 | ⟨y, hy, l3⟩
      · dsimp only at l3
        omega
      · obtain ⟨y1, y2, y3⟩ := hout y hy
        rcases Nat.lt_or_ge (y % 41).toNat x with z | z
        · exact absurd (by omega) (h5 (y % 41).toNat (by omega) z)
        · omega
  rw [if_neg w3, if_neg w3]
  rcases gs_spec fr tt 41 with ⟨h1, h2⟩ | ⟨x, h2, h3, h4, h5⟩
  · exact absurd (by omega) (h2 ((cpL ok 4961).getD 0 0 % 41).toNat (by omega))
  · rw [h4]
    have hx := hin x (fr x) (by omega) (Int.le_refl _) h3
    have q1 := l5 _ hx
    rcases l6 with l6 | ⟨y, hy, l6⟩
    · dsimp only at l6
      omega
    · obtain ⟨y1, y2, y3⟩ := hout y hy
      rcases Nat.lt_or_ge x (y % 41).toNat with z | z
      · exact absurd (by omega) (h5 (y % 41).toNat z (by omega))
      · omega

