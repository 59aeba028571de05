/-! ===== pure: first moments, fitting minutes and days ===== -/
def rgL (a : Int) : Nat → List Int
  | 0 => []
  | k + 1 => a :: rgL (a + 1) k
theorem rgL_mem {m : Int} : ∀ (k : Nat) (a : Int), m ∈ rgL a k ↔ a ≤ m ∧ m < a + k := by
  intro k
  induction k with
  | zero => intro a; constructor
            · intro h; exact absurd h List.not_mem_nil
            · intro h; omega
  | succ k ih =>
    intro a
    unfold rgL
    rw [List.mem_cons, ih]
    omega
theorem rgL_nd : ∀ (k : Nat) (a : Int), (rgL a k).Nodup := by
  intro k
  induction k with
  | zero => intro a; exact List.nodup_nil
  | succ k ih =>
    intro a
    unfold rgL
    rw [List.nodup_cons]
    refine ⟨?_, ih _⟩
    rw [rgL_mem]
    omega
theorem cnt_len (p : Int → Bool) : ∀ (k : Nat) (a : Int), cntR p a k = (((rgL a k).filter p).length : Int) := by
  intro k
  induction k with
  | zero => intro a; rfl
  | succ k ih =>
    intro a
    unfold cntR rgL
    rw [ih, List.filter_cons]
    cases p a with
    | true => rw [if_pos rfl, List.length_cons]; unfold b2i; rw [if_pos rfl]; omega
    | false => rw [if_neg (by decide)]; unfold b2i; rw [if_neg (by decide)]; omega
theorem nd_filter {L : List Int} (p : Int → Bool) (h : L.Nodup) : (L.filter p).Nodup := h.sublist List.filter_sublist
theorem len_cnt {L : List Int} {p : Int → Bool} {n : Nat} (nd : L.Nodup) (hm : ∀ m, m ∈ L ↔ (0 ≤ m ∧ m < (n : Int)) ∧ p m = true) : (L.length : Int) = cntR p 0 n := by
  rw [cnt_len]
  have h := (List.perm_ext_iff_of_nodup nd (nd_filter p (rgL_nd n 0))).mpr (fun m => by rw [hm, List.mem_filter, rgL_mem, Int.zero_add])
  rw [h.length_eq]
theorem fsF_spec (f : Int → Int) (x : Int) : ∀ (k : Nat) (m : Int), 0 ≤ m → (fsF f x k m = -1 ∧ ∀ j, m ≤ j → j < m + k → ¬ f j = x) ∨ (m ≤ fsF f x k m ∧ fsF f x k m < m + k ∧ f (fsF f x k m) = x ∧ ∀ j, m ≤ j → j < fsF f x k m → ¬ f j = x) := by
  intro k
  induction k with
  | zero => intro m hm; exact Or.inl ⟨rfl, fun j h1 h2 => by omega⟩
  | succ k ih =>
    intro m hm
    unfold fsF
    by_cases q : f m = x
    · rw [if_pos q]
      exact Or.inr ⟨by omega, by omega, q, fun j h1 h2 => by omega⟩
    · rw [if_neg q]
      rcases ih (m + 1) (by omega) with ⟨h1, h2⟩ | ⟨h1, h2, h3, h4⟩
      · refine Or.inl ⟨h1, fun j h5 h6 => ?_⟩
        by_cases q2 : j = m
        · rw [q2]; exact q
        · exact h2 j (by omega) (by omega)
      · refine Or.inr ⟨by omega, by omega, h3, fun j h5 h6 => ?_⟩
        by_cases q2 : j = m
        · rw [q2]; exact q
        · exact h4 j (by omega) (by omega)
theorem fmS_spec {g : Nat → Int} : ∀ k, (∀ i, i < k → 0 ≤ g i) → (k = 0 ∧ fmS g k = -1) ∨ ((∃ i, i < k ∧ fmS g k = g i) ∧ ∀ i, i < k → fmS g k ≤ g i) := by
  intro k
  induction k with
  | zero => intro _; exact Or.inl ⟨rfl, rfl⟩
  | succ k ih =>
    intro hg
    have hk := hg k (by omega)
    right
    unfold fmS
    rcases ih (fun i hi => hg i (by omega)) with ⟨h1, h2⟩ | ⟨⟨i0, h1, h2⟩, h3⟩
    · rw [if_pos (Or.inl h2)]
      refine ⟨⟨k, by omega, rfl⟩, fun i hi => ?_⟩
      rw [show i = k by omega]
      exact Int.le_refl _
    · by_cases q : fmS g k = -1 ∨ g k < fmS g k
      · rw [if_pos q]
        have h0 := hg i0 (by omega)
        refine ⟨⟨k, by omega, rfl⟩, fun i hi => ?_⟩
        by_cases q2 : i = k
        · rw [q2]; exact Int.le_refl _
        · have := h3 i (by omega)
          omega
      · rw [if_neg q]
        refine ⟨⟨i0, by omega, h2⟩, fun i hi => ?_⟩
        by_cases q2 : i = k
        · rw [q2]; omega
        · exact h3 i (by omega)
theorem gtD_mem {L : List Int} {i : Nat} (h : i < L.length) : L.getD i 0 ∈ L := by
  rw [List.getD_eq_getElem?_getD, List.getElem?_eq_getElem h]
  exact List.getElem_mem h
theorem mem_getD {L : List Int} {m : Int} (h : m ∈ L) : ∃ i, i < L.length ∧ L.getD i 0 = m := by
  obtain ⟨i, hi, he⟩ := List.getElem_of_mem h
  exact ⟨i, hi, by rw [List.getD_eq_getElem?_getD, List.getElem?_eq_getElem hi]; exact he⟩
theorem fst_spec {L : List Int} (h0 : ∀ m ∈ L, 0 ≤ m) : ((∀ m, ¬ m ∈ L) ∧ fstI L = -1) ∨ (fstI L ∈ L ∧ ∀ m ∈ L, fstI L ≤ m) := by
  rcases fmS_spec (g := fun i => L.getD i 0) L.length (fun i hi => h0 _ (gtD_mem hi)) with ⟨h1, h2⟩ | ⟨⟨i0, h1, h2⟩, h3⟩
  · left
    rw [List.length_eq_zero_iff] at h1
    exact ⟨fun m hm => by rw [h1] at hm; exact absurd hm List.not_mem_nil, h2⟩
  · right
    refine ⟨?_, fun m hm => ?_⟩
    · show fmS (fun i => L.getD i 0) L.length ∈ L
      rw [h2]
      exact gtD_mem h1
    · obtain ⟨i, hi, he⟩ := mem_getD hm
      rw [← he]
      exact h3 i hi
theorem fst_fsF {L : List Int} {f : Int → Int} {x : Int} (hm : ∀ m, m ∈ L ↔ (0 ≤ m ∧ m < 1440) ∧ f m = x) : fstI L = fsF f x 1440 0 := by
  rcases fst_spec (L := L) (fun m h => ((hm m).mp h).1.1) with ⟨h1, h2⟩ | ⟨h1, h2⟩ <;> rcases fsF_spec f x 1440 0 (by decide) with ⟨h3, h4⟩ | ⟨h3, h4, h5, h6⟩
  · rw [h2, h3]
  · exact absurd ((hm _).mpr ⟨by omega, h5⟩) (h1 _)
  · have h7 := (hm _).mp h1
    exact absurd h7.2 (h4 _ (by omega) (by omega))
  · have h7 := (hm _).mp h1
    have h8 := h2 _ ((hm _).mpr ⟨⟨by omega, by omega⟩, h5⟩)
    rcases Int.lt_or_le (fstI L) (fsF f x 1440 0) with q | q
    · exact absurd h7.2 (h6 _ (by omega) q)
    · omega
theorem told_5 {turn tilt town g day m noon half : Int} {cl : Bool} : toldI 5 turn tilt town g day m noon half cl = toldI 5 turn tilt town g day 0 noon half false := by
  unfold toldI plainI grownI angI
  simp
/-! the fitting ones -/
theorem ftS_fold (L : List Int) (ok : Int → Bool) (s : Int × Int × Int) : ∀ k, k ≤ L.length → ftS (fun i => L.getD i 0) ok s k = (L.take k).foldl (fun s m => if ok m = true then mAdd s m else s) s := by
  intro k
  induction k with
  | zero => intro _; rfl
  | succ k ih =>
    intro hk
    have e1 : L.take (k + 1) = L.take k ++ [L.getD k 0] := by
      rw [List.take_succ_eq_append_getElem (by omega), List.getD_eq_getElem?_getD, List.getElem?_eq_getElem (by omega)]
      rfl
    rw [e1, List.foldl_append, ← ih (by omega)]
    rfl
theorem fold_cnt (ok : Int → Bool) : ∀ (l : List Int) (s : Int × Int × Int), (l.foldl (fun s m => if ok m = true then mAdd s m else s) s).1 = s.1 + ((l.filter ok).length : Int) := by
  intro l
  induction l with
  | nil => intro s; show s.1 = s.1 + ((0 : Nat) : Int); omega
  | cons a r ih =>
    intro s
    rw [List.foldl_cons, ih, List.filter_cons]
    by_cases q : ok a = true
    · rw [if_pos q, if_pos q, List.length_cons]
      show s.1 + 1 + _ = _
      omega
    · rw [if_neg q, if_neg q]
theorem fold_lo (ok : Int → Bool) : ∀ (l : List Int) (s : Int × Int × Int), (∀ m ∈ l, 0 ≤ m) → -1 ≤ s.2.1 → ((l.foldl (fun s m => if ok m = true then mAdd s m else s) s).2.1 = -1 ∧ s.2.1 = -1 ∧ ∀ m ∈ l, ¬ ok m = true) ∨ (0 ≤ (l.foldl (fun s m => if ok m = true then mAdd s m else s) s).2.1 ∧ ((l.foldl (fun s m => if ok m = true then mAdd s m else s) s).2.1 = s.2.1 ∨ ((l.foldl (fun s m => if ok m = true then mAdd s m else s) s).2.1 ∈ l ∧ ok (l.foldl (fun s m => if ok m = true then mAdd s m else s) s).2.1 = true)) ∧ (¬ s.2.1 = -1 → (l.foldl (fun s m => if ok m = true then mAdd s m else s) s).2.1 ≤ s.2.1) ∧ ∀ m ∈ l, ok m = true → (l.foldl (fun s m => if ok m = true then mAdd s m else s) s).2.1 ≤ m) := by
  intro l
  induction l with
  | nil =>
    intro s _ hs
    by_cases q : s.2.1 = -1
    · exact Or.inl ⟨q, q, fun m hm => absurd hm List.not_mem_nil⟩
    · exact Or.inr ⟨by show 0 ≤ s.2.1; omega, Or.inl rfl, fun _ => Int.le_refl _, fun m hm => absurd hm List.not_mem_nil⟩
  | cons a r ih =>
    intro s h0 hs
    rw [List.foldl_cons]
    have ha := h0 a List.mem_cons_self
    by_cases q : ok a = true
    · rw [if_pos q]
      have e2 : (mAdd s a).2.1 = if s.2.1 = -1 then a else min s.2.1 a := rfl
      have e3 : 0 ≤ (mAdd s a).2.1 ∧ (mAdd s a).2.1 ≤ a ∧ ((mAdd s a).2.1 = a ∨ (mAdd s a).2.1 = s.2.1) ∧ (¬ s.2.1 = -1 → (mAdd s a).2.1 ≤ s.2.1) := by
        rw [e2]
        split <;> omega
      right
      rcases ih (mAdd s a) (fun m hm => h0 m (List.mem_cons_of_mem _ hm)) (by omega) with ⟨h1, h2, h3⟩ | ⟨h1, h2, h3, h4⟩
      · omega
      · have h5 := h3 (by omega)
        refine ⟨h1, ?_, fun q2 => ?_, fun m hm hok => ?_⟩
        · rcases h2 with h2 | ⟨h2, h6⟩
          · rcases e3.2.2.1 with e4 | e4
            · right; rw [h2, e4]; exact ⟨List.mem_cons_self, q⟩
            · left; rw [h2, e4]
          · right; exact ⟨List.mem_cons_of_mem _ h2, h6⟩
        · have := e3.2.2.2 q2
          omega
        · rcases List.mem_cons.mp hm with rfl | hm
          · omega
          · exact h4 m hm hok
    · rw [if_neg q]
      rcases ih s (fun m hm => h0 m (List.mem_cons_of_mem _ hm)) hs with ⟨h1, h2, h3⟩ | ⟨h1, h2, h3, h4⟩
      · left
        refine ⟨h1, h2, fun m hm => ?_⟩
        rcases List.mem_cons.mp hm with rfl | hm
        · exact q
        · exact h3 m hm
      · right
        refine ⟨h1, ?_, h3, fun m hm hok => ?_⟩
        · rcases h2 with h2 | ⟨h2, h6⟩
          · exact Or.inl h2
          · exact Or.inr ⟨List.mem_cons_of_mem _ h2, h6⟩
        · rcases List.mem_cons.mp hm with rfl | hm
          · exact absurd hok q
          · exact h4 m hm hok
theorem fold_hi (ok : Int → Bool) : ∀ (l : List Int) (s : Int × Int × Int), ((l.foldl (fun s m => if ok m = true then mAdd s m else s) s).2.2 = s.2.2 ∨ ((l.foldl (fun s m => if ok m = true then mAdd s m else s) s).2.2 ∈ l ∧ ok (l.foldl (fun s m => if ok m = true then mAdd s m else s) s).2.2 = true)) ∧ s.2.2 ≤ (l.foldl (fun s m => if ok m = true then mAdd s m else s) s).2.2 ∧ ∀ m ∈ l, ok m = true → m ≤ (l.foldl (fun s m => if ok m = true then mAdd s m else s) s).2.2 := by
  intro l
  induction l with
  | nil => intro s; exact ⟨Or.inl rfl, Int.le_refl _, fun m hm => absurd hm List.not_mem_nil⟩
  | cons a r ih =>
    intro s
    rw [List.foldl_cons]
    by_cases q : ok a = true
    · rw [if_pos q]
      have e2 : (mAdd s a).2.2 = max s.2.2 a := rfl
      obtain ⟨h1, h2, h3⟩ := ih (mAdd s a)
      refine ⟨?_, by omega, fun m hm hok => ?_⟩
      · rcases h1 with h1 | ⟨h1, h4⟩
        · rcases (show max s.2.2 a = s.2.2 ∨ max s.2.2 a = a by omega) with e3 | e3
          · left; rw [h1, e2, e3]
          · right; rw [h1, e2, e3]; exact ⟨List.mem_cons_self, q⟩
        · right; exact ⟨List.mem_cons_of_mem _ h1, h4⟩
      · rcases List.mem_cons.mp hm with rfl | hm
        · omega
        · exact h3 m hm hok
    · rw [if_neg q]
      obtain ⟨h1, h2, h3⟩ := ih s
      refine ⟨?_, h2, fun m hm hok => ?_⟩
      · rcases h1 with h1 | ⟨h1, h4⟩
        · exact Or.inl h1
        · exact Or.inr ⟨List.mem_cons_of_mem _ h1, h4⟩
      · rcases List.mem_cons.mp hm with rfl | hm
        · exact absurd hok q
        · exact h3 m hm hok
/-- what the minutes' walk of the reference leaves -/
theorem mnR_spec (ok : Int → Bool) : ∀ (k : Nat) (m : Int) (s : Int × Int × Int), 0 ≤ m → (mnR ok k m s).1 = s.1 + cntR ok m k ∧ (¬ s.2.1 = -1 → (mnR ok k m s).2.1 = s.2.1) ∧ (s.2.1 = -1 → ((mnR ok k m s).2.1 = -1 ∧ ∀ j, m ≤ j → j < m + k → ¬ ok j = true) ∨ (m ≤ (mnR ok k m s).2.1 ∧ (mnR ok k m s).2.1 < m + k ∧ ok (mnR ok k m s).2.1 = true ∧ ∀ j, m ≤ j → j < (mnR ok k m s).2.1 → ¬ ok j = true)) ∧ (((mnR ok k m s).2.2 = s.2.2 ∧ ∀ j, m ≤ j → j < m + k → ¬ ok j = true) ∨ (m ≤ (mnR ok k m s).2.2 ∧ (mnR ok k m s).2.2 < m + k ∧ ok (mnR ok k m s).2.2 = true ∧ ∀ j, (mnR ok k m s).2.2 < j → j < m + k → ¬ ok j = true)) := by
  intro k
  induction k with
  | zero =>
    intro m s hm
    refine ⟨?_, fun _ => rfl, fun h => Or.inl ⟨h, fun j a b => by omega⟩, Or.inl ⟨rfl, fun j a b => by omega⟩⟩
    show s.1 = s.1 + 0
    omega
  | succ k ih =>
    intro m s hm
    unfold mnR cntR
    by_cases q : ok m = true
    · rw [if_pos q]
      obtain ⟨h1, h2, h3, h4⟩ := ih (m + 1) (s.1 + 1, if s.2.1 = -1 then m else s.2.1, m) (by omega)
      dsimp only at h1 h2 h3 h4
      have hne : ¬ (if s.2.1 = -1 then m else s.2.1) = -1 := by split <;> omega
      have h5 := h2 hne
      refine ⟨by rw [h1, q]; show _ = s.1 + (1 + _); omega, fun h => by rw [h5, if_neg h], fun h => ?_, ?_⟩
      · rw [if_pos h] at h5
        rw [if_pos h] at *
        right
        rw [h5]
        exact ⟨Int.le_refl _, by omega, q, fun j a b => by omega⟩
      · right
        rcases h4 with ⟨h6, h7⟩ | ⟨h6, h7, h8, h9⟩
        · rw [h6]
          exact ⟨Int.le_refl _, by omega, q, fun j a b => h7 j (by omega) (by omega)⟩
        · exact ⟨by omega, by omega, h8, fun j a b => h9 j a (by omega)⟩
    · rw [if_neg q]
      obtain ⟨h1, h2, h3, h4⟩ := ih (m + 1) s (by omega)
      have hq : ok m = false := Bool.eq_false_iff.mpr q
      refine ⟨by rw [h1, hq]; show _ = s.1 + (0 + _); omega, h2, fun h => ?_, ?_⟩
      · rcases h3 h with ⟨h6, h7⟩ | ⟨h6, h7, h8, h9⟩
        · refine Or.inl ⟨h6, fun j a b => ?_⟩
          by_cases q2 : j = m
          · rw [q2]; exact q
          · exact h7 j (by omega) (by omega)
        · refine Or.inr ⟨by omega, by omega, h8, fun j a b => ?_⟩
          by_cases q2 : j = m
          · rw [q2]; exact q
          · exact h9 j (by omega) b
      · rcases h4 with ⟨h6, h7⟩ | ⟨h6, h7, h8, h9⟩
        · refine Or.inl ⟨h6, fun j a b => ?_⟩
          by_cases q2 : j = m
          · rw [q2]; exact q
          · exact h7 j (by omega) (by omega)
        · exact Or.inr ⟨by omega, by omega, h8, fun j a b => h9 j a (by omega)⟩
/-- what the two walks leave is one: of a list of all that may fit -/
theorem ft_mn {L : List Int} {ok : Int → Bool} (nd : L.Nodup) (hL : ∀ m ∈ L, 0 ≤ m ∧ m < 1440) (hok : ∀ m, 0 ≤ m → m < 1440 → ok m = true → m ∈ L) : ftS (fun i => L.getD i 0) ok s0 L.length = mnR ok 1440 0 s0 := by
  rw [ftS_fold L ok s0 L.length (Nat.le_refl _), List.take_length]
  obtain ⟨h1, h2, h3, h4⟩ := mnR_spec ok 1440 0 s0 (by decide)
  have c1 := fold_cnt ok L s0
  have l1 := fold_lo ok L s0 (fun m hm => (hL m hm).1) (by decide)
  have u1 := fold_hi ok L s0
  have h3 := h3 rfl
  obtain ⟨X, hX⟩ : ∃ y, L.foldl (fun s m => if ok m = true then mAdd s m else s) s0 = y := ⟨_, rfl⟩
  obtain ⟨Y, hY⟩ : ∃ y, mnR ok 1440 0 s0 = y := ⟨_, rfl⟩
  rw [hX] at c1 l1 u1 ⊢
  rw [hY] at h1 h3 h4 ⊢
  have e1 : X.1 = Y.1 := by
    rw [c1, h1, len_cnt (n := 1440) (nd_filter ok nd) (fun m => by
      rw [List.mem_filter]
      constructor
      · rintro ⟨a, b⟩; exact ⟨hL m a, b⟩
      · rintro ⟨a, b⟩; exact ⟨hok m a.1 (by omega) b, b⟩)]
  have s01 : s0.2.1 = -1 := rfl
  have s02 : s0.2.2 = -1 := rfl
  have e2 : X.2.1 = Y.2.1 := by
    rcases l1 with ⟨a1, _, a2⟩ | ⟨a1, a2, _, a3⟩ <;> rcases h3 with ⟨b1, b2⟩ | ⟨b1, b2, b3, b4⟩
    · rw [a1, b1]
    · exact absurd b3 (a2 _ (hok _ (by omega) (by omega) b3))
    · rcases a2 with a2 | ⟨a2, a4⟩
      · omega
      · exact absurd a4 (b2 _ (by omega) (by have := hL _ a2; omega))
    · rcases a2 with a2 | ⟨a2, a4⟩
      · omega
      · have c2 := a3 _ (hok _ (by omega) (by omega) b3) b3
        rcases Int.lt_or_le X.2.1 Y.2.1 with q | q
        · exact absurd a4 (b4 _ (by omega) q)
        · omega
  have e3 : X.2.2 = Y.2.2 := by
    obtain ⟨a1, a2, a3⟩ := u1
    rcases h4 with ⟨b1, b2⟩ | ⟨b1, b2, b3, b4⟩
    · rcases a1 with a1 | ⟨a1, a4⟩
      · rw [a1, b1]
      · have := hL _ a1
        exact absurd a4 (b2 _ (by omega) (by omega))
    · have c2 := a3 _ (hok _ (by omega) (by omega) b3) b3
      rcases a1 with a1 | ⟨a1, a4⟩
      · omega
      · have := hL _ a1
        rcases Int.lt_or_le Y.2.2 X.2.2 with q | q
        · exact absurd a4 (b4 _ q (by omega))
        · omega
  exact Prod.ext e1 (Prod.ext e2 e3)
theorem mn_none {ok : Int → Bool} (h : ∀ m, ok m = false) : mnR ok 1440 0 s0 = s0 := by
  have h0 := ft_mn (L := []) (ok := ok) List.nodup_nil (fun m hm => absurd hm List.not_mem_nil) (fun m _ _ hm => by rw [h] at hm; exact absurd hm (by decide))
  exact h0.symm
theorem cnt_all {ok : Int → Bool} (h : ∀ m, ok m = true) : ∀ (k : Nat) (a : Int), cntR ok a k = k := by
  intro k
  induction k with
  | zero => intro a; rfl
  | succ k ih =>
    intro a
    unfold cntR
    rw [ih, h]
    show (1 : Int) + k = _
    omega
theorem mn_all {ok : Int → Bool} (h : ∀ m, ok m = true) : mnR ok 1440 0 s0 = (1440, 0, 1439) := by
  obtain ⟨h1, h2, h3, h4⟩ := mnR_spec ok 1440 0 s0 (by decide)
  have h3 := h3 rfl
  obtain ⟨Y, hY⟩ : ∃ y, mnR ok 1440 0 s0 = y := ⟨_, rfl⟩
  rw [hY] at h1 h3 h4 ⊢
  rw [cnt_all h] at h1
  have s00 : s0.1 = 0 := rfl
  refine Prod.ext ?_ (Prod.ext ?_ ?_)
  · show Y.1 = 1440
    rw [h1, s00]
    decide
  · show Y.2.1 = 0
    rcases h3 with ⟨b1, b2⟩ | ⟨b1, b2, b3, b4⟩
    · exact absurd (h 0) (b2 0 (by decide) (by decide))
    · rcases Int.lt_or_le 0 Y.2.1 with q | q
      · exact absurd (h 0) (b4 0 (by decide) q)
      · omega
  · show Y.2.2 = 1439
    rcases h4 with ⟨b1, b2⟩ | ⟨b1, b2, b3, b4⟩
    · exact absurd (h 0) (b2 0 (by decide) (by decide))
    · rcases Int.lt_or_le Y.2.2 1439 with q | q
      · exact absurd (h 1439) (b4 1439 q (by decide))
      · omega

