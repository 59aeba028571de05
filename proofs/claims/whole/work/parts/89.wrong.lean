/-! ===== pure: what may be wrong with a dial ===== -/
theorem first_spec (rd : Nat → Int) (di : Int) : ∀ (k i : Nat), (firstR rd di i k = -1 ∧ ∀ j, i ≤ j → j < i + k → ¬ rd j = di) ∨ ∃ j, i ≤ j ∧ j < i + k ∧ firstR rd di i k = (j : Int) ∧ rd j = di := by
  intro k
  induction k with
  | zero => intro i; exact Or.inl ⟨rfl, fun j a b => by omega⟩
  | succ k ih =>
    intro i
    unfold firstR
    by_cases q : rd i = di
    · rw [if_pos q]
      exact Or.inr ⟨i, by omega, by omega, rfl, q⟩
    · rw [if_neg q]
      rcases ih (i + 1) with ⟨h1, h2⟩ | ⟨j, h1, h2, h3, h4⟩
      · refine Or.inl ⟨h1, fun j a b => ?_⟩
        by_cases e : j = i
        · subst e; exact q
        · exact h2 j (by omega) (by omega)
      · exact Or.inr ⟨j, by omega, by omega, h3, h4⟩
/-- a told minute fixes the turn -/
theorem told_turn {kind turn tilt town g day m noon half x : Int} {cl : Bool} (hx : 0 ≤ x) (h : toldI kind turn tilt town g day m noon half cl = x) : ¬ plainI kind tilt town g day m noon half cl = -1 ∧ (plainI kind tilt town g day m noon half cl + turn) % 1440 = x := by
  unfold toldI at h
  split at h
  · omega
  · next q =>
    split at h
    · omega
    · exact ⟨q, h⟩
theorem wg_spec {nr : Int} {rd ry rm rt : Nat → Int} {sw nc : Int} {K O G L cf ct cd : Nat → Int} {di : Int} (hrt : ∀ j, 0 ≤ rt j ∧ rt j < 1440) : (∀ i, i < 41 → ((wgN sw nc nr K O G L cf ct cd rd ry rm rt di i).1 = 1 ∧ (wgN sw nc nr K O G L cf ct cd rd ry rm rt di i).2 = 0) ∨ (-60 ≤ (wgN sw nc nr K O G L cf ct cd rd ry rm rt di i).1 ∧ (wgN sw nc nr K O G L cf ct cd rd ry rm rt di i).1 ≤ (wgN sw nc nr K O G L cf ct cd rd ry rm rt di i).2 ∧ (wgN sw nc nr K O G L cf ct cd rd ry rm rt di i).2 ≤ 60)) ∧ ∀ c : Int, 0 ≤ c → c < 4961 → ((fun c => allR (fun dy mi => tldI sw nc K O G L cf ct cd di dy mi (c / 41 - 60) (c % 41 - 20)) rd ry rm rt di nr.toNat) c = true ↔ (wgN sw nc nr K O G L cf ct cd rd ry rm rt di (c % 41).toNat).1 ≤ c / 41 - 60 ∧ c / 41 - 60 ≤ (wgN sw nc nr K O G L cf ct cd rd ry rm rt di (c % 41).toNat).2) := by
  have hw : ∀ i : Nat, wgN sw nc nr K O G L cf ct cd rd ry rm rt di i = wtI (fun ti => plnT sw nc K O G L cf ct cd (rd (firstR rd di 0 nr.toNat).toNat) (ry (firstR rd di 0 nr.toNat).toNat) (rm (firstR rd di 0 nr.toNat).toNat) ti) (fun tu ti => allR (fun dy mi => tldI sw nc K O G L cf ct cd (rd (firstR rd di 0 nr.toNat).toNat) dy mi tu ti) rd ry rm rt (rd (firstR rd di 0 nr.toNat).toNat) nr.toNat) (rt (firstR rd di 0 nr.toNat).toNat) (firstR rd di 0 nr.toNat) i := fun i => rfl
  rcases first_spec rd di nr.toNat 0 with ⟨h1, h2⟩ | ⟨j, h1, h2, h3, h4⟩
  · have hv : ∀ i, wgN sw nc nr K O G L cf ct cd rd ry rm rt di i = (-60, 60) := by
      intro i
      rw [hw]
      unfold wtI
      rw [if_pos h1]
    constructor
    · intro i _
      rw [hv]
      exact Or.inr ⟨by decide, by decide, by decide⟩
    · intro c c1 c2
      rw [hv]
      dsimp only
      refine ⟨fun _ => by omega, fun _ => ?_⟩
      unfold allR
      rw [decide_eq_true_eq]
      intro r hr hd
      exact absurd hd (h2 r (by omega) (by omega))
  · rw [h3, Int.toNat_natCast, h4] at hw
    have bj := hrt j
    -- one turn at most
    have hone : ∀ (t : Int) (i : Nat), -60 ≤ t → t ≤ 60 → (allR (fun dy mi => tldI sw nc K O G L cf ct cd di dy mi t ((i : Int) - 20)) rd ry rm rt di nr.toNat = true ↔ (wgN sw nc nr K O G L cf ct cd rd ry rm rt di i).1 ≤ t ∧ t ≤ (wgN sw nc nr K O G L cf ct cd rd ry rm rt di i).2) := by
      intro t i t1 t2
      have hfit : allR (fun dy mi => tldI sw nc K O G L cf ct cd di dy mi t ((i : Int) - 20)) rd ry rm rt di nr.toNat = true → ¬ plnT sw nc K O G L cf ct cd di (ry j) (rm j) ((i : Int) - 20) = -1 ∧ t = aroundI (rt j - plnT sw nc K O G L cf ct cd di (ry j) (rm j) ((i : Int) - 20)) := by
        intro hf
        unfold allR at hf
        have hf := (of_decide_eq_true hf) j (by omega) h4
        obtain ⟨p1, p2⟩ := told_turn bj.1 hf
        refine ⟨p1, ?_⟩
        have e1 : (plnT sw nc K O G L cf ct cd di (ry j) (rm j) ((i : Int) - 20) + t) % 1440 = rt j := p2
        unfold aroundI
        omega
      rw [hw]
      unfold wtI
      rw [if_neg (by omega)]
      by_cases q : plnT sw nc K O G L cf ct cd di (ry j) (rm j) ((i : Int) - 20) = -1
      · rw [if_pos q]
        exact ⟨fun z => absurd q (hfit z).1, fun z => by dsimp only at z; omega⟩
      · rw [if_neg q]
        obtain ⟨a, ha⟩ : ∃ z, aroundI (rt j - plnT sw nc K O G L cf ct cd di (ry j) (rm j) ((i : Int) - 20)) = z := ⟨_, rfl⟩
        rw [ha] at hfit ⊢
        by_cases q2 : (a.natAbs : Int) ≤ 60 ∧ allR (fun dy mi => tldI sw nc K O G L cf ct cd di dy mi a ((i : Int) - 20)) rd ry rm rt di nr.toNat = true
        · rw [if_pos q2]
          dsimp only
          constructor
          · intro z
            have := (hfit z).2
            omega
          · intro z
            rw [show t = a by omega]
            exact q2.2
        · rw [if_neg q2]
          dsimp only
          constructor
          · intro z
            have e2 := (hfit z).2
            rw [e2] at z
            exact absurd ⟨by omega, z⟩ q2
          · intro z
            omega
    constructor
    · intro i _
      rw [hw]
      unfold wtI
      rw [if_neg (by omega)]
      split
      · exact Or.inl ⟨rfl, rfl⟩
      · split
        · next q =>
          dsimp only at q ⊢
          exact Or.inr ⟨by omega, Int.le_refl _, by omega⟩
        · exact Or.inl ⟨rfl, rfl⟩
    · intro c c1 c2
      have h5 := hone (c / 41 - 60) (c % 41).toNat (by omega) (by omega)
      rw [show (((c % 41).toNat : Nat) : Int) - 20 = c % 41 - 20 by omega] at h5
      exact h5
theorem faults_eq {nr : Int} {rd ry rm rt : Nat → Int} {sw nc : Int} {K O G L cf ct cd : Nat → Int} {di : Int} (hrt : ∀ j, 0 ≤ rt j ∧ rt j < 1440) : ((cpL (fun c => allR (fun dy mi => tldI sw nc K O G L cf ct cd di dy mi (c / 41 - 60) (c % 41 - 20)) rd ry rm rt di nr.toNat) 4961).length : Int) = cpS (wgN sw nc nr K O G L cf ct cd rd ry rm rt di) 41 ∧ ∀ w : Int, (0 ≤ w ∧ w ≤ 4) → (w = 0 ∨ ¬ cpS (wgN sw nc nr K O G L cf ct cd rd ry rm rt di) 41 = 0) → ftV (cpS (wgN sw nc nr K O G L cf ct cd rd ry rm rt di) 41) (fun i => (wgN sw nc nr K O G L cf ct cd rd ry rm rt di i).1) (fun i => (wgN sw nc nr K O G L cf ct cd rd ry rm rt di i).2) w = ftR (cpL (fun c => allR (fun dy mi => tldI sw nc K O G L cf ct cd di dy mi (c / 41 - 60) (c % 41 - 20)) rd ry rm rt di nr.toNat) 4961) w := by
  obtain ⟨h1, h2⟩ := wg_spec (nr := nr) (rd := rd) (ry := ry) (rm := rm) (sw := sw) (nc := nc) (K := K) (O := O) (G := G) (L := L) (cf := cf) (ct := ct) (cd := cd) (di := di) hrt
  have e1 : cpS (wgN sw nc nr K O G L cf ct cd rd ry rm rt di) 41 = sumI (fun i => (wgN sw nc nr K O G L cf ct cd rd ry rm rt di i).2 - (wgN sw nc nr K O G L cf ct cd rd ry rm rt di i).1 + 1) 41 := cpS_sum _ 41
  refine ⟨?_, fun w hw h0 => ?_⟩
  · rw [e1]
    exact ft_cnt (fr := fun i => (wgN sw nc nr K O G L cf ct cd rd ry rm rt di i).1) (tt := fun i => (wgN sw nc nr K O G L cf ct cd rd ry rm rt di i).2) h1 h2
  · exact ft_eq (fr := fun i => (wgN sw nc nr K O G L cf ct cd rd ry rm rt di i).1) (tt := fun i => (wgN sw nc nr K O G L cf ct cd rd ry rm rt di i).2) h1 h2 hw e1 h0
/-! the greatest group -/
def mulL (f : Int → Int) (l : List Int) (v : Int) : Int := ((l.filter (fun x => decide (f x = v))).length : Int)
theorem mul_cons (f : Int → Int) (x : Int) (r : List Int) (v : Int) : mulL f (x :: r) v = mulL f r v + if f x = v then 1 else 0 := by
  unfold mulL
  rw [List.filter_cons]
  by_cases q : f x = v
  · rw [if_pos (decide_eq_true q), if_pos q, List.length_cons]
    omega
  · rw [if_neg (by rw [decide_eq_true_eq]; exact q), if_neg q]
    omega
theorem mul_nn (f : Int → Int) (l : List Int) (v : Int) : 0 ≤ mulL f l v := by unfold mulL; omega
theorem gr_spec (f : Int → Int) : ∀ (l : List Int) (c : Nat → Int) (b : Int), (∀ x ∈ l, 0 ≤ f x) → b ≤ (grF f l (c, b)).2 ∧ (∀ x ∈ l, c (f x).toNat + mulL f l (f x) ≤ (grF f l (c, b)).2) ∧ ((grF f l (c, b)).2 = b ∨ ∃ x ∈ l, (grF f l (c, b)).2 = c (f x).toNat + mulL f l (f x)) := by
  intro l
  induction l with
  | nil => intro c b _; exact ⟨Int.le_refl _, fun x hx => absurd hx List.not_mem_nil, Or.inl rfl⟩
  | cons x r ih =>
    intro c b h0
    have hx0 := h0 x List.mem_cons_self
    have e0 : grF f (x :: r) (c, b) = grF f r (va_up c (f x).toNat (c (f x).toNat + 1), if b < c (f x).toNat + 1 then c (f x).toNat + 1 else b) := rfl
    rw [e0]
    obtain ⟨h1, h2, h3⟩ := ih (va_up c (f x).toNat (c (f x).toNat + 1)) (if b < c (f x).toNat + 1 then c (f x).toNat + 1 else b) (fun y hy => h0 y (List.mem_cons_of_mem _ hy))
    obtain ⟨R, hR⟩ : ∃ z, (grF f r (va_up c (f x).toNat (c (f x).toNat + 1), if b < c (f x).toNat + 1 then c (f x).toNat + 1 else b)).2 = z := ⟨_, rfl⟩
    rw [hR] at h1 h2 h3 ⊢
    have hup : ∀ y ∈ r, c (f y).toNat + mulL f (x :: r) (f y) = va_up c (f x).toNat (c (f x).toNat + 1) (f y).toNat + mulL f r (f y) := by
      intro y hy
      have hy0 := h0 y (List.mem_cons_of_mem _ hy)
      rw [mul_cons]
      by_cases e : f x = f y
      · rw [if_pos e, ← e, va_up_self]
        omega
      · rw [if_neg e, va_up_ne _ _ (by omega)]
        omega
    have hbx : b ≤ R ∧ c (f x).toNat + 1 ≤ R := by
      split at h1 <;> omega
    have hX : c (f x).toNat + mulL f (x :: r) (f x) ≤ R := by
      by_cases e : ∃ y ∈ r, f y = f x
      · obtain ⟨y, hy, e⟩ := e
        have := h2 y hy
        rw [← hup y hy, e] at this
        exact this
      · rw [mul_cons, if_pos rfl]
        have : mulL f r (f x) = 0 := by
          unfold mulL
          rw [List.filter_eq_nil_iff.mpr (fun y hy => by rw [decide_eq_true_eq]; exact fun z => e ⟨y, hy, z⟩)]
          rfl
        omega
    refine ⟨hbx.1, fun y hy => ?_, ?_⟩
    · rcases List.mem_cons.mp hy with rfl | hy
      · exact hX
      · rw [hup y hy]
        exact h2 y hy
    · rcases h3 with h3 | ⟨y, hy, h3⟩
      · split at h3
        · right
          refine ⟨x, List.mem_cons_self, ?_⟩
          have h5 := mul_nn f r (f x)
          rw [mul_cons, if_pos rfl] at hX ⊢
          omega
        · exact Or.inl h3
      · right
        exact ⟨y, List.mem_cons_of_mem _ hy, by rw [hup y hy]; exact h3⟩
theorem nx_eq (gg : Int → Int) : ∀ (k j : Nat), nxT gg k (15 * ((j + 1 : Nat) : Int)) (nxS gg (j + 1)) = nxS gg (j + 1 + k) := by
  intro k
  induction k with
  | zero => intro j; rfl
  | succ k ih =>
    intro j
    have h := ih (j + 1)
    unfold nxT
    rw [show j + 1 + (k + 1) = j + 1 + 1 + k by omega, ← h, show 15 * ((j + 1 : Nat) : Int) + 15 = 15 * ((j + 1 + 1 : Nat) : Int) by omega]
    rfl
theorem nx_first (g2 : Int → Int) (n : Nat) : nxT g2 (n + 1) 0 (-1, 0) = nxT g2 n (15 * ((0 + 1 : Nat) : Int)) (nxS g2 (0 + 1)) := rfl
theorem nx_all {g1 g2 : Int → Int} (h : ∀ k : Nat, k < 96 → g1 (15 * (k : Int)) = g2 (15 * (k : Int))) : nxS g1 96 = nxT g2 96 0 (-1, 0) := by
  have h1 : nxT g2 96 0 (-1, 0) = nxT g2 95 (15 * ((0 + 1 : Nat) : Int)) (nxS g2 (0 + 1)) := nx_first g2 95
  rw [h1, nx_eq g2 95 0]
  have h2 : ∀ k, k ≤ 96 → nxS g1 k = nxS g2 k := by
    intro k
    induction k with
    | zero => intro _; rfl
    | succ k ih =>
      intro hk
      unfold nxS
      rw [ih (by omega), h k (by omega)]
  exact h2 96 (Nat.le_refl _)

