/-! ===== pure: late, minutes, days, takes are one ===== -/
theorem mom_N {nd sw nc nm : Int} {K U I O G L cf ct fc nx cd md my mt : Nat → Int} (pi : PInv nd sw nc K U I O G L cf ct fc nx cd) {di day x : Int} (hd : 0 ≤ day ∧ day < 365) (hk : ¬ K di.toNat = 5) (hx : 0 ≤ x ∧ x < 1440) : (momN sw nc nm K U I O G L cf ct cd md my mt di day x).Nodup ∧ ∀ m, m ∈ momN sw nc nm K U I O G L cf ct cd md my mt di day x ↔ (0 ≤ m ∧ m < 1440) ∧ nowI sw nc nm K U I O G L cf ct cd md my mt di day m = x :=
  mom_all (cl := fun m => cUp cd cf ct day m nc.toNat) hk (noon_B pi.2.2.2.2.2.2.2.2.1) (half_B pi.2.1 hd) (pi.2.2.2.2.2.1 _) hx (fun _ => rfl)
theorem now_5 {sw nc nm : Int} {K U I O G L cf ct cd md my mt : Nat → Int} {di day : Int} (hk : K di.toNat = 5) (m : Int) : nowI sw nc nm K U I O G L cf ct cd md my mt di day m = nowI sw nc nm K U I O G L cf ct cd md my mt di day 0 := by
  unfold nowI
  rw [hk, told_5, told_5 (m := 0) (cl := cUp cd cf ct day 0 nc.toNat)]
theorem frs_eq {nd sw nc nm : Int} {K U I O G L cf ct fc nx cd md my mt : Nat → Int} (pi : PInv nd sw nc K U I O G L cf ct fc nx cd) {di day x : Int} (hd : 0 ≤ day ∧ day < 365) (hx : 0 ≤ x ∧ x < 1440) : frsN sw nc nm K U I O G L cf ct cd md my mt di day x = fsF (fun m => nowI sw nc nm K U I O G L cf ct cd md my mt di day m) x 1440 0 := by
  unfold frsN
  by_cases hk : K di.toNat = 5
  · rw [if_pos hk]
    have h5 := now_5 (sw := sw) (nc := nc) (nm := nm) (U := U) (I := I) (O := O) (G := G) (L := L) (cf := cf) (ct := ct) (cd := cd) (md := md) (my := my) (mt := mt) (day := day) hk
    rcases fsF_spec (fun m => nowI sw nc nm K U I O G L cf ct cd md my mt di day m) x 1440 0 (by decide) with ⟨h1, h2⟩ | ⟨h1, h2, h3, h4⟩
    · rw [h1, if_neg (h2 0 (by decide) (by decide))]
    · rw [h5] at h3
      rw [if_pos h3]
      rcases Int.lt_or_le 0 (fsF (fun m => nowI sw nc nm K U I O G L cf ct cd md my mt di day m) x 1440 0) with q | q
      · exact absurd h3 (h4 0 (by decide) q)
      · omega
  · rw [if_neg hk]
    exact fst_fsF (mom_N pi hd hk hx).2
theorem gd_spec (se K : Nat → Int) : ∀ k, (gdI se K k = -1 ∧ ∀ j, j < k → se j = -1 ∨ K j = 5) ∨ ∃ j, j < k ∧ gdI se K k = (j : Int) ∧ ¬ se j = -1 ∧ ¬ K j = 5 := by
  intro k
  induction k with
  | zero => exact Or.inl ⟨rfl, fun j hj => absurd hj (Nat.not_lt_zero j)⟩
  | succ k ih =>
    unfold gdI
    by_cases q : se k ≠ -1 ∧ K k ≠ 5
    · rw [if_pos q]
      exact Or.inr ⟨k, by omega, rfl, q.1, q.2⟩
    · rw [if_neg q]
      rcases ih with ⟨h1, h2⟩ | ⟨j, h1, h2⟩
      · refine Or.inl ⟨h1, fun j hj => ?_⟩
        by_cases q2 : j = k
        · subst q2
          by_cases q3 : se j = -1
          · exact Or.inl q3
          · by_cases q4 : K j = 5
            · exact Or.inr q4
            · exact absurd ⟨q3, q4⟩ q
        · exact h2 j (by omega)
      · exact Or.inr ⟨j, by omega, h2⟩
theorem fit_eq {nd sw nc nm : Int} {K U I O G L cf ct fc nx cd md my mt : Nat → Int} (pi : PInv nd sw nc K U I O G L cf ct fc nx cd) {se : Nat → Int} (hse : ∀ j, -1 ≤ se j ∧ se j < 1440) {day : Int} (hd : 0 ≤ day ∧ day < 365) : fitN nd sw nc nm K U I O G L cf ct cd md my mt se day s0 = mnR (fun m => alI se (fun j => nowI sw nc nm K U I O G L cf ct cd md my mt ((j : Nat) : Int) day m) nd.toNat) 1440 0 s0 := by
  unfold fitN
  by_cases hb : badI se K (fun j => nowI sw nc nm K U I O G L cf ct cd md my mt (j : Nat) day 0) nd.toNat = true
  · rw [if_pos hb]
    unfold badI at hb
    obtain ⟨j, h1, h2, h3, h4⟩ := of_decide_eq_true hb
    refine (mn_none (fun m => ?_)).symm
    unfold alI
    rw [decide_eq_false_iff_not]
    intro h5
    rcases h5 j h1 with h6 | h6
    · exact h2 h6
    · dsimp only at h4 h6
      rw [now_5 (by rw [Int.toNat_natCast]; exact h3)] at h6
      exact h4 h6
  · rw [if_neg hb]
    rcases gd_spec se K nd.toNat with ⟨h1, h2⟩ | ⟨j, h1, h2, h3, h4⟩
    · rw [if_pos h1]
      refine (mn_all (fun m => ?_)).symm
      unfold alI
      rw [decide_eq_true_eq]
      intro i hi
      by_cases q : se i = -1
      · exact Or.inl q
      · right
        have h5 := (h2 i hi).resolve_left q
        dsimp only
        rw [now_5 (by rw [Int.toNat_natCast]; exact h5)]
        by_cases q2 : nowI sw nc nm K U I O G L cf ct cd md my mt ((i : Nat) : Int) day 0 = se i
        · exact q2
        · refine absurd ?_ hb
          unfold badI
          rw [decide_eq_true_eq]
          exact ⟨i, hi, q, h5, q2⟩
    · have bj := hse j
      rw [if_neg (by omega), h2, Int.toNat_natCast]
      obtain ⟨m1, m2⟩ := mom_N (nm := nm) (md := md) (my := my) (mt := mt) pi (di := (j : Int)) (x := se j) hd (by rw [Int.toNat_natCast]; exact h4) (by omega)
      refine ft_mn m1 (fun m hm => ((m2 m).mp hm).1) (fun m h5 h6 h7 => (m2 m).mpr ⟨⟨h5, h6⟩, ?_⟩)
      unfold alI at h7
      exact ((of_decide_eq_true h7) j h1).resolve_left h3
theorem cnt_nn (p : Int → Bool) : ∀ (k : Nat) (a : Int), 0 ≤ cntR p a k := by
  intro k
  induction k with
  | zero => intro a; exact Int.le_refl _
  | succ k ih =>
    intro a
    unfold cntR
    have := ih (a + 1)
    have := b2i_01 (p a)
    omega
theorem dyI_0 (ok : Int → Bool) (day : Int) : ∀ (k : Nat) (m n : Int), dyI ok 0 day k m n = .inr (n + cntR ok m k) := by
  intro k
  induction k with
  | zero => intro m n; show Sum.inr n = Sum.inr (n + 0); rw [Int.add_zero]
  | succ k ih =>
    intro m n
    unfold dyI cntR
    by_cases q : ok m = true
    · rw [if_pos q, if_neg (by decide), ih, q]
      congr 1
      show n + 1 + _ = n + (1 + _)
      omega
    · rw [if_neg q, ih, Bool.eq_false_iff.mpr q]
      congr 1
      show n + _ = n + (0 + _)
      omega
theorem dyI_w {ok : Int → Bool} {w day : Int} (hw : 0 < w) : ∀ (k : Nat) (m n : Int), ((∀ j, m ≤ j → j < m + k → ¬ ok j = true) → dyI ok w day k m n = .inr n) ∧ ∀ x, m ≤ x → x < m + k → ok x = true → (∀ j, m ≤ j → j < x → ¬ ok j = true) → dyI ok w day k m n = .inl (if w = 1 then day else x) := by
  intro k
  induction k with
  | zero => intro m n; exact ⟨fun _ => rfl, fun x h1 h2 => by omega⟩
  | succ k ih =>
    intro m n
    unfold dyI
    constructor
    · intro h
      rw [if_neg (h m (Int.le_refl _) (by omega))]
      exact (ih (m + 1) n).1 (fun j h1 h2 => h j (by omega) (by omega))
    · intro x h1 h2 h3 h4
      by_cases q : x = m
      · subst q
        rw [if_pos h3, if_pos hw]
      · rw [if_neg (h4 m (Int.le_refl _) (by omega))]
        exact (ih (m + 1) n).2 x (by omega) (by omega) h3 (fun j h5 h6 => h4 j (by omega) h6)
theorem dyS_stay {fit : Int → Int × Int × Int} {a : Nat} (h : ¬ (dyS fit a).2.1 = -1) : ∀ i, (dyS fit (a + i)).2 = (dyS fit a).2 := by
  intro i
  induction i with
  | zero => rfl
  | succ i ih =>
    have e1 : (dyS fit (a + i)).2.1 = (dyS fit a).2.1 := by rw [ih]
    show ((if (dyS fit (a + i)).2.1 = -1 ∧ 0 < (fit ((a + i : Nat) : Int)).1 then (((a + i : Nat) : Int)) else (dyS fit (a + i)).2.1), (if (dyS fit (a + i)).2.1 = -1 ∧ 0 < (fit ((a + i : Nat) : Int)).1 then (fit ((a + i : Nat) : Int)).2.1 else (dyS fit (a + i)).2.2)) = _
    rw [if_neg (fun q => h (e1.symm.trans q.1)), if_neg (fun q => h (e1.symm.trans q.1))]
    exact ih
theorem dy_eq {ok : Int → Int → Bool} {fit : Int → Int × Int × Int} {w : Int} (hw : 0 ≤ w ∧ w ≤ 2) (hf : ∀ d, 0 ≤ d → d < 365 → fit d = mnR (ok d) 1440 0 s0) : ∀ (k d : Nat) (n : Int), d + k = 365 → (w = 0 → n = (dyS fit d).1) → (¬ w = 0 → (dyS fit d).2.1 = -1 ∧ (dyS fit d).2.2 = -1) → dyO ok w k (d : Int) n = mnV (dyS fit 365) w := by
  intro k
  induction k with
  | zero =>
    intro d n hd h0 h1
    obtain rfl : d = 365 := by omega
    show (if w = 0 then n else -1) = _
    unfold mnV
    by_cases q : w = 0
    · rw [if_pos q, if_pos q, h0 q]
    · rw [if_neg q, if_neg q]
      obtain ⟨h2, h3⟩ := h1 q
      rw [h2, h3]
      split <;> rfl
  | succ k ih =>
    intro d n hd h0 h1
    have es : dyS fit (d + 1) = ((dyS fit d).1 + (fit d).1, if (dyS fit d).2.1 = -1 ∧ 0 < (fit d).1 then (d : Int) else (dyS fit d).2.1, if (dyS fit d).2.1 = -1 ∧ 0 < (fit d).1 then (fit d).2.1 else (dyS fit d).2.2) := rfl
    have hfd := hf d (by omega) (by omega)
    obtain ⟨s1, s2, s3, s4⟩ := mnR_spec (ok (d : Int)) 1440 0 s0 (by decide)
    have s3 := s3 rfl
    rw [← hfd] at s1 s3
    have s00 : s0.1 = 0 := rfl
    have hcn := cnt_nn (ok (d : Int)) 1440 0
    unfold dyO
    by_cases q : w = 0
    · subst q
      rw [dyI_0]
      dsimp only
      have h2 := ih (d + 1) (n + cntR (ok (d : Int)) 0 1440) (by omega) (fun _ => by rw [es, h0 rfl, s1, s00]; dsimp only; omega) (fun q => absurd rfl q)
      rw [show ((d + 1 : Nat) : Int) = (d : Int) + 1 by omega] at h2
      exact h2
    · obtain ⟨h2, h3⟩ := h1 q
      rcases s3 with ⟨b1, b2⟩ | ⟨b1, b2, b3, b4⟩
      · have hc0 : cntR (ok (d : Int)) 0 1440 = 0 := by
          rw [cnt_len]
          have : (rgL 0 1440).filter (ok (d : Int)) = [] := List.filter_eq_nil_iff.mpr (fun a ha => b2 a ((rgL_mem 1440 0).mp ha).1 ((rgL_mem 1440 0).mp ha).2)
          rw [this]
          rfl
        rw [(dyI_w (by omega) 1440 0 n).1 b2]
        dsimp only
        have h4 := ih (d + 1) n (by omega) (fun q2 => absurd q2 q) (fun _ => by rw [es, if_neg (by omega), if_neg (by omega)]; exact ⟨h2, h3⟩)
        rw [show ((d + 1 : Nat) : Int) = (d : Int) + 1 by omega] at h4
        exact h4
      · have hc1 : 0 < (fit (d : Int)).1 := by
          rw [s1, s00, cnt_len]
          have : (fit (d : Int)).2.1 ∈ (rgL 0 1440).filter (ok (d : Int)) := List.mem_filter.mpr ⟨(rgL_mem 1440 0).mpr ⟨b1, b2⟩, b3⟩
          have := List.length_pos_of_mem this
          omega
        rw [(dyI_w (by omega) 1440 0 n).2 _ b1 b2 b3 b4]
        dsimp only
        rw [if_pos ⟨h2, hc1⟩, if_pos ⟨h2, hc1⟩] at es
        have h5 := dyS_stay (fit := fit) (a := d + 1) (by rw [es]; dsimp only; omega) k
        rw [show d + 1 + k = 365 by omega] at h5
        unfold mnV
        rw [if_neg q, h5, es]
/-! takes -/
theorem cnt_zero : ∀ (k : Nat) (a : Int), cntR (fun _ => false) a k = 0 := by
  intro k
  induction k with
  | zero => intro a; rfl
  | succ k ih =>
    intro a
    unfold cntR
    rw [ih]
    rfl
theorem cnt_congr {p q : Int → Bool} : ∀ (k : Nat) (a : Int), (∀ m, a ≤ m → m < a + k → p m = q m) → cntR p a k = cntR q a k := by
  intro k
  induction k with
  | zero => intro a _; rfl
  | succ k ih =>
    intro a h
    unfold cntR
    rw [h a (Int.le_refl _) (by omega), ih (a + 1) (fun m h1 h2 => h m (by omega) (by omega))]
theorem cnM_cnt (f : Int → Int) : ∀ (k : Nat) (m a : Int), cnM f k m a = a + cntR (fun z => !decide (f z = -1)) m k := by
  intro k
  induction k with
  | zero => intro m a; show a = a + 0; omega
  | succ k ih =>
    intro m a
    unfold cnM cntR
    rw [ih]
    by_cases q : f m = -1
    · rw [if_pos q, decide_eq_true q]
      show _ = a + (0 + _)
      omega
    · rw [if_neg q, decide_eq_false q]
      show _ = a + (1 + _)
      omega
theorem cnt_sub {p q : Int → Bool} {a : Int} {n N : Nat} (h0 : 0 ≤ a) (h1 : a + n ≤ N) (h : ∀ m : Int, 0 ≤ m → m < (N : Int) → (q m = true ↔ (a ≤ m ∧ m < a + n) ∧ p m = true)) : cntR q 0 N = cntR p a n := by
  rw [cnt_len, cnt_len]
  have hp := (List.perm_ext_iff_of_nodup (nd_filter q (rgL_nd N 0)) (nd_filter p (rgL_nd n a))).mpr (fun m => by
    rw [List.mem_filter, List.mem_filter, rgL_mem, rgL_mem]
    constructor
    · rintro ⟨⟨a1, a2⟩, a3⟩
      exact (h m a1 (by omega)).mp a3
    · rintro ⟨⟨a1, a2⟩, a3⟩
      exact ⟨⟨by omega, by omega⟩, (h m (by omega) (by omega)).mpr ⟨⟨a1, a2⟩, a3⟩⟩)
  rw [hp.length_eq]
theorem cnt_iv (lo hi : Int) : ∀ (k : Nat) (a : Int), cntR (fun m => decide (lo ≤ m ∧ m ≤ hi)) a k = max 0 (min hi (a + k - 1) - max lo a + 1) := by
  intro k
  induction k with
  | zero => intro a; show (0 : Int) = _; omega
  | succ k ih =>
    intro a
    unfold cntR
    rw [ih]
    by_cases q : lo ≤ a ∧ a ≤ hi
    · rw [decide_eq_true q]
      show (1 : Int) + _ = _
      omega
    · rw [decide_eq_false q]
      show (0 : Int) + _ = _
      omega
theorem cnt_lin {q A B C D : Int → Bool} : ∀ (k : Nat) (a : Int), (∀ m, a ≤ m → m < a + k → b2i (q m) + b2i (C m) + b2i (D m) = b2i (A m) + b2i (B m)) → cntR q a k + cntR C a k + cntR D a k = cntR A a k + cntR B a k := by
  intro k
  induction k with
  | zero => intro a _; rfl
  | succ k ih =>
    intro a h
    have h1 := ih (a + 1) (fun m h1 h2 => h m (by omega) (by omega))
    have h2 := h a (Int.le_refl _) (by omega)
    unfold cntR
    omega
theorem b2i_d (p : Prop) [Decidable p] : b2i (decide p) = if p then 1 else 0 := by
  unfold b2i
  by_cases q : p
  · rw [if_pos q, decide_eq_true q, if_pos rfl]
  · rw [if_neg q, decide_eq_false q, if_neg (by decide)]
theorem told_lit {kind turn tilt town g day m noon half : Int} {cl : Bool} (hg : grownI g kind day = false) (h4 : ¬ kind = 4) : toldI kind turn tilt town g day m noon half cl = -1 ↔ angI kind day m noon half cl = -100000 := by
  constructor
  · intro h
    by_cases q : angI kind day m noon half cl = -100000
    · exact q
    · rw [tI_ok hg rfl q, if_neg (fun z => h4 z.1)] at h
      omega
  · intro h
    exact tI_no2 hg h
theorem tak_eq {nd sw nc nm : Int} {K U I O G L cf ct fc nx cd md my mt : Nat → Int} (pi : PInv nd sw nc K U I O G L cf ct fc nx cd) {di day : Int} (hd : 0 ≤ day ∧ day < 365) (hk : ¬ K di.toNat = 5) : takN sw nc nm K U I O G L cf ct cd md my mt di day = cntR (fun m => !decide (nowI sw nc nm K U I O G L cf ct cd md my mt di day m = -1)) 0 1440 := by
  have hn := noon_B (day := day) pi.2.2.2.2.2.2.2.2.1
  have hh := half_B pi.2.1 hd
  have hK := pi.2.2.2.1 di.toNat
  unfold takN
  by_cases h4 : K di.toNat = 4
  · rw [if_pos h4]
    obtain ⟨m1, m2⟩ := mom_N (nm := nm) (md := md) (my := my) (mt := mt) pi (di := di) (x := 720) hd hk (by decide)
    refine len_cnt (n := 1440) m1 (fun m => ?_)
    rw [m2]
    have h5 : nowI sw nc nm K U I O G L cf ct cd md my mt di day m = 720 ↔ (!decide (nowI sw nc nm K U I O G L cf ct cd md my mt di day m = -1)) = true := by
      have e1 : nowI sw nc nm K U I O G L cf ct cd md my mt di day m = -1 ∨ nowI sw nc nm K U I O G L cf ct cd md my mt di day m = 720 := by
        unfold nowI toldI
        split
        · exact Or.inl rfl
        · split
          · exact Or.inl rfl
          · next q =>
            right
            rcases Int.lt_trichotomy ((plainI (K di.toNat) (I di.toNat) (O di.toNat) (G di.toNat) day m (noonI L day) (halfI sw day) (cUp cd cf ct day m nc.toNat) + turnI md my mt di day (U di.toNat) nm.toNat) % 1440) 720 with q2 | q2 | q2
            · exact absurd ⟨h4, by omega⟩ q
            · exact q2
            · exact absurd ⟨h4, by omega⟩ q
      rw [Bool.not_eq_true', decide_eq_false_iff_not]
      omega
    rw [h5]
    rfl
  · rw [if_neg h4]
    unfold litMI
    cases hg : grownI (G di.toNat) (K di.toNat) day with
    | true =>
      rw [if_pos (Or.inr rfl)]
      refine (Eq.trans (cnt_congr (q := fun _ => false) 1440 0 (fun m _ _ => ?_)) ?_).symm
      · rw [show nowI sw nc nm K U I O G L cf ct cd md my mt di day m = -1 from tI_no1 hg]
        rfl
      · exact cnt_zero 1440 0
    | false =>
      rw [if_neg (by rintro (q | q); exact hk q; exact absurd q (by decide))]
      have hl := fun m => told_lit (turn := turnI md my mt di day (U di.toNat) nm.toNat) (tilt := I di.toNat) (town := O di.toNat) (m := m) (noon := noonI L day) (half := halfI sw day) (cl := cUp cd cf ct day m nc.toNat) hg h4
      by_cases h3 : K di.toNat = 3
      · rw [if_pos h3]
        unfold moonMI
        have ha : ∀ m, nowI sw nc nm K U I O G L cf ct cd md my mt di day m = -1 ↔ (moonI day = false ∨ ((m - noonI L day).natAbs : Int) ≤ halfI sw day ∨ 360 < ((aroundI (m - (720 + 48 * (day % 30)))).natAbs : Int)) := by
          intro m
          refine (hl m).trans ?_
          unfold angI mangI
          rw [if_pos h3]
          split
          · next q => exact ⟨fun _ => q, fun _ => rfl⟩
          · next q =>
            refine ⟨fun z => ?_, fun z => absurd z q⟩
            unfold aroundI at z
            omega
        cases hmo : moonI day with
        | false =>
          rw [if_neg (by decide)]
          refine (Eq.trans (cnt_congr (q := fun _ => false) 1440 0 (fun m _ _ => ?_)) ?_).symm
          · rw [decide_eq_true ((ha m).mpr (Or.inl hmo))]
            rfl
          · exact cnt_zero 1440 0
        | true =>
          rw [if_pos rfl]
          have hage : 8 ≤ day % 30 ∧ day % 30 ≤ 22 := by
            unfold moonI at hmo
            simpa using hmo
          have hlin := cnt_lin (q := fun m => !decide (nowI sw nc nm K U I O G L cf ct cd md my mt di day m = -1)) (A := fun m => decide (720 + 48 * (day % 30) - 360 ≤ m ∧ m ≤ 5000)) (B := fun m => decide (-5000 ≤ m ∧ m ≤ 720 + 48 * (day % 30) + 360 - 1440)) (C := fun m => decide (max (720 + 48 * (day % 30) - 360) (noonI L day - halfI sw day) ≤ m ∧ m ≤ noonI L day + halfI sw day)) (D := fun m => decide (noonI L day - halfI sw day ≤ m ∧ m ≤ min (720 + 48 * (day % 30) + 360 - 1440) (noonI L day + halfI sw day))) 1440 0 (fun m h1 h2 => by
            have hq := ha m
            rw [hmo] at hq
            rw [← decide_not, b2i_d, b2i_d, b2i_d, b2i_d, b2i_d]
            unfold aroundI at hq
            obtain ⟨X, hX⟩ : ∃ z, nowI sw nc nm K U I O G L cf ct cd md my mt di day m = z := ⟨_, rfl⟩
            rw [hX] at hq ⊢
            have hq2 : X = -1 ↔ (((m - noonI L day).natAbs : Int) ≤ halfI sw day ∨ 360 < (((m - (720 + 48 * (day % 30)) + 720) % 1440 - 720).natAbs : Int)) := by
              rw [hq]
              simp
            by_cases z1 : ((m - noonI L day).natAbs : Int) ≤ halfI sw day
            · have z2 : X = -1 := hq2.mpr (Or.inl z1)
              rw [if_neg (fun z => z z2)]
              by_cases z3 : 720 + 48 * (day % 30) - 360 ≤ m
              · rw [if_pos (show max (720 + 48 * (day % 30) - 360) (noonI L day - halfI sw day) ≤ m ∧ m ≤ noonI L day + halfI sw day by omega), if_neg (by omega), if_pos (show 720 + 48 * (day % 30) - 360 ≤ m ∧ m ≤ 5000 by omega), if_neg (by omega)]
                rfl
              · rw [if_neg (show ¬ (max (720 + 48 * (day % 30) - 360) (noonI L day - halfI sw day) ≤ m ∧ m ≤ noonI L day + halfI sw day) by omega), if_neg (show ¬ (720 + 48 * (day % 30) - 360 ≤ m ∧ m ≤ 5000) by omega)]
                by_cases z4 : m ≤ 720 + 48 * (day % 30) + 360 - 1440
                · rw [if_pos (by omega), if_pos (by omega)]; rfl
                · rw [if_neg (by omega), if_neg (by omega)]; rfl
            · rw [if_neg (show ¬ (max (720 + 48 * (day % 30) - 360) (noonI L day - halfI sw day) ≤ m ∧ m ≤ noonI L day + halfI sw day) by omega), if_neg (show ¬ (noonI L day - halfI sw day ≤ m ∧ m ≤ min (720 + 48 * (day % 30) + 360 - 1440) (noonI L day + halfI sw day)) by omega)]
              by_cases z3 : 720 + 48 * (day % 30) - 360 ≤ m
              · have z2 : ¬ X = -1 := fun z => by rcases hq2.mp z with y | y <;> omega
                rw [if_pos z2, if_pos (by omega), if_neg (by omega)]; rfl
              · by_cases z4 : m ≤ 720 + 48 * (day % 30) + 360 - 1440
                · have z2 : ¬ X = -1 := fun z => by rcases hq2.mp z with y | y <;> omega
                  rw [if_pos z2, if_neg (by omega), if_pos (by omega)]; rfl
                · have z2 : X = -1 := hq2.mpr (Or.inr (by omega))
                  rw [if_neg (fun z => z z2), if_neg (by omega), if_neg (by omega)]; rfl)
          rw [cnt_iv, cnt_iv, cnt_iv, cnt_iv] at hlin
          unfold sharedI
          omega
      · rw [if_neg h3]
        unfold sunMI
        refine (cnt_sub (by unfold sunFrom; split <;> omega) ?_ (fun m h1 h2 => ?_)).symm
        · unfold sunFrom sunTo
          split <;> split <;> omega
        · rw [Bool.not_eq_true', decide_eq_false_iff_not, Bool.not_eq_true']
          refine (not_congr (hl m)).trans ?_
          unfold angI sunI
          rw [if_neg h3, if_neg hk]
          unfold sunFrom sunTo
          cases hc : cUp cd cf ct day m nc.toNat with
          | true =>
            rw [if_pos (Or.inr (Or.inl rfl))]
            exact ⟨fun z => absurd rfl z, fun z => absurd z.2 (by decide)⟩
          | false =>
            by_cases q : halfI sw day < ((m - noonI L day).natAbs : Int) ∨ (false : Bool) = true ∨ (K di.toNat = 0 ∧ 0 < m - noonI L day) ∨ (K di.toNat = 1 ∧ m - noonI L day < 0)
            · rw [if_pos q]
              refine ⟨fun z => absurd rfl z, fun z => ?_⟩
              obtain ⟨⟨z1, z2⟩, _⟩ := z
              rcases q with q | q | q | q
              · split at z1 <;> split at z2 <;> omega
              · exact absurd q (by decide)
              · rw [if_neg (by omega), if_pos q.1] at z2
                omega
              · rw [if_pos q.1] at z1
                omega
            · rw [if_neg q]
              have q1 : ¬ halfI sw day < ((m - noonI L day).natAbs : Int) := fun z => q (Or.inl z)
              have q3 : ¬ (K di.toNat = 0 ∧ 0 < m - noonI L day) := fun z => q (Or.inr (Or.inr (Or.inl z)))
              have q4 : ¬ (K di.toNat = 1 ∧ m - noonI L day < 0) := fun z => q (Or.inr (Or.inr (Or.inr z)))
              refine ⟨fun _ => ⟨?_, rfl⟩, fun _ => by omega⟩
              constructor
              · split <;> omega
              · split <;> split <;> omega
theorem tkS_R {f : Int → Int} {g : Int → Int → Int} : ∀ (k : Nat) (on a : Int), (∀ d, on ≤ d → d < on + k → ∀ x, g d x = x + f d) → tkS2 f k on a = tkR g k on a := by
  intro k
  induction k with
  | zero => intro on a _; rfl
  | succ k ih =>
    intro on a h
    unfold tkS2 tkR
    rw [h on (Int.le_refl _) (by omega)]
    exact ih (on + 1) _ (fun d h1 h2 => h d (by omega) (by omega))
theorem tkS_0 {f : Int → Int} (h : ∀ d, f d = 0) : ∀ (k : Nat) (on a : Int), tkS2 f k on a = a := by
  intro k
  induction k with
  | zero => intro on a; rfl
  | succ k ih =>
    intro on a
    unfold tkS2
    rw [h, Int.add_zero]
    exact ih _ _
theorem takes_eq {nd sw nc nm : Int} {K U I O G L cf ct fc nx cd md my mt : Nat → Int} (pi : PInv nd sw nc K U I O G L cf ct fc nx cd) {di day : Int} (hd : 0 ≤ day ∧ day < 365) : tkS2 (fun d => takN sw nc nm K U I O G L cf ct cd md my mt di d) (365 - day).toNat day 0 = if K di.toNat = 5 then 0 else tkR (fun d a => cnM (fun m => nowI sw nc nm K U I O G L cf ct cd md my mt di d m) 1440 0 a) (365 - day).toNat day 0 := by
  by_cases hk : K di.toNat = 5
  · rw [if_pos hk]
    refine tkS_0 (fun d => ?_) _ _ _
    unfold takN litMI
    rw [if_neg (by omega), if_pos (Or.inl hk)]
  · rw [if_neg hk]
    refine tkS_R _ _ _ (fun d h1 h2 x => ?_)
    rw [cnM_cnt, tak_eq pi (by omega) hk]

