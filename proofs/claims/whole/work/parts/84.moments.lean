/-! ===== pure: the moments of a dial ===== -/
theorem td_B (x : Int) {s : Int} (hs : 0 < s) : ∃ r, x = s * x.tdiv s + r ∧ -s < r ∧ r < s := by
  refine ⟨x.tmod s, (Int.mul_tdiv_add_tmod x s).symm, ?_, Int.tmod_lt_of_pos x hs⟩
  have h := Int.tmod_lt_of_pos (-x) hs
  rw [Int.neg_tmod] at h
  omega
theorem win_B {a s b : Int} (hs : 50 ≤ s ∧ s ≤ 150) (hb : (a * s).tdiv 100 = b) : (b * 100).tdiv s - 3 ≤ a ∧ a ≤ (b * 100).tdiv s + 3 := by
  obtain ⟨r, h1, h2, h3⟩ := td_B (a * s) (s := 100) (by decide)
  obtain ⟨r2, h4, h5, h6⟩ := td_B (b * 100) (s := s) (by omega)
  rw [hb] at h1
  obtain ⟨nx, hnx⟩ : ∃ n, (b * 100).tdiv s = n := ⟨_, rfl⟩
  rw [hnx] at h4 ⊢
  have e1 : s * (a - nx) = r + r2 := by
    rw [Int.mul_sub, Int.mul_comm s a]
    omega
  constructor
  · rcases Int.lt_or_le a (nx - 3) with q | q
    · have h7 : s * (a - nx) ≤ s * (-3) := Int.mul_le_mul_of_nonneg_left (by omega) (by omega)
      omega
    · exact q
  · rcases Int.lt_or_le (nx + 3) a with q | q
    · have h7 : s * 3 ≤ s * (a - nx) := Int.mul_le_mul_of_nonneg_left (by omega) (by omega)
      omega
    · exact q
theorem gath_mem {mi : Int → Int} {ok : Int → Bool} {m : Int} : ∀ (k : Nat) (a : Int), m ∈ gath mi ok a k ↔ ∃ c, (a ≤ c ∧ c < a + k) ∧ mi c ≠ -1 ∧ ok (mi c) = true ∧ mi c = m := by
  intro k
  induction k with
  | zero => intro a; constructor
            · intro h; exact absurd h List.not_mem_nil
            · rintro ⟨c, ⟨h1, h2⟩, _⟩; omega
  | succ k ih =>
    intro a
    unfold gath
    by_cases q : mi a ≠ -1 ∧ ok (mi a) = true
    · rw [if_pos q, List.mem_cons, ih]
      constructor
      · rintro (h | ⟨c, ⟨h1, h2⟩, h3⟩)
        · exact ⟨a, ⟨by omega, by omega⟩, q.1, q.2, h.symm⟩
        · exact ⟨c, ⟨by omega, by omega⟩, h3⟩
      · rintro ⟨c, ⟨h1, h2⟩, h3, h4, h5⟩
        by_cases q2 : c = a
        · subst q2; exact Or.inl h5.symm
        · exact Or.inr ⟨c, ⟨by omega, by omega⟩, h3, h4, h5⟩
    · rw [if_neg q, ih]
      constructor
      · rintro ⟨c, ⟨h1, h2⟩, h3⟩
        exact ⟨c, ⟨by omega, by omega⟩, h3⟩
      · rintro ⟨c, ⟨h1, h2⟩, h3, h4, h5⟩
        by_cases q2 : c = a
        · subst q2; exact absurd ⟨h3, h4⟩ q
        · exact ⟨c, ⟨by omega, by omega⟩, h3, h4, h5⟩
theorem gath_nd {mi : Int → Int} {ok : Int → Bool} (inj : ∀ c d, mi c ≠ -1 → mi d ≠ -1 → mi c = mi d → c = d) : ∀ (k : Nat) (a : Int), (gath mi ok a k).Nodup := by
  intro k
  induction k with
  | zero => intro a; exact List.nodup_nil
  | succ k ih =>
    intro a
    unfold gath
    by_cases q : mi a ≠ -1 ∧ ok (mi a) = true
    · rw [if_pos q, List.nodup_cons]
      refine ⟨?_, ih _⟩
      rw [gath_mem]
      rintro ⟨c, ⟨h1, h2⟩, h3, h4, h5⟩
      have := inj c a h3 q.1 h5
      omega
    · rw [if_neg q]
      exact ih _
theorem minAt_inj {kind day noon half : Int} (hn : 690 ≤ noon ∧ noon ≤ 750) (hh : 120 ≤ half ∧ half ≤ 600) : ∀ c d : Int, minAtI kind day c noon half ≠ -1 → minAtI kind day d noon half ≠ -1 → minAtI kind day c noon half = minAtI kind day d noon half → c = d := by
  intro c d h1 h2 h3
  unfold minAtI at h1 h2 h3
  by_cases q : kind = 3
  · rw [if_pos q] at h1 h2 h3
    rw [if_pos q] at h3
    by_cases q1 : 360 < (c.natAbs : Int)
    · rw [if_pos q1] at h1; exact absurd rfl h1
    · by_cases q2 : 360 < (d.natAbs : Int)
      · rw [if_pos q2] at h2; exact absurd rfl h2
      · rw [if_neg q1, if_neg q2] at h3
        omega
  · rw [if_neg q] at h1 h2 h3
    rw [if_neg q] at h3
    by_cases q1 : half < (c.natAbs : Int)
    · rw [if_pos q1] at h1; exact absurd rfl h1
    · by_cases q2 : half < (d.natAbs : Int)
      · rw [if_pos q2] at h2; exact absurd rfl h2
      · rw [if_neg q1, if_neg q2] at h3
        omega
theorem ang_min {kind day m noon half a : Int} {cl : Bool} (hk : ¬ kind = 5) (hm : 0 ≤ m ∧ m < 1440) (hn : 690 ≤ noon ∧ noon ≤ 750) (hh : 120 ≤ half ∧ half ≤ 600) (ha : angI kind day m noon half cl = a) (hne : ¬ a = -100000) : minAtI kind day a noon half = m ∧ -600 ≤ a ∧ a ≤ 600 := by
  unfold angI at ha
  unfold minAtI
  by_cases q : kind = 3
  · rw [if_pos q] at ha ⊢
    unfold mangI aroundI at ha
    split at ha
    · exact absurd ha.symm hne
    · next q2 =>
      rw [if_neg (by omega)]
      omega
  · rw [if_neg q, if_neg hk] at ha
    rw [if_neg q]
    unfold sunI at ha
    split at ha
    · exact absurd ha.symm hne
    · next q2 =>
      rw [if_neg (by omega)]
      omega
theorem strI_B {kind tilt : Int} (ht : -50 ≤ tilt ∧ tilt ≤ 50) : 50 ≤ strI kind tilt ∧ strI kind tilt ≤ 150 := by
  unfold strI
  split <;> omega
/-- a told minute comes of one of the angles that are tried -/
theorem mom_in {kind tilt town tu g day m noon half x : Int} {cl : Int → Bool} (hk : ¬ kind = 5) (hm : 0 ≤ m ∧ m < 1440) (hn : 690 ≤ noon ∧ noon ≤ 750) (hh : 120 ≤ half ∧ half ≤ 600) (ht : -50 ≤ tilt ∧ tilt ≤ 50) (hx : 0 ≤ x ∧ x < 1440) (h : toldI kind tu tilt town g day m noon half (cl m) = x) : ∃ a, minAtI kind day a noon half = m ∧ ((nextI (bentI x tu town) 0 (strI kind tilt) - 3 ≤ a ∧ a < nextI (bentI x tu town) 0 (strI kind tilt) - 3 + 7) ∨ (nextI (bentI x tu town) 1 (strI kind tilt) - 3 ≤ a ∧ a < nextI (bentI x tu town) 1 (strI kind tilt) - 3 + 7)) := by
  cases hg : grownI g kind day with
  | true => rw [tI_no1 hg] at h; omega
  | false =>
    obtain ⟨a, ha⟩ : ∃ a, angI kind day m noon half (cl m) = a := ⟨_, rfl⟩
    by_cases hne : a = -100000
    · rw [tI_no2 hg (ha.trans hne)] at h; omega
    · obtain ⟨hmin, ha1, ha2⟩ := ang_min hk hm hn hh ha hne
      rw [tI_ok hg ha hne] at h
      have hsB := strI_B (kind := kind) ht
      obtain ⟨b, hb⟩ : ∃ b, (a * strI kind tilt).tdiv 100 = b := ⟨_, rfl⟩
      have hbb : (if tiltI kind then (a * (100 + tilt)).tdiv 100 else a) = b := by
        rw [← hb]
        unfold strI
        by_cases q : tiltI kind = true
        · rw [if_pos q, if_pos q]
        · rw [if_neg q, if_neg q]
          have := mul100 a
          rw [show (100 + 0 : Int) = 100 by rfl] at this
          exact this.symm
      have hbB : -900 ≤ b ∧ b ≤ 900 := by
        obtain ⟨t2, e2, ht2⟩ : ∃ t2, strI kind tilt = 100 + t2 ∧ (-50 ≤ t2 ∧ t2 ≤ 50) := ⟨strI kind tilt - 100, by omega, by omega⟩
        have := bend_B ⟨ha1, ha2⟩ ht2
        rw [← e2, hb] at this
        exact this.2
      rw [hbb] at h
      have hx2 : x = (720 + b + tu + town) % 1440 := by
        split at h
        · omega
        · exact h.symm
      have hw := win_B hsB hb
      refine ⟨a, hmin, ?_⟩
      unfold nextI bentI
      by_cases q : 0 ≤ b
      · left
        rw [show (x - 720 - tu - town) % 1440 - 0 * 1440 = b by omega]
        omega
      · right
        rw [show (x - 720 - tu - town) % 1440 - 1 * 1440 = b by omega]
        omega
theorem mom_apart {b s : Int} (hs : 50 ≤ s ∧ s ≤ 150) (hb : 0 ≤ b ∧ b < 1440) : nextI b 1 s + 100 < nextI b 0 s := by
  unfold nextI
  obtain ⟨r, h1, h2, h3⟩ := td_B ((b - 0 * 1440) * 100) (s := s) (by omega)
  obtain ⟨r2, h4, h5, h6⟩ := td_B ((b - 1 * 1440) * 100) (s := s) (by omega)
  obtain ⟨x, hx⟩ : ∃ n, ((b - 0 * 1440) * 100).tdiv s = n := ⟨_, rfl⟩
  obtain ⟨y, hy⟩ : ∃ n, ((b - 1 * 1440) * 100).tdiv s = n := ⟨_, rfl⟩
  rw [hx] at h1 ⊢
  rw [hy] at h4 ⊢
  rcases Int.lt_or_le (y + 100) x with q | q
  · exact q
  · have h7 : s * x ≤ s * (y + 100) := Int.mul_le_mul_of_nonneg_left q (by omega)
    rw [Int.mul_add] at h7
    omega
/-- THE MOMENTS: just the minutes in which it is told, each once -/
theorem mom_all {kind tilt town tu g day noon half x : Int} {cl : Int → Bool} (hk : ¬ kind = 5) (hn : 690 ≤ noon ∧ noon ≤ 750) (hh : 120 ≤ half ∧ half ≤ 600) (ht : -50 ≤ tilt ∧ tilt ≤ 50) (hx : 0 ≤ x ∧ x < 1440) {now : Int → Int} (hnow : ∀ m, now m = toldI kind tu tilt town g day m noon half (cl m)) : (momI kind tilt town tu x (fun a => minAtI kind day a noon half) (fun m => decide (now m = x))).Nodup ∧ ∀ m, m ∈ momI kind tilt town tu x (fun a => minAtI kind day a noon half) (fun m => decide (now m = x)) ↔ (0 ≤ m ∧ m < 1440) ∧ now m = x := by
  have inj := minAt_inj (kind := kind) (day := day) hn hh
  have hsB := strI_B (kind := kind) ht
  have hap := mom_apart (b := bentI x tu town) hsB (by unfold bentI; omega)
  unfold momI
  constructor
  · rw [List.nodup_append]
    refine ⟨gath_nd inj _ _, gath_nd inj _ _, ?_⟩
    intro m hm1 m2 hm2 he
    subst he
    rw [gath_mem] at hm1 hm2
    obtain ⟨c, ⟨h1, h2⟩, h3, h4, h5⟩ := hm1
    obtain ⟨d, ⟨h6, h7⟩, h8, h9, h10⟩ := hm2
    have := inj c d h3 h8 (h5.trans h10.symm)
    omega
  · intro m
    rw [List.mem_append, gath_mem, gath_mem]
    constructor
    · rintro (⟨c, hc, h3, h4, h5⟩ | ⟨c, hc, h3, h4, h5⟩)
      · have hB := minAt_B (kind := kind) (day := day) (ang := c) hn hh
        rw [h5] at h3 h4 hB
        exact ⟨by omega, of_decide_eq_true h4⟩
      · have hB := minAt_B (kind := kind) (day := day) (ang := c) hn hh
        rw [h5] at h3 h4 hB
        exact ⟨by omega, of_decide_eq_true h4⟩
    · rintro ⟨hm, h⟩
      obtain ⟨a, ha, hw⟩ := mom_in (cl := cl) hk hm hn hh ht hx ((hnow m).symm.trans h)
      have h3 : minAtI kind day a noon half ≠ -1 := by rw [ha]; omega
      have h4 : decide (now (minAtI kind day a noon half) = x) = true := by rw [ha]; exact decide_eq_true h
      rcases hw with hw | hw
      · exact Or.inl ⟨a, ⟨by omega, by omega⟩, h3, h4, ha⟩
      · exact Or.inr ⟨a, ⟨by omega, by omega⟩, h3, h4, ha⟩

