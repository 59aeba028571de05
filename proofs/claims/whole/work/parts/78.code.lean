/-! ===== the law's code: what its stretches tell ===== -/
theorem cx_one {nd : Int} {cod tf : Nat → Int} {mo : Int} {f k : Nat} {st : List Int} (hk : k ≤ 1498) (hs : (st).length < 799) (hc : cod k = 1) (hv : 0 ≤ cod (k + 1) ∧ cod (k + 1) < nd) : cEx nd cod tf mo (f + 1) k (st) = cEx nd cod tf mo f (k + 2) (tf (cod (k + 1)).toNat :: st) := by
  conv => lhs; unfold cEx
  rw [if_neg (by omega), if_neg (show ¬ cod k = 0 by omega), if_pos hc, if_pos hv]
theorem cx_mid {nd : Int} {cod tf : Nat → Int} {mo : Int} {f k : Nat} {st : List Int} (hk : k ≤ 1498) (hs : (st).length < 799) (hc : cod k = 2) (hv : 0 ≤ cod (k + 1) ∧ cod (k + 1) < 512) : cEx nd cod tf mo (f + 1) k (st) = cEx nd cod tf mo f (k + 2) (midI (midL tf (cod (k + 1)).toNat nd.toNat) :: st) := by
  conv => lhs; unfold cEx
  rw [if_neg (by omega), if_neg (show ¬ cod k = 0 by omega), if_neg (show ¬ cod k = 1 by omega), if_pos hc, if_pos hv]
theorem cx_mon {nd : Int} {cod tf : Nat → Int} {mo : Int} {f k : Nat} {st : List Int} (hk : k ≤ 1498) (hs : (st).length < 799) (hc : cod k = 9) (hv : 0 ≤ cod (k + 1) ∧ cod (k + 1) ≤ 11) : cEx nd cod tf mo (f + 1) k (st) = cEx nd cod tf mo f (k + 2) ((if mo = cod (k + 1) then 1 else 0) :: st) := by
  conv => lhs; unfold cEx
  rw [if_neg (by omega), if_neg (show ¬ cod k = 0 by omega), if_neg (show ¬ cod k = 1 by omega), if_neg (show ¬ cod k = 2 by omega), if_pos hc, if_pos hv]
theorem cx_chs {nd : Int} {cod tf : Nat → Int} {mo : Int} {f k : Nat} {st : List Int} (hk : k ≤ 1498) (hs : (st).length < 799) (hc : cod k = 3) (hv : 1 ≤ cod (k + 1) ∧ cod (k + 1) ≤ (st.length : Int)) : cEx nd cod tf mo (f + 1) k (st) = cEx nd cod tf mo f (k + 2) (chs (st.take (cod (k + 1)).toNat) :: st.drop (cod (k + 1)).toNat) := by
  conv => lhs; unfold cEx
  rw [if_neg (by omega), if_neg (show ¬ cod k = 0 by omega), if_neg (show ¬ cod k = 1 by omega), if_neg (show ¬ cod k = 2 by omega), if_neg (show ¬ cod k = 9 by omega), if_pos hc, if_pos hv]
theorem cx_mea {nd : Int} {cod tf : Nat → Int} {mo : Int} {f k : Nat} {y x : Int} {r : List Int} (hk : k ≤ 1498) (hs : (y :: x :: r).length < 799) (hc : cod k = 4) : cEx nd cod tf mo (f + 1) k (y :: x :: r) = cEx nd cod tf mo f (k + 1) (meI x y :: r) := by
  conv => lhs; unfold cEx
  rw [if_neg (by omega), if_neg (show ¬ cod k = 0 by omega), if_neg (show ¬ cod k = 1 by omega), if_neg (show ¬ cod k = 2 by omega), if_neg (show ¬ cod k = 9 by omega), if_neg (show ¬ cod k = 3 by omega), if_pos hc]
theorem cx_bef {nd : Int} {cod tf : Nat → Int} {mo : Int} {f k : Nat} {y x : Int} {r : List Int} (hk : k ≤ 1498) (hs : (y :: x :: r).length < 799) (hc : cod k = 10) : cEx nd cod tf mo (f + 1) k (y :: x :: r) = cEx nd cod tf mo f (k + 1) (beI x y :: r) := by
  conv => lhs; unfold cEx
  rw [if_neg (by omega), if_neg (show ¬ cod k = 0 by omega), if_neg (show ¬ cod k = 1 by omega), if_neg (show ¬ cod k = 2 by omega), if_neg (show ¬ cod k = 9 by omega), if_neg (show ¬ cod k = 3 by omega), if_neg (show ¬ cod k = 4 by omega), if_pos hc]
theorem cx_lat {nd : Int} {cod tf : Nat → Int} {mo : Int} {f k : Nat} {x : Int} {r : List Int} (hk : k ≤ 1498) (hs : (x :: r).length < 799) (hc : cod k = 5) (hv : -720 ≤ cod (k + 1) ∧ cod (k + 1) ≤ 720) : cEx nd cod tf mo (f + 1) k (x :: r) = cEx nd cod tf mo f (k + 2) (laI x (cod (k + 1)) :: r) := by
  conv => lhs; unfold cEx
  rw [if_neg (by omega), if_neg (show ¬ cod k = 0 by omega), if_neg (show ¬ cod k = 1 by omega), if_neg (show ¬ cod k = 2 by omega), if_neg (show ¬ cod k = 9 by omega), if_neg (show ¬ cod k = 3 by omega), if_neg (show ¬ cod k = 4 by omega), if_neg (show ¬ cod k = 10 by omega), if_pos hc, if_pos hv]
theorem cx_ask {nd : Int} {cod tf : Nat → Int} {mo : Int} {f k : Nat} {z y x : Int} {r : List Int} (hk : k ≤ 1498) (hs : (z :: y :: x :: r).length < 799) (hc : cod k = 6) : cEx nd cod tf mo (f + 1) k (z :: y :: x :: r) = cEx nd cod tf mo f (k + 1) ((if x = 1 then y else z) :: r) := by
  conv => lhs; unfold cEx
  rw [if_neg (by omega), if_neg (show ¬ cod k = 0 by omega), if_neg (show ¬ cod k = 1 by omega), if_neg (show ¬ cod k = 2 by omega), if_neg (show ¬ cod k = 9 by omega), if_neg (show ¬ cod k = 3 by omega), if_neg (show ¬ cod k = 4 by omega), if_neg (show ¬ cod k = 10 by omega), if_neg (show ¬ cod k = 5 by omega), if_pos hc]
theorem cx_tur {nd : Int} {cod tf : Nat → Int} {mo : Int} {f k : Nat} {x : Int} {r : List Int} (hk : k ≤ 1498) (hs : (x :: r).length < 799) (hc : cod k = 7) (hv : x = 0 ∨ x = 1) : cEx nd cod tf mo (f + 1) k (x :: r) = cEx nd cod tf mo f (k + 1) (ntI x :: r) := by
  conv => lhs; unfold cEx
  rw [if_neg (by omega), if_neg (show ¬ cod k = 0 by omega), if_neg (show ¬ cod k = 1 by omega), if_neg (show ¬ cod k = 2 by omega), if_neg (show ¬ cod k = 9 by omega), if_neg (show ¬ cod k = 3 by omega), if_neg (show ¬ cod k = 4 by omega), if_neg (show ¬ cod k = 10 by omega), if_neg (show ¬ cod k = 5 by omega), if_neg (show ¬ cod k = 6 by omega), if_pos hc]
  dsimp only
  rw [if_pos hv]
theorem cx_drk {nd : Int} {cod tf : Nat → Int} {mo : Int} {f k : Nat} {x : Int} {r : List Int} (hk : k ≤ 1498) (hs : (x :: r).length < 799) (hc : cod k = 8) : cEx nd cod tf mo (f + 1) k (x :: r) = cEx nd cod tf mo f (k + 1) (dkI x :: r) := by
  conv => lhs; unfold cEx
  rw [if_neg (by omega), if_neg (show ¬ cod k = 0 by omega), if_neg (show ¬ cod k = 1 by omega), if_neg (show ¬ cod k = 2 by omega), if_neg (show ¬ cod k = 9 by omega), if_neg (show ¬ cod k = 3 by omega), if_neg (show ¬ cod k = 4 by omega), if_neg (show ¬ cod k = 10 by omega), if_neg (show ¬ cod k = 5 by omega), if_neg (show ¬ cod k = 6 by omega), if_neg (show ¬ cod k = 7 by omega), if_pos hc]
theorem cx_end {nd : Int} {cod tf : Nat → Int} {mo : Int} {f k : Nat} {v : Int} (hk : k ≤ 1498) (hs : ([v]).length < 799) (hc : cod k = 0) : cEx nd cod tf mo (f + 1) k ([v]) = some v := by
  conv => lhs; unfold cEx
  rw [if_neg (by omega), if_pos hc]

theorem cx_mono {nd : Int} {cod tf : Nat → Int} {mo : Int} : ∀ (f k : Nat) (st : List Int) (v : Int), cEx nd cod tf mo f k st = some v → cEx nd cod tf mo (f + 1) k st = some v := by
  intro f
  induction f with
  | zero => intro k st v h; exact absurd h (by simp [cEx])
  | succ f ih =>
    intro k st v h
    have hcc := cEx_cases h
    obtain ⟨⟨hk1, hk2⟩, hcs⟩ := hcc
    rcases hcs with ⟨hc, he⟩ | ⟨hc, he⟩ | ⟨hc, he⟩ | ⟨hc, he⟩ | ⟨hc, he⟩ | ⟨hc, he⟩ | ⟨hc, he⟩ | ⟨hc, he⟩ | ⟨hc, he⟩ | ⟨hc, he⟩ | ⟨hc, he⟩
    · subst he; exact cx_end hk1 hk2 hc
    · rw [cx_one hk1 hk2 hc he.1]; exact ih _ _ _ he.2
    · rw [cx_mid hk1 hk2 hc he.1]; exact ih _ _ _ he.2
    · rw [cx_mon hk1 hk2 hc he.1]; exact ih _ _ _ he.2
    · rw [cx_chs hk1 hk2 hc he.1]; exact ih _ _ _ he.2
    · obtain ⟨y, x, r, rfl, he⟩ := he; rw [cx_mea hk1 hk2 hc]; exact ih _ _ _ he
    · obtain ⟨y, x, r, rfl, he⟩ := he; rw [cx_bef hk1 hk2 hc]; exact ih _ _ _ he
    · obtain ⟨x, r, rfl, hb, he⟩ := he; rw [cx_lat hk1 hk2 hc hb]; exact ih _ _ _ he
    · obtain ⟨z, y, x, r, rfl, he⟩ := he; rw [cx_ask hk1 hk2 hc]; exact ih _ _ _ he
    · obtain ⟨x, r, rfl, hb, he⟩ := he; rw [cx_tur hk1 hk2 hc hb]; exact ih _ _ _ he
    · obtain ⟨x, r, rfl, he⟩ := he; rw [cx_drk hk1 hk2 hc]; exact ih _ _ _ he
theorem cx_more {nd : Int} {cod tf : Nat → Int} {mo : Int} {f k : Nat} {st : List Int} {v : Int} (g : Nat) (hg : f ≤ g) (h : cEx nd cod tf mo f k st = some v) : cEx nd cod tf mo g k st = some v := by
  obtain ⟨d, rfl⟩ : ∃ d, g = f + d := ⟨g - f, by omega⟩
  clear hg
  induction d with
  | zero => exact h
  | succ d ih => exact cx_mono _ _ _ _ ih

def CSg (nd : Int) (NC : Nat → Int) (lo hi : Nat) (b : Bool) (s : LSm) : Prop := lo < hi ∧ ∀ cod : Nat → Int, (∀ j, lo ≤ j → j < hi → cod j = NC j) → ∀ (tf : Nat → Int) (mo : Int), (∀ j, -1 ≤ tf j ∧ tf j < 1440) → (0 ≤ mo ∧ mo ≤ 11) → (b = false → s tf mo = 0 ∨ s tf mo = 1) ∧ ∀ (f : Nat) (st : List Int), hi ≤ 1498 → st.length + (hi - lo) < 799 → ∃ n, n ≤ hi - lo ∧ cEx nd cod tf mo (f + n) lo st = cEx nd cod tf mo f hi (s tf mo :: st)
def CFg (nd : Int) (NC : Nat → Int) (lo hi n : Nat) (a : LSm) : Prop := lo < hi ∧ n ≤ hi - lo ∧ ∀ cod : Nat → Int, (∀ j, lo ≤ j → j < hi → cod j = NC j) → ∀ (tf : Nat → Int) (mo : Int), (∀ j, -1 ≤ tf j ∧ tf j < 1440) → (0 ≤ mo ∧ mo ≤ 11) → ∃ l : List Int, l.length = n ∧ chs l = a tf mo ∧ ∀ (f : Nat) (st : List Int), hi ≤ 1498 → st.length + (hi - lo) < 799 → ∃ m, m ≤ hi - lo ∧ cEx nd cod tf mo (f + m) lo st = cEx nd cod tf mo f hi (l ++ st)
theorem csg_kp {nd : Int} {NC N2 : Nat → Int} {lo hi : Nat} {b : Bool} {s : LSm} (h : CSg nd NC lo hi b s) (k : ∀ j, lo ≤ j → j < hi → N2 j = NC j) : CSg nd N2 lo hi b s := ⟨h.1, fun cod hc => h.2 cod (fun j h1 h2 => (hc j h1 h2).trans (k j h1 h2))⟩
theorem cfg_kp {nd : Int} {NC N2 : Nat → Int} {lo hi n : Nat} {s : LSm} (h : CFg nd NC lo hi n s) (k : ∀ j, lo ≤ j → j < hi → N2 j = NC j) : CFg nd N2 lo hi n s := ⟨h.1, h.2.1, fun cod hc => h.2.2 cod (fun j h1 h2 => (hc j h1 h2).trans (k j h1 h2))⟩
theorem midL_nd {f : Nat → Int} {b n : Nat} (hb : b < 2 ^ n) : ∀ k, midL f b (n + k) = midL f b n := by
  intro k
  induction k with
  | zero => rfl
  | succ k ih =>
    rw [← Nat.add_assoc, midL_s, if_neg, ih]
    intro q
    rw [Nat.testBit_lt_two_pow (Nat.lt_of_lt_of_le hb (Nat.pow_le_pow_right (by decide) (by omega)))] at q
    exact absurd q.1 (by decide)
theorem midL_9 {f : Nat → Int} {b : Nat} {nd : Int} (hnd : 0 ≤ nd ∧ nd ≤ 9) (hb : b < 2 ^ nd.toNat) : midL f b 9 = midL f b nd.toNat := by
  have h := midL_nd (f := f) hb (9 - nd.toNat)
  rw [show nd.toNat + (9 - nd.toNat) = 9 by omega] at h
  exact h
theorem csg_dial {nd : Int} {NC : Nat → Int} {lo : Nat} {v : Int} (hnd : 0 ≤ nd ∧ nd ≤ 9) (h0 : NC lo = 1) (h1 : NC (lo + 1) = v) (hv : 0 ≤ v ∧ v < nd) : CSg nd NC lo (lo + 2) true (fun tf _ => tbI tf v) := by
  refine ⟨by omega, fun cod hc tf mo _ _ => ⟨fun q => absurd q (by decide), fun f st h3 h4 => ⟨1, by omega, ?_⟩⟩⟩
  have e0 := hc lo (by omega) (by omega)
  have e1 := hc (lo + 1) (by omega) (by omega)
  rw [cx_one (by omega) (by omega) (by omega) (by omega), e1, h1]
  dsimp only
  unfold tbI
  rw [if_pos (by omega)]
theorem csg_mid {nd : Int} {NC : Nat → Int} {lo b : Nat} (hnd : 0 ≤ nd ∧ nd ≤ 9) (h0 : NC lo = 2) (h1 : NC (lo + 1) = (b : Int)) (hb : b < 2 ^ nd.toNat) : CSg nd NC lo (lo + 2) true (fun tf _ => midI (midL tf b 9)) := by
  have hpw : (2 : Nat) ^ nd.toNat ≤ 2 ^ 9 := Nat.pow_le_pow_right (by decide) (by omega)
  refine ⟨by omega, fun cod hc tf mo _ _ => ⟨fun q => absurd q (by decide), fun f st h3 h4 => ⟨1, by omega, ?_⟩⟩⟩
  have e0 := hc lo (by omega) (by omega)
  have e1 := hc (lo + 1) (by omega) (by omega)
  rw [cx_mid (by omega) (by omega) (by omega) (by omega), e1, h1, Int.toNat_natCast]
  dsimp only
  rw [midL_9 hnd hb]
theorem csg_mon {nd : Int} {NC : Nat → Int} {lo : Nat} {v : Int} (h0 : NC lo = 9) (h1 : NC (lo + 1) = v) (hv : 0 ≤ v ∧ v ≤ 11) : CSg nd NC lo (lo + 2) false (fun _ mo => if mo = v then 1 else 0) := by
  refine ⟨by omega, fun cod hc tf mo _ _ => ⟨fun _ => by dsimp only; split <;> omega, fun f st h3 h4 => ⟨1, by omega, ?_⟩⟩⟩
  have e0 := hc lo (by omega) (by omega)
  have e1 := hc (lo + 1) (by omega) (by omega)
  rw [cx_mon (by omega) (by omega) (by omega) (by omega), e1, h1]
theorem csg_late {nd : Int} {NC : Nat → Int} {lo m : Nat} {s : LSm} {v : Int} (h : CSg nd NC lo m true s) (h0 : NC m = 5) (h1 : NC (m + 1) = v) (hv : -720 ≤ v ∧ v ≤ 720) : CSg nd NC lo (m + 2) true (fun tf mo => laI (s tf mo) v) := by
  have hlt := h.1
  refine ⟨by omega, fun cod hc tf mo ht hm => ⟨fun q => absurd q (by decide), fun f st h3 h4 => ?_⟩⟩
  have e0 := hc m (by omega) (by omega)
  have e1 := hc (m + 1) (by omega) (by omega)
  obtain ⟨n, hn, he⟩ := (h.2 cod (fun j a b => hc j a (by omega)) tf mo ht hm).2 (f + 1) st (by omega) (by omega)
  refine ⟨n + 1, by omega, ?_⟩
  rw [show f + (n + 1) = f + 1 + n by omega, he, cx_lat (by omega) (by rw [List.length_cons]; omega) (by omega) (by omega), e1, h1]
theorem csg_not {nd : Int} {NC : Nat → Int} {lo m : Nat} {s : LSm} (h : CSg nd NC lo m false s) (h0 : NC m = 7) : CSg nd NC lo (m + 1) false (fun tf mo => ntI (s tf mo)) := by
  have hlt := h.1
  refine ⟨by omega, fun cod hc tf mo ht hm => ?_⟩
  have e0 := hc m (by omega) (by omega)
  have hh := h.2 cod (fun j a b => hc j a (by omega)) tf mo ht hm
  have h01 := hh.1 rfl
  refine ⟨fun _ => by dsimp only; unfold ntI; omega, fun f st h3 h4 => ?_⟩
  obtain ⟨n, hn, he⟩ := hh.2 (f + 1) st (by omega) (by omega)
  refine ⟨n + 1, by omega, ?_⟩
  rw [show f + (n + 1) = f + 1 + n by omega, he, cx_tur (by omega) (by rw [List.length_cons]; omega) (by omega) h01]
theorem csg_dark {nd : Int} {NC : Nat → Int} {lo m : Nat} {s : LSm} (h : CSg nd NC lo m true s) (h0 : NC m = 8) : CSg nd NC lo (m + 1) false (fun tf mo => dkI (s tf mo)) := by
  have hlt := h.1
  refine ⟨by omega, fun cod hc tf mo ht hm => ?_⟩
  have e0 := hc m (by omega) (by omega)
  have hh := h.2 cod (fun j a b => hc j a (by omega)) tf mo ht hm
  refine ⟨fun _ => by dsimp only; unfold dkI; split <;> omega, fun f st h3 h4 => ?_⟩
  obtain ⟨n, hn, he⟩ := hh.2 (f + 1) st (by omega) (by omega)
  refine ⟨n + 1, by omega, ?_⟩
  rw [show f + (n + 1) = f + 1 + n by omega, he, cx_drk (by omega) (by rw [List.length_cons]; omega) (by omega)]
theorem csg_mean {nd : Int} {NC : Nat → Int} {lo m1 m : Nat} {s1 s2 : LSm} (h : CSg nd NC lo m1 true s1) (h2 : CSg nd NC m1 m true s2) (h0 : NC m = 4) : CSg nd NC lo (m + 1) true (fun tf mo => meI (s1 tf mo) (s2 tf mo)) := by
  have hlt := h.1
  have hlt2 := h2.1
  refine ⟨by omega, fun cod hc tf mo ht hm => ⟨fun q => absurd q (by decide), fun f st h3 h4 => ?_⟩⟩
  have e0 := hc m (by omega) (by omega)
  obtain ⟨n2, hn2, he2⟩ := (h2.2 cod (fun j a b => hc j (by omega) (by omega)) tf mo ht hm).2 (f + 1) (s1 tf mo :: st) (by omega) (by rw [List.length_cons]; omega)
  obtain ⟨n, hn, he⟩ := (h.2 cod (fun j a b => hc j a (by omega)) tf mo ht hm).2 (f + 1 + n2) st (by omega) (by omega)
  refine ⟨n2 + n + 1, by omega, ?_⟩
  rw [show f + (n2 + n + 1) = f + 1 + n2 + n by omega, he, he2, cx_mea (by omega) (by rw [List.length_cons, List.length_cons]; omega) (by omega)]
theorem csg_bef {nd : Int} {NC : Nat → Int} {lo m1 m : Nat} {s1 s2 : LSm} (h : CSg nd NC lo m1 true s1) (h2 : CSg nd NC m1 m true s2) (h0 : NC m = 10) : CSg nd NC lo (m + 1) false (fun tf mo => beI (s1 tf mo) (s2 tf mo)) := by
  have hlt := h.1
  have hlt2 := h2.1
  refine ⟨by omega, fun cod hc tf mo ht hm => ⟨fun _ => by dsimp only; unfold beI; split <;> omega, fun f st h3 h4 => ?_⟩⟩
  have e0 := hc m (by omega) (by omega)
  obtain ⟨n2, hn2, he2⟩ := (h2.2 cod (fun j a b => hc j (by omega) (by omega)) tf mo ht hm).2 (f + 1) (s1 tf mo :: st) (by omega) (by rw [List.length_cons]; omega)
  obtain ⟨n, hn, he⟩ := (h.2 cod (fun j a b => hc j a (by omega)) tf mo ht hm).2 (f + 1 + n2) st (by omega) (by omega)
  refine ⟨n2 + n + 1, by omega, ?_⟩
  rw [show f + (n2 + n + 1) = f + 1 + n2 + n by omega, he, he2, cx_bef (by omega) (by rw [List.length_cons, List.length_cons]; omega) (by omega)]
theorem csg_if {nd : Int} {NC : Nat → Int} {lo m0 m1 m : Nat} {s0 s1 s2 : LSm} (h : CSg nd NC lo m0 false s0) (h1 : CSg nd NC m0 m1 true s1) (h2 : CSg nd NC m1 m true s2) (h0 : NC m = 6) : CSg nd NC lo (m + 1) true (fun tf mo => if s0 tf mo = 0 then s2 tf mo else s1 tf mo) := by
  have hlt := h.1
  have hlt1 := h1.1
  have hlt2 := h2.1
  refine ⟨by omega, fun cod hc tf mo ht hm => ⟨fun q => absurd q (by decide), fun f st h3 h4 => ?_⟩⟩
  have e0 := hc m (by omega) (by omega)
  have hh := h.2 cod (fun j a b => hc j a (by omega)) tf mo ht hm
  have h01 := hh.1 rfl
  obtain ⟨n2, hn2, he2⟩ := (h2.2 cod (fun j a b => hc j (by omega) (by omega)) tf mo ht hm).2 (f + 1) (s1 tf mo :: s0 tf mo :: st) (by omega) (by rw [List.length_cons, List.length_cons]; omega)
  obtain ⟨n1, hn1, he1⟩ := (h1.2 cod (fun j a b => hc j (by omega) (by omega)) tf mo ht hm).2 (f + 1 + n2) (s0 tf mo :: st) (by omega) (by rw [List.length_cons]; omega)
  obtain ⟨n, hn, he⟩ := hh.2 (f + 1 + n2 + n1) st (by omega) (by omega)
  refine ⟨n2 + n1 + n + 1, by omega, ?_⟩
  rw [show f + (n2 + n1 + n + 1) = f + 1 + n2 + n1 + n by omega, he, he1, he2, cx_ask (by omega) (by rw [List.length_cons, List.length_cons, List.length_cons]; omega) (by omega)]
  dsimp only
  rcases h01 with q | q
  · rw [if_neg (by omega), if_pos q]
  · rw [if_pos q, if_neg (by omega)]
theorem chs_f (l : List Int) : ∀ v : Int, l.foldl (fun v x => if x = -1 then v else x) v = if l.foldl (fun v x => if x = -1 then v else x) (-1) = -1 then v else l.foldl (fun v x => if x = -1 then v else x) (-1) := by
  induction l with
  | nil => intro v; rfl
  | cons x r ih =>
    intro v
    rw [List.foldl_cons, List.foldl_cons, ih (if x = -1 then v else x), ih (if x = -1 then -1 else x)]
    by_cases q : x = -1
    · rw [if_pos q, if_pos q]
      split
      · next q2 => rw [if_pos rfl]
      · rfl
    · rw [if_neg q, if_neg q]
      split
      · rfl
      · rfl
theorem csf_1 {nd : Int} {NC : Nat → Int} {lo hi : Nat} {s : LSm} (h : CSg nd NC lo hi true s) : CFg nd NC lo hi 1 s := by
  have hlt := h.1
  refine ⟨h.1, by omega, fun cod hc tf mo ht hm => ⟨[s tf mo], rfl, ?_, fun f st h3 h4 => (h.2 cod hc tf mo ht hm).2 f st h3 h4⟩⟩
  unfold chs
  rw [List.foldl_cons, List.foldl_nil]
  split <;> omega
theorem csf_s {nd : Int} {NC : Nat → Int} {lo m hi n : Nat} {a s : LSm} (h : CFg nd NC lo m n a) (h2 : CSg nd NC m hi true s) : CFg nd NC lo hi (n + 1) (fsO a s) := by
  have hlt := h.1
  have hlt2 := h2.1
  have hn := h.2.1
  refine ⟨by omega, by omega, fun cod hc tf mo ht hm => ?_⟩
  obtain ⟨l, hl, hcl, hg⟩ := h.2.2 cod (fun j a b => hc j a (by omega)) tf mo ht hm
  refine ⟨s tf mo :: l, by rw [List.length_cons, hl], ?_, fun f st h3 h4 => ?_⟩
  · have e1 : chs (s tf mo :: l) = l.foldl (fun v x => if x = -1 then v else x) (if s tf mo = -1 then -1 else s tf mo) := rfl
    have e2 : l.foldl (fun v x => if x = -1 then v else x) (-1) = a tf mo := hcl
    rw [e1, show (if s tf mo = -1 then (-1 : Int) else s tf mo) = s tf mo by split <;> omega, chs_f, e2]
    rfl
  · obtain ⟨n2, hn2, he2⟩ := (h2.2 cod (fun j a b => hc j (by omega) b) tf mo ht hm).2 f (l ++ st) (by omega) (by rw [List.length_append]; omega)
    obtain ⟨n1, hn1, he1⟩ := hg (f + n2) st (by omega) (by omega)
    refine ⟨n2 + n1, by omega, ?_⟩
    rw [show f + (n2 + n1) = f + n2 + n1 by omega, he1, he2]
    rfl
theorem csf_end {nd : Int} {NC : Nat → Int} {lo m n : Nat} {a : LSm} (h : CFg nd NC lo m n a) (hn : 1 ≤ n) (h0 : NC m = 3) (h1 : NC (m + 1) = (n : Int)) : CSg nd NC lo (m + 2) true a := by
  have hlt := h.1
  have hn2 := h.2.1
  refine ⟨by omega, fun cod hc tf mo ht hm => ⟨fun q => absurd q (by decide), fun f st h3 h4 => ?_⟩⟩
  have e0 := hc m (by omega) (by omega)
  have e1 := hc (m + 1) (by omega) (by omega)
  obtain ⟨l, hl, hcl, hg⟩ := h.2.2 cod (fun j a b => hc j a (by omega)) tf mo ht hm
  obtain ⟨n1, hn1, he1⟩ := hg (f + 1) st (by omega) (by omega)
  refine ⟨n1 + 1, by omega, ?_⟩
  rw [show f + (n1 + 1) = f + 1 + n1 by omega, he1, cx_chs (by omega) (by rw [List.length_append]; omega) (by omega) (by rw [List.length_append]; omega), e1, h1, Int.toNat_natCast, ← hl, List.take_left, List.drop_left, hcl]
/-- the whole code tells what the law tells -/
theorem csg_cod {nd : Int} {NC : Nat → Int} {m : Nat} {s : LSm} (h : CSg nd NC 0 m true s) (hm9 : m ≤ 720) (h0 : NC m = 0) : CodR nd NC s := by
  intro tf mo ht hm
  obtain ⟨n, hn, he⟩ := (h.2 NC (fun _ _ _ => rfl) tf mo ht hm).2 (1500 - m) [] (by omega) (by rw [List.length_nil]; omega)
  have e1 : cEx nd NC tf mo (1500 - m) m [s tf mo] = some (s tf mo) := by
    obtain ⟨q, hq⟩ : ∃ q, 1500 - m = q + 1 := ⟨1500 - m - 1, by omega⟩
    rw [hq, cx_end (by omega) (by rw [List.length_singleton]; decide) h0]
  rw [e1] at he
  exact cx_more 1500 (by omega) he

