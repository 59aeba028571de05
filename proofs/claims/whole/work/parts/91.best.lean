/-! ===== pure: best ===== -/
theorem pSum_ts (f : Nat → Int) (fr to : Int) {k : Nat} (hk : k ≤ 240) : pSum (tsAdd f fr to) (k + 1) = pSum f (k + 1) + (if fr ≤ (k : Int) - 120 ∧ (k : Int) - 120 ≤ to then 1 else 0) := by
  unfold tsAdd
  by_cases q : max fr (-120) ≤ min to 120
  · rw [if_pos q]
    have e1 : ∀ g : Nat → Int, ∀ p : Nat, va_up g p (g p - 1) = va_up g p (g p + -1) := fun g p => by rw [Int.sub_eq_add_neg]
    rw [e1, pSum_u2, pSum_u2]
    by_cases z : fr ≤ (k : Int) - 120 ∧ (k : Int) - 120 ≤ to
    · rw [if_pos z, if_pos (by omega), if_neg (by omega)]
      omega
    · rw [if_neg z]
      by_cases z2 : (max fr (-120) + 120).toNat < k + 1
      · rw [if_pos z2, if_pos (by omega)]
        omega
      · rw [if_neg z2, if_neg (by omega)]
        omega
  · rw [if_neg q, if_neg (by omega)]
    omega
theorem rt_day {f : Nat → Int} {kind plain m w told : Int} {k : Nat} (hk : k ≤ 240) (hp : -1 ≤ plain ∧ plain < 1440) (hm : 0 ≤ m ∧ m < 1440) (hw : 0 ≤ w ∧ w ≤ 120) (ht : told = if plain = -1 then -1 else if kind = 4 ∧ (plain + ((k : Int) - 120)) % 1440 ≠ 720 then -1 else (plain + ((k : Int) - 120)) % 1440) : pSum (rtI f kind plain m w) (k + 1) = pSum f (k + 1) + (if ¬ told = -1 ∧ wrongI told m ≤ w then 1 else 0) := by
  unfold rtI
  by_cases q1 : plain = -1
  · rw [if_pos q1] at ht
    rw [if_pos q1, if_neg (fun z => z.1 ht)]
    omega
  · rw [if_neg q1] at ht
    rw [if_neg q1]
    by_cases q2 : kind = 4
    · rw [if_neg (fun z => z q2)]
      by_cases q3 : (plain + ((k : Int) - 120)) % 1440 = 720
      · rw [if_neg (fun z => z.2 q3), q3] at ht
        subst ht
        by_cases q4 : wrongI 720 m ≤ w
        · rw [if_pos q4, pSum_ts _ _ _ hk, if_pos (show ¬ (720 : Int) = -1 ∧ wrongI 720 m ≤ w from ⟨by decide, q4⟩), if_pos (show aroundI (720 - plain) ≤ (k : Int) - 120 ∧ (k : Int) - 120 ≤ aroundI (720 - plain) by unfold aroundI; omega)]
        · rw [if_neg q4, if_neg (show ¬ (¬ (720 : Int) = -1 ∧ wrongI 720 m ≤ w) from fun z => q4 z.2)]
          omega
      · rw [if_pos ⟨q2, q3⟩] at ht
        rw [if_neg (show ¬ (¬ told = -1 ∧ wrongI told m ≤ w) from fun z => z.1 ht)]
        by_cases q4 : wrongI 720 m ≤ w
        · rw [if_pos q4, pSum_ts _ _ _ hk, if_neg (show ¬ (aroundI (720 - plain) ≤ (k : Int) - 120 ∧ (k : Int) - 120 ≤ aroundI (720 - plain)) by unfold aroundI; omega)]
        · rw [if_neg q4]
          omega
    · rw [if_pos q2, pSum_ts _ _ _ hk]
      rw [if_neg (fun z => q2 z.1)] at ht
      have e1 : (-w - aroundI (plain - m) ≤ (k : Int) - 120 ∧ (k : Int) - 120 ≤ w - aroundI (plain - m)) ↔ (¬ told = -1 ∧ wrongI told m ≤ w) := by
        unfold aroundI wrongI
        omega
      by_cases z : ¬ told = -1 ∧ wrongI told m ≤ w
      · rw [if_pos z, if_pos (e1.mpr z)]
      · rw [if_neg z, if_neg (fun y => z (e1.mp y))]
theorem rg_nn (ok : Int → Int → Bool) (k : Nat) : ∀ d, 0 ≤ rgS ok d k := by
  intro d
  induction d with
  | zero => exact Int.le_refl _
  | succ d ih =>
    show 0 ≤ rgS ok d k + _
    split <;> omega
theorem rt_rg {pl : Int → Int} {kind m w : Int} (hp : ∀ d, -1 ≤ pl d ∧ pl d < 1440) (hm : 0 ≤ m ∧ m < 1440) (hw : 0 ≤ w ∧ w ≤ 120) {told : Int → Int → Int} (ht : ∀ d b, told d b = if pl d = -1 then -1 else if kind = 4 ∧ (pl d + (b - 120)) % 1440 ≠ 720 then -1 else (pl d + (b - 120)) % 1440) {k : Nat} (hk : k ≤ 240) : ∀ d, pSum (rtS pl kind m w d) (k + 1) = rgS (fun a b => decide (¬ told a b = -1 ∧ wrongI (told a b) m ≤ w)) d k := by
  intro d
  induction d with
  | zero => exact pSum_0 _
  | succ d ih =>
    show pSum (rtI (rtS pl kind m w d) kind (pl d) m w) (k + 1) = rgS _ d k + (if decide (¬ told d k = -1 ∧ wrongI (told d k) m ≤ w) = true then 1 else 0)
    rw [rt_day hk (hp d) hm hw (ht d k), ih]
    by_cases z : ¬ told d k = -1 ∧ wrongI (told d k) m ≤ w
    · rw [if_pos z, if_pos (decide_eq_true z)]
    · rw [if_neg z, if_neg (by rw [decide_eq_true_eq]; exact z)]
theorem bt_bs {own : Int} {f rg : Nat → Int} (hp : ∀ k, k ≤ 240 → pSum f (k + 1) = rg k) (h0 : ∀ k, 0 ≤ rg k) : ∀ k, k ≤ 240 → btS own f (k + 1) = ((bsR rg (own + 120) k : Int) - 120, rg k, rg (bsR rg (own + 120) k)) := by
  intro k
  induction k with
  | zero =>
    intro _
    have h1 := hp 0 (by decide)
    have h2 := h0 0
    have e1 : pSum f (0 + 1) = 0 + f 0 := rfl
    have hb : btS own f (0 + 1) = if (btS own f 0).2.2 < (btS own f 0).2.1 + f 0 ∨ ((btS own f 0).2.1 + f 0 = (btS own f 0).2.2 ∧ ((((0 : Nat) : Int) - 120 - own).natAbs : Int) < (((btS own f 0).1 - own).natAbs : Int)) then (((0 : Nat) : Int) - 120, (btS own f 0).2.1 + f 0, (btS own f 0).2.1 + f 0) else ((btS own f 0).1, (btS own f 0).2.1 + f 0, (btS own f 0).2.2) := rfl
    have z0 : btS own f 0 = (-1, 0, -1) := rfl
    rw [hb, z0]
    dsimp only
    rw [if_pos (Or.inl (by omega)), ← e1, h1]
    rfl
  | succ k ih =>
    intro hk
    have h1 := hp (k + 1) hk
    have h2 := hp k (by omega)
    have e1 : pSum f (k + 1 + 1) = pSum f (k + 1) + f (k + 1) := rfl
    have e3 : rg k + f (k + 1) = rg (k + 1) := by rw [← h2, ← e1, h1]
    have hb : btS own f (k + 1 + 1) = if (btS own f (k + 1)).2.2 < (btS own f (k + 1)).2.1 + f (k + 1) ∨ ((btS own f (k + 1)).2.1 + f (k + 1) = (btS own f (k + 1)).2.2 ∧ ((((k + 1 : Nat) : Int) - 120 - own).natAbs : Int) < (((btS own f (k + 1)).1 - own).natAbs : Int)) then (((k + 1 : Nat) : Int) - 120, (btS own f (k + 1)).2.1 + f (k + 1), (btS own f (k + 1)).2.1 + f (k + 1)) else ((btS own f (k + 1)).1, (btS own f (k + 1)).2.1 + f (k + 1), (btS own f (k + 1)).2.2) := rfl
    rw [hb, ih (by omega)]
    dsimp only
    rw [e3]
    have hs : bsR rg (own + 120) (k + 1) = if rg (bsR rg (own + 120) k) < rg (k + 1) ∨ (rg (k + 1) = rg (bsR rg (own + 120) k) ∧ (((((k + 1 : Nat) : Int) - (own + 120)).natAbs : Nat) : Int) < ((((bsR rg (own + 120) k : Nat) : Int) - (own + 120)).natAbs : Int)) then k + 1 else bsR rg (own + 120) k := rfl
    rw [hs]
    rw [show ((k + 1 : Nat) : Int) - 120 - own = ((k + 1 : Nat) : Int) - (own + 120) by omega, show ((bsR rg (own + 120) k : Nat) : Int) - 120 - own = ((bsR rg (own + 120) k : Nat) : Int) - (own + 120) by omega]
    by_cases z : rg (bsR rg (own + 120) k) < rg (k + 1) ∨ (rg (k + 1) = rg (bsR rg (own + 120) k) ∧ (((((k + 1 : Nat) : Int) - (own + 120)).natAbs : Nat) : Int) < ((((bsR rg (own + 120) k : Nat) : Int) - (own + 120)).natAbs : Int))
    · rw [if_pos z, if_pos z]
    · rw [if_neg z, if_neg z]
theorem best_eq {sw nc : Int} {K I O G L cf ct cd : Nat → Int} {di own m wi w : Int} (hm : 0 ≤ m ∧ m < 1440) (hw : 0 ≤ wi ∧ wi ≤ 120) : bsV own (rtS (fun d => plnI sw nc K I O G L cf ct cd di d m) (K di.toNat) m wi 365) w = if w = 0 then (bsR (rgS (fun a b => (decide (¬ (toldI (K di.toNat) (b - 120) (I di.toNat) (O di.toNat) (G di.toNat) a m (noonI L a) (halfI sw a) (cUp cd cf ct a m nc.toNat)) = -1 ∧ wrongI (toldI (K di.toNat) (b - 120) (I di.toNat) (O di.toNat) (G di.toNat) a m (noonI L a) (halfI sw a) (cUp cd cf ct a m nc.toNat)) m ≤ wi))) 365) (own + 120) 240 : Int) - 120 else rgS (fun a b => (decide (¬ (toldI (K di.toNat) (b - 120) (I di.toNat) (O di.toNat) (G di.toNat) a m (noonI L a) (halfI sw a) (cUp cd cf ct a m nc.toNat)) = -1 ∧ wrongI (toldI (K di.toNat) (b - 120) (I di.toNat) (O di.toNat) (G di.toNat) a m (noonI L a) (halfI sw a) (cUp cd cf ct a m nc.toNat)) m ≤ wi))) 365 (bsR (rgS (fun a b => (decide (¬ (toldI (K di.toNat) (b - 120) (I di.toNat) (O di.toNat) (G di.toNat) a m (noonI L a) (halfI sw a) (cUp cd cf ct a m nc.toNat)) = -1 ∧ wrongI (toldI (K di.toNat) (b - 120) (I di.toNat) (O di.toNat) (G di.toNat) a m (noonI L a) (halfI sw a) (cUp cd cf ct a m nc.toNat)) m ≤ wi))) 365) (own + 120) 240) := by
  have hr := fun k (hk : k ≤ 240) => rt_rg (pl := fun d => plnI sw nc K I O G L cf ct cd di d m) (kind := K di.toNat) (m := m) (w := wi) (fun d => plain_B _ _ _ _ _ _ _ _ _) hm hw (told := fun a b => toldI (K di.toNat) (b - 120) (I di.toNat) (O di.toNat) (G di.toNat) a m (noonI L a) (halfI sw a) (cUp cd cf ct a m nc.toNat)) (fun d b => rfl) (k := k) hk 365
  have hb := bt_bs (own := own) hr (fun k => rg_nn _ k 365) 240 (Nat.le_refl _)
  unfold bsV
  rw [hb]
/-- next, in the words of the two sides -/
theorem next_eq {nd sw nc : Int} {K U I O G L cf ct fc nx cd : Nat → Int} (pi : PInv nd sw nc K U I O G L cf ct fc nx cd) {nr : Int} {rd ry rm rt : Nat → Int} (hrt : ∀ j, 0 ≤ rt j ∧ rt j < 1440) {di day : Int} (hd : 0 ≤ day ∧ day < 365) (hne : ¬ cpS (wgN sw nc nr K O G L cf ct cd rd ry rm rt di) 41 = 0) : nxS (fun m => ggI (fun i => ((wgN sw nc nr K O G L cf ct cd rd ry rm rt di) i).1) (fun i => ((wgN sw nc nr K O G L cf ct cd rd ry rm rt di) i).2) (fun ti => plnT sw nc K O G L cf ct cd di day m ti) (K di.toNat) (cpS (wgN sw nc nr K O G L cf ct cd rd ry rm rt di) 41)) 96 = nxT (fun m => (grF (fun c => if tldI sw nc K O G L cf ct cd di day m (c / 41 - 60) (c % 41 - 20) = -1 then 1440 else tldI sw nc K O G L cf ct cd di day m (c / 41 - 60) (c % 41 - 20)) (cpL (fun c => allR (fun dy mi => tldI sw nc K O G L cf ct cd di dy mi (c / 41 - 60) (c % 41 - 20)) rd ry rm rt di nr.toNat) 4961) (fun _ => 0, 0)).2) 96 0 (-1, 0) := by
  obtain ⟨w1, w2⟩ := wg_spec (nr := nr) (rd := rd) (ry := ry) (rm := rm) (sw := sw) (nc := nc) (K := K) (O := O) (G := G) (L := L) (cf := cf) (ct := ct) (cd := cd) (di := di) hrt
  have hc := (faults_eq (nr := nr) (rd := rd) (ry := ry) (rm := rm) (sw := sw) (nc := nc) (K := K) (O := O) (G := G) (L := L) (cf := cf) (ct := ct) (cd := cd) (di := di) hrt).1
  refine nx_all (fun k hk => ?_)
  have hn := noon_B (day := day) pi.2.2.2.2.2.2.2.2.1
  have hh := half_B pi.2.1 hd
  exact gg_eq (fr := fun i => ((wgN sw nc nr K O G L cf ct cd rd ry rm rt di) i).1) (tt := fun i => ((wgN sw nc nr K O G L cf ct cd rd ry rm rt di) i).2) w1 w2 (plain := fun ti => plnT sw nc K O G L cf ct cd di day (15 * (k : Int)) ti) (kind := K di.toNat) (fun ti => plain_B _ _ _ _ _ _ _ _ _) (fun ti => pln_dark) (fun h4 ti => by unfold plnT; rw [h4]; exact pln_can) (fun h4 h0 ti t1 t2 => pln_off (by omega) hn hh h4 h0 ⟨t1, t2⟩) hc.symm hne

