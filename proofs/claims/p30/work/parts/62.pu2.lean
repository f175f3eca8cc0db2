/-! the chosen sticking is the first of the least ones -/
section
variable {g : Int → Int} {n q : Int} {s : Int → Int}
abbrev FX (g : Int → Int) (n q pr a b : Int) : Int := ffS n (owP g) (cnP g q 0 1) (cnP g q 0 0) pr a b
abbrev FY (g : Int → Int) (n q pr a b hh : Int) : Int := ffV n (owP g) (cnP g q 0 1) (cnP g q 0 0) pr a b hh
theorem FX_e (pr b : Int) : FX g n q pr n b = 0 := ffS_e _ _ _ _ _ _
theorem FX_s (pr b : Int) {a : Int} (h : a < n) : FX g n q pr a b = if owP g a = 3 then FX g n q pr (a + 1) b else if FY g n q pr a b 1 < FY g n q pr a b 0 then FY g n q pr a b 1 else FY g n q pr a b 0 := ffS_s n (owP g) (cnP g q 0 1) (cnP g q 0 0) pr b h
theorem FY_e (pr a b hh : Int) : FY g n q pr a b hh = if fitP n (owP g) (cnP g q 0 1) (cnP g q 0 0) a b hh then (if FX g n q pr (a + 1) hh + (if b = hh then pr else 0) < 1000 then FX g n q pr (a + 1) hh + (if b = hh then pr else 0) else 1000) else 1000 := rfl
theorem cs_in {pr : Int} (hp : pr = 0 ∨ pr = 1) : ∀ a k : Nat, 0 ≤ csT g pr a k ∧ csT g pr a k ≤ a
  | 0, _ => ⟨Int.le_refl _, Int.le_refl _⟩
  | a + 1, k => by
    have ih := cs_in hp a (k / 2)
    rw [csT_s]; split <;> omega
theorem cs_0 : ∀ a k : Nat, csT g 0 a k = 0
  | 0, _ => rfl
  | a + 1, k => by
    rw [csT_s, cs_0 a (k / 2)]; split <;> rfl
theorem hv2 (k r : Nat) : k / 2 ^ (r + 1) = k / 2 ^ r / 2 := by rw [Nat.pow_succ, ← Nat.div_div_eq_div_mul]
/-- what is dear at least -/
theorem cs_A (h : RP g n q s) {N : Nat} (hN : (N : Int) = n) {pr : Int} (hp : pr = 0 ∨ pr = 1) {k : Nat} (hv : vlT g n q N k = 1) : ∀ r : Nat, r ≤ N → vlT g n q (N - r) (k / 2 ^ r) = 1 ∧ csT g pr (N - r) (k / 2 ^ r) + FX g n q pr ((N - r : Nat) : Int) (cxT g (N - r) (k / 2 ^ r)) ≤ csT g pr N k ∧ csT g pr N k ≤ csT g pr (N - r) (k / 2 ^ r) + r
  | 0, _ => by
    rw [show k / 2 ^ 0 = k by simp, Nat.sub_zero, hN, FX_e]
    exact ⟨hv, by omega, by omega⟩
  | r + 1, hr => by
    obtain ⟨i1, i2, i3⟩ := cs_A h hN hp hv r (by omega)
    have hn := h.1
    generalize hA : N - (r + 1) = a at *
    have eA : N - r = a + 1 := by omega
    rw [eA] at i1 i2 i3
    rw [hv2 k r]
    generalize k / 2 ^ r = κ at *
    have p := vlT_p i1
    have ha : 0 ≤ (a : Int) ∧ (a : Int) < n := by omega
    have o := owP_3 h ha
    have c := cs_in (g := g) hp a (κ / 2)
    rw [csT_s] at i2 i3
    rw [cxT_s, show ((a + 1 : Nat) : Int) = (a : Int) + 1 by omega] at i2
    rw [FX_s pr _ ha.2]
    refine ⟨p.1, ?_, ?_⟩
    · by_cases z : g a = 0
      · rw [if_pos (o.mpr z)]
        rw [if_neg (fun t => t.1 z), if_pos z] at i2
        omega
      · rw [if_neg (fun t => z (o.mp t))]
        rw [if_neg z] at i2
        have f : fitP n (owP g) (cnP g q 0 1) (cnP g q 0 0) a (cxT g a (κ / 2)) ((κ % 2 : Nat) : Int) := p.2.elim (fun y => absurd y.1 z) (fun y => y.2)
        have e : (if ¬ g a = 0 ∧ cxT g a (κ / 2) = ((κ % 2 : Nat) : Int) then pr else 0) = (if cxT g a (κ / 2) = ((κ % 2 : Nat) : Int) then pr else 0) := by
          by_cases y : cxT g a (κ / 2) = ((κ % 2 : Nat) : Int)
          · rw [if_pos ⟨z, y⟩, if_pos y]
          · rw [if_neg (fun t => y t.2), if_neg y]
        rw [e] at i2 i3
        have w := FY_e (g := g) (n := n) (q := q) pr a (cxT g a (κ / 2)) ((κ % 2 : Nat) : Int)
        rw [if_pos f] at w
        generalize (if cxT g a (κ / 2) = ((κ % 2 : Nat) : Int) then pr else 0) = d at *
        rw [if_pos (by omega)] at w
        have m : (κ % 2 : Nat) = 0 ∨ (κ % 2 : Nat) = 1 := by omega
        rcases m with m | m
        · rw [m] at w i2; rw [show ((0 : Nat) : Int) = 0 from rfl] at w i2
          split <;> omega
        · rw [m] at w i2; rw [show ((1 : Nat) : Int) = 1 from rfl] at w i2
          split <;> omega
    · have e : 0 ≤ (if ¬ g a = 0 ∧ cxT g a (κ / 2) = ((κ % 2 : Nat) : Int) then pr else 0) ∧ (if ¬ g a = 0 ∧ cxT g a (κ / 2) = ((κ % 2 : Nat) : Int) then pr else 0) ≤ 1 := by split <;> omega
      omega
/-- the chosen one's number -/
def chC (g : Int → Int) (n q pr : Int) (a : Nat) : Int := chN n (owP g) (cnP g q 0 1) (cnP g q 0 0) pr a
def chH (g : Int → Int) (n q pr : Int) (a : Nat) : Nat := if g a = 0 then 0 else if FY g n q pr a (chC g n q pr a) 0 ≤ FY g n q pr a (chC g n q pr a) 1 then 0 else 1
def KC (g : Int → Int) (n q pr : Int) : Nat → Nat
  | 0 => 0
  | a + 1 => 2 * KC g n q pr a + chH g n q pr a
theorem KC_s (pr : Int) (a : Nat) : KC g n q pr (a + 1) = 2 * KC g n q pr a + chH g n q pr a := rfl
theorem chH_1 (pr : Int) (a : Nat) : chH g n q pr a = 0 ∨ chH g n q pr a = 1 := by
  unfold chH; split
  · exact Or.inl rfl
  · split
    · exact Or.inl rfl
    · exact Or.inr rfl
theorem KC_d (pr : Int) (a : Nat) : KC g n q pr (a + 1) / 2 = KC g n q pr a ∧ KC g n q pr (a + 1) % 2 = chH g n q pr a := by
  have := chH_1 (g := g) (n := n) (q := q) pr a
  rw [KC_s]; omega
theorem KC_lt (pr : Int) : ∀ a : Nat, KC g n q pr a < 2 ^ a
  | 0 => by show 0 < 1; omega
  | a + 1 => by
    have ih := KC_lt pr a
    have := chH_1 (g := g) (n := n) (q := q) pr a
    rw [KC_s, Nat.pow_succ]; omega
theorem chC_s (h : RP g n q s) (pr : Int) {a : Nat} (ha : (a : Int) < n) : chC g n q pr (a + 1) = if g a = 0 then chC g n q pr a else (chH g n q pr a : Int) := by
  have o := owP_3 h (k := (a : Int)) ⟨by omega, ha⟩
  have e : chC g n q pr (a + 1) = if owP g a = 3 then chC g n q pr a else if FY g n q pr a (chC g n q pr a) 0 ≤ FY g n q pr a (chC g n q pr a) 1 then 0 else 1 := rfl
  rw [e]; by_cases z : g a = 0
  · rw [if_pos z, if_pos (o.mpr z)]
  · rw [if_neg z, if_neg (fun t => z (o.mp t))]; unfold chH; rw [if_neg z]; split <;> rfl
theorem KC_c (h : RP g n q s) (pr : Int) : ∀ a : Nat, (a : Int) ≤ n → cxT g a (KC g n q pr a) = chC g n q pr a
  | 0, _ => rfl
  | a + 1, ha => by
    have ih := KC_c h pr a (by omega)
    have d := KC_d (g := g) (n := n) (q := q) pr a
    rw [cxT_s, d.1, d.2, ih, chC_s h pr (by omega)]
theorem cs_B (h : RP g n q s) {pr : Int} (hp : pr = 0 ∨ pr = 1) (hl : FX g n q pr 0 3 < 1000) : ∀ a : Nat, (a : Int) ≤ n → vlT g n q a (KC g n q pr a) = 1 ∧ csT g pr a (KC g n q pr a) + FX g n q pr a (chC g n q pr a) = FX g n q pr 0 3
  | 0, _ => ⟨rfl, by
    have e : csT g pr 0 (KC g n q pr 0) = 0 := rfl
    have e2 : chC g n q pr 0 = 3 := rfl
    rw [e, e2]; show 0 + _ = _; rw [Int.zero_add]; rfl⟩
  | a + 1, hx => by
    obtain ⟨i1, i2⟩ := cs_B h hp hl a (by omega)
    have d := KC_d (g := g) (n := n) (q := q) pr a
    have kc := KC_c h pr a (by omega)
    have c := cs_in (g := g) hp a (KC g n q pr a)
    have ha : 0 ≤ (a : Int) ∧ (a : Int) < n := by omega
    have o := owP_3 h ha
    have ea : ((a + 1 : Nat) : Int) = (a : Int) + 1 := by omega
    rw [vlT_s, csT_s, d.1, d.2, kc, chC_s h pr ha.2, ea]
    rw [FX_s pr _ ha.2] at i2
    by_cases z : g a = 0
    · have c0 : chH g n q pr a = 0 := by unfold chH; rw [if_pos z]
      rw [c0, if_pos z, if_pos ⟨i1, Or.inl ⟨z, rfl⟩⟩, if_neg (fun t => t.1 z)]
      rw [if_pos (o.mpr z)] at i2
      exact ⟨rfl, by omega⟩
    · rw [if_neg (fun t => z (o.mp t))] at i2
      rw [if_neg z]
      generalize hb : chC g n q pr a = b at *
      have key : ∀ hh : Int, FY g n q pr a b hh < 1000 → fitP n (owP g) (cnP g q 0 1) (cnP g q 0 0) a b hh ∧ FY g n q pr a b hh = FX g n q pr (a + 1) hh + (if b = hh then pr else 0) := fun hh hlt => by
        have e := FY_e (g := g) (n := n) (q := q) pr a b hh
        by_cases f : fitP n (owP g) (cnP g q 0 1) (cnP g q 0 0) a b hh
        · rw [if_pos f] at e
          refine ⟨f, ?_⟩
          by_cases y : FX g n q pr (a + 1) hh + (if b = hh then pr else 0) < 1000
          · rw [if_pos y] at e; exact e
          · rw [if_neg y] at e; omega
        · rw [if_neg f] at e; omega
      have ch : chH g n q pr a = (if FY g n q pr a b 0 ≤ FY g n q pr a b 1 then 0 else 1) := by unfold chH; rw [if_neg z, hb]
      have fin : ∀ hh : Int, FY g n q pr a b hh < 1000 → csT g pr a (KC g n q pr a) + FY g n q pr a b hh = FX g n q pr 0 3 → (if vlT g n q a (KC g n q pr a) = 1 ∧ okP g n q a b hh then (1 : Int) else 0) = 1 ∧ csT g pr a (KC g n q pr a) + (if ¬ g a = 0 ∧ b = hh then pr else 0) + FX g n q pr (a + 1) hh = FX g n q pr 0 3 := fun hh hlt ht => by
        have k := key hh hlt
        refine ⟨if_pos ⟨i1, Or.inr ⟨z, k.1⟩⟩, ?_⟩
        have e : (if ¬ g a = 0 ∧ b = hh then pr else 0) = (if b = hh then pr else 0) := by
          by_cases y : b = hh
          · rw [if_pos ⟨z, y⟩, if_pos y]
          · rw [if_neg (fun t => y t.2), if_neg y]
        rw [e]; rw [k.2] at ht; omega
      by_cases y : FY g n q pr a b 0 ≤ FY g n q pr a b 1
      · rw [if_neg (show ¬ FY g n q pr a b 1 < FY g n q pr a b 0 by omega)] at i2
        rw [ch, if_pos y]; exact fin 0 (by omega) i2
      · rw [if_pos (show FY g n q pr a b 1 < FY g n q pr a b 0 by omega)] at i2
        rw [ch, if_neg y]; exact fin 1 (by omega) i2
/-- the level where a smaller number differs first -/
theorem lvl (K : Nat → Nat) (hK : ∀ a, K (a + 1) / 2 = K a) : ∀ (N k : Nat), K 0 = 0 → k < K N → k < 2 ^ N → ∃ a : Nat, a < N ∧ k / 2 ^ (N - a) = K a ∧ k / 2 ^ (N - (a + 1)) < K (a + 1)
  | 0, k, h0, h, _ => absurd h (by omega)
  | N + 1, k, h0, h, hk => by
    by_cases z : k / 2 = K N
    · refine ⟨N, by omega, ?_, ?_⟩
      · rw [show N + 1 - N = 1 by omega, Nat.pow_one]; exact z
      · rw [show N + 1 - (N + 1) = 0 by omega, Nat.pow_zero, Nat.div_one]; exact h
    · have hd := hK N
      have lt : k / 2 < K N := by omega
      have k2 : k / 2 < 2 ^ N := by rw [Nat.pow_succ] at hk; omega
      obtain ⟨a, a1, a2, a3⟩ := lvl K hK N (k / 2) h0 lt k2
      have e : ∀ j : Nat, j ≤ N → k / 2 ^ (N + 1 - j) = k / 2 / 2 ^ (N - j) := fun j hj => by
        rw [show N + 1 - j = (N - j) + 1 by omega, Nat.pow_succ, Nat.mul_comm, ← Nat.div_div_eq_div_mul]
      exact ⟨a, by omega, by rw [e a (by omega)]; exact a2, by rw [e (a + 1) (by omega)]; exact a3⟩
theorem cs_C (h : RP g n q s) {N : Nat} (hN : (N : Int) = n) {pr : Int} (hp : pr = 0 ∨ pr = 1) (hl : FX g n q pr 0 3 < 1000) {k : Nat} (hv : vlT g n q N k = 1) (hk : k < KC g n q pr N) : FX g n q pr 0 3 < csT g pr N k := by
  have hn := h.1
  have k2 : k < 2 ^ N := Nat.lt_trans hk (KC_lt pr N)
  obtain ⟨a, a1, a2, a3⟩ := lvl (KC g n q pr) (fun a => (KC_d pr a).1) N k rfl hk k2
  have A := cs_A h hN hp hv (N - (a + 1)) (by omega)
  have B := cs_B h hp hl a (by omega)
  have B1 := cs_B h hp hl (a + 1) (by omega)
  rw [show N - (N - (a + 1)) = a + 1 by omega] at A
  have d := KC_d (g := g) (n := n) (q := q) pr a
  have c1 := chH_1 (g := g) (n := n) (q := q) pr a
  have ks := KC_s (g := g) (n := n) (q := q) pr a
  have a4 : k / 2 ^ (N - (a + 1)) / 2 = KC g n q pr a := by
    rw [← a2, show N - a = (N - (a + 1)) + 1 by omega]; exact (hv2 k _).symm
  generalize k / 2 ^ (N - (a + 1)) = κ at *
  have kz : κ % 2 = 0 ∧ chH g n q pr a = 1 := by omega
  have ha : 0 ≤ (a : Int) ∧ (a : Int) < n := by omega
  have o := owP_3 h ha
  have z : ¬ g a = 0 := fun t => by
    have : chH g n q pr a = 0 := by unfold chH; rw [if_pos t]
    omega
  have p := vlT_p A.1
  have kc := KC_c h pr a (by omega)
  rw [a4, kc, kz.1] at p
  have A2 := A.2.1
  rw [csT_s, cxT_s, a4, kc, kz.1, if_neg z, show ((a + 1 : Nat) : Int) = (a : Int) + 1 by omega, show ((0 : Nat) : Int) = 0 from rfl] at A2
  have B2 := B.2
  rw [FX_s pr _ ha.2, if_neg (fun t => z (o.mp t))] at B2
  have c := cs_in (g := g) hp a (KC g n q pr a)
  have cN := cs_in (g := g) hp N k
  have ch : chH g n q pr a = (if FY g n q pr a (chC g n q pr a) 0 ≤ FY g n q pr a (chC g n q pr a) 1 then 0 else 1) := by unfold chH; rw [if_neg z]
  rw [kz.2] at ch
  generalize chC g n q pr a = b at *
  have y : ¬ FY g n q pr a b 0 ≤ FY g n q pr a b 1 := fun t => by rw [if_pos t] at ch; omega
  rw [if_pos (show FY g n q pr a b 1 < FY g n q pr a b 0 by omega)] at B2
  have f : fitP n (owP g) (cnP g q 0 1) (cnP g q 0 0) a b 0 := p.2.elim (fun t => absurd t.1 z) (fun t => t.2)
  have e := FY_e (g := g) (n := n) (q := q) pr a b 0
  rw [if_pos f] at e
  have e2 : (if ¬ g a = 0 ∧ b = 0 then pr else 0) = (if b = 0 then pr else 0) := by
    by_cases t : b = 0
    · rw [if_pos ⟨z, t⟩, if_pos t]
    · rw [if_neg (fun w => t w.2), if_neg t]
  rw [e2] at A2
  generalize (if b = 0 then pr else 0) = dd at *
  rw [if_pos (by omega)] at e
  omega
/-! the folds over all numbers -/
def fsT (g : Int → Int) (n q : Int) (N : Nat) : Nat → Int
  | 0 => -1
  | k + 1 => if vlT g n q N k = 1 ∧ fsT g n q N k < 0 then (k : Int) else fsT g n q N k
def bsT (g : Int → Int) (n q : Int) (N : Nat) : Nat → Int × Int
  | 0 => (-1, 0)
  | k + 1 => if vlT g n q N k = 1 ∧ ((bsT g n q N k).1 < 0 ∨ csT g 1 N k < (bsT g n q N k).2) then ((k : Int), csT g 1 N k) else bsT g n q N k
theorem fs_i (N : Nat) : ∀ k : Nat, (fsT g n q N k = -1 ∧ ∀ j, j < k → ¬ vlT g n q N j = 1) ∨ (∃ m : Nat, m < k ∧ fsT g n q N k = (m : Int) ∧ vlT g n q N m = 1 ∧ ∀ j, j < m → ¬ vlT g n q N j = 1)
  | 0 => Or.inl ⟨rfl, fun j hj => absurd hj (by omega)⟩
  | k + 1 => by
    have e : fsT g n q N (k + 1) = if vlT g n q N k = 1 ∧ fsT g n q N k < 0 then (k : Int) else fsT g n q N k := rfl
    rw [e]
    rcases fs_i N k with ⟨i1, i2⟩ | ⟨m, m1, m2, m3, m4⟩
    · by_cases v : vlT g n q N k = 1
      · rw [if_pos ⟨v, by omega⟩]; exact Or.inr ⟨k, by omega, rfl, v, i2⟩
      · rw [if_neg (fun t => v t.1)]
        exact Or.inl ⟨i1, fun j hj => (by omega : j < k ∨ j = k).elim (i2 j) (fun t => by rw [t]; exact v)⟩
    · rw [if_neg (fun t => by omega)]; exact Or.inr ⟨m, by omega, m2, m3, m4⟩
theorem bs_i (N : Nat) : ∀ k : Nat, ((bsT g n q N k).1 = -1 ∧ ∀ j, j < k → ¬ vlT g n q N j = 1) ∨ (∃ m : Nat, m < k ∧ (bsT g n q N k).1 = (m : Int) ∧ (bsT g n q N k).2 = csT g 1 N m ∧ vlT g n q N m = 1 ∧ (∀ j, j < k → vlT g n q N j = 1 → csT g 1 N m ≤ csT g 1 N j) ∧ ∀ j, j < m → vlT g n q N j = 1 → csT g 1 N m < csT g 1 N j)
  | 0 => Or.inl ⟨rfl, fun j hj => absurd hj (by omega)⟩
  | k + 1 => by
    have e : bsT g n q N (k + 1) = if vlT g n q N k = 1 ∧ ((bsT g n q N k).1 < 0 ∨ csT g 1 N k < (bsT g n q N k).2) then ((k : Int), csT g 1 N k) else bsT g n q N k := rfl
    rw [e]
    rcases bs_i N k with ⟨i1, i2⟩ | ⟨m, m1, m2, m3, m4, m5, m6⟩
    · by_cases v : vlT g n q N k = 1
      · rw [if_pos ⟨v, Or.inl (by omega)⟩]
        exact Or.inr ⟨k, by omega, rfl, rfl, v, fun j hj t => (by omega : j < k ∨ j = k).elim (fun w => absurd t (i2 j w)) (fun w => by rw [w]; exact Int.le_refl _), fun j hj t => absurd t (i2 j hj)⟩
      · rw [if_neg (fun t => v t.1)]
        exact Or.inl ⟨i1, fun j hj => (by omega : j < k ∨ j = k).elim (i2 j) (fun t => by rw [t]; exact v)⟩
    · by_cases c : vlT g n q N k = 1 ∧ ((bsT g n q N k).1 < 0 ∨ csT g 1 N k < (bsT g n q N k).2)
      · rw [if_pos c]
        have lt : csT g 1 N k < csT g 1 N m := by rw [← m3]; exact c.2.resolve_left (by omega)
        exact Or.inr ⟨k, by omega, rfl, rfl, c.1, fun j hj t => (by omega : j < k ∨ j = k).elim (fun w => by have := m5 j w t; omega) (fun w => by rw [w]; exact Int.le_refl _), fun j hj t => by have := m5 j hj t; omega⟩
      · rw [if_neg c]
        refine Or.inr ⟨m, by omega, m2, m3, m4, fun j hj t => ?_, m6⟩
        by_cases w : j < k
        · exact m5 j w t
        · have jk : j = k := by omega
          rw [jk] at t ⊢
          have : ¬ csT g 1 N k < (bsT g n q N k).2 := fun x => c ⟨t, Or.inr x⟩
          omega
theorem fs_e (h : RP g n q s) {N : Nat} (hN : (N : Int) = n) : fsT g n q N (2 ^ N) = if FX g n q 0 0 3 < 1000 then ((KC g n q 0 N : Nat) : Int) else -1 := by
  by_cases hl : FX g n q 0 0 3 < 1000
  · rw [if_pos hl]
    have B := cs_B h (Or.inl rfl) hl N (by omega)
    have kl := KC_lt (g := g) (n := n) (q := q) 0 N
    have f0 : 0 ≤ FX g n q 0 0 3 := (ffS_in (L := n) (ow := owP g) (cA := cnP g q 0 1) (cU := cnP g q 0 0) (pr := 0) (a := 0) (b := 3) (Or.inl rfl)).1
    rcases fs_i (g := g) (n := n) (q := q) N (2 ^ N) with ⟨_, i2⟩ | ⟨m, m1, m2, m3, m4⟩
    · exact absurd B.1 (i2 _ kl)
    · rw [m2]
      have c1 : ¬ m < KC g n q 0 N := fun t => by
        have := cs_C h hN (Or.inl rfl) hl m3 t
        rw [cs_0] at this
        omega
      have c2 : ¬ KC g n q 0 N < m := fun t => m4 _ t B.1
      omega
  · rw [if_neg hl]
    rcases fs_i (g := g) (n := n) (q := q) N (2 ^ N) with ⟨i1, _⟩ | ⟨m, m1, m2, m3, m4⟩
    · exact i1
    · exfalso
      have A := cs_A h hN (Or.inl rfl) m3 N (Nat.le_refl _)
      rw [cs_0, cs_0, Nat.sub_self] at A
      have e : cxT g 0 (m / 2 ^ N) = 3 := rfl
      rw [e, show ((0 : Nat) : Int) = 0 from rfl] at A
      omega
theorem bs_e (h : RP g n q s) {N : Nat} (hN : (N : Int) = n) : (bsT g n q N (2 ^ N)).1 = if FX g n q 1 0 3 < 1000 then ((KC g n q 1 N : Nat) : Int) else -1 := by
  have low : ∀ m : Nat, vlT g n q N m = 1 → FX g n q 1 0 3 ≤ csT g 1 N m := fun m hm => by
    have A := cs_A h hN (Or.inr rfl) hm N (Nat.le_refl _)
    rw [Nat.sub_self] at A
    have e : cxT g 0 (m / 2 ^ N) = 3 := rfl
    have e2 : csT g 1 0 (m / 2 ^ N) = 0 := rfl
    rw [e, e2, show ((0 : Nat) : Int) = 0 from rfl] at A
    omega
  by_cases hl : FX g n q 1 0 3 < 1000
  · rw [if_pos hl]
    have B := cs_B h (Or.inr rfl) hl N (by omega)
    have kl := KC_lt (g := g) (n := n) (q := q) 1 N
    have ce : csT g 1 N (KC g n q 1 N) = FX g n q 1 0 3 := by
      have := B.2
      rw [hN, FX_e] at this; omega
    rcases bs_i (g := g) (n := n) (q := q) N (2 ^ N) with ⟨_, i2⟩ | ⟨m, m1, m2, m3, m4, m5, m6⟩
    · exact absurd B.1 (i2 _ kl)
    · rw [m2]
      have c1 : ¬ m < KC g n q 1 N := fun t => by
        have := cs_C h hN (Or.inr rfl) hl m4 t
        have := m5 _ kl B.1
        omega
      have c2 : ¬ KC g n q 1 N < m := fun t => by
        have := m6 _ t B.1
        have := low m m4
        omega
      omega
  · rw [if_neg hl]
    rcases bs_i (g := g) (n := n) (q := q) N (2 ^ N) with ⟨i1, _⟩ | ⟨m, m1, m2, m3, m4, m5, m6⟩
    · exact i1
    · exfalso
      have := low m m4
      have := (cs_in (g := g) (Or.inr rfl) N m).2
      have := h.1
      omega
end
