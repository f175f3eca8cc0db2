/-! the law's words and the prefixes -/
def onN (g hd : Int → Int) : Nat → Int
  | 0 => 1
  | j + 1 => if ¬ onN g hd j = 0 ∧ ((g j = 0 ∧ hd j = 0) ∨ (¬ g j = 0 ∧ (g j / 2 % 4 = 2 ∨ g j / 2 % 4 = hd j))) then 1 else 0
abbrev onP (g hd : Int → Int) (j : Int) : Prop := (g j = 0 ∧ hd j = 0) ∨ (¬ g j = 0 ∧ (g j / 2 % 4 = 2 ∨ g j / 2 % 4 = hd j))
theorem onN_s (g hd : Int → Int) {j : Int} (h : 0 ≤ j) : onN g hd (j + 1).toNat = if ¬ onN g hd j.toNat = 0 ∧ onP g hd j then 1 else 0 := by
  rw [show (j + 1).toNat = j.toNat + 1 by omega]
  show (if ¬ onN g hd j.toNat = 0 ∧ onP g hd (j.toNat : Int) then (1 : Int) else 0) = _
  rw [Int.toNat_of_nonneg h]
theorem onN_01 (g hd : Int → Int) : ∀ j : Nat, onN g hd j = 0 ∨ onN g hd j = 1
  | 0 => Or.inr rfl
  | j + 1 => by
    have e : onN g hd (j + 1) = if ¬ onN g hd j = 0 ∧ onP g hd j then 1 else 0 := rfl
    rw [e]; split <;> omega
theorem on_all (g hd : Int → Int) : ∀ m : Nat, ¬ onN g hd m = 0 ↔ ∀ j : Nat, j < m → onP g hd j
  | 0 => ⟨fun _ j hj => absurd hj (by omega), fun _ => by show ¬ (1 : Int) = 0; decide⟩
  | m + 1 => by
    have ih := on_all g hd m
    have e : onN g hd (m + 1) = if ¬ onN g hd m = 0 ∧ onP g hd m then 1 else 0 := rfl
    rw [e]
    by_cases z : ¬ onN g hd m = 0 ∧ onP g hd m
    · rw [if_pos z]
      exact ⟨fun _ j hj => (by omega : j < m ∨ j = m).elim (ih.mp z.1 j) (fun t => by rw [t]; exact z.2), fun _ => by decide⟩
    · rw [if_neg z]
      exact ⟨fun t => absurd rfl t, fun t => absurd ⟨ih.mpr (fun j hj => t j (by omega)), t m (by omega)⟩ z⟩
section
variable {g : Int → Int} {n q : Int} {s : Int → Int}
theorem ca_0 {hb : Int → Int} : ∀ (r : Nat) (j : Int), 0 ≤ j → j + r = n → (caN g n q hb 0 r j = 1 ↔ ∀ i : Int, j ≤ i → i + 1 < n → ¬ cnD q (g i) (g (i + 1)) (b2 (hb i = hb (i + 1))))
  | 0, j, h0, hr => ⟨fun _ i a b => absurd b (by omega), fun _ => rfl⟩
  | r + 1, j, h0, hr => by
    have ih := ca_0 (hb := hb) r (j + 1) (by omega) (by omega)
    have e : caN g n q hb 0 (r + 1) j = if caP g n q hb 0 j then caN g n q hb 0 r (j + 1) else 0 := rfl
    rw [e]
    by_cases z : j + 1 < n
    · have c : caP g n q hb 0 j ↔ ¬ cnD q (g j) (g (j + 1)) (b2 (hb j = hb (j + 1))) := by
        unfold caP; rw [if_pos z]; exact ⟨fun t => t.resolve_left (fun x => x.2 z), Or.inr⟩
      by_cases y : caP g n q hb 0 j
      · rw [if_pos y, ih]
        exact ⟨fun t i a b => (by omega : i = j ∨ j + 1 ≤ i).elim (fun x => by rw [x]; exact c.mp y) (fun x => t i x b), fun t i a b => t i (by omega) b⟩
      · rw [if_neg y]
        exact ⟨fun t => absurd t (by decide), fun t => absurd (c.mpr (t j (Int.le_refl _) z)) y⟩
    · rw [if_pos (show caP g n q hb 0 j from Or.inl ⟨rfl, z⟩), ih]
      exact ⟨fun t i a b => absurd b (by omega), fun t i a b => absurd b (by omega)⟩
theorem ca_1 {hb : Int → Int} : ∀ (r : Nat) (j : Int), 0 ≤ j → 1 ≤ r → j + r = n → (caN g n q hb 1 r j = 1 ↔ caN g n q hb 0 r j = 1 ∧ ¬ cnD q (g (n - 1)) (g 0) (b2 (hb (n - 1) = hb 0)))
  | 0, j, h0, h1, hr => absurd h1 (by omega)
  | r + 1, j, h0, h1, hr => by
    have e : ∀ ov, caN g n q hb ov (r + 1) j = if caP g n q hb ov j then caN g n q hb ov r (j + 1) else 0 := fun _ => rfl
    rw [e, e]
    by_cases z : j + 1 < n
    · have ih := ca_1 (hb := hb) r (j + 1) (by omega) (by omega) (by omega)
      have c : ∀ ov, caP g n q hb ov j ↔ ¬ cnD q (g j) (g (j + 1)) (b2 (hb j = hb (j + 1))) := fun ov => by
        unfold caP; rw [if_pos z]; exact ⟨fun t => t.resolve_left (fun x => x.2 z), Or.inr⟩
      by_cases y : cnD q (g j) (g (j + 1)) (b2 (hb j = hb (j + 1)))
      · rw [if_neg (fun t => (c 1).mp t y), if_neg (fun t => (c 0).mp t y)]
        exact ⟨fun t => absurd t (by decide), fun t => absurd t.1 (by decide)⟩
      · rw [if_pos ((c 1).mpr y), if_pos ((c 0).mpr y)]; exact ih
    · have r0 : r = 0 := by omega
      have jn : j = n - 1 := by omega
      subst r0
      have e0 : ∀ ov, caN g n q hb ov 0 (j + 1) = 1 := fun _ => rfl
      rw [e0, e0, if_pos (show caP g n q hb 0 j from Or.inl ⟨rfl, z⟩)]
      have c : caP g n q hb 1 j ↔ ¬ cnD q (g (n - 1)) (g 0) (b2 (hb (n - 1) = hb 0)) := by
        unfold caP; rw [if_neg z, jn]; exact ⟨fun t => t.resolve_left (fun x => absurd x.1 (by decide)), Or.inr⟩
      by_cases y : caP g n q hb 1 j
      · rw [if_pos y]; exact ⟨fun _ => ⟨rfl, c.mp y⟩, fun _ => rfl⟩
      · rw [if_neg y]; exact ⟨fun t => absurd t (by decide), fun t => absurd (c.mpr t.2) y⟩
theorem hk_e {N k j : Nat} (hN : (N : Int) = n) (hj : j < N) : hkV n (k : Int) (j : Int) = ((k / 2 ^ (N - (j + 1)) % 2 : Nat) : Int) := by
  unfold hkV p2
  rw [show (n - 1 - (j : Int)).toNat = N - (j + 1) by omega, ← Int.natCast_ediv]; omega
theorem cx_v : ∀ a k : Nat, cxT g a k = 0 ∨ cxT g a k = 1 ∨ cxT g a k = 3
  | 0, _ => Or.inr (Or.inr rfl)
  | a + 1, k => by
    rw [cxT_s]; split
    · exact cx_v a (k / 2)
    · omega
theorem vl_all {N k : Nat} (hN : (N : Int) = n) : ∀ a : Nat, a ≤ N → (vlT g n q a (k / 2 ^ (N - a)) = 1 ↔ ∀ j : Nat, j < a → okP g n q j (cxT g j (k / 2 ^ (N - j))) (hkV n k j))
  | 0, _ => ⟨fun _ j hj => absurd hj (by omega), fun _ => rfl⟩
  | a + 1, ha => by
    have ih := vl_all (k := k) hN a (by omega)
    have e : k / 2 ^ (N - a) = k / 2 ^ (N - (a + 1)) / 2 := by
      rw [show N - a = (N - (a + 1)) + 1 by omega]; exact hv2 k _
    have hk := hk_e (k := k) hN (show a < N by omega)
    rw [vlT_s, ← e, ← hk]
    by_cases z : vlT g n q a (k / 2 ^ (N - a)) = 1 ∧ okP g n q a (cxT g a (k / 2 ^ (N - a))) (hkV n k a)
    · rw [if_pos z]
      exact ⟨fun _ j hj => (by omega : j < a ∨ j = a).elim (ih.mp z.1 j) (fun t => by rw [t]; exact z.2), fun _ => rfl⟩
    · rw [if_neg z]
      exact ⟨fun t => absurd t (by decide), fun t => absurd ⟨ih.mpr (fun j hj => t j (by omega)), t a (by omega)⟩ z⟩
theorem vl_iff (h : RP g n q s) {N k : Nat} (hN : (N : Int) = n) : vlT g n q N k = 1 ↔ ¬ onN g (hkV n k) N = 0 ∧ caV g n q (hkV n k) 0 = 1 := by
  have va := vl_all (g := g) (q := q) (k := k) hN N (Nat.le_refl _)
  rw [Nat.sub_self, Nat.pow_zero, Nat.div_one] at va
  rw [va, on_all]
  unfold caV
  rw [show n.toNat = N by omega, ca_0 N 0 (Int.le_refl _) (by omega)]
  -- one step
  have st : ∀ j : Nat, j < N → (okP g n q j (cxT g j (k / 2 ^ (N - j))) (hkV n k j) ↔ onP g (hkV n k) j ∧ (1 ≤ j → ¬ cnD q (g ((j : Int) - 1)) (g j) (b2 (hkV n k ((j : Int) - 1) = hkV n k j)))) := fun j hj => by
    have hk : 0 ≤ (j : Int) ∧ (j : Int) < n := by omega
    have o := owP_n h hk
    by_cases z : g j = 0
    · constructor
      · rintro (t | t)
        · exact ⟨Or.inl ⟨z, t.2⟩, fun _ x => x.1.2 z⟩
        · exact absurd z t.1
      · rintro ⟨t, _⟩
        exact Or.inl ⟨z, t.elim (fun x => x.2) (fun x => absurd z x.1)⟩
    · have ow : owP g j = g j / 2 % 4 := by unfold owP; rw [if_neg z]
      have pl : plC n (cnP g q 0 1) (cnP g q 0 0) j (b2 (cxT g j (k / 2 ^ (N - j)) = hkV n k j)) = 0 ↔ (1 ≤ j → ¬ cnD q (g ((j : Int) - 1)) (g j) (b2 (hkV n k ((j : Int) - 1) = hkV n k j))) := by
        rw [plC_e hk (b2_01 _), b2_n]
        by_cases j0 : j = 0
        · rw [if_pos (show (j : Int) = 0 by omega)]
          exact ⟨fun _ t => absurd t (by omega), fun _ t => t.1.1 rfl⟩
        · rw [if_neg (show ¬ (j : Int) = 0 by omega)]
          by_cases y : g ((j : Int) - 1) = 0
          · exact ⟨fun _ _ t => t.1.1 y, fun _ t => t.1.1 y⟩
          · have ej : (((j - 1 : Nat)) : Int) = (j : Int) - 1 := by omega
            have cx : cxT g j (k / 2 ^ (N - j)) = hkV n k ((j : Int) - 1) := by
              have e1 := hk_e (k := k) hN (show j - 1 < N by omega)
              rw [ej, show j - 1 + 1 = j by omega] at e1
              have e2 : ∀ x, cxT g ((j - 1) + 1) x = if g ((j - 1 : Nat) : Int) = 0 then cxT g (j - 1) (x / 2) else ((x % 2 : Nat) : Int) := fun x => cxT_s (j - 1) x
              rw [show j - 1 + 1 = j by omega, ej] at e2
              rw [e2, if_neg y, e1]
            rw [cx]
            exact ⟨fun t _ => t, fun t => t (by omega)⟩
      constructor
      · rintro (t | t)
        · exact absurd t.1 z
        · exact ⟨Or.inr ⟨z, by have := t.2.2.1; rwa [ow] at this⟩, pl.mp t.2.2.2⟩
      · rintro ⟨t, u⟩
        exact Or.inr ⟨z, hk, by rw [ow]; exact t.elim (fun x => absurd x.1 z) (fun x => x.2), pl.mpr u⟩
  constructor
  · intro t
    refine ⟨fun j hj => ((st j hj).mp (t j hj)).1, fun i a b => ?_⟩
    obtain ⟨m, rfl⟩ := Int.eq_ofNat_of_zero_le a
    have u := ((st (m + 1) (by omega)).mp (t (m + 1) (by omega))).2 (by omega)
    rw [show ((m + 1 : Nat) : Int) - 1 = (m : Int) by omega, show ((m + 1 : Nat) : Int) = (m : Int) + 1 by omega] at u
    exact u
  · rintro ⟨t, u⟩ j hj
    refine (st j hj).mpr ⟨t j hj, fun h1 => ?_⟩
    have w := u ((j : Int) - 1) (by omega) (by omega)
    rw [show (j : Int) - 1 + 1 = (j : Int) by omega] at w
    exact w
theorem cl_iff (h : RP g n q s) {N k : Nat} (hN : (N : Int) = n) (hk : k < 2 ^ N) (h0 : caV g n q (hkV n k) 0 = 1) : caV g n q (hkV n k) 1 = 1 ↔ cloP g n q N k := by
  unfold caV at h0 ⊢
  by_cases z : n = 0
  · rw [show n.toNat = 0 by omega]; exact ⟨fun _ => Or.inl z, fun _ => rfl⟩
  · have N1 : 1 ≤ N := by omega
    rw [show n.toNat = N by omega] at h0 ⊢
    rw [ca_1 N 0 (Int.le_refl _) N1 (by omega)]
    have e1 := hk_e (k := k) hN (show N - 1 < N by omega)
    have e0 := hk_e (k := k) hN (show 0 < N by omega)
    rw [show ((N - 1 : Nat) : Int) = n - 1 by omega, show N - (N - 1 + 1) = 0 by omega, Nat.pow_zero, Nat.div_one] at e1
    rw [show ((0 : Nat) : Int) = 0 from rfl, Nat.zero_add] at e0
    have lt : k / 2 ^ (N - 1) < 2 := by
      rw [Nat.div_lt_iff_lt_mul (Nat.two_pow_pos _), Nat.mul_comm, ← Nat.pow_succ, show (N - 1).succ = N by omega]; exact hk
    rw [Nat.mod_eq_of_lt lt] at e0
    rw [e1, e0]
    exact ⟨fun t => Or.inr t.2, fun t => ⟨h0, t.resolve_left z⟩⟩
theorem rp_all {N k : Nat} (hN : (N : Int) = n) : ∀ a : Nat, a ≤ N → rpS g (hkV n k) a = (csT g 1 a (k / 2 ^ (N - a)), if cxT g a (k / 2 ^ (N - a)) = 3 then -1 else cxT g a (k / 2 ^ (N - a)))
  | 0, _ => rfl
  | a + 1, ha => by
    have ih := rp_all (k := k) hN a (by omega)
    have e : k / 2 ^ (N - a) = k / 2 ^ (N - (a + 1)) / 2 := by
      rw [show N - a = (N - (a + 1)) + 1 by omega]; exact hv2 k _
    have hk := hk_e (k := k) hN (show a < N by omega)
    have e2 : rpS g (hkV n k) (a + 1) = if g a = 0 then rpS g (hkV n k) a else ((rpS g (hkV n k) a).1 + (if hkV n k a = (rpS g (hkV n k) a).2 then 1 else 0), hkV n k a) := rfl
    rw [e2, ih, csT_s, cxT_s, ← e, ← hk]
    have cv := cx_v (g := g) a (k / 2 ^ (N - a))
    have h01 := hkV_01 n k a
    generalize cxT g a (k / 2 ^ (N - a)) = c at *
    generalize hkV n k a = hh at *
    by_cases z : g a = 0
    · rw [if_pos z, if_pos z, if_neg (show ¬ (¬ g a = 0 ∧ c = hh) from fun t => t.1 z), Int.add_zero]
    · rw [if_neg z, if_neg z, if_neg (show ¬ hh = 3 by omega)]
      dsimp only
      have i : (hh = (if c = 3 then -1 else c)) ↔ (¬ g a = 0 ∧ c = hh) := by
        by_cases y : c = 3
        · rw [if_pos y]; exact ⟨fun t => by omega, fun t => by omega⟩
        · rw [if_neg y]; exact ⟨fun t => ⟨z, t.symm⟩, fun t => t.2.symm⟩
      by_cases y : hh = (if c = 3 then -1 else c)
      · rw [if_pos y, if_pos (i.mp y)]
      · rw [if_neg y, if_neg (fun t => y (i.mpr t))]
theorem rp_e {N k : Nat} (hN : (N : Int) = n) : rpV g n (hkV n k) = csT g 1 N k := by
  have t := rp_all (g := g) (k := k) hN N (Nat.le_refl _)
  rw [Nat.sub_self, Nat.pow_zero, Nat.div_one] at t
  unfold rpV; rw [show n.toNat = N by omega, t]
theorem KC_hk (h : RP g n q s) {N : Nat} (hN : (N : Int) = n) (pr : Int) {j : Nat} (hj : j < N) : hkV n (KC g n q pr N) j = (chH g n q pr j : Int) ∧ (¬ g j = 0 → hkV n (KC g n q pr N) j = chP g n q pr j) := by
  have e := hk_e (k := KC g n q pr N) hN hj
  have p : ∀ r : Nat, r ≤ N → KC g n q pr N / 2 ^ r = KC g n q pr (N - r) := fun r => by
    induction r with
    | zero => intro _; rw [Nat.pow_zero, Nat.div_one, Nat.sub_zero]
    | succ r ih =>
      intro hr
      rw [hv2, ih (by omega), show N - r = (N - (r + 1)) + 1 by omega]; exact (KC_d pr _).1
  rw [p _ (by omega), show N - (N - (j + 1)) = j + 1 by omega, (KC_d pr j).2] at e
  refine ⟨e, fun z => ?_⟩
  have c := chC_s h pr (a := j) (by omega)
  rw [if_neg z] at c
  rw [e, ← c]
  show chN n (owP g) (cnP g q 0 1) (cnP g q 0 0) pr (j + 1) = chN n (owP g) (cnP g q 0 1) (cnP g q 0 0) pr ((j : Int) + 1).toNat
  rw [show ((j : Int) + 1).toNat = j + 1 by omega]
end
