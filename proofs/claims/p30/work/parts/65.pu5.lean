/-! all stickings of a piece, as the law counts them -/
def arN (g : Int → Int) (n q : Int) : Nat → Int × Int × Int × Int × Int
  | 0 => (0, 0, -1, -1, 0)
  | k + 1 => if ¬ onN g (hkV n k) n.toNat = 0 ∧ ¬ caV g n q (hkV n k) 0 = 0 then
      ((arN g n q k).1 + 1, (arN g n q k).2.1 + caV g n q (hkV n k) 1, (if (arN g n q k).2.2.1 < 0 then mkN (hkV n k) n.toNat else (arN g n q k).2.2.1),
        (if (arN g n q k).2.2.2.1 < 0 ∨ rpV g n (hkV n k) < (arN g n q k).2.2.2.2 then mkN (hkV n k) n.toNat else (arN g n q k).2.2.2.1),
        (if (arN g n q k).2.2.2.1 < 0 ∨ rpV g n (hkV n k) < (arN g n q k).2.2.2.2 then rpV g n (hkV n k) else (arN g n q k).2.2.2.2))
    else arN g n q k
abbrev arP (g : Int → Int) (n q k : Int) : Prop := ¬ onN g (hkV n k) n.toNat = 0 ∧ ¬ caV g n q (hkV n k) 0 = 0
theorem arN_s (g : Int → Int) (n q : Int) {k : Int} (h : 0 ≤ k) : arN g n q (k + 1).toNat = if arP g n q k then
      ((arN g n q k.toNat).1 + 1, (arN g n q k.toNat).2.1 + caV g n q (hkV n k) 1, (if (arN g n q k.toNat).2.2.1 < 0 then mkN (hkV n k) n.toNat else (arN g n q k.toNat).2.2.1),
        (if (arN g n q k.toNat).2.2.2.1 < 0 ∨ rpV g n (hkV n k) < (arN g n q k.toNat).2.2.2.2 then mkN (hkV n k) n.toNat else (arN g n q k.toNat).2.2.2.1),
        (if (arN g n q k.toNat).2.2.2.1 < 0 ∨ rpV g n (hkV n k) < (arN g n q k.toNat).2.2.2.2 then rpV g n (hkV n k) else (arN g n q k.toNat).2.2.2.2))
    else arN g n q k.toNat := by
  rw [show (k + 1).toNat = k.toNat + 1 by omega]
  have e := Int.toNat_of_nonneg h
  conv => rhs; rw [← e]
  rfl
def msV (n i : Int) : Int := if i < 0 then -1 else mkN (hkV n i) n.toNat
theorem msV_n (n i : Int) : msV n i < 0 ↔ i < 0 := by
  unfold msV
  have := (mkN_in (f := hkV n i) (fun j => hkV_01 n i j) n.toNat).1
  by_cases z : i < 0
  · rw [if_pos z]; exact ⟨fun _ => z, fun _ => by decide⟩
  · rw [if_neg z]; exact ⟨fun t => absurd t (by omega), fun t => absurd t z⟩
section
variable {g : Int → Int} {n q : Int} {s : Int → Int}
theorem ca_mk {N : Nat} (hN : (N : Int) = n) {k ov : Int} : caV g n q (btV (mkN (hkV n k) n.toNat)) ov = caV g n q (hkV n k) ov := by
  unfold caV
  refine caN_cg (fun j a b => ?_) n.toNat 0 (Int.le_refl _) (by omega)
  obtain ⟨i, rfl⟩ := Int.eq_ofNat_of_zero_le a
  exact mkN_b (fun j => hkV_01 n k j) n.toNat i (by omega)
theorem rp_mk {N : Nat} (hN : (N : Int) = n) {k : Int} : rpV g n (btV (mkN (hkV n k) n.toNat)) = rpV g n (hkV n k) := by
  unfold rpV
  rw [rpS_cg (h1 := btV (mkN (hkV n k) n.toNat)) (h2 := hkV n k) n.toNat (fun j a b => by
    obtain ⟨i, rfl⟩ := Int.eq_ofNat_of_zero_le a
    exact mkN_b (fun j => hkV_01 n k j) n.toNat i (by omega))]
theorem ar_i (h : RP g n q s) {N : Nat} (hN : (N : Int) = n) : ∀ k : Nat, k ≤ 2 ^ N → arN g n q k = (sN (fun k => if vlT g n q N k = 1 then 1 else 0) k, sN (fun k => if vlT g n q N k = 1 ∧ cloP g n q N k then 1 else 0) k, msV n (fsT g n q N k), msV n (bsT g n q N k).1, (bsT g n q N k).2)
  | 0, _ => rfl
  | k + 1, hk => by
    have ih := ar_i h hN k (by omega)
    have e := arN_s g n q (k := (k : Int)) (by omega)
    rw [show ((k : Int) + 1).toNat = k + 1 by omega, Int.toNat_natCast, ih] at e
    rw [e]
    have e1 : sN (fun k => if vlT g n q N k = 1 then (1 : Int) else 0) (k + 1) = sN (fun k => if vlT g n q N k = 1 then 1 else 0) k + (if vlT g n q N k = 1 then 1 else 0) := rfl
    have e2 : sN (fun k => if vlT g n q N k = 1 ∧ cloP g n q N k then (1 : Int) else 0) (k + 1) = sN (fun k => if vlT g n q N k = 1 ∧ cloP g n q N k then 1 else 0) k + (if vlT g n q N k = 1 ∧ cloP g n q N k then 1 else 0) := rfl
    have e3 : fsT g n q N (k + 1) = if vlT g n q N k = 1 ∧ fsT g n q N k < 0 then (k : Int) else fsT g n q N k := rfl
    have e4 : bsT g n q N (k + 1) = if vlT g n q N k = 1 ∧ ((bsT g n q N k).1 < 0 ∨ csT g 1 N k < (bsT g n q N k).2) then ((k : Int), csT g 1 N k) else bsT g n q N k := rfl
    have c01 := caN_01 g n q (hkV n k) 0 n.toNat 0
    have c11 := caN_01 g n q (hkV n k) 1 n.toNat 0
    have v : arP g n q k ↔ vlT g n q N k = 1 := by
      rw [vl_iff h hN]
      unfold arP
      rw [show n.toNat = N by omega]
      constructor
      · rintro ⟨a, b⟩; exact ⟨a, c01.resolve_left b⟩
      · rintro ⟨a, b⟩; exact ⟨a, by rw [b]; decide⟩
    have rp := rp_e (g := g) (k := k) hN
    rw [e1, e2, e3, e4]
    by_cases z : vlT g n q N k = 1
    · rw [if_pos (v.mpr z), if_pos z]
      dsimp only
      have cl : caV g n q (hkV n k) 1 = if vlT g n q N k = 1 ∧ cloP g n q N k then 1 else 0 := by
        have c := cl_iff h hN (show k < 2 ^ N by omega) ((vl_iff h hN).mp z).2
        by_cases y : cloP g n q N k
        · rw [if_pos ⟨z, y⟩]; exact c.mpr y
        · rw [if_neg (fun t => y t.2)]; exact c11.resolve_right (fun t => y (c.mp t))
      have f : (if msV n (fsT g n q N k) < 0 then mkN (hkV n k) n.toNat else msV n (fsT g n q N k)) = msV n (if vlT g n q N k = 1 ∧ fsT g n q N k < 0 then (k : Int) else fsT g n q N k) := by
        by_cases y : fsT g n q N k < 0
        · rw [if_pos ((msV_n n _).mpr y), if_pos ⟨z, y⟩]; unfold msV; rw [if_neg (by omega)]
        · rw [if_neg (fun t => y ((msV_n n _).mp t)), if_neg (fun t => y t.2)]
      rw [← cl, ← f, rp]
      have bi : (msV n (bsT g n q N k).1 < 0 ∨ csT g 1 N k < (bsT g n q N k).2) ↔ ((bsT g n q N k).1 < 0 ∨ csT g 1 N k < (bsT g n q N k).2) := by rw [msV_n]
      by_cases y : (bsT g n q N k).1 < 0 ∨ csT g 1 N k < (bsT g n q N k).2
      · have m : msV n (k : Int) = mkN (hkV n k) n.toNat := if_neg (by omega)
        have hy := bi.mpr y
        simp only [if_pos hy, if_pos (show vlT g n q N k = 1 ∧ ((bsT g n q N k).1 < 0 ∨ csT g 1 N k < (bsT g n q N k).2) from ⟨z, y⟩), m]
      · have hy : ¬ (msV n (bsT g n q N k).1 < 0 ∨ csT g 1 N k < (bsT g n q N k).2) := fun t => y (bi.mp t)
        simp only [if_neg hy, if_neg (show ¬ (vlT g n q N k = 1 ∧ ((bsT g n q N k).1 < 0 ∨ csT g 1 N k < (bsT g n q N k).2)) from fun t => y t.2)]
    · rw [if_neg (fun t => z (v.mp t)), if_neg z, if_neg (fun t => z t.1), if_neg (fun t => z t.1), if_neg (fun t => z t.1), Int.add_zero, Int.add_zero]
theorem bt_KC (h : RP g n q s) {N : Nat} (hN : (N : Int) = n) (pr : Int) {j : Int} (hj : 0 ≤ j ∧ j < n) (hs : ¬ g j = 0) : btV (mkN (hkV n ((KC g n q pr N : Nat) : Int)) n.toNat) j = chP g n q pr j := by
  obtain ⟨i, rfl⟩ := Int.eq_ofNat_of_zero_le hj.1
  rw [mkN_b (fun j => hkV_01 n _ j) n.toNat i (by omega)]
  exact (KC_hk h hN pr (show i < N by omega)).2 hs
theorem my_pos (h : RP g n q s) {N : Nat} (hN : (N : Int) = n) : 0 < myT g n q N ↔ fcB g n q 0 < 1000 := by
  have fe := fs_e h hN
  have all0 : ∀ m : Nat, (∀ j, j < m → ¬ vlT g n q N j = 1) → sN (fun k => if vlT g n q N k = 1 then (1 : Int) else 0) m = 0 := fun m => by
    induction m with
    | zero => intro _; rfl
    | succ m ih =>
      intro hm
      have e : sN (fun k => if vlT g n q N k = 1 then (1 : Int) else 0) (m + 1) = sN (fun k => if vlT g n q N k = 1 then 1 else 0) m + (if vlT g n q N m = 1 then 1 else 0) := rfl
      rw [e, ih (fun j hj => hm j (by omega)), if_neg (hm m (by omega))]; rfl
  have one : ∀ m i : Nat, i < m → vlT g n q N i = 1 → 0 < sN (fun k => if vlT g n q N k = 1 then (1 : Int) else 0) m := fun m => by
    induction m with
    | zero => intro i hi; exact absurd hi (by omega)
    | succ m ih =>
      intro i hi hv
      have e : sN (fun k => if vlT g n q N k = 1 then (1 : Int) else 0) (m + 1) = sN (fun k => if vlT g n q N k = 1 then 1 else 0) m + (if vlT g n q N m = 1 then 1 else 0) := rfl
      have p : ∀ m : Nat, 0 ≤ sN (fun k => if vlT g n q N k = 1 then (1 : Int) else 0) m := fun m => by
        induction m with
        | zero => exact Int.le_refl _
        | succ m ih2 =>
          have e2 : sN (fun k => if vlT g n q N k = 1 then (1 : Int) else 0) (m + 1) = sN (fun k => if vlT g n q N k = 1 then 1 else 0) m + (if vlT g n q N m = 1 then 1 else 0) := rfl
          rw [e2]; split <;> omega
      rw [e]
      by_cases y : i = m
      · rw [← y, if_pos hv]; have := p i; omega
      · have := ih i (by omega) hv
        split <;> omega
  have fx : fcB g n q 0 = FX g n q 0 0 3 := rfl
  rw [fx]
  unfold myT
  rcases fs_i (g := g) (n := n) (q := q) N (2 ^ N) with ⟨i1, i2⟩ | ⟨m, m1, m2, m3, m4⟩
  · rw [all0 _ i2]
    constructor
    · intro t; exact absurd t (by decide)
    · intro t; rw [if_pos t] at fe; omega
  · constructor
    · intro _
      by_cases y : FX g n q 0 0 3 < 1000
      · exact y
      · rw [if_neg y] at fe; omega
    · intro _; exact one _ m m1 m3
/-- what the law's count comes to -/
theorem ar_fin (h : RP g n q s) (h9 : n ≤ 9) : (arN g n q (p2 n).toNat).1 = cap9 (mnS s (-4) 0 2) ∧ (arN g n q (p2 n).toNat).2.1 = soV s ∧ (0 < (arN g n q (p2 n).toNat).1 ↔ fcB g n q 0 < 1000) ∧ ((0 ≤ (arN g n q (p2 n).toNat).2.2.1 ∧ (arN g n q (p2 n).toNat).2.2.1 < 512) ∨ (arN g n q (p2 n).toNat).2.2.1 = -1) ∧ (0 ≤ (arN g n q (p2 n).toNat).2.2.1 ↔ fcB g n q 0 < 1000) ∧ (fcB g n q 0 < 1000 → ∀ j : Int, 0 ≤ j → j < n → ¬ g j = 0 → btV (arN g n q (p2 n).toNat).2.2.1 j = chP g n q 0 j) ∧ ((0 ≤ (arN g n q (p2 n).toNat).2.2.2.1 ∧ (arN g n q (p2 n).toNat).2.2.2.1 < 512) ∨ (arN g n q (p2 n).toNat).2.2.2.1 = -1) ∧ (0 ≤ (arN g n q (p2 n).toNat).2.2.2.1 ↔ fcB g n q 1 < 1000) ∧ (fcB g n q 1 < 1000 → ∀ j : Int, 0 ≤ j → j < n → ¬ g j = 0 → btV (arN g n q (p2 n).toNat).2.2.2.1 j = chP g n q 1 j) := by
  have hn := h.1
  obtain ⟨N, rfl⟩ := Int.eq_ofNat_of_zero_le hn.1
  have hN : (N : Int) = ((N : Nat) : Int) := rfl
  have ep : (p2 ((N : Nat) : Int)).toNat = 2 ^ N := by unfold p2; rw [Int.toNat_natCast, Int.toNat_natCast]
  have p9 : ((2 ^ N : Nat) : Int) ≤ 512 := by
    have : 2 ^ N ≤ 2 ^ 9 := Nat.pow_le_pow_right (by decide) (by omega)
    omega
  have ai := ar_i h hN (2 ^ N) (Nat.le_refl _)
  have me := my_e h hN
  have ml := my_le g (N : Int) q N
  have cap : cap9 (mnS s (-4) 0 2) = mnS s (-4) 0 2 := by unfold cap9; rw [if_neg (by omega)]
  have fe := fs_e h hN
  have be := bs_e h hN
  have mb : ∀ i : Int, mkN (hkV (N : Int) i) ((N : Nat) : Int).toNat < 512 := fun i => by
    have m := (mkN_in (f := hkV (N : Int) i) (fun j => hkV_01 _ i j) ((N : Nat) : Int).toNat).2
    rw [Int.toNat_natCast] at m ⊢
    have := p2_9 (j := ((N : Nat) : Int)) h9
    omega
  have mb0 : ∀ i : Int, 0 ≤ mkN (hkV (N : Int) i) ((N : Nat) : Int).toNat := fun i => (mkN_in (f := hkV (N : Int) i) (fun j => hkV_01 _ i j) ((N : Nat) : Int).toNat).1
  have fx : ∀ pr, fcB g (N : Int) q pr = FX g (N : Int) q pr 0 3 := fun _ => rfl
  rw [ep, ai]
  dsimp only
  have ms : ∀ (pr x : Int), x = (if FX g (N : Int) q pr 0 3 < 1000 then ((KC g (N : Int) q pr N : Nat) : Int) else -1) → ((0 ≤ msV (N : Int) x ∧ msV (N : Int) x < 512) ∨ msV (N : Int) x = -1) ∧ (0 ≤ msV (N : Int) x ↔ fcB g (N : Int) q pr < 1000) ∧ (fcB g (N : Int) q pr < 1000 → ∀ j : Int, 0 ≤ j → j < (N : Int) → ¬ g j = 0 → btV (msV (N : Int) x) j = chP g (N : Int) q pr j) := fun pr x hx => by
    rw [fx]
    by_cases y : FX g (N : Int) q pr 0 3 < 1000
    · rw [if_pos y] at hx
      have m : msV (N : Int) x = mkN (hkV (N : Int) x) ((N : Nat) : Int).toNat := if_neg (by omega)
      rw [m]
      refine ⟨Or.inl ⟨mb0 x, mb x⟩, ⟨fun _ => y, fun _ => mb0 x⟩, fun _ j a b c => ?_⟩
      rw [hx]; exact bt_KC h hN pr ⟨a, b⟩ c
    · rw [if_neg y] at hx
      have m : msV (N : Int) x = -1 := if_pos (by omega)
      rw [m]
      exact ⟨Or.inr rfl, ⟨fun t => absurd t (by decide), fun t => absurd t y⟩, fun t => absurd t y⟩
  have m0 := ms 0 _ fe
  have m1 := ms 1 _ be
  refine ⟨?_, ?_, ?_, m0.1, m0.2.1, m0.2.2, m1.1, m1.2.1, m1.2.2⟩
  · rw [cap, ← me]; rfl
  · exact ov_e h hN (by omega)
  · exact my_pos h hN
/-! the quickest -/
theorem vl_mono {q2 : Int} (hq : q ≤ q2) : ∀ a k : Nat, (a : Int) ≤ n → vlT g n q2 a k = 1 → vlT g n q a k = 1
  | 0, _, _, _ => rfl
  | a + 1, k, ha, h => by
    have p := vlT_p h
    have ih := vl_mono hq a (k / 2) (by omega) p.1
    have hk : 0 ≤ (a : Int) ∧ (a : Int) < n := by omega
    rw [vlT_s]
    refine if_pos ⟨ih, p.2.imp id (fun t => ⟨t.1, t.2.1, t.2.2.1, ?_⟩)⟩
    have c := t.2.2.2
    rw [plC_e hk (b2_01 _), b2_n] at c ⊢
    exact fun x => c ⟨x.1, Int.lt_of_lt_of_le x.2 hq⟩
theorem fc_mono (h : RP g n q s) {q2 : Int} (h2 : q ≤ q2 ∧ q2 ≤ 4) (hl : fcB g n q2 0 < 1000) : fcB g n q 0 < 1000 := by
  have hn := h.1
  have hq := h.2.1
  obtain ⟨N, rfl⟩ := Int.eq_ofNat_of_zero_le hn.1
  have r2 := h.set (v := q2) (by omega)
  have p2_ := (my_pos r2 (N := N) rfl).mpr hl
  refine (my_pos h (N := N) rfl).mp ?_
  have le : ∀ m : Nat, sN (fun k => if vlT g (N : Int) q2 N k = 1 then (1 : Int) else 0) m ≤ sN (fun k => if vlT g (N : Int) q N k = 1 then (1 : Int) else 0) m := fun m => by
    induction m with
    | zero => exact Int.le_refl _
    | succ m ih =>
      have e : ∀ qq : Int, sN (fun k => if vlT g (N : Int) qq N k = 1 then (1 : Int) else 0) (m + 1) = sN (fun k => if vlT g (N : Int) qq N k = 1 then 1 else 0) m + (if vlT g (N : Int) qq N m = 1 then 1 else 0) := fun _ => rfl
      rw [e, e]
      by_cases y : vlT g (N : Int) q2 N m = 1
      · rw [if_pos y, if_pos (vl_mono h2.1 N m (Int.le_refl _) y)]; omega
      · rw [if_neg y]; split <;> omega
  have := le (2 ^ N)
  unfold myT at *
  omega
theorem qu_iff (h : RP g n q s) : q ≤ (if fcB g n 4 0 < 1000 then 4 else if fcB g n 3 0 < 1000 then 3 else if fcB g n 2 0 < 1000 then 2 else if fcB g n 1 0 < 1000 then 1 else -4) ↔ fcB g n q 0 < 1000 := by
  have hq := h.2.1
  have m := fun (q2 : Int) (hh : q ≤ q2 ∧ q2 ≤ 4) => fc_mono h (q2 := q2) hh
  by_cases y : fcB g n q 0 < 1000
  · refine ⟨fun _ => y, fun _ => ?_⟩
    rcases (by omega : q = 1 ∨ q = 2 ∨ q = 3 ∨ q = 4) with rfl | rfl | rfl | rfl
    · rw [if_pos y]; (repeat' split) <;> omega
    · rw [if_pos y]; (repeat' split) <;> omega
    · rw [if_pos y]; (repeat' split) <;> omega
    · rw [if_pos y]; omega
  · refine ⟨fun t => ?_, fun t => absurd t y⟩
    by_cases y4 : fcB g n 4 0 < 1000
    · exact m 4 (by omega) y4
    · rw [if_neg y4] at t
      by_cases y3 : fcB g n 3 0 < 1000
      · rw [if_pos y3] at t; exact m 3 (by omega) y3
      · rw [if_neg y3] at t
        by_cases y2 : fcB g n 2 0 < 1000
        · rw [if_pos y2] at t; exact m 2 (by omega) y2
        · rw [if_neg y2] at t
          by_cases y1 : fcB g n 1 0 < 1000
          · rw [if_pos y1] at t; exact m 1 (by omega) y1
          · rw [if_neg y1] at t; omega
end
