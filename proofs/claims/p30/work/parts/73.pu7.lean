/-! what the law's method tries compares -/
section
variable {g g2 : Int → Int} {n q : Int} {s : Int → Int}
theorem SV_g (h : agG n g g2) (hn : 0 ≤ n) (q ov : Int) : SV g n q ov = SV g2 n q ov := by
  unfold SV; rw [smS_g h (fun c => b2 (¬ c = 0)), tlP_g h hn]
theorem sv_pos (hn : 0 ≤ n ∧ n ≤ 9) (hq : 1 ≤ q ∧ q ≤ 4) (hv : ∀ j : Int, 0 ≤ j → j < n → vK (g j)) : (0 ≤ SV g n q 0 ∧ SV g n q 0 ≤ 512) ∧ (0 ≤ SV g n q 1 ∧ SV g n q 1 ≤ 512) ∧ (0 < SV g n q 0 ↔ fcB g n q 1 < 1000) := by
  have a := ar_all hn hq hv (m2 := (arN g n q (p2 n).toNat).1) (m3 := (arN g n q (p2 n).toNat).2.1) (m4 := (arN g n q (p2 n).toNat).2.2.1) (m5 := (arN g n q (p2 n).toNat).2.2.2.1) (m6 := (arN g n q (p2 n).toNat).2.2.2.2) rfl
  have b := ar_in (g := g) (q := q) hn (p2 n).toNat
  have p := p2_9 (j := n) hn.2
  have p1 := p2_pos n
  have e := pl_01 ⟨hn.1, by omega⟩ hq hv
  rw [← a.1, ← a.2.1, ← e]
  exact ⟨by omega, by omega, a.2.2.1⟩
theorem rpS_cs {h1 h2 : Int → Int} : ∀ k : Nat, (∀ j : Int, 0 ≤ j → j < k → ¬ g j = 0 → h1 j = h2 j) → rpS g h1 k = rpS g h2 k
  | 0, _ => rfl
  | k + 1, h => by
    have e : ∀ x : Int → Int, rpS g x (k + 1) = if g k = 0 then rpS g x k else ((rpS g x k).1 + (if x k = (rpS g x k).2 then 1 else 0), x k) := fun _ => rfl
    rw [e, e, rpS_cs k (fun j a b => h j a (by omega))]
    by_cases z : g k = 0
    · rw [if_pos z, if_pos z]
    · rw [if_neg z, if_neg z, h k (by omega) (by omega) z]
theorem rp_best (h : RP g n q s) (hl : fcB g n q 1 < 1000) {hb : Int → Int} (hh : ∀ j : Int, 0 ≤ j → j < n → ¬ g j = 0 → hb j = chP g n q 1 j) : rpV g n hb = fcB g n q 1 := by
  obtain ⟨N, rfl⟩ := Int.eq_ofNat_of_zero_le h.1.1
  have B := (cs_B h (Or.inr rfl) hl N (Int.le_refl _)).2
  rw [FX_e] at B
  have c : rpV g (N : Int) hb = rpV g (N : Int) (hkV (N : Int) ((KC g (N : Int) q 1 N : Nat) : Int)) := by
    unfold rpV
    rw [rpS_cs (h2 := hkV (N : Int) ((KC g (N : Int) q 1 N : Nat) : Int)) ((N : Int)).toNat (fun j a b z => ?_)]
    obtain ⟨i, rfl⟩ := Int.eq_ofNat_of_zero_le a
    rw [hh i a (by omega) z]
    exact ((KC_hk h (N := N) rfl 1 (show i < N by omega)).2 z).symm
  rw [c, rp_e (N := N) rfl]
  have f : fcB g (N : Int) q 1 = FX g (N : Int) q 1 0 3 := rfl
  rw [f]; omega
theorem rp_try (hn : 0 ≤ n ∧ n ≤ 32) (hq : 1 ≤ q ∧ q ≤ 4) (hv : ∀ j : Int, 0 ≤ j → j < n → vK (g j)) (hl : fcB g n q 1 < 1000) : rpV g n (btV (mkN (fun j => b2 (PH g n q 1 j = 1)) n.toNat)) = fcB g n q 1 := by
  have h := RP_of hn hq hv
  refine rp_best h hl (fun j a b z => ?_)
  have o := (h.cho (pr := 1) (Or.inr rfl) ((h.play (Or.inr rfl)).mp hl) ⟨a, b⟩ z).2
  obtain ⟨i, rfl⟩ := Int.eq_ofNat_of_zero_le a
  rw [mkN_b (f := fun j => b2 (PH g n q 1 j = 1)) (fun j => b2_01 _) n.toNat i (by omega)]
  have e : PH g n q 1 (i : Int) = chP g n q 1 (i : Int) := by unfold PH; rw [if_pos ⟨z, hl⟩]
  show b2 (PH g n q 1 (i : Int) = 1) = _
  rw [e]
  rcases o with y | y
  · rw [y]; rfl
  · rw [y]; rfl
theorem PH_in (hn : 0 ≤ n ∧ n ≤ 32) (hq : 1 ≤ q ∧ q ≤ 4) (hv : ∀ j : Int, 0 ≤ j → j < n → vK (g j)) {pr j : Int} : -4 ≤ PH g n q pr j ∧ PH g n q pr j ≤ 3 := by
  unfold PH; split
  · have := chP_in (g := g) (n := n) (q := q) (pr := pr) (k := j); omega
  · omega
theorem lb_in (hn : 0 ≤ n ∧ n ≤ 9) (hq : 1 ≤ q ∧ q ≤ 4) (hv : ∀ j : Int, 0 ≤ j → j < n → vK (g j)) : -4 ≤ lbV g n q ∧ lbV g n q ≤ 1000 := by
  unfold lbV; split
  · rename_i z
    have e := rp_try ⟨hn.1, by omega⟩ hq hv z
    have r := rpS_in g (btV (mkN (fun j => b2 (PH g n q 1 j = 1)) n.toNat)) n.toNat
    unfold rpV at e; omega
  · omega
/-! mirrored -/
set_option maxRecDepth 20000 in
theorem mi_k {c : Int} (hc : vK c) : (miC c = 0 ↔ c = 0) ∧ miC c / 16 % 4 = c / 16 % 4 ∧ (¬ c = 0 → (c / 2 % 4 = 2 → miC c / 2 % 4 = 2) ∧ (¬ c / 2 % 4 = 2 → miC c / 2 % 4 = 1 - c / 2 % 4)) :=
  vK_all (P := fun c => (miC c = 0 ↔ c = 0) ∧ miC c / 16 % 4 = c / 16 % 4 ∧ (¬ c = 0 → (c / 2 % 4 = 2 → miC c / 2 % 4 = 2) ∧ (¬ c / 2 % 4 = 2 → miC c / 2 % 4 = 1 - c / 2 % 4))) (by decide +kernel) hc
abbrev miG (g : Int → Int) (n : Int) : Int → Int := mpF (fun _ c => miC c) g n
theorem mi_at {j : Int} (h : 0 ≤ j ∧ j < n) : miG g n j = miC (g j) := if_pos h
theorem mi_vk (hn : 0 ≤ n ∧ n ≤ 32) (hq : 1 ≤ q ∧ q ≤ 4) (hv : ∀ j : Int, 0 ≤ j → j < n → vK (g j)) : ∀ j : Int, 0 ≤ j → j < n → vK (miG g n j) := fun j a b => ((RP_of hn hq hv).mirr.2.2.2.2 j a b).1
theorem mi_pl (hv : ∀ j : Int, 0 ≤ j → j < n → vK (g j)) {k al : Int} (hk : 0 ≤ k ∧ k < n) (hal : al = 0 ∨ al = 1) : plC n (cnP (miG g n) q 0 1) (cnP (miG g n) q 0 0) k al = plC n (cnP g q 0 1) (cnP g q 0 0) k al := by
  rw [plC_e hk hal, plC_e hk hal]
  refine b2_c ?_
  rw [mi_at hk]
  have m := mi_k (hv k hk.1 hk.2)
  by_cases z : k = 0
  · rw [if_pos z, if_pos z]
    exact ⟨fun t => absurd rfl t.1.1, fun t => absurd rfl t.1.1⟩
  · rw [if_neg z, if_neg z, mi_at ⟨by omega, by omega⟩]
    have w := mi_k (hv (k - 1) (by omega) (by omega))
    unfold cnD; rw [m.1, w.1, m.2.1, w.2.1]
theorem mi_fit (hv : ∀ j : Int, 0 ≤ j → j < n → vK (g j)) {k b hh : Int} (hk : 0 ≤ k ∧ k < n) (hs : ¬ g k = 0) (h01 : hh = 0 ∨ hh = 1) : fitP n (owP (miG g n)) (cnP (miG g n) q 0 1) (cnP (miG g n) q 0 0) k (1 - b) (1 - hh) ↔ fitP n (owP g) (cnP g q 0 1) (cnP g q 0 0) k b hh := by
  have m := mi_k (hv k hk.1 hk.2)
  have m2 := m.2.2 hs
  have v := (hv k hk.1 hk.2).2.1
  have e : b2 (1 - b = 1 - hh) = b2 (b = hh) := b2_c (by omega)
  unfold fitP
  rw [e, mi_pl hv hk (b2_01 _)]
  have o1 : owP (miG g n) k = miC (g k) / 2 % 4 := by
    unfold owP; rw [mi_at hk, if_neg (fun t => hs (m.1.mp t))]
  have o2 : owP g k = g k / 2 % 4 := by unfold owP; rw [if_neg hs]
  rw [o1, o2]
  have c : (miC (g k) / 2 % 4 = 2 ∨ miC (g k) / 2 % 4 = 1 - hh) ↔ (g k / 2 % 4 = 2 ∨ g k / 2 % 4 = hh) := by omega
  rw [c]
theorem mi_bw (hv : ∀ j : Int, 0 ≤ j → j < n → vK (g j)) : ∀ (r : Nat) (k b : Int), 0 ≤ k → k + r = n → BW (miG g n) n q 0 (fun _ => 1) r k (1 - b) = BW g n q 0 (fun _ => 1) r k b
  | 0, _, _, _, _ => rfl
  | r + 1, k, b, h0, hr => by
    have hk : 0 ≤ k ∧ k < n := ⟨h0, by omega⟩
    have e : ∀ (g : Int → Int) (b : Int), BW g n q 0 (fun _ => 1) (r + 1) k b = if owP g k = 3 then BW g n q 0 (fun _ => 1) r (k + 1) b else (if fitP n (owP g) (cnP g q 0 1) (cnP g q 0 0) k b 0 then BW g n q 0 (fun _ => 1) r (k + 1) 0 else 0) + (if fitP n (owP g) (cnP g q 0 1) (cnP g q 0 0) k b 1 then BW g n q 0 (fun _ => 1) r (k + 1) 1 else 0) := fun _ _ => rfl
    rw [e, e]
    have ih := fun b => mi_bw hv r (k + 1) b (by omega) (by omega)
    have m := mi_k (hv k hk.1 hk.2)
    by_cases z : g k = 0
    · have o1 : owP (miG g n) k = 3 := by unfold owP; rw [mi_at hk, if_pos (m.1.mpr z)]
      have o2 : owP g k = 3 := by unfold owP; rw [if_pos z]
      rw [if_pos o1, if_pos o2]; exact ih b
    · have v := (hv k hk.1 hk.2).2.1
      have o2 : ¬ owP g k = 3 := by unfold owP; rw [if_neg z]; exact v
      have o1 : ¬ owP (miG g n) k = 3 := by
        unfold owP; rw [mi_at hk, if_neg (fun t => z (m.1.mp t))]
        have := m.2.2 z; omega
      rw [if_neg o1, if_neg o2]
      have f0 := mi_fit (q := q) hv hk z (b := b) (hh := 0) (Or.inl rfl)
      have f1 := mi_fit (q := q) hv hk z (b := b) (hh := 1) (Or.inr rfl)
      rw [show (1 : Int) - 0 = 1 from rfl] at f0
      rw [show (1 : Int) - 1 = 0 from rfl] at f1
      have i0 := ih 0
      have i1 := ih 1
      rw [show (1 : Int) - 0 = 1 from rfl] at i0
      rw [show (1 : Int) - 1 = 0 from rfl] at i1
      rw [i0, i1, Int.add_comm]
      exact alg2 _ _ _ _ f0 f1 _ _
theorem SV_mi (hn : 0 ≤ n ∧ n ≤ 32) (hq : 1 ≤ q ∧ q ≤ 4) (hv : ∀ j : Int, 0 ≤ j → j < n → vK (g j)) : SV (miG g n) n q 0 = SV g n q 0 := by
  have h := RP_of hn hq hv
  have h2 := h.mirr
  have t1 : tlP (miG g n) n q 0 = tlP g n q 0 := by
    rw [tl_0 h, tl_0 h2, mn_0 h (pv := 0) (b := 0) (Or.inr rfl) (Or.inl rfl), mn_0 h2 (pv := 0) (b := 1) (Or.inr rfl) (Or.inr rfl)]
    exact mi_bw hv n.toNat 0 0 (Int.le_refl _) (by omega)
  have t2 : sm (fun j => b2 (¬ miG g n j = 0)) n = sm (fun j => b2 (¬ g j = 0)) n := sm_cg (fun j a b => b2_c (by rw [mi_at ⟨a, b⟩, (mi_k (hv j a b)).1]))
  unfold SV; rw [t1, t2]
theorem mi_cnt (hv : ∀ j : Int, 0 ≤ j → j < n → vK (g j)) : sm (fun j => b2 (¬ miG g n j = 0 ∧ ¬ miG g n j / 2 % 4 = 2)) n = sm (fun j => b2 (¬ g j = 0 ∧ ¬ g j / 2 % 4 = 2)) n := sm_cg (fun j a b => b2_c (by
  rw [mi_at ⟨a, b⟩]
  have m := mi_k (hv j a b)
  have v := (hv j a b).2.1
  constructor
  · rintro ⟨x, y⟩
    have z : ¬ g j = 0 := fun t => x (m.1.mpr t)
    exact ⟨z, fun t => y ((m.2.2 z).1 t)⟩
  · rintro ⟨x, y⟩
    have := (m.2.2 x).2 y
    exact ⟨fun t => x (m.1.mp t), by omega⟩))
theorem mi_cng (h : agG n g g2) : sm (fun j => b2 (¬ g j = 0 ∧ ¬ g j / 2 % 4 = 2)) n = sm (fun j => b2 (¬ g2 j = 0 ∧ ¬ g2 j / 2 % 4 = 2)) n := smS_g h (fun c => b2 (¬ c = 0 ∧ ¬ c / 2 % 4 = 2))
/-! turned -/
theorem tu_vk (hn : 0 ≤ n ∧ n ≤ 32) (hq : 1 ≤ q ∧ q ≤ 4) (hv : ∀ j : Int, 0 ≤ j → j < n → vK (g j)) {a : Int} (ha : 0 ≤ a ∧ a ≤ n) : ∀ j : Int, 0 ≤ j → j < n → vK (mpF (fun j _ => g (tuI n a j)) g n j) := fun j x y => (((RP_of hn hq hv).turn ha).2.2.2.2 j x y).1
theorem tu_cnt {a : Int} (ha : 0 ≤ a ∧ a ≤ n) : sm (fun j => b2 (¬ mpF (fun j _ => g (tuI n a j)) g n (tuI n (n - a) j) = mpF (fun j _ => g (tuI n a j)) g n j)) n = sm (fun j => b2 (¬ g (tuI n a j) = g j)) n := sm_cg (fun j x y => by
  have t := tuI_in (n := n) (a := n - a) ⟨by omega, by omega⟩ ⟨x, y⟩
  have e1 : mpF (fun j _ => g (tuI n a j)) g n (tuI n (n - a) j) = g (tuI n a (tuI n (n - a) j)) := if_pos t
  have e2 : mpF (fun j _ => g (tuI n a j)) g n j = g (tuI n a j) := if_pos ⟨x, y⟩
  have e3 : tuI n a (tuI n (n - a) j) = j := by
    unfold tuI
    by_cases z : j + (n - a) < n
    · rw [if_pos z, if_neg (by omega)]; omega
    · rw [if_neg z, if_pos (by omega)]; omega
  show b2 (¬ mpF (fun j _ => g (tuI n a j)) g n (tuI n (n - a) j) = mpF (fun j _ => g (tuI n a j)) g n j) = _
  rw [e1, e2, e3]
  exact b2_c ⟨fun t u => t u.symm, fun t u => t u.symm⟩)
end
/-! the history behind pushes -/
theorem HP_m {m n q : Int} {g : Int → Int} {kN kQ : Nat → Int} {kG : Nat → Int → Int} {m2 : Int} {kN2 kQ2 : Nat → Int} {kG2 : Nat → Int → Int} (p : HPush m n q g kN kQ kG m2 kN2 kQ2 kG2) (hm : 0 ≤ m ∧ m ≤ 4) : (m2 = (if m = 4 then 4 else m + 1)) ∧ (1 ≤ m2 ∧ m2 ≤ 4) ∧ (m ≤ 3 → m2 = m + 1) ∧ (m = 4 → m2 = 4) ∧ ∀ i : Nat, 0 ≤ kN2 i ∧ kN2 i ≤ 32 := by
  have e := p.1
  by_cases z : m < 4
  · rw [if_pos z] at e; exact ⟨by rw [if_neg (by omega)]; exact e, by omega, fun _ => e, fun t => absurd t (by omega), p.2.2.2⟩
  · rw [if_neg z] at e; exact ⟨by rw [if_pos (by omega)]; exact e, by omega, fun t => absurd t (by omega), fun _ => e, p.2.2.2⟩
theorem HP_top {m n q : Int} {g : Int → Int} {kN kQ : Nat → Int} {kG : Nat → Int → Int} {m2 : Int} {kN2 kQ2 : Nat → Int} {kG2 : Nat → Int → Int} (p : HPush m n q g kN kQ kG m2 kN2 kQ2 kG2) (h : Int → Int) : kN2 (m2 - 1).toNat = n ∧ kQ2 (m2 - 1).toNat = q ∧ agG n (pCp h (kG2 (m2 - 1).toNat) n) g := by
  have t := p.2.2.1
  refine ⟨t.1, t.2.1, fun j a b => ?_⟩
  unfold pCp; rw [if_pos ⟨a, b⟩]; exact t.2.2 j a b
theorem HP_und {m n q n1 q1 : Int} {g g1 : Int → Int} {kN kQ : Nat → Int} {kG : Nat → Int → Int} {m2 : Int} {kN2 kQ2 : Nat → Int} {kG2 : Nat → Int → Int} {m3 : Int} {kN3 kQ3 : Nat → Int} {kG3 : Nat → Int → Int} (p : HPush m n q g kN kQ kG m2 kN2 kQ2 kG2) (p2 : HPush m2 n1 q1 g1 kN2 kQ2 kG2 m3 kN3 kQ3 kG3) (hm : 0 ≤ m ∧ m ≤ 4) (h : Int → Int) : kN3 (m3 - 1 - 1).toNat = n ∧ kQ3 (m3 - 1 - 1).toNat = q ∧ agG n (pCp h (kG3 (m3 - 1 - 1).toNat) n) g := by
  have e := HP_m p hm
  have e2 := HP_m p2 ⟨by omega, e.2.1.2⟩
  have em := p2.1
  have u := p2.2.1 (m3 - 1 - 1).toNat (by
    by_cases z : m2 < 4
    · rw [if_pos z] at em; omega
    · rw [if_neg z] at em; omega)
  have i : (if m2 < 4 then (m3 - 1 - 1).toNat else (m3 - 1 - 1).toNat + 1) = (m2 - 1).toNat := by
    by_cases z : m2 < 4
    · rw [if_pos z] at em ⊢; omega
    · rw [if_neg z] at em ⊢; omega
  rw [i] at u
  have t := p.2.2.1
  refine ⟨u.1.trans t.1, u.2.1.trans t.2.1, fun j a b => ?_⟩
  unfold pCp; rw [if_pos ⟨a, b⟩, u.2.2 j a (by rw [u.1, t.1]; exact b)]; exact t.2.2 j a b
theorem RP.vk {g : Int → Int} {n q : Int} {s : Int → Int} (h : RP g n q s) : ∀ j : Int, 0 ≤ j → j < n → vK (g j) := fun j a b => (h.2.2.2.2 j a b).1
theorem ag_vk {g g2 : Int → Int} {n : Int} (h : agG n g2 g) (hv : ∀ j : Int, 0 ≤ j → j < n → vK (g j)) : ∀ j : Int, 0 ≤ j → j < n → vK (g2 j) := fun j a b => by rw [h j a b]; exact hv j a b
theorem b2_1 {P : Prop} [Decidable P] : b2 P = 1 ↔ P := by
  unfold b2; by_cases z : P
  · rw [if_pos z]; exact ⟨fun _ => z, fun _ => rfl⟩
  · rw [if_neg z]; exact ⟨fun t => absurd t (by decide), fun t => absurd t z⟩
