/-! tellings -/
theorem alg8 (a0 a1 n00 n01 n10 n11 : Prop) [Decidable a0] [Decidable a1] [Decidable n00] [Decidable n01] [Decidable n10] [Decidable n11] {F00 F01 F10 F11 : Prop} [Decidable F00] [Decidable F01] [Decidable F10] [Decidable F11] (h00 : F00 ↔ a0 ∧ n00) (h01 : F01 ↔ a1 ∧ n01) (h10 : F10 ↔ a0 ∧ n10) (h11 : F11 ↔ a1 ∧ n11) (x00 x01 x10 x11 : Int) : ((if F00 then x00 else 0) + (if F01 then x01 else 0)) + ((if F10 then x10 else 0) + (if F11 then x11 else 0)) = (if a0 then ((if n00 then x00 else 0) + (if n10 then x10 else 0)) else 0) + (if a1 then ((if n01 then x01 else 0) + (if n11 then x11 else 0)) else 0) := by
  have e : ∀ (F A B : Prop) [Decidable F] [Decidable A] [Decidable B] (h : F ↔ A ∧ B) (x : Int), (if F then x else 0) = (if A then (if B then x else 0) else 0) := fun F A B _ _ _ h x => by
    by_cases a : A <;> by_cases b : B
    · rw [if_pos (h.mpr ⟨a, b⟩), if_pos a, if_pos b]
    · rw [if_neg (fun z => b (h.mp z).2), if_pos a, if_neg b]
    · rw [if_neg (fun z => a (h.mp z).1), if_neg a]
    · rw [if_neg (fun z => a (h.mp z).1), if_neg a]
  rw [e _ _ _ h00, e _ _ _ h01, e _ _ _ h10, e _ _ _ h11]
  by_cases a : a0 <;> by_cases b : a1 <;> simp only [a, b, if_true, if_false] <;> omega
section
variable {g : Int → Int} {n q : Int} {s : Int → Int}
abbrev BW (g : Int → Int) (n q pv : Int) (w : Int → Int) (r : Nat) (k b : Int) : Int := bw n (owP g) (cnP g q pv 1) (cnP g q pv 0) w r k b
theorem plC_0 {pv k al : Int} (h : g k = 0) : plC n (cnP g q pv 1) (cnP g q pv 0) k al = 0 := by
  have e : ∀ al2 : Int, cnP g q pv al2 k = 0 := fun al2 => by unfold cnP; exact b2_f (fun z => z.1.2 h)
  unfold plC; split
  · split
    · exact e 0
    · exact e 1
  · rfl
theorem plC_p {pv k al : Int} (hk : 0 ≤ k) (h : (k = 0 → pv = 0) ∧ (¬ k = 0 → g (k - 1) = 0)) : plC n (cnP g q pv 1) (cnP g q pv 0) k al = 0 := by
  have e : ∀ al2 : Int, cnP g q pv al2 k = 0 := fun al2 => by
    unfold cnP; apply b2_f; intro z
    by_cases y : k = 0
    · rw [if_pos y] at z; exact z.1.1 (h.1 y)
    · rw [if_neg y] at z; exact z.1.1 (h.2 y)
  unfold plC; split
  · split
    · exact e 0
    · exact e 1
  · rfl
theorem ow_3 (h : RP g n q s) {pv : Int} : ∀ k al : Int, 0 ≤ k → k < n → owP g k = 3 → plC n (cnP g q pv 1) (cnP g q pv 0) k al = 0 := fun k al h0 h1 h3 => plC_0 ((owP_3 h ⟨h0, h1⟩).mp h3)
theorem ow_4 (h : RP g n q s) : ∀ k : Int, 0 ≤ k → k < n → owP g k = 0 ∨ owP g k = 1 ∨ owP g k = 2 ∨ owP g k = 3 := fun k h0 h1 => by
  unfold owP; split
  · omega
  · omega
def bsN (s : Int → Int) (nx : Int) : Int → Int := fun b => if bsW s nx b then 0 else 1
theorem mn_bw (h : RP g n q s) {pv nx : Int} : ∀ (r : Nat), (r : Int) ≤ n → ∀ b bm : Int, (n - r = 0 → g 0 = 0 ∨ pv = 0) → ((b = bm ∧ (bm = 0 ∨ bm = 1)) ∨ (bm = 2 ∧ (b = 0 ∨ b = 1) ∧ nx = -4 ∧ ∀ j : Int, 0 ≤ j → j < n - r → g j = 0)) → mnS s nx (n - r) bm = BW g n q pv (bsN s nx) r (n - r) b
  | 0, _, b, bm, hp, hb => by
    rw [show n - ((0 : Nat) : Int) = s 0 by rw [h.2.2.1]; omega, mnS_e]
    show (if bsW s nx bm then 0 else 1) = (if bsW s nx b then 0 else 1)
    rcases hb with ⟨rfl, _⟩ | ⟨_, _, rfl, _⟩
    · rfl
    · rw [if_neg (fun z => z.1.1 rfl), if_neg (fun z => z.1.1 rfl)]
  | r + 1, hr, b, bm, hp, hb => by
    have ih := mn_bw h (pv := pv) (nx := nx) r (by omega)
    have ea : n - ((r : Nat) : Int) = (n - (((r + 1 : Nat)) : Int)) + 1 := by omega
    generalize hA : n - (((r + 1 : Nat)) : Int) = a at hb hp ea ⊢
    rw [ea] at ih
    have ha : 0 ≤ a ∧ a < n := by omega
    have o := owP_3 h ha
    have oz := (owP_n h ha).2.2
    have e1 := mnS_s s nx (a := a) bm (by rw [h.2.2.1]; omega)
    have e2 : BW g n q pv (bsN s nx) (r + 1) a b = if owP g a = 3 then BW g n q pv (bsN s nx) r (a + 1) b else (if fitP n (owP g) (cnP g q pv 1) (cnP g q pv 0) a b 0 then BW g n q pv (bsN s nx) r (a + 1) 0 else 0) + (if fitP n (owP g) (cnP g q pv 1) (cnP g q pv 0) a b 1 then BW g n q pv (bsN s nx) r (a + 1) 1 else 0) := rfl
    rw [e1, e2]
    by_cases z : g a = 0
    · rw [if_pos (oz.mpr z), if_pos (o.mpr z)]
      refine ih b bm (fun y => absurd y (by omega)) ?_
      rcases hb with hb | ⟨x1, x2, x3, x4⟩
      · exact Or.inl hb
      · exact Or.inr ⟨x1, x2, x3, fun j j0 j1 => (by omega : j < a ∨ j = a).elim (x4 j j0) (fun e => by rw [e]; exact z)⟩
    · have hb2 : (b = bm ∧ (bm = 0 ∨ bm = 1)) ∨ (a = 0 ∨ g (a - 1) = 0) := by
        rcases hb with hb | ⟨x1, x2, x3, x4⟩
        · exact Or.inl hb
        · exact Or.inr ((by omega : a = 0 ∨ 1 ≤ a).imp id (fun y => x4 (a - 1) (by omega) (by omega)))
      have hpv : a = 0 → pv = 0 := fun y => (hp y).resolve_left (fun x => z (by rw [y]; exact x))
      rw [if_neg (fun x => z (oz.mp x)), if_neg (fun x => z (o.mp x)), lm2, Int.zero_add, ih 0 0 (fun y => absurd y (by omega)) (Or.inl ⟨rfl, Or.inl rfl⟩), ih 1 1 (fun y => absurd y (by omega)) (Or.inl ⟨rfl, Or.inr rfl⟩)]
      exact alg2 _ _ _ _ (fit_m h ha z hpv hb2 (Or.inl rfl)).symm (fit_m h ha z hpv hb2 (Or.inr rfl)).symm _ _
theorem bsN_4 (s : Int → Int) : bsN s (-4) = fun _ => 1 := by
  funext b; unfold bsN; exact if_neg (fun z => z.1.1 rfl)
theorem mn_0 (h : RP g n q s) {pv b : Int} (hp : g 0 = 0 ∨ pv = 0) (hb : b = 0 ∨ b = 1) : mnS s (-4) 0 2 = BW g n q pv (fun _ => 1) n.toNat 0 b := by
  have e := mn_bw h (pv := pv) (nx := -4) n.toNat (by have := h.1; omega) b 2 (fun _ => hp) (Or.inr ⟨rfl, hb, rfl, fun j j0 j1 => absurd j1 (by have := h.1; omega)⟩)
  rw [show n - ((n.toNat : Nat) : Int) = 0 by have := h.1; omega, bsN_4] at e
  exact e
theorem bw_b (h : RP g n q s) {pv : Int} (w : Int → Int) : ∀ (r : Nat), (r : Int) ≤ n → (n - r = 0 → g 0 = 0 ∨ pv = 0) → (∀ j : Int, 0 ≤ j → j < n - r → g j = 0) → (∃ j : Int, n - r ≤ j ∧ j < n ∧ ¬ g j = 0) → BW g n q pv w r (n - r) 0 = BW g n q pv w r (n - r) 1
  | 0, _, _, _, ⟨j, j0, j1, _⟩ => absurd j1 (by omega)
  | r + 1, hr, hp, hz, ⟨j, j0, j1, j2⟩ => by
    have ea : n - ((r : Nat) : Int) = (n - (((r + 1 : Nat)) : Int)) + 1 := by omega
    have ih := bw_b h (pv := pv) w r (by omega) (fun y => absurd y (by omega))
    generalize hA : n - (((r + 1 : Nat)) : Int) = a at hz hp j0 ea ⊢
    rw [ea] at ih
    have ha : 0 ≤ a ∧ a < n := by omega
    have o := owP_3 h ha
    have e2 : ∀ b, BW g n q pv w (r + 1) a b = if owP g a = 3 then BW g n q pv w r (a + 1) b else (if fitP n (owP g) (cnP g q pv 1) (cnP g q pv 0) a b 0 then BW g n q pv w r (a + 1) 0 else 0) + (if fitP n (owP g) (cnP g q pv 1) (cnP g q pv 0) a b 1 then BW g n q pv w r (a + 1) 1 else 0) := fun _ => rfl
    rw [e2, e2]
    by_cases z : g a = 0
    · rw [if_pos (o.mpr z), if_pos (o.mpr z)]
      exact ih (fun j j0 j1 => (by omega : j < a ∨ j = a).elim (hz j j0) (fun e => by rw [e]; exact z)) ⟨j, (by omega : a = j ∨ a + 1 ≤ j).elim (fun e => absurd (e ▸ z) j2) id, j1, j2⟩
    · rw [if_neg (fun x => z (o.mp x)), if_neg (fun x => z (o.mp x))]
      have p : ∀ al, plC n (cnP g q pv 1) (cnP g q pv 0) a al = 0 := fun al => plC_p ha.1 ⟨fun y => (hp y).resolve_left (fun x => z (by rw [y]; exact x)), fun y => hz (a - 1) (by omega) (by omega)⟩
      have f : ∀ hh : Int, fitP n (owP g) (cnP g q pv 1) (cnP g q pv 0) a 0 hh ↔ fitP n (owP g) (cnP g q pv 1) (cnP g q pv 0) a 1 hh := fun hh => ⟨fun y => ⟨y.1, y.2.1, p _⟩, fun y => ⟨y.1, y.2.1, p _⟩⟩
      exact alg2 _ _ _ _ (f 0) (f 1) _ _
theorem sm_no {P : Int → Prop} [DecidablePred P] : ∀ k : Nat, sm (fun j => b2 (P j)) k = 0 → ∀ j : Int, 0 ≤ j → j < k → ¬ P j
  | 0, _, j, h0, h1 => absurd h1 (by omega)
  | k + 1, h, j, h0, h1 => by
    have e := sm_s (fun j => b2 (P j)) (k := k) (by omega)
    have p : 0 ≤ sm (fun j => b2 (P j)) k := (sm_le (f := fun j => b2 (P j)) (c := 1) (k := k) (by omega) (fun j _ _ => by rcases b2_01 (P j) with z | z <;> (rw [z]; omega))).1
    have t := b2_01 (P k)
    rw [show (((k + 1 : Nat)) : Int) = (k : Int) + 1 by omega, e] at h
    rcases (by omega : j < (k : Int) ∨ j = k) with z | z
    · exact sm_no k (by omega) j h0 z
    · rw [z]; exact b2_n.mp (by omega)
theorem sm_z {P : Int → Prop} [DecidablePred P] : ∀ k : Nat, (∀ j : Int, 0 ≤ j → j < k → ¬ P j) → sm (fun j => b2 (P j)) k = 0
  | 0, _ => rfl
  | k + 1, h => by
    have e := sm_s (fun j => b2 (P j)) (k := k) (by omega)
    rw [show (((k + 1 : Nat)) : Int) = (k : Int) + 1 by omega, e, sm_z k (fun j a b => h j a (by omega)), b2_f (h k (by omega) (by omega))]; rfl
theorem tl_0 (h : RP g n q s) : tlP g n q 0 = mnS s (-4) 0 2 := by
  have e := tb_bw0 (n := n) (ow := owP g) (cA := cnP g q 0 1) (cU := cnP g q 0 0) (fun _ => 1) h.1.1 (ah := 0) (Or.inl rfl)
  rw [mn_0 h (pv := 0) (b := 0) (Or.inr rfl) (Or.inl rfl)]
  unfold BW; rw [e, Int.mul_one, Int.mul_one]; rfl
theorem tl_1 (hn : 0 ≤ n) : tlP g n q 1 = BW g n q (pvO g n 1) (dlt 0) n.toNat 0 0 + BW g n q (pvO g n 1) (dlt 1) n.toNat 0 1 := by
  have e0 := tb_bw0 (n := n) (ow := owP g) (cA := cnP g q (pvO g n 1) 1) (cU := cnP g q (pvO g n 1) 0) (dlt 0) hn (ah := 0) (Or.inl rfl)
  have e1 := tb_bw0 (n := n) (ow := owP g) (cA := cnP g q (pvO g n 1) 1) (cU := cnP g q (pvO g n 1) 0) (dlt 1) hn (ah := 1) (Or.inr rfl)
  unfold BW; rw [e0, e1, show dlt 0 0 = 1 from rfl, show dlt 0 1 = 0 from rfl, show dlt 1 0 = 0 from rfl, show dlt 1 1 = 1 from rfl, Int.mul_one, Int.mul_one, Int.mul_zero, Int.mul_zero, Int.add_zero, Int.zero_add]; rfl
theorem bw_T (h : RP g n q s) (pv b : Int) (hb : b = 0 ∨ b = 1) (r : Nat) (k : Int) : BW g n q pv (fun _ => 1) r k b = BW g n q pv (dlt 0) r k b + BW g n q pv (dlt 1) r k b := by
  have e := bw_lin (n := n) (ow := owP g) (cA := cnP g q pv 1) (cU := cnP g q pv 0) (w := fun _ => 1) (A0 := True) (A1 := True) (by rw [if_pos trivial]) (by rw [if_pos trivial]) r k b hb
  rw [if_pos trivial, if_pos trivial] at e; exact e
theorem tl_f (h : RP g n q s) (hp : g 0 = 0 ∨ pvO g n 1 = 0) (hs : ∃ j : Int, 0 ≤ j ∧ j < n ∧ ¬ g j = 0) : tlP g n q 1 = mnS s (-4) 0 2 := by
  have hn := h.1
  obtain ⟨j, j0, j1, j2⟩ := hs
  have e : n - ((n.toNat : Nat) : Int) = 0 := by omega
  have b := bw_b h (pv := pvO g n 1) (dlt 1) n.toNat (by omega) (fun _ => hp) (fun j a c => absurd c (by omega)) ⟨j, by omega, j1, j2⟩
  rw [e] at b
  rw [tl_1 hn.1, ← b, mn_0 h hp (Or.inl rfl), bw_T h _ _ (Or.inl rfl)]
/-- the round is closed -/
theorem tl_c (h : RP g n q s) (hn : 1 ≤ n) (h0 : ¬ g 0 = 0) (h1 : ¬ g (n - 1) = 0) : BW g n q (pvO g n 1) (dlt 0) n.toNat 0 0 + BW g n q (pvO g n 1) (dlt 1) n.toNat 0 1 = (if mAl (s (2 + 0)) 0 then mnS s 0 1 0 else 0) + (if mAl (s (2 + 0)) 1 then mnS s 1 1 1 else 0) := by
  have hk : 0 ≤ (0 : Int) ∧ (0 : Int) < n := by omega
  have v0 := h.2.2.2.2 0 (by omega) (by omega)
  have v1 := h.2.2.2.2 (n - 1) (by omega) (by omega)
  have hpv : pvO g n 1 = g (n - 1) := by
    unfold pvO; rw [if_neg (by decide)]; exact pAt_t ⟨by omega, by omega⟩
  have o := owP_n h hk
  have eT : n.toNat = (n - 1).toNat + 1 := by omega
  have m : ∀ f : Int, f = 0 ∨ f = 1 → mnS s f 1 f = (if ¬ bsW s f 0 then BW g n q (pvO g n 1) (dlt 0) (n - 1).toNat 1 f else 0) + (if ¬ bsW s f 1 then BW g n q (pvO g n 1) (dlt 1) (n - 1).toNat 1 f else 0) := fun f hf => by
    have e := mn_bw h (pv := pvO g n 1) (nx := f) (n - 1).toNat (by omega) f f (fun y => absurd y (by omega)) (Or.inl ⟨rfl, hf⟩)
    rw [show n - (((n - 1).toNat : Nat) : Int) = 1 by omega] at e
    rw [e]
    have w : ∀ b : Int, bsN s f b = if ¬ bsW s f b then 1 else 0 := fun b => by
      unfold bsN; by_cases z : bsW s f b
      · rw [if_pos z, if_neg (fun y => y z)]
      · rw [if_neg z, if_pos z]
    exact bw_lin (w 0) (w 1) _ _ _ hf
  have f : ∀ z hh : Int, z = 0 ∨ z = 1 → hh = 0 ∨ hh = 1 → (fitP n (owP g) (cnP g q (pvO g n 1) 1) (cnP g q (pvO g n 1) 0) 0 z hh ↔ mAl (s (2 + 0)) hh ∧ ¬ bsW s hh z) := fun z hh hz h01 => by
    have c := mk_cl h.2.1 v1.1 v0.1 hz h01
    rw [← v1.2, ← v0.2, ← h.2.2.2.1] at c
    have p : plC n (cnP g q (pvO g n 1) 1) (cnP g q (pvO g n 1) 0) 0 (b2 (z = hh)) = 0 ↔ ¬ bsW s hh z := by
      rw [plC_e hk (b2_01 _), b2_n, if_pos rfl, hpv, ← h.2.2.2.1, ← c]
      unfold bsW; rw [h.2.2.1]
      exact ⟨fun x y => x y.2, fun x y => x ⟨⟨by omega, by omega⟩, y⟩⟩
    constructor
    · rintro ⟨_, x, y⟩; rw [o.2.1 h0] at x; exact ⟨x, p.mp y⟩
    · rintro ⟨x, y⟩; exact ⟨hk, by rw [o.2.1 h0]; exact x, p.mpr y⟩
  have e2 : ∀ z : Int, BW g n q (pvO g n 1) (dlt z) n.toNat 0 z = (if fitP n (owP g) (cnP g q (pvO g n 1) 1) (cnP g q (pvO g n 1) 0) 0 z 0 then BW g n q (pvO g n 1) (dlt z) (n - 1).toNat 1 0 else 0) + (if fitP n (owP g) (cnP g q (pvO g n 1) 1) (cnP g q (pvO g n 1) 0) 0 z 1 then BW g n q (pvO g n 1) (dlt z) (n - 1).toNat 1 1 else 0) := fun z => by
    unfold BW; rw [eT, bw_s, if_neg (fun x => h0 (o.1.mp x))]; rfl
  rw [e2 0, e2 1, m 0 (Or.inl rfl), m 1 (Or.inr rfl)]
  exact alg8 _ _ _ _ _ _ (f 0 0 (Or.inl rfl) (Or.inl rfl)) (f 0 1 (Or.inl rfl) (Or.inr rfl)) (f 1 0 (Or.inr rfl) (Or.inl rfl)) (f 1 1 (Or.inr rfl) (Or.inr rfl)) _ _ _ _
end
