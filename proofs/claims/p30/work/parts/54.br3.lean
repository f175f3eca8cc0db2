/-! turn, counts -/
section
variable {g : Int → Int} {n q : Int} {s : Int → Int}
theorem tuI_e {a j : Int} (ha : 0 ≤ a ∧ a ≤ n) (hj : 0 ≤ j ∧ j < n) : (j + a) % n = tuI n a j := by
  unfold tuI; by_cases z : j + a < n
  · rw [if_pos z]; exact Int.emod_eq_of_lt (by omega) z
  · rw [if_neg z, ← Int.sub_emod_right]; exact Int.emod_eq_of_lt (by omega) (by omega)
theorem tuI_in {a j : Int} (ha : 0 ≤ a ∧ a ≤ n) (hj : 0 ≤ j ∧ j < n) : 0 ≤ tuI n a j ∧ tuI n a j < n := by unfold tuI; split <;> omega
theorem RP.tur (h : RP g n q s) {a : Int} (ha : 0 ≤ a ∧ a ≤ n) : sm (fun j => b2 (¬ g (tuI n a j) = g j)) n = sm (fun j => b2 (¬ s (2 + (j + a) % s 0) = s (2 + j))) (s 0) := h.sum (fun j x y v e => b2_c (by
  have t := tuI_in ha ⟨x, y⟩
  have w := h.2.2.2.2 _ t.1 t.2
  rw [h.2.2.1, tuI_e ha ⟨x, y⟩, e, w.2, mk_inj w.1 v]))
theorem RP.turn (h : RP g n q s) {a : Int} (ha : 0 ≤ a ∧ a ≤ n) : RP (mpF (fun j _ => g (tuI n a j)) g n) n q (mpS (fun j _ => s (2 + (j + a) % s 0)) s (s 0)) := h.map (fun j x y => by
  have t := tuI_in ha ⟨x, y⟩
  have w := h.2.2.2.2 _ t.1 t.2
  rw [h.2.2.1, tuI_e ha ⟨x, y⟩]; exact w)
theorem sm_sub3 (f0 f1 f2 : Int → Int) : ∀ k : Nat, sm (fun j => f0 j + f1 j + f2 j) k = sm f0 k + sm f1 k + sm f2 k
  | 0 => rfl
  | k + 1 => by
    have ih := sm_sub3 f0 f1 f2 k
    have h0 := sm_s f0 (k := k) (by omega)
    have h1 := sm_s f1 (k := k) (by omega)
    have h2 := sm_s f2 (k := k) (by omega)
    have h3 := sm_s (fun j => f0 j + f1 j + f2 j) (k := k) (by omega)
    rw [show (((k + 1 : Nat)) : Int) = (k : Int) + 1 by omega]; omega
theorem RP.rests (h : RP g n q s) : n - sm (fun j => b2 (¬ g j = 0)) n = s 0 - sm (fun j => b2 (¬ s (2 + j) = 0 ∧ (s (2 + j) - 1) % 3 = 0)) (s 0) - sm (fun j => b2 (¬ s (2 + j) = 0 ∧ (s (2 + j) - 1) % 3 = 1)) (s 0) - sm (fun j => b2 (¬ s (2 + j) = 0 ∧ (s (2 + j) - 1) % 3 = 2)) (s 0) := by
  have e := h.sum (f := fun j => b2 (¬ g j = 0)) (F := fun j => b2 (¬ s (2 + j) = 0 ∧ (s (2 + j) - 1) % 3 = 0) + b2 (¬ s (2 + j) = 0 ∧ (s (2 + j) - 1) % 3 = 1) + b2 (¬ s (2 + j) = 0 ∧ (s (2 + j) - 1) % 3 = 2)) (fun j a b v e => by
    (try dsimp only)
    have m := mk_in v
    have z := mk_0 v
    rw [e]; by_cases y : g j = 0
    · rw [b2_f (fun w => w y), b2_f (fun w => w.1 (z.mpr y)), b2_f (fun w => w.1 (z.mpr y)), b2_f (fun w => w.1 (z.mpr y))]; rfl
    · have y2 : ¬ mk (g j) = 0 := fun w => y (z.mp w)
      rw [b2_t y]
      rcases (by omega : (mk (g j) - 1) % 3 = 0 ∨ (mk (g j) - 1) % 3 = 1 ∨ (mk (g j) - 1) % 3 = 2) with w | w | w
      · rw [b2_t ⟨y2, w⟩, b2_f (fun x => absurd x.2 (by omega)), b2_f (fun x => absurd x.2 (by omega))]; rfl
      · rw [b2_f (fun x => absurd x.2 (by omega)), b2_t ⟨y2, w⟩, b2_f (fun x => absurd x.2 (by omega))]; rfl
      · rw [b2_f (fun x => absurd x.2 (by omega)), b2_f (fun x => absurd x.2 (by omega)), b2_t ⟨y2, w⟩]; rfl)
  have f := sm_sub3 (fun j => b2 (¬ s (2 + j) = 0 ∧ (s (2 + j) - 1) % 3 = 0)) (fun j => b2 (¬ s (2 + j) = 0 ∧ (s (2 + j) - 1) % 3 = 1)) (fun j => b2 (¬ s (2 + j) = 0 ∧ (s (2 + j) - 1) % 3 = 2)) (s 0).toNat
  rw [Int.toNat_of_nonneg h.hs0.1] at f
  rw [e, f, h.2.2.1]; omega
/-! fits -/
theorem owP_n (h : RP g n q s) {k : Int} (hk : 0 ≤ k ∧ k < n) : (owP g k = 3 ↔ g k = 0) ∧ (¬ g k = 0 → owP g k = (s (2 + k) - 1) % 3) ∧ (s (2 + k) = 0 ↔ g k = 0) := by
  have v := h.2.2.2.2 k hk.1 hk.2
  refine ⟨?_, fun z => ?_, by rw [v.2]; exact mk_0 v.1⟩
  · unfold owP; constructor
    · intro z
      by_cases y : g k = 0
      · exact y
      · rw [if_neg y] at z; exact absurd z v.1.2.1
    · intro z; rw [if_pos z]
  · unfold owP; rw [if_neg z, v.2, mk_hd v.1 z]
theorem plC_e {pv k al : Int} (hk : 0 ≤ k ∧ k < n) (hal : al = 0 ∨ al = 1) : plC n (cnP g q pv 1) (cnP g q pv 0) k al = b2 (cnD q (if k = 0 then pv else g (k - 1)) (g k) al) := by
  unfold plC; rw [if_pos hk]
  rcases hal with rfl | rfl
  · rw [if_pos rfl]; rfl
  · rw [if_neg (by decide)]; rfl
theorem b2_n {P : Prop} [Decidable P] : b2 P = 0 ↔ ¬ P := by
  unfold b2; split
  · rename_i h; exact ⟨fun z => absurd z (by decide), fun z => absurd h z⟩
  · rename_i h; exact ⟨fun _ => h, fun _ => rfl⟩
theorem fit_m (h : RP g n q s) {pv k b bm hh : Int} (hk : 0 ≤ k ∧ k < n) (hs : ¬ g k = 0) (hpv : k = 0 → pv = 0) (hb : (b = bm ∧ (bm = 0 ∨ bm = 1)) ∨ (k = 0 ∨ g (k - 1) = 0)) (h01 : hh = 0 ∨ hh = 1) : fitP n (owP g) (cnP g q pv 1) (cnP g q pv 0) k b hh ↔ mCn s k bm hh := by
  have v := h.2.2.2.2 k hk.1 hk.2
  have o := (owP_n h hk).2.1 hs
  have c : (plC n (cnP g q pv 1) (cnP g q pv 0) k (b2 (b = hh)) = 0) ↔ ¬ (((0 < k ∧ ¬ s (2 + (k - 1)) = 0) ∧ bm < 2) ∧ ¬ mCl (s 1) (s (2 + (k - 1))) bm (s (2 + k)) hh = 0) := by
    rw [plC_e hk (b2_01 _), b2_n]
    by_cases z : k = 0
    · rw [if_pos z, hpv z]
      exact ⟨fun _ y => absurd y.1.1.1 (by omega), fun _ y => y.1.1 rfl⟩
    · rw [if_neg z]
      have w := h.2.2.2.2 (k - 1) (by omega) (by omega)
      by_cases y : g (k - 1) = 0
      · exact ⟨fun _ x => x.1.1.2 (by rw [w.2, mk_0 w.1]; exact y), fun _ x => x.1.1 y⟩
      · rcases hb with ⟨rfl, hb⟩ | hb
        · have m := mk_cl h.2.1 w.1 v.1 hb h01
          rw [← w.2, ← v.2] at m
          rw [h.2.2.2.1, ← m]
          exact ⟨fun x x2 => x x2.2, fun x x2 => x ⟨⟨⟨by omega, by rw [w.2, mk_0 w.1]; exact y⟩, by omega⟩, x2⟩⟩
        · exact absurd hb (fun x => x.elim z y)
  constructor
  · rintro ⟨_, x, y⟩; rw [o] at x; exact ⟨x, c.mp y⟩
  · rintro ⟨x, y⟩; exact ⟨hk, by rw [o]; exact x, c.mpr y⟩
end
