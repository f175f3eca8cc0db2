/-! words of the law's methods, as the walks meet them -/
def ohV (c : Int) : Int := if c = 0 then -4 else c / 2 % 4
def PH (g : Int → Int) (n q pr a : Int) : Int := if ¬ g a = 0 ∧ fcB g n q pr < 1000 then chP g n q pr a else -4
def quV (g : Int → Int) (n : Int) : Int := if fcB g n 4 0 < 1000 then 4 else if fcB g n 3 0 < 1000 then 3 else if fcB g n 2 0 < 1000 then 2 else if fcB g n 1 0 < 1000 then 1 else -4
def lbV (g : Int → Int) (n q : Int) : Int := if fcB g n q 1 < 1000 then fcB g n q 1 else -4
theorem ohV_in (c : Int) : (ohV c = -4 ↔ c = 0) ∧ (-4 ≤ ohV c ∧ ohV c ≤ 3) ∧ (¬ c = 0 → ohV c = c / 2 % 4) := by
  unfold ohV; by_cases z : c = 0
  · rw [if_pos z]; exact ⟨⟨fun _ => z, fun _ => rfl⟩, by omega, fun t => absurd z t⟩
  · rw [if_neg z]; exact ⟨⟨fun t => by omega, fun t => absurd t z⟩, by omega, fun _ => rfl⟩
theorem btV_01 (H j : Int) : btV H j = 0 ∨ btV H j = 1 := by unfold btV; omega
theorem dv_in {H j : Int} (h : 0 ≤ H ∧ H < 2147483648) : 0 ≤ H / p2 j ∧ H / p2 j < 2147483648 := by
  have p := p2_pos j
  have := Int.ediv_nonneg h.1 (show (0 : Int) ≤ p2 j by omega)
  have := Int.ediv_le_self (p2 j) h.1
  omega
theorem bt_1 {H j : Int} (h : 0 ≤ H ∧ H < 2147483648) : iJ (H / p2 j) &&& iJ 1 = iJ (btV H j) := iJ_and (dv_in h) (iJ 1) 1 2 (by decide) rfl
theorem blp_4 {B : Int} (h : 0 ≤ B ∧ B ≤ 80) : 0 ≤ B * p2 4 ∧ B * p2 4 ≤ 1280 := by
  have e : p2 4 = 16 := rfl
  rw [e]; omega
theorem blp_l {A j : Int} (h : 0 ≤ A ∧ A ≤ 80) (hj : 0 ≤ j ∧ j ≤ 4) : 0 ≤ A * p2 j ∧ A * p2 j ≤ 1280 := by
  have e0 : p2 0 = 1 := rfl
  have e1 : p2 1 = 2 := rfl
  have e2 : p2 2 = 4 := rfl
  have e3 : p2 3 = 8 := rfl
  have e4 : p2 4 = 16 := rfl
  rcases (by omega : j = 0 ∨ j = 1 ∨ j = 2 ∨ j = 3 ∨ j = 4) with rfl | rfl | rfl | rfl | rfl
  · rw [e0]; omega
  · rw [e1]; omega
  · rw [e2]; omega
  · rw [e3]; omega
  · rw [e4]; omega
theorem blp_r {A j : Int} (h : 0 ≤ A ∧ A ≤ 80) : 0 ≤ A / p2 j ∧ A / p2 j ≤ 80 := by
  have p := p2_pos j
  have := Int.ediv_nonneg h.1 (show (0 : Int) ≤ p2 j by omega)
  have := Int.ediv_le_self (p2 j) h.1
  omega
theorem clO_i (q c1 h1 c2 h2 : Int) : ∀ f : Nat, clO q c1 h1 c2 h2 f = 0 ∨ clO q c1 h1 c2 h2 f = 1
  | 0 => Or.inl rfl
  | f + 1 => clI_01 _ _ _ _ _ (clO_i q c1 h1 c2 h2 f)
theorem clO_01 {q c1 h1 c2 h2 x : Int} {f : Nat} (h : x = clO q c1 h1 c2 h2 f) : x = 0 ∨ x = 1 := by rw [h]; exact clO_i q c1 h1 c2 h2 f
theorem caP_u {g : Int → Int} {n q : Int} {hb : Int → Int} {ov k u : Int} (hu : (k + 1 < n ∧ u = k + 1) ∨ (¬ k + 1 < n ∧ u = 0)) : caP g n q hb ov k ↔ ((ov = 0 ∧ ¬ k + 1 < n) ∨ ¬ cnD q (g k) (g u) (b2 (hb k = hb u))) := by
  have e : (if k + 1 < n then k + 1 else 0) = u := by
    rcases hu with z | z
    · rw [if_pos z.1, z.2]
    · rw [if_neg z.1, z.2]
  unfold caP; rw [e]
theorem rpS_2 (g : Int → Int) {hb : Int → Int} (h : ∀ j, hb j = 0 ∨ hb j = 1) : ∀ k : Nat, (rpS g hb k).2 = -1 ∨ (rpS g hb k).2 = 0 ∨ (rpS g hb k).2 = 1
  | 0 => Or.inl rfl
  | k + 1 => by
    have e : rpS g hb (k + 1) = if g k = 0 then rpS g hb k else ((rpS g hb k).1 + (if hb k = (rpS g hb k).2 then 1 else 0), hb k) := rfl
    rw [e]; split
    · exact rpS_2 g h k
    · exact Or.inr (h k)
theorem jb_b2 (P : Prop) [Decidable P] : jb (b2 P) := by rcases b2_01 P with z | z <;> (rw [z]; exact ⟨by decide, by decide⟩)
def ceV (L : Nat) (xs : Nat → Int32) (k : Int) : Int := if k < (L : Int) then (xs k.toNat).toInt else 40503 * k + 977
theorem ceV_jb {L : Nat} {xs : Nat → Int32} {k : Int} (hk : 0 ≤ k ∧ k ≤ 1000) : jb (ceV L xs k) := by
  unfold ceV; split
  · exact jb_of _
  · exact ⟨by omega, by omega⟩
