theorem rfN_b {g : Int → Int} : ∀ (r : Nat) (k s d : Int), 0 ≤ k → k + r ≤ 60 → -4 ≤ rfN g r k s d ∧ rfN g r k s d ≤ 60
  | 0, k, s, d, _, _ => by
    show -4 ≤ (if d = 0 ∧ (s = 1 ∨ s = 2) then -4 else k) ∧ (if d = 0 ∧ (s = 1 ∨ s = 2) then -4 else k) ≤ 60
    split <;> omega
  | r + 1, k, s, d, h0, hr => by
    have e : rfN g (r + 1) k s d = if stB s (g k) d = -1 then k else rfN g r (k + 1) (stB s (g k) d) (dpS (g k) d) := rfl
    rw [e]; split
    · omega
    · exact rfN_b r (k + 1) _ _ (by omega) (by omega)
theorem rfN_in {g : Int → Int} {n : Int} (h : 0 ≤ n ∧ n ≤ 60) : jb (rfN g n.toNat 0 0 0) := by
  have := rfN_b (g := g) n.toNat 0 0 0 (by omega) (by omega)
  exact ⟨by omega, by omega⟩
theorem cIn_0 (g : Int → Int) : cIn (g, 0) := ⟨⟨by show (0 : Int) ≤ 0; omega, by show (0 : Int) ≤ 32; omega⟩, fun j h0 h1 => absurd h1 (by show ¬ j < 0; omega)⟩
