/-! edits -/
theorem RP.add {g : Int → Int} {n q : Int} {s : Int → Int} (h : RP g n q s) {c : Int} (hc : vK c) (hn : n < 32) : RP (uJ g n c) (n + 1) q (uJ (uJ s 0 (s 0 + 1)) (2 + n) (mk c)) := by
  obtain ⟨h1, h2, h3, h4, h5⟩ := h
  refine ⟨by omega, h2, by rw [uJ_n (by omega), uJ_s, h3], by rw [uJ_n (by omega), uJ_n (by omega), h4], fun j a b => ?_⟩
  by_cases z : j = n
  · subst z; rw [uJ_s, uJ_s]; exact ⟨hc, rfl⟩
  · rw [uJ_n z, uJ_n (by omega), uJ_n (by omega)]; exact h5 j a (by omega)
theorem RP.ch {g : Int → Int} {n q : Int} {s : Int → Int} (h : RP g n q s) {a c : Int} (hc : vK c) (ha : 0 ≤ a ∧ a < n) : RP (uJ g a c) n q (uJ (uJ s 0 (s 0 + 0)) (2 + a) (mk c)) := by
  obtain ⟨h1, h2, h3, h4, h5⟩ := h
  refine ⟨h1, h2, by rw [uJ_n (by omega), uJ_s, h3]; omega, by rw [uJ_n (by omega), uJ_n (by omega), h4], fun j x y => ?_⟩
  by_cases z : j = a
  · subst z; rw [uJ_s, uJ_s]; exact ⟨hc, rfl⟩
  · rw [uJ_n z, uJ_n (by omega), uJ_n (by omega)]; exact h5 j x (by omega)
theorem RP.put {g : Int → Int} {n q : Int} {s : Int → Int} (h : RP g n q s) {a b : Int} (ha : 0 ≤ a ∧ a ≤ n) (hb : 0 ≤ b ∧ b < n) (hn : n < 32) : RP (pIn g n a (g b)) (n + 1) q (mpI s a (s (2 + b))) := by
  obtain ⟨h1, h2, h3, h4, h5⟩ := h
  have e0 : mpI s a (s (2 + b)) 0 = s 0 + 1 := if_pos rfl
  have e1 : mpI s a (s (2 + b)) 1 = s 1 := by
    unfold mpI; rw [if_neg (by omega), if_neg (by omega), if_neg (by omega)]
  refine ⟨by omega, h2, by rw [e0, h3], by rw [e1, h4], fun j x y => ?_⟩
  unfold pIn mpI; rw [if_neg (show ¬ 2 + j = 0 by omega)]
  by_cases z : j = a
  · rw [if_pos z, if_pos (show 2 + j = 2 + a by omega)]; exact h5 b hb.1 hb.2
  · rw [if_neg z, if_neg (show ¬ 2 + j = 2 + a by omega)]; by_cases w : a < j ∧ j ≤ n
    · rw [if_pos w, if_pos (show 2 + a < 2 + j ∧ 2 + j ≤ 2 + s 0 by omega), show 2 + j - 1 = 2 + (j - 1) by omega]; exact h5 (j - 1) (by omega) (by omega)
    · rw [if_neg w, if_neg (show ¬ (2 + a < 2 + j ∧ 2 + j ≤ 2 + s 0) by omega)]; exact h5 j x (by omega)
theorem RP.cut {g : Int → Int} {n q : Int} {s : Int → Int} (h : RP g n q s) {a b : Int} (hx : 0 ≤ a ∧ a ≤ b ∧ b < n) : RP (pRm g n a b) (n - (b - a + 1)) q (mcU s a b) := by
  obtain ⟨h1, h2, h3, h4, h5⟩ := h
  have e0 : mcU s a b 0 = s 0 - (b - a + 1) := if_pos rfl
  have e1 : mcU s a b 1 = s 1 := by
    unfold mcU; rw [if_neg (by omega), if_neg (by omega), if_neg (by omega)]
  refine ⟨by omega, h2, by rw [e0, h3], by rw [e1, h4], fun j x y => ?_⟩
  unfold pRm mcU; rw [if_neg (show ¬ 2 + j = 0 by omega)]
  by_cases z : a ≤ j ∧ j + (b - a + 1) < n
  · rw [if_pos z, if_pos (show 2 + a ≤ 2 + j ∧ 2 + j < 2 + s 0 - (b - a + 1) by omega), show 2 + j + (b - a + 1) = 2 + (j + (b - a + 1)) by omega]; exact h5 _ (by omega) (by omega)
  · rw [if_neg z, if_neg (show ¬ (2 + a ≤ 2 + j ∧ 2 + j < 2 + s 0 - (b - a + 1)) by omega), if_neg (show ¬ (2 + s 0 - (b - a + 1) ≤ 2 + j ∧ 2 + j < 2 + s 0) by omega)]; exact h5 j x (by omega)
theorem RP.map {g : Int → Int} {n q : Int} {s : Int → Int} (h : RP g n q s) {F G : Int → Int → Int} (hF : ∀ j : Int, 0 ≤ j → j < n → vK (F j (g j)) ∧ G j (s (2 + j)) = mk (F j (g j))) : RP (mpF F g n) n q (mpS G s (s 0)) := by
  obtain ⟨h1, h2, h3, h4, h5⟩ := h
  refine ⟨h1, h2, by rw [mpS_n.1, h3], by rw [mpS_n.2, h4], fun j a b => ?_⟩
  unfold mpF mpS; rw [if_pos ⟨a, b⟩, if_pos (show 2 ≤ 2 + j ∧ 2 + j < 2 + s 0 by omega), show 2 + j - 2 = j by omega]; exact hF j a b
theorem RP.set {g : Int → Int} {n q : Int} {s : Int → Int} (h : RP g n q s) {v : Int} (hv : 1 ≤ v ∧ v ≤ 4) : RP g n v (uJ s 1 v) := by
  obtain ⟨h1, h2, h3, h4, h5⟩ := h
  refine ⟨h1, hv, by rw [uJ_n (by omega), h3], by rw [uJ_s], fun j a b => ?_⟩
  rw [uJ_n (by omega)]; exact h5 j a b
/-! sums -/
section
variable {g : Int → Int} {n q : Int} {s : Int → Int}
theorem RP.hs0 (h : RP g n q s) : 0 ≤ s 0 ∧ s 0 ≤ 32 := by have := h.2.2.1; have := h.1; omega
theorem RP.hs1 (h : RP g n q s) : 1 ≤ s 1 ∧ s 1 ≤ 4 := by have := h.2.2.2.1; have := h.2.1; omega
theorem RP.hsv (h : RP g n q s) : ∀ j : Int, 0 ≤ j → j < s 0 → 0 ≤ s (2 + j) ∧ s (2 + j) ≤ 24 := fun j a b => by
  have e := h.2.2.2.2 j a (by have := h.2.2.1; omega)
  rw [e.2]; exact mk_in e.1
theorem RP.hg (h : RP g n q s) : ∀ j : Int, 0 ≤ j → j < n → 0 ≤ g j ∧ g j < 64 := fun j a b => (h.2.2.2.2 j a b).1.1
theorem RP.hg3 (h : RP g n q s) : ∀ j : Int, 0 ≤ j → j < n → ¬ g j / 2 % 4 = 3 := fun j a b => (h.2.2.2.2 j a b).1.2.1
theorem RP.sum (h : RP g n q s) {f F : Int → Int} (hf : ∀ j : Int, 0 ≤ j → j < n → vK (g j) → s (2 + j) = mk (g j) → f j = F j) : sm f n = sm F (s 0) := by
  rw [h.2.2.1]; exact sm_cg (fun j a b => hf j a b (h.2.2.2.2 j a b).1 (h.2.2.2.2 j a b).2)
theorem RP.mir (h : RP g n q s) : sm (fun j => b2 (¬ g j = 0 ∧ ¬ g j / 2 % 4 = 2)) n = sm (fun j => b2 (¬ s (2 + j) = 0 ∧ ¬ (s (2 + j) - 1) % 3 = 2)) (s 0) := h.sum (fun j a b v e => b2_c (by
  rw [e, mk_0 v]; constructor
  · rintro ⟨x, y⟩; exact ⟨x, by rw [mk_hd v x]; exact y⟩
  · rintro ⟨x, y⟩; exact ⟨x, by rw [mk_hd v x] at y; exact y⟩))
theorem RP.ofH (h : RP g n q s) (w : Int) : sm (fun j => b2 (¬ g j = 0 ∧ g j / 2 % 4 = w)) n = sm (fun j => b2 (¬ s (2 + j) = 0 ∧ (s (2 + j) - 1) % 3 = w)) (s 0) := h.sum (fun j a b v e => b2_c (by
  rw [e, mk_0 v]; constructor
  · rintro ⟨x, y⟩; exact ⟨x, by rw [mk_hd v x]; exact y⟩
  · rintro ⟨x, y⟩; exact ⟨x, by rw [mk_hd v x] at y; exact y⟩))
theorem RP.len (h : RP g n q s) (d : Int) : sm (fun j => b2 (g j / 16 % 4 = (if d = 0 then 2 else 1))) n = sm (fun j => b2 (mOr (s (2 + j)) = (if d = 0 then 2 else 1))) (s 0) := h.sum (fun j a b v e => by rw [e, mk_or v])
theorem RP.frc (h : RP g n q s) : sm (fun j => sFs (g j)) n = sm (fun j => mSu s 5 (s (2 + j))) (s 0) := h.sum (fun j a b v e => by
  rw [e]; unfold mSu; rw [if_neg (by omega), if_neg (by omega), if_pos rfl, mk_fs v])
theorem RP.blw (h : RP g n q s) : sm (fun j => sBl (g j)) n = sm (fun j => mSu s 4 (s (2 + j))) (s 0) := h.sum (fun j a b v e => by
  rw [e]; unfold mSu; rw [if_neg (by omega), if_pos rfl, mk_bl v])
theorem RP.acc (h : RP g n q s) : sm (fun j => b2 (g j / 8 % 2 = 1)) n = sm (fun j => mSu s 0 (s (2 + j))) (s 0) := h.sum (fun j a b v e => by
  rw [e]; unfold mSu; rw [if_pos rfl, mk_ac v])
theorem RP.orn (h : RP g n q s) {w : Int} (hw : 1 ≤ w ∧ w ≤ 3) : sm (fun j => b2 (¬ g j = 0 ∧ g j / 16 % 4 = w)) n = sm (fun j => mSu s w (s (2 + j))) (s 0) := h.sum (fun j a b v e => by
  rw [e]; unfold mSu; rw [if_neg (by omega), if_neg (by omega), if_neg (by omega), if_neg (by omega), mk_or v]
  exact b2_c ⟨fun x => x.2, fun x => ⟨fun y => by rw [y] at x; omega, x⟩⟩)
theorem RP.txt (h : RP g n q s) : sm (fun j => sTl (g j)) n = sm (fun j => mTl (s (2 + j))) (s 0) := h.sum (fun j a b v e => by rw [e, mk_tl v])
theorem RP.heard (h : RP g n q s) (t : Int) : sm (fun k => sFa (g k) (t - 4 * k)) n = sm (mHe s t) (3 * s 0) := by
  have h0 := h.1
  have e := sm3 (mHe s t) (s 0).toNat
  rw [Int.toNat_of_nonneg h.hs0.1] at e
  rw [e]
  refine h.sum (fun j a b v e2 => ?_)
  rw [mk_fa v]; unfold mFa mHe; rw [sm_3, ← e2]
  rw [show (3 * j) % 3 = 0 by omega, show (3 * j) / 3 = j by omega, show (3 * j + 1) % 3 = 1 by omega, show (3 * j + 1) / 3 = j by omega, show (3 * j + 2) % 3 = 2 by omega, show (3 * j + 2) / 3 = j by omega]
  have c : ∀ b : Int, (if b < mBl (s (2 + j)) ∧ mTi (s (2 + j)) b = t - 4 * j then mFo (s (2 + j)) b else 0) = (if b < mBl (s (2 + j)) ∧ 4 * j + mTi (s (2 + j)) b = t then mFo (s (2 + j)) b else 0) := fun b => by
    by_cases z : b < mBl (s (2 + j)) ∧ mTi (s (2 + j)) b = t - 4 * j
    · rw [if_pos z, if_pos ⟨z.1, by omega⟩]
    · rw [if_neg z, if_neg (fun y => z ⟨y.1, by omega⟩)]
  rw [c, c, c]
theorem RP.lon (h : RP g n q s) : lrL g n = lmL s (s 0) := by
  have e : ∀ k : Nat, (k : Int) ≤ n → lrN g k = lmN s k := fun k => by
    induction k with
    | zero => intro _; rfl
    | succ k ih =>
      intro hk
      have v := h.2.2.2.2 k (by omega) (by omega)
      have a1 : lrN g (k + 1) = (if (lrN g k).1 < (if g k = 0 then 0 else (lrN g k).2 + 1) then (if g k = 0 then 0 else (lrN g k).2 + 1) else (lrN g k).1, if g k = 0 then 0 else (lrN g k).2 + 1) := rfl
      have a2 : lmN s (k + 1) = (if (lmN s k).1 < (if s (2 + k) = 0 then 0 else (lmN s k).2 + 1) then (if s (2 + k) = 0 then 0 else (lmN s k).2 + 1) else (lmN s k).1, if s (2 + k) = 0 then 0 else (lmN s k).2 + 1) := rfl
      have a3 : (if s (2 + k) = 0 then 0 else (lmN s k).2 + 1) = (if g k = 0 then 0 else (lmN s k).2 + 1) := by
        by_cases z : g k = 0
        · rw [if_pos z, if_pos (by rw [v.2, mk_0 v.1]; exact z)]
        · rw [if_neg z, if_neg (by rw [v.2, mk_0 v.1]; exact z)]
      rw [a1, a2, a3, ih (by omega)]
  unfold lrL lmL; rw [h.2.2.1, e n.toNat (by have := h.1; omega)]
theorem RP.sgn (h : RP g n q s) (p : Int) (hp : 0 ≤ p) : sgF g n.toNat 0 p = sgM s (s 0).toNat 0 p := by
  have e : ∀ (r : Nat) (k p : Int), 0 ≤ k → k + r ≤ n → 0 ≤ p → sgF g r k p = sgM s r k p := fun r => by
    induction r with
    | zero => intro k p _ _ _; rfl
    | succ r ih =>
      intro k p hk hr hp
      have v := h.2.2.2.2 k hk (by omega)
      have a1 : sgF g (r + 1) k p = if p < sTl (g k) then sSg (g k) p else sgF g r (k + 1) (p - sTl (g k)) := rfl
      have a2 : sgM s (r + 1) k p = if p < mTl (s (2 + k)) then mSg (s (2 + k)) p else sgM s r (k + 1) (p - mTl (s (2 + k))) := rfl
      rw [a1, a2, v.2, mk_tl v.1]
      by_cases z : p < sTl (g k)
      · rw [if_pos z, if_pos z, mk_sg v.1 ⟨hp, z⟩]
      · rw [if_neg z, if_neg z]; exact ih (k + 1) _ (by omega) (by omega) (by omega)
  rw [h.2.2.1]; exact e n.toNat 0 p (by omega) (by have := h.1; omega) hp
end
