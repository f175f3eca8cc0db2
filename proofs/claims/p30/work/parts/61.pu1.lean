/-! prefixes of stickings, as numbers: the first step's hand is the highest bit -/
abbrev okP (g : Int → Int) (n q a b h : Int) : Prop := (g a = 0 ∧ h = 0) ∨ (¬ g a = 0 ∧ fitP n (owP g) (cnP g q 0 1) (cnP g q 0 0) a b h)
def cxT (g : Int → Int) : Nat → Nat → Int
  | 0, _ => 3
  | a + 1, k => if g a = 0 then cxT g a (k / 2) else ((k % 2 : Nat) : Int)
def vlT (g : Int → Int) (n q : Int) : Nat → Nat → Int
  | 0, _ => 1
  | a + 1, k => if vlT g n q a (k / 2) = 1 ∧ okP g n q a (cxT g a (k / 2)) ((k % 2 : Nat) : Int) then 1 else 0
def csT (g : Int → Int) (pr : Int) : Nat → Nat → Int
  | 0, _ => 0
  | a + 1, k => csT g pr a (k / 2) + (if ¬ g a = 0 ∧ cxT g a (k / 2) = ((k % 2 : Nat) : Int) then pr else 0)
section
variable {g : Int → Int} {n q : Int} {s : Int → Int}
theorem cxT_s (a k : Nat) : cxT g (a + 1) k = if g a = 0 then cxT g a (k / 2) else ((k % 2 : Nat) : Int) := rfl
theorem vlT_s (a k : Nat) : vlT g n q (a + 1) k = if vlT g n q a (k / 2) = 1 ∧ okP g n q a (cxT g a (k / 2)) ((k % 2 : Nat) : Int) then 1 else 0 := rfl
theorem csT_s (pr : Int) (a k : Nat) : csT g pr (a + 1) k = csT g pr a (k / 2) + (if ¬ g a = 0 ∧ cxT g a (k / 2) = ((k % 2 : Nat) : Int) then pr else 0) := rfl
theorem vlT_01 : ∀ (a k : Nat), vlT g n q a k = 0 ∨ vlT g n q a k = 1
  | 0, _ => Or.inr rfl
  | a + 1, k => by rw [vlT_s]; split <;> omega
theorem vlT_p {a k : Nat} (h : vlT g n q (a + 1) k = 1) : vlT g n q a (k / 2) = 1 ∧ okP g n q a (cxT g a (k / 2)) ((k % 2 : Nat) : Int) := by
  rw [vlT_s] at h
  by_cases z : vlT g n q a (k / 2) = 1 ∧ okP g n q a (cxT g a (k / 2)) ((k % 2 : Nat) : Int)
  · exact z
  · rw [if_neg z] at h; exact absurd h (by decide)
/-- numbers of stickings with a weight of the last hand, which may depend on the prefix -/
def GT (g : Int → Int) (n q : Int) (w : Nat → Nat → Int → Int) (a k : Nat) : Int := if vlT g n q a k = 1 then BW g n q 0 (w a k) (n - a).toNat a (cxT g a k) else 0
theorem GT_s (h : RP g n q s) {w : Nat → Nat → Int → Int} {a : Nat} (ha : (a : Int) < n) (k : Nat) (w0 : w (a + 1) (2 * k) = w a k) (w1 : w (a + 1) (2 * k + 1) = w a k) : GT g n q w (a + 1) (2 * k) + GT g n q w (a + 1) (2 * k + 1) = GT g n q w a k := by
  have hk : 0 ≤ (a : Int) ∧ (a : Int) < n := ⟨by omega, ha⟩
  have o := owP_3 h hk
  have d0 : 2 * k / 2 = k := by omega
  have d1 : (2 * k + 1) / 2 = k := by omega
  have m0 : (((2 * k) % 2 : Nat) : Int) = 0 := by omega
  have m1 : (((2 * k + 1) % 2 : Nat) : Int) = 1 := by omega
  have er : (n - (a : Int)).toNat = (n - ((a + 1 : Nat) : Int)).toNat + 1 := by omega
  have ea : ((a + 1 : Nat) : Int) = (a : Int) + 1 := by omega
  unfold GT
  rw [vlT_s, vlT_s, cxT_s, cxT_s, d0, d1, m0, m1, w0, w1, er]
  generalize (n - ((a + 1 : Nat) : Int)).toNat = r
  rw [ea]
  have e : BW g n q 0 (w a k) (r + 1) a (cxT g a k) = if owP g a = 3 then BW g n q 0 (w a k) r (a + 1) (cxT g a k) else (if fitP n (owP g) (cnP g q 0 1) (cnP g q 0 0) a (cxT g a k) 0 then BW g n q 0 (w a k) r (a + 1) 0 else 0) + (if fitP n (owP g) (cnP g q 0 1) (cnP g q 0 0) a (cxT g a k) 1 then BW g n q 0 (w a k) r (a + 1) 1 else 0) := rfl
  rw [e]
  by_cases v : vlT g n q a k = 1
  · by_cases z : g a = 0
    · rw [if_pos z, if_pos z, if_pos (show vlT g n q a k = 1 ∧ okP g n q a (cxT g a k) 0 from ⟨v, Or.inl ⟨z, rfl⟩⟩), if_neg (show ¬ (vlT g n q a k = 1 ∧ okP g n q a (cxT g a k) 1) from fun t => t.2.elim (fun y => absurd y.2 (by decide)) (fun y => y.1 z)), if_pos rfl, if_neg (by decide), if_pos v, if_pos (o.mpr z), Int.add_zero]
    · rw [if_neg z, if_neg z, if_pos v, if_neg (fun t => z (o.mp t))]
      have f : ∀ hh : Int, (vlT g n q a k = 1 ∧ okP g n q a (cxT g a k) hh) ↔ fitP n (owP g) (cnP g q 0 1) (cnP g q 0 0) a (cxT g a k) hh := fun hh => ⟨fun t => t.2.elim (fun y => absurd y.1 z) (fun y => y.2), fun t => ⟨v, Or.inr ⟨z, t⟩⟩⟩
      have t1 : ∀ (P Q : Prop) [Decidable P] [Decidable Q] (x : Int), (P ↔ Q) → (if (if P then (1 : Int) else 0) = 1 then x else 0) = (if Q then x else 0) := fun P Q _ _ x i => by
        by_cases y : P
        · rw [if_pos y, if_pos rfl, if_pos (i.mp y)]
        · rw [if_neg y, if_neg (by decide), if_neg (fun t => y (i.mpr t))]
      rw [t1 _ _ _ (f 0), t1 _ _ _ (f 1)]
  · have t2 : ∀ (P : Prop) [Decidable P] (x : Int), ¬ P → (if (if P then (1 : Int) else 0) = 1 then x else 0) = 0 := fun P _ x i => by
      rw [if_neg i]; exact if_neg (by decide)
    rw [t2 _ _ (fun t => v t.1), t2 _ _ (fun t => v t.1), if_neg v]; rfl
theorem GT_sum (h : RP g n q s) {w : Nat → Nat → Int → Int} (a0 : Nat) (hw : ∀ a k : Nat, a0 ≤ a → w (a + 1) (2 * k) = w a k ∧ w (a + 1) (2 * k + 1) = w a k) : ∀ r : Nat, ((a0 + r : Nat) : Int) ≤ n → sN (GT g n q w (a0 + r)) (2 ^ (a0 + r)) = sN (GT g n q w a0) (2 ^ a0)
  | 0, _ => rfl
  | r + 1, hr => by
    have ih := GT_sum h a0 hw r (by omega)
    rw [show a0 + (r + 1) = (a0 + r) + 1 by omega, Nat.pow_succ, Nat.mul_comm, sN_2, ← ih]
    exact sN_cg _ (fun k _ => GT_s h (by omega) k (hw (a0 + r) k (by omega)).1 (hw (a0 + r) k (by omega)).2)
theorem GT_n {N : Nat} (hN : (N : Int) = n) {w : Nat → Nat → Int → Int} (k : Nat) : GT g n q w N k = if vlT g n q N k = 1 then w N k (cxT g N k) else 0 := by
  unfold GT; rw [show (n - (N : Int)).toNat = 0 by omega]; rfl
theorem bw_3 (h : RP g n q s) {c : Int} : ∀ (r : Nat), (r : Int) ≤ n → ∀ b b2 : Int, (∀ j : Int, 0 ≤ j → j < n - r → g j = 0) → BW g n q 0 (fun _ => c) r (n - r) b = BW g n q 0 (fun _ => c) r (n - r) b2
  | 0, _, _, _, _ => rfl
  | r + 1, hr, b, b2, hz => by
    have ea : n - ((r : Nat) : Int) = (n - (((r + 1 : Nat)) : Int)) + 1 := by omega
    have ih := bw_3 h (c := c) r (by omega) b b2
    generalize hA : n - (((r + 1 : Nat)) : Int) = a at hz ea ⊢
    rw [ea] at ih
    have ha : 0 ≤ a ∧ a < n := by omega
    have o := owP_3 h ha
    have e2 : ∀ b, BW g n q 0 (fun _ => c) (r + 1) a b = if owP g a = 3 then BW g n q 0 (fun _ => c) r (a + 1) b else (if fitP n (owP g) (cnP g q 0 1) (cnP g q 0 0) a b 0 then BW g n q 0 (fun _ => c) r (a + 1) 0 else 0) + (if fitP n (owP g) (cnP g q 0 1) (cnP g q 0 0) a b 1 then BW g n q 0 (fun _ => c) r (a + 1) 1 else 0) := fun _ => rfl
    rw [e2, e2]
    by_cases z : g a = 0
    · rw [if_pos (o.mpr z), if_pos (o.mpr z)]
      exact ih (fun j j0 j1 => (by omega : j < a ∨ j = a).elim (hz j j0) (fun e => by rw [e]; exact z))
    · rw [if_neg (fun x => z (o.mp x)), if_neg (fun x => z (o.mp x))]
      have p : ∀ al, plC n (cnP g q 0 1) (cnP g q 0 0) a al = 0 := fun al => plC_p ha.1 ⟨fun _ => rfl, fun y => hz (a - 1) (by omega) (by omega)⟩
      have f : ∀ hh : Int, fitP n (owP g) (cnP g q 0 1) (cnP g q 0 0) a b hh ↔ fitP n (owP g) (cnP g q 0 1) (cnP g q 0 0) a b2 hh := fun hh => ⟨fun y => ⟨y.1, y.2.1, p _⟩, fun y => ⟨y.1, y.2.1, p _⟩⟩
      exact alg2 _ _ _ _ (f 0) (f 1) _ _
/-- how many -/
def myT (g : Int → Int) (n q : Int) (N : Nat) : Int := sN (fun k => if vlT g n q N k = 1 then 1 else 0) (2 ^ N)
theorem my_e (h : RP g n q s) {N : Nat} (hN : (N : Int) = n) : myT g n q N = mnS s (-4) 0 2 := by
  have t := GT_sum h (w := fun _ _ _ => 1) 0 (fun _ _ _ => ⟨rfl, rfl⟩) N (by omega)
  rw [Nat.zero_add] at t
  have e : sN (GT g n q (fun _ _ _ => 1) 0) (2 ^ 0) = BW g n q 0 (fun _ => 1) N 0 3 := by
    show 0 + GT g n q (fun _ _ _ => 1) 0 0 = _
    unfold GT; rw [if_pos (show vlT g n q 0 0 = 1 from rfl), show (n - ((0 : Nat) : Int)).toNat = N by omega, Int.zero_add]; rfl
  have b := bw_3 h (c := 1) N (by omega) 3 0 (fun j a b => absurd b (by omega))
  rw [show n - (N : Int) = 0 by omega] at b
  rw [mn_0 h (pv := 0) (b := 0) (Or.inr rfl) (Or.inl rfl), show n.toNat = N by omega, ← b, ← e, ← t]
  exact sN_cg _ (fun k _ => (GT_n (w := fun _ _ _ => 1) hN k).symm)
/-! over and over -/
theorem bw_cw {pv : Int} {w w2 : Int → Int} (h0 : w 0 = w2 0) (h1 : w 1 = w2 1) : ∀ (r : Nat) (k b : Int), b = 0 ∨ b = 1 → BW g n q pv w r k b = BW g n q pv w2 r k b
  | 0, k, b, hb => by
    show w b = w2 b
    rcases hb with rfl | rfl
    · exact h0
    · exact h1
  | r + 1, k, b, hb => by
    have i := bw_cw (pv := pv) h0 h1 r (k + 1)
    have e : ∀ w, BW g n q pv w (r + 1) k b = if owP g k = 3 then BW g n q pv w r (k + 1) b else (if fitP n (owP g) (cnP g q pv 1) (cnP g q pv 0) k b 0 then BW g n q pv w r (k + 1) 0 else 0) + (if fitP n (owP g) (cnP g q pv 1) (cnP g q pv 0) k b 1 then BW g n q pv w r (k + 1) 1 else 0) := fun _ => rfl
    rw [e, e, i b hb, i 0 (Or.inl rfl), i 1 (Or.inr rfl)]
abbrev cloP (g : Int → Int) (n q : Int) (N k : Nat) : Prop := n = 0 ∨ ¬ cnD q (g (n - 1)) (g 0) (b2 (((k % 2 : Nat) : Int) = ((k / 2 ^ (N - 1) : Nat) : Int)))
def ovT (g : Int → Int) (n q : Int) (N : Nat) : Int := sN (fun k => if vlT g n q N k = 1 ∧ cloP g n q N k then 1 else 0) (2 ^ N)
theorem ov_le (g : Int → Int) (n q : Int) (N : Nat) : 0 ≤ ovT g n q N ∧ ovT g n q N ≤ ((2 ^ N : Nat) : Int) := by
  unfold ovT
  have : ∀ m : Nat, 0 ≤ sN (fun k => if vlT g n q N k = 1 ∧ cloP g n q N k then 1 else 0) m ∧ sN (fun k => if vlT g n q N k = 1 ∧ cloP g n q N k then 1 else 0) m ≤ m := fun m => by
    induction m with
    | zero => exact ⟨Int.le_refl _, Int.le_refl _⟩
    | succ m ih =>
      have e : sN (fun k => if vlT g n q N k = 1 ∧ cloP g n q N k then 1 else 0) (m + 1) = sN (fun k => if vlT g n q N k = 1 ∧ cloP g n q N k then 1 else 0) m + (if vlT g n q N m = 1 ∧ cloP g n q N m then 1 else 0) := rfl
      rw [e]; split <;> omega
  exact this _
theorem my_le (g : Int → Int) (n q : Int) (N : Nat) : 0 ≤ myT g n q N ∧ myT g n q N ≤ ((2 ^ N : Nat) : Int) := by
  unfold myT
  have : ∀ m : Nat, 0 ≤ sN (fun k => if vlT g n q N k = 1 then 1 else 0) m ∧ sN (fun k => if vlT g n q N k = 1 then 1 else 0) m ≤ m := fun m => by
    induction m with
    | zero => exact ⟨Int.le_refl _, Int.le_refl _⟩
    | succ m ih =>
      have e : sN (fun k => if vlT g n q N k = 1 then 1 else 0) (m + 1) = sN (fun k => if vlT g n q N k = 1 then 1 else 0) m + (if vlT g n q N m = 1 then 1 else 0) := rfl
      rw [e]; split <;> omega
  exact this _
theorem ov_e (h : RP g n q s) {N : Nat} (hN : (N : Int) = n) (h9 : N ≤ 9) : ovT g n q N = soV s := by
  have cap : ∀ x : Int, x ≤ 512 → cap9 x = x := fun x hx => by unfold cap9; rw [if_neg (by omega)]
  have p9 : ((2 ^ N : Nat) : Int) ≤ 512 := by
    have : 2 ^ N ≤ 2 ^ 9 := Nat.pow_le_pow_right (by decide) h9
    omega
  have vz : ∀ k : Int, 0 ≤ k → k < n → (s (2 + k) = 0 ↔ g k = 0) := fun k a b => (owP_n h ⟨a, b⟩).2.2
  have i : (s 0 = 0 ∨ s (2 + 0) = 0 ∨ s (2 + (s 0 - 1)) = 0) ↔ (n = 0 ∨ g 0 = 0 ∨ g (n - 1) = 0) := by
    rw [h.2.2.1]
    by_cases z : n = 0
    · exact ⟨fun _ => Or.inl z, fun _ => Or.inl z⟩
    · rw [vz 0 (by omega) (by omega), vz (n - 1) (by omega) (by omega)]
  unfold soV
  by_cases z : n = 0 ∨ g 0 = 0 ∨ g (n - 1) = 0
  · rw [if_pos (i.mpr z), ← my_e h hN, cap _ (by have := (my_le g n q N).2; omega)]
    unfold ovT myT
    refine sN_cg _ (fun k _ => ?_)
    have c : cloP g n q N k := by
      rcases z with z | z | z
      · exact Or.inl z
      · exact Or.inr (fun t => t.1.2 z)
      · exact Or.inr (fun t => t.1.1 z)
    by_cases v : vlT g n q N k = 1
    · rw [if_pos ⟨v, c⟩, if_pos v]
    · rw [if_neg (fun t => v t.1), if_neg v]
  · rw [if_neg (fun t => z (i.mp t))]
    have n1 : 1 ≤ n := by have : ¬ n = 0 := fun t => z (Or.inl t); omega
    have g0 : ¬ g 0 = 0 := fun t => z (Or.inr (Or.inl t))
    have g1 : ¬ g (n - 1) = 0 := fun t => z (Or.inr (Or.inr t))
    have hk0 : 0 ≤ (0 : Int) ∧ (0 : Int) < n := by omega
    have o := owP_n h hk0
    have v0 := h.2.2.2.2 0 (by omega) (by omega)
    have v1 := h.2.2.2.2 (n - 1) (by omega) (by omega)
    let wf : Nat → Nat → Int → Int := fun a k b => if cnD q (g (n - 1)) (g 0) (b2 (b = ((k / 2 ^ (a - 1) : Nat) : Int))) then 0 else 1
    have hw : ∀ a k : Nat, 1 ≤ a → wf (a + 1) (2 * k) = wf a k ∧ wf (a + 1) (2 * k + 1) = wf a k := fun a k ha => by
      have e0 : 2 * k / 2 ^ (a + 1 - 1) = k / 2 ^ (a - 1) := by
        rw [show a + 1 - 1 = (a - 1) + 1 by omega, Nat.pow_succ, Nat.mul_comm (2 ^ (a - 1)) 2, ← Nat.div_div_eq_div_mul, show 2 * k / 2 = k by omega]
      have e1 : (2 * k + 1) / 2 ^ (a + 1 - 1) = k / 2 ^ (a - 1) := by
        rw [show a + 1 - 1 = (a - 1) + 1 by omega, Nat.pow_succ, Nat.mul_comm (2 ^ (a - 1)) 2, ← Nat.div_div_eq_div_mul, show (2 * k + 1) / 2 = k by omega]
      constructor
      · funext b; show (if cnD q (g (n - 1)) (g 0) (b2 (b = ((2 * k / 2 ^ (a + 1 - 1) : Nat) : Int))) then (0 : Int) else 1) = _; rw [e0]
      · funext b; show (if cnD q (g (n - 1)) (g 0) (b2 (b = (((2 * k + 1) / 2 ^ (a + 1 - 1) : Nat) : Int))) then (0 : Int) else 1) = _; rw [e1]
    have t := GT_sum h (w := wf) 1 hw (N - 1) (by omega)
    rw [show 1 + (N - 1) = N by omega] at t
    have L : sN (GT g n q wf N) (2 ^ N) = ovT g n q N := by
      unfold ovT
      refine sN_cg _ (fun k _ => ?_)
      rw [GT_n hN]
      have cx : vlT g n q N k = 1 → cxT g N k = ((k % 2 : Nat) : Int) := fun _ => by
        rw [show N = (N - 1) + 1 by omega, cxT_s, if_neg]
        rw [show ((N - 1 : Nat) : Int) = n - 1 by omega]; exact g1
      by_cases v : vlT g n q N k = 1
      · rw [if_pos v, cx v]
        show (if cnD q (g (n - 1)) (g 0) (b2 (((k % 2 : Nat) : Int) = ((k / 2 ^ (N - 1) : Nat) : Int))) then (0 : Int) else 1) = _
        by_cases y : cnD q (g (n - 1)) (g 0) (b2 (((k % 2 : Nat) : Int) = ((k / 2 ^ (N - 1) : Nat) : Int)))
        · rw [if_pos y, if_neg (fun x => x.2.elim (fun w => by omega) (fun w => w y))]
        · rw [if_neg y, if_pos ⟨v, Or.inr y⟩]
      · rw [if_neg v, if_neg (fun x => v x.1)]
    rw [← L, t]
    have f1 : ∀ f : Nat, f < 2 → GT g n q wf 1 f = if mAl (s (2 + 0)) (f : Int) then mnS s (f : Int) 1 (f : Int) else 0 := fun f hf => by
      have f01 : (f : Int) = 0 ∨ (f : Int) = 1 := by omega
      have m2 : f / 2 = 0 := by omega
      have m3 : ((f % 2 : Nat) : Int) = (f : Int) := by omega
      have pl : plC n (cnP g q 0 1) (cnP g q 0 0) 0 (b2 ((3 : Int) = (f : Int))) = 0 := plC_p (by omega) ⟨fun _ => rfl, fun x => absurd rfl x⟩
      have v : vlT g n q 1 f = 1 ↔ mAl (s (2 + 0)) (f : Int) := by
        rw [show (1 : Nat) = 0 + 1 from rfl, vlT_s, m2, m3]
        have c0 : cxT g 0 0 = 3 := rfl
        have vv : vlT g n q 0 0 = 1 := rfl
        rw [c0, vv]
        by_cases y : mAl (s (2 + 0)) (f : Int)
        · rw [if_pos ⟨rfl, Or.inr ⟨g0, hk0, by rw [show ((0 : Nat) : Int) = 0 from rfl, o.2.1 g0]; exact y, pl⟩⟩]; exact ⟨fun _ => y, fun _ => rfl⟩
        · rw [if_neg (fun x => x.2.elim (fun w => g0 w.1) (fun w => y (by have := w.2.2.1; rw [show ((0 : Nat) : Int) = 0 from rfl, o.2.1 g0] at this; exact this)))]; exact ⟨fun x => absurd x (by decide), fun x => absurd x y⟩
      unfold GT
      have cx : cxT g 1 f = (f : Int) := by
        rw [show (1 : Nat) = 0 + 1 from rfl, cxT_s, if_neg (show ¬ g ((0 : Nat) : Int) = 0 from g0), m3]
      by_cases y : mAl (s (2 + 0)) (f : Int)
      · rw [if_pos (v.mpr y), if_pos y, cx]
        have e := mn_bw h (pv := 0) (nx := (f : Int)) (N - 1) (by omega) (f : Int) (f : Int) (fun x => absurd x (by omega)) (Or.inl ⟨rfl, f01⟩)
        rw [show n - ((N - 1 : Nat) : Int) = 1 by omega] at e
        rw [e, show (n - ((1 : Nat) : Int)).toNat = N - 1 by omega]
        have bs : ∀ b : Int, b = 0 ∨ b = 1 → wf 1 f b = bsN s (f : Int) b := fun b hb => by
          have c := mk_cl h.2.1 v1.1 v0.1 hb f01
          rw [← v1.2, ← v0.2, ← h.2.2.2.1] at c
          show (if cnD q (g (n - 1)) (g 0) (b2 (b = ((f / 2 ^ (1 - 1) : Nat) : Int))) then (0 : Int) else 1) = _
          rw [show f / 2 ^ (1 - 1) = f by simp, ← h.2.2.2.1]
          unfold bsN bsW
          rw [h.2.2.1]
          by_cases x : cnD (s 1) (g (n - 1)) (g 0) (b2 (b = (f : Int)))
          · rw [if_pos x, if_pos ⟨⟨by omega, by omega⟩, c.mpr x⟩]
          · rw [if_neg x, if_neg (fun w => x (c.mp w.2))]
        exact bw_cw (bs 0 (Or.inl rfl)) (bs 1 (Or.inr rfl)) _ _ _ f01
      · rw [if_neg (fun x => y (v.mp x)), if_neg y]
    have e2 : sN (GT g n q wf 1) (2 ^ 1) = 0 + GT g n q wf 1 0 + GT g n q wf 1 1 := rfl
    have e3 := f1 0 (by omega)
    have e4 := f1 1 (by omega)
    have le := (ov_le g n q N).2
    rw [← L, t] at le
    rw [e2, e3, e4, Int.zero_add] at le ⊢
    exact (cap _ (by omega)).symm
end
