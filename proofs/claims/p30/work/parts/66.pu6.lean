/-! what the law's method holds compares -/
def smV (o : Int) : Int := if o = 0 then 0 else if o = 2 then 2 else 1
def rtV (c h : Int) : Int := if c = 0 then 0 else if h = 0 then sFs c - (if c / 16 % 4 < 3 then smV (c / 16 % 4) else 0) else (if c / 16 % 4 < 3 then smV (c / 16 % 4) else 0)
def SV (g : Int → Int) (n q ov : Int) : Int := if sm (fun j => b2 (¬ g j = 0)) n = 0 then 1 else (if 1000000000 < tlP g n q ov then 1000000000 else tlP g n q ov)
def sMd (g : Int → Int) (n q : Int) : Int → Int := fun i => if i = 0 then n else if i = 1 then q else mk (g (i - 2))
theorem RP_of {g : Int → Int} {n q : Int} (hn : 0 ≤ n ∧ n ≤ 32) (hq : 1 ≤ q ∧ q ≤ 4) (hv : ∀ j : Int, 0 ≤ j → j < n → vK (g j)) : RP g n q (sMd g n q) :=
  ⟨hn, hq, rfl, rfl, fun j a b => ⟨hv j a b, by
    unfold sMd; rw [if_neg (by omega), if_neg (by omega), show 2 + j - 2 = j by omega]⟩⟩
set_option maxRecDepth 20000 in
theorem hc_1 {c : Int} (h : vK c) : (c = 0 → sBl c = 0 ∧ sFs c = 0 ∧ c / 16 % 4 = 0) ∧ (¬ c = 0 → sBl c = 1 + smV (c / 16 % 4) ∧ sFs c = 2 + b2 (c / 8 % 2 = 1) + smV (c / 16 % 4)) :=
  vK_all (P := fun c => (c = 0 → sBl c = 0 ∧ sFs c = 0 ∧ c / 16 % 4 = 0) ∧ (¬ c = 0 → sBl c = 1 + smV (c / 16 % 4) ∧ sFs c = 2 + b2 (c / 8 % 2 = 1) + smV (c / 16 % 4))) (by decide +kernel) h
theorem smV_in (o : Int) : 0 ≤ smV o ∧ smV o ≤ 2 := by unfold smV; (repeat' split) <;> omega
set_option maxRecDepth 20000 in
theorem hc_2 {c h : Int} (hc : vK c) (h01 : h = 0 ∨ h = 1) : rtV c h = sFr c h := by
  have e := vK_all (P := fun c => rtV c 0 = sFr c 0 ∧ rtV c 1 = sFr c 1) (by decide +kernel) hc
  rcases h01 with rfl | rfl
  · exact e.1
  · exact e.2
theorem rtV_in (c h : Int) : -2 ≤ rtV c h ∧ rtV c h ≤ 5 := by
  have := sFs_5 (c := c)
  have := smV_in (c / 16 % 4)
  unfold rtV; (repeat' split) <;> omega
/-! sums -/
theorem smN_ad (f h : Int → Int) : ∀ k : Nat, smN (fun j => f j + h j) k = smN f k + smN h k
  | 0 => rfl
  | k + 1 => by
    have ih := smN_ad f h k
    show smN (fun j => f j + h j) k + (f k + h k) = smN f k + f k + (smN h k + h k)
    omega
theorem sm_ad (f h : Int → Int) (k : Int) : sm (fun j => f j + h j) k = sm f k + sm h k := smN_ad f h k.toNat
theorem sm_z0 {f : Int → Int} : ∀ k : Nat, (∀ j : Int, 0 ≤ j → j < k → f j = 0) → sm f k = 0
  | 0, _ => rfl
  | k + 1, h => by
    have ih := sm_z0 (f := f) k (fun j a b => h j a (by omega))
    rw [show ((k + 1 : Nat) : Int) = (k : Int) + 1 by omega, sm_s f (by omega), ih, h k (by omega) (by omega)]; rfl
theorem sm_add (f : Int → Int) {a : Int} (ha : 0 ≤ a) : ∀ b : Nat, sm f (a + b) = sm f a + sm (fun j => f (a + j)) b
  | 0 => by rw [show a + ((0 : Nat) : Int) = a by omega]; show _ = _ + sm _ 0; rw [sm_0]; omega
  | b + 1 => by
    have ih := sm_add f ha b
    have e := sm_s (fun j => f (a + j)) (k := (b : Int)) (by omega)
    have e2 := sm_s f (k := a + (b : Int)) (by omega)
    rw [show a + ((b + 1 : Nat) : Int) = a + (b : Int) + 1 by omega, e2, ih, show ((b + 1 : Nat) : Int) = (b : Int) + 1 by omega, e]; omega
theorem sm_sw (f : Int → Int → Int) (n : Int) : ∀ M : Nat, sm (fun i => sm (fun k => f i k) n) M = sm (fun k => sm (fun i => f i k) M) n
  | 0 => by
    show 0 = sm (fun k => 0) n
    have := sm_z0 (f := fun _ => 0) n.toNat (fun _ _ _ => rfl)
    unfold sm at this ⊢; rw [Int.toNat_natCast] at this; exact this.symm
  | M + 1 => by
    have ih := sm_sw f n M
    have e : (fun k => sm (fun i => f i k) ((M + 1 : Nat) : Int)) = fun k => sm (fun i => f i k) M + f M k := by
      funext k; rw [show ((M + 1 : Nat) : Int) = (M : Int) + 1 by omega, sm_s _ (by omega)]
    rw [e, sm_ad, ← ih, show ((M + 1 : Nat) : Int) = (M : Int) + 1 by omega, sm_s _ (by omega)]
theorem sFa_z {c t : Int} (h : t < -2 ∨ 2 < t) : sFa c t = 0 := by
  unfold sFa
  have b := sBl_in (c := c)
  have e := sm_z0 (f := fun b => if sOff (c / 16 % 4) b = t then sFo c b else 0) (sBl c).toNat (fun j _ _ => if_neg (by have := sOff_in (o := c / 16 % 4) (b := j); omega))
  rw [Int.toNat_of_nonneg b.1] at e; exact e
set_option maxRecDepth 20000 in
theorem sFa_5 {c : Int} (h : vK c) : sm (fun i => sFa c (i - 2)) 5 = sFs c := vK_all (P := fun c => sm (fun i => sFa c (i - 2)) 5 = sFs c) (by decide +kernel) h
theorem hs_1 {c k n : Int} (hc : vK c) (hk : 0 ≤ k ∧ k < n) : sm (fun i => sFa c (i - 2 - 4 * k)) (4 * n + 3) = sFs c := by
  have a := sm_add (fun i => sFa c (i - 2 - 4 * k)) (a := 4 * k) (by omega) (4 * (n - k) + 3).toNat
  rw [show 4 * k + ((4 * (n - k) + 3).toNat : Int) = 4 * n + 3 by omega] at a
  have z := sm_z0 (f := fun i => sFa c (i - 2 - 4 * k)) (4 * k).toNat (fun j _ b => sFa_z (Or.inl (by omega)))
  rw [Int.toNat_of_nonneg (show 0 ≤ 4 * k by omega)] at z
  rw [a, z, Int.zero_add, ← sFa_5 hc]
  exact sm_tl _ (by omega) (fun j _ _ => by show sFa c (4 * k + j - 2 - 4 * k) = _; rw [show 4 * k + j - 2 - 4 * k = j - 2 by omega]) (fun j _ b _ => sFa_z (Or.inr (by omega)))
theorem hs_all {g : Int → Int} {n : Int} (hn : 0 ≤ n) (hv : ∀ j : Int, 0 ≤ j → j < n → vK (g j)) : sm (fun i => sm (fun k => sFa (g k) (i - 2 - 4 * k)) n) (4 * n + 3) = sm (fun j => sFs (g j)) n := by
  have e := sm_sw (fun i k => sFa (g k) (i - 2 - 4 * k)) n (4 * n + 3).toNat
  rw [Int.toNat_of_nonneg (show 0 ≤ 4 * n + 3 by omega)] at e
  rw [e]; exact sm_cg (fun j a b => hs_1 (hv j a b) ⟨a, b⟩)
theorem ct_e {g : Int → Int} {n : Int} (hv : ∀ j : Int, 0 ≤ j → j < n → vK (g j)) : sm (fun j => b2 (¬ g j = 0)) n = sm (fun j => b2 (¬ g j = 0 ∧ g j / 2 % 4 = 0)) n + sm (fun j => b2 (¬ g j = 0 ∧ g j / 2 % 4 = 1)) n + sm (fun j => b2 (¬ g j = 0 ∧ g j / 2 % 4 = 2)) n := by
  rw [← sm_ad, ← sm_ad]
  refine sm_cg (fun j a b => ?_)
  have h3 := (hv j a b).2.1
  show b2 (¬ g j = 0) = b2 (¬ g j = 0 ∧ g j / 2 % 4 = 0) + b2 (¬ g j = 0 ∧ g j / 2 % 4 = 1) + b2 (¬ g j = 0 ∧ g j / 2 % 4 = 2)
  unfold b2
  by_cases z : g j = 0
  · rw [if_neg (fun t => t z), if_neg (fun t => t.1 z), if_neg (fun t => t.1 z), if_neg (fun t => t.1 z)]; rfl
  · rw [if_pos z]
    rcases (by omega : g j / 2 % 4 = 0 ∨ g j / 2 % 4 = 1 ∨ g j / 2 % 4 = 2) with y | y | y
    · rw [if_pos ⟨z, y⟩, if_neg (fun t => by omega), if_neg (fun t => by omega)]; rfl
    · rw [if_neg (fun t => by omega), if_pos ⟨z, y⟩, if_neg (fun t => by omega)]; rfl
    · rw [if_neg (fun t => by omega), if_neg (fun t => by omega), if_pos ⟨z, y⟩]; rfl
theorem lr_le (g : Int → Int) : ∀ k : Nat, (lrN g k).1 ≤ sm (fun j => b2 (¬ g j = 0)) k ∧ (lrN g k).2 ≤ sm (fun j => b2 (¬ g j = 0)) k ∧ 0 ≤ (lrN g k).1 ∧ 0 ≤ (lrN g k).2
  | 0 => ⟨Int.le_refl _, Int.le_refl _, Int.le_refl _, Int.le_refl _⟩
  | k + 1 => by
    have ih := lr_le g k
    have e : lrN g (k + 1) = (if (lrN g k).1 < (if g k = 0 then 0 else (lrN g k).2 + 1) then (if g k = 0 then 0 else (lrN g k).2 + 1) else (lrN g k).1, if g k = 0 then 0 else (lrN g k).2 + 1) := rfl
    rw [e, show ((k + 1 : Nat) : Int) = (k : Int) + 1 by omega, sm_s _ (by omega)]
    dsimp only
    by_cases z : g k = 0
    · rw [if_pos z, b2_f (fun t => t z)]; split <;> omega
    · rw [if_neg z, b2_t z]; split <;> omega
theorem lr_st (g : Int → Int) {n : Int} (hn : 0 ≤ n) : lrL g n ≤ sm (fun j => b2 (¬ g j = 0)) n := by
  have := (lr_le g n.toNat).1
  rw [Int.toNat_of_nonneg hn] at this; exact this
theorem sSg_v (c p : Int) : 42 ≤ sSg c p ∧ sSg c p ≤ 120 := by
  unfold sSg sHs; dsimp only; (repeat' split) <;> omega
theorem sg_at (g : Int → Int) : ∀ (r : Nat) (k p : Int), 0 ≤ p → (p < sm (fun j => sTl (g (k + j))) r → 42 ≤ sgF g r k p ∧ sgF g r k p ≤ 120) ∧ (sm (fun j => sTl (g (k + j))) r ≤ p → sgF g r k p = -4)
  | 0, k, p, hp => ⟨fun h => absurd h (by show ¬ p < 0; omega), fun _ => rfl⟩
  | r + 1, k, p, hp => by
    have e : sgF g (r + 1) k p = if p < sTl (g k) then sSg (g k) p else sgF g r (k + 1) (p - sTl (g k)) := rfl
    have a := sm_add (fun j => sTl (g (k + j))) (a := 1) (by omega) r
    rw [sm_1] at a
    have c : (fun j : Int => (fun j => sTl (g (k + j))) (1 + j)) = fun j => sTl (g (k + 1 + j)) := by
      funext j; show sTl (g (k + (1 + j))) = _; rw [show k + (1 + j) = k + 1 + j by omega]
    rw [c] at a
    try dsimp only at a
    rw [show k + 0 = k by omega] at a
    rw [e, show ((r + 1 : Nat) : Int) = 1 + (r : Int) by omega, a]
    have t := sTl_in (c := g k)
    by_cases y : p < sTl (g k)
    · rw [if_pos y]
      refine ⟨fun _ => sSg_v _ _, fun h => ?_⟩
      have := sm_le (f := fun j => sTl (g (k + 1 + j))) (c := 3) (k := (r : Int)) (by omega) (fun j _ _ => by have := sTl_in (c := g (k + 1 + j)); omega)
      omega
    · rw [if_neg y]
      have ih := sg_at g r (k + 1) (p - sTl (g k)) (by omega)
      exact ⟨fun h => ih.1 (by omega), fun h => ih.2 (by omega)⟩
theorem sg_0 {g : Int → Int} {n p : Int} (hn : 0 ≤ n) (hp : 0 ≤ p) : (p < sm (fun j => sTl (g j)) n → 42 ≤ sgF g n.toNat 0 p ∧ sgF g n.toNat 0 p ≤ 120) ∧ (sm (fun j => sTl (g j)) n ≤ p → sgF g n.toNat 0 p = -4) := by
  have e := sg_at g n.toNat 0 p hp
  rw [Int.toNat_of_nonneg hn] at e
  have c : (fun j : Int => sTl (g (0 + j))) = fun j => sTl (g j) := by funext j; rw [Int.zero_add]
  rw [c] at e; exact e
theorem st_le {g : Int → Int} {n : Int} (hn : 0 ≤ n) : 0 ≤ sm (fun j => sTl (g j)) n ∧ sm (fun j => sTl (g j)) n ≤ 3 * n := sm_le hn (fun j _ _ => by have := sTl_in (c := g j); omega)
theorem sb_le {g : Int → Int} {n : Int} (hn : 0 ≤ n) (P : Int → Prop) [DecidablePred P] : 0 ≤ sm (fun j => b2 (P j)) n ∧ sm (fun j => b2 (P j)) n ≤ n := by
  have := sm_le (f := fun j => b2 (P j)) (c := 1) hn (fun j _ _ => by have := b2_01 (P j); omega)
  omega
section
variable {g : Int → Int} {n q : Int}
theorem sv_tel (hn : 0 ≤ n ∧ n ≤ 32) (hq : 1 ≤ q ∧ q ≤ 4) (hv : ∀ j : Int, 0 ≤ j → j < n → vK (g j)) {ov : Int} (hov : ov = 0 ∨ ov = 1) : SV g n q ov = (if ov = 0 then cap9 (mnS (sMd g n q) (-4) 0 2) else soV (sMd g n q)) := (RP_of hn hq hv).tel hov
theorem sv_each (hn : 0 ≤ n ∧ n ≤ 32) (hq : 1 ≤ q ∧ q ≤ 4) (hv : ∀ j : Int, 0 ≤ j → j < n → vK (g j)) {ov : Int} (hov : ov = 0 ∨ ov = 1) (h8 : sm (fun j => b2 (¬ g j = 0 ∧ g j / 2 % 4 = 2)) n ≤ 8) : teP g n q ov (2 ^ (sm (fun j => b2 (¬ g j = 0 ∧ g j / 2 % 4 = 2)) n).toNat) = SV g n q ov := by
  rw [sv_tel hn hq hv hov]; exact (RP_of hn hq hv).each hov rfl h8
theorem cl_e (hn : 0 ≤ n ∧ n ≤ 32) (hq : 1 ≤ q ∧ q ≤ 4) (hv : ∀ j : Int, 0 ≤ j → j < n → vK (g j)) (hE : sm (fun j => b2 (¬ g j = 0 ∧ g j / 2 % 4 = 2)) n = 0) : fcP g n q = -4 ↔ SV g n q 0 = 1 := by
  have e := sv_each hn hq hv (ov := 0) (Or.inl rfl) (by omega)
  rw [hE] at e
  have e2 : teP g n q 0 (2 ^ (0 : Int).toNat) = 0 + (if fcP g n q = -4 then 1 else 0) := rfl
  rw [← e, e2]
  by_cases z : fcP g n q = -4
  · rw [if_pos z]; exact ⟨fun _ => rfl, fun _ => z⟩
  · rw [if_neg z]; exact ⟨fun t => absurd t z, fun t => absurd t (by decide)⟩
theorem fcP_in (hn : 0 ≤ n ∧ n ≤ 32) : -4 ≤ fcP g n q ∧ fcP g n q ≤ 32 := by
  unfold fcP fcV; exact fcN_in _ _ _ (Int.le_refl _) (by omega)
theorem SV_in (g : Int → Int) (n q : Int) (hn : 0 ≤ n ∧ n ≤ 32) (hq : 1 ≤ q ∧ q ≤ 4) (hv : ∀ j : Int, 0 ≤ j → j < n → vK (g j)) {ov : Int} (hov : ov = 0 ∨ ov = 1) : SV g n q ov ≤ 1000000000 := by
  unfold SV; (repeat' split) <;> omega
/-- bounds of the law's count -/
theorem ar_in (hn : 0 ≤ n ∧ n ≤ 9) : ∀ k : Nat, (0 ≤ (arN g n q k).1 ∧ (arN g n q k).1 ≤ k) ∧ (0 ≤ (arN g n q k).2.1 ∧ (arN g n q k).2.1 ≤ k) ∧ (-1 ≤ (arN g n q k).2.2.1 ∧ (arN g n q k).2.2.1 < 512) ∧ (-1 ≤ (arN g n q k).2.2.2.1 ∧ (arN g n q k).2.2.2.1 < 512) ∧ (0 ≤ (arN g n q k).2.2.2.2 ∧ (arN g n q k).2.2.2.2 ≤ 9)
  | 0 => by
    show (0 ≤ (0 : Int) ∧ (0 : Int) ≤ 0) ∧ (0 ≤ (0 : Int) ∧ (0 : Int) ≤ 0) ∧ (-1 ≤ (-1 : Int) ∧ (-1 : Int) < 512) ∧ (-1 ≤ (-1 : Int) ∧ (-1 : Int) < 512) ∧ (0 ≤ (0 : Int) ∧ (0 : Int) ≤ 9)
    omega
  | k + 1 => by
    have ih := ar_in hn k
    have e := arN_s g n q (k := (k : Int)) (by omega)
    rw [show ((k : Int) + 1).toNat = k + 1 by omega, Int.toNat_natCast] at e
    rw [e]
    have m := mkN_in (f := hkV n k) (fun j => hkV_01 n k j) n.toNat
    have m9 := p2_9 (j := n) hn.2
    rw [Int.toNat_of_nonneg hn.1] at m
    have r := rpS_in g (hkV n k) n.toNat
    have r2 : 0 ≤ rpV g n (hkV n k) ∧ rpV g n (hkV n k) ≤ 9 := by unfold rpV; omega
    have c := caN_01 g n q (hkV n k) 1 n.toNat 0
    have c2 : 0 ≤ caV g n q (hkV n k) 1 ∧ caV g n q (hkV n k) 1 ≤ 1 := by unfold caV; omega
    generalize arN g n q k = A at ih ⊢
    generalize mkN (hkV n k) n.toNat = M at m ⊢
    generalize rpV g n (hkV n k) = Rr at r2 ⊢
    generalize caV g n q (hkV n k) 1 = Cc at c2 ⊢
    clear r c e
    split
    · dsimp only
      refine ⟨by omega, by omega, ?_, ?_, ?_⟩
      · split <;> omega
      · split <;> omega
      · split <;> omega
    · omega
/-- what the law's count comes to, without the model -/
theorem ar_all (hn : 0 ≤ n ∧ n ≤ 9) (hq : 1 ≤ q ∧ q ≤ 4) (hv : ∀ j : Int, 0 ≤ j → j < n → vK (g j)) {m2 m3 m4 m5 m6 : Int} (hA : (m2, m3, m4, m5, m6) = arN g n q (p2 n).toNat) : m2 = SV g n q 0 ∧ m3 = SV g n q 1 ∧ (0 < m2 ↔ fcB g n q 0 < 1000) ∧ ((0 ≤ m4 ∧ m4 < 512) ∨ m4 = -1) ∧ (0 ≤ m4 ↔ fcB g n q 0 < 1000) ∧ (fcB g n q 0 < 1000 → ∀ j : Int, 0 ≤ j → j < n → ¬ g j = 0 → btV m4 j = chP g n q 0 j) ∧ ((0 ≤ m5 ∧ m5 < 512) ∨ m5 = -1) ∧ (0 ≤ m5 ↔ fcB g n q 1 < 1000) ∧ (fcB g n q 1 < 1000 → ∀ j : Int, 0 ≤ j → j < n → ¬ g j = 0 → btV m5 j = chP g n q 1 j) := by
  have h := RP_of (g := g) (n := n) (q := q) ⟨hn.1, by omega⟩ hq hv
  have f := ar_fin h hn.2
  rw [← hA] at f
  have t0 := sv_tel (g := g) (n := n) (q := q) ⟨hn.1, by omega⟩ hq hv (ov := 0) (Or.inl rfl)
  have t1 := sv_tel (g := g) (n := n) (q := q) ⟨hn.1, by omega⟩ hq hv (ov := 1) (Or.inr rfl)
  rw [if_pos rfl] at t0
  rw [if_neg (by decide)] at t1
  rw [t0, t1]; exact f
theorem pl_01 (hn : 0 ≤ n ∧ n ≤ 32) (hq : 1 ≤ q ∧ q ≤ 4) (hv : ∀ j : Int, 0 ≤ j → j < n → vK (g j)) : fcB g n q 0 < 1000 ↔ fcB g n q 1 < 1000 := by
  have h := RP_of (g := g) (n := n) (q := q) hn hq hv
  rw [h.play (Or.inl rfl), h.play (Or.inr rfl)]
theorem qu_i (hn : 0 ≤ n ∧ n ≤ 32) (hq : 1 ≤ q ∧ q ≤ 4) (hv : ∀ j : Int, 0 ≤ j → j < n → vK (g j)) : q ≤ (if fcB g n 4 0 < 1000 then 4 else if fcB g n 3 0 < 1000 then 3 else if fcB g n 2 0 < 1000 then 2 else if fcB g n 1 0 < 1000 then 1 else -4) ↔ fcB g n q 0 < 1000 := qu_iff (RP_of hn hq hv)
theorem rt_sum (hv : ∀ j : Int, 0 ≤ j → j < n → vK (g j)) {m5 : Int} (hb : ∀ j : Int, 0 ≤ j → j < n → ¬ g j = 0 → btV m5 j = chP g n q 1 j) : sm (fun j => rtV (g j) (btV m5 j)) n = rgR g n q 1 n := by
  unfold rgR
  refine sm_cg (fun j a b => ?_)
  by_cases z : g j = 0
  · rw [z, sFr_0]; rfl
  · rw [hc_2 (hv j a b) (by unfold btV; omega), hb j a b z]
end
/-! quotients are equal to themselves -/
def dvE (N : Nat) : Bool := (List.range N).all (fun b => (List.range (b + 1)).all (fun a => b == 0 || decide (FP.dcmp (ddv a b) (ddv a b) = some .eq)))
theorem dvE_161 : dvE 161 = true := by decide +kernel
theorem ddv_e {a b : Int} (ha : 0 ≤ a ∧ a ≤ b) (hb : 1 ≤ b ∧ b ≤ 160) : FP.dcmp (ddv a b) (ddv a b) = some .eq := by
  have h := List.all_eq_true.mp dvE_161 b.toNat (List.mem_range.mpr (by omega))
  have h2 := List.all_eq_true.mp h a.toNat (List.mem_range.mpr (by omega))
  rw [Int.toNat_of_nonneg ha.1, Int.toNat_of_nonneg (show 0 ≤ b by omega)] at h2
  rcases (Bool.or_eq_true _ _).mp h2 with z | z
  · have e : b.toNat = 0 := eq_of_beq z
    omega
  · exact of_decide_eq_true z
