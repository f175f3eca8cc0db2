/-! the model's tables -/
def lfF (s : Int → Int) (a b : Int) (F : Int → Int) : Nat → Int
  | 0 => 1000
  | h + 1 => if mCn s a b h ∧ F h + (if (h : Int) = b then 1 else 0) < lfF s a b F h then F h + (if (h : Int) = b then 1 else 0) else lfF s a b F h
def lmF (s : Int → Int) (a b : Int) (F : Int → Int) : Nat → Int
  | 0 => 0
  | h + 1 => lmF s a b F h + (if mCn s a b h then F h else 0)
theorem lfF_s (s : Int → Int) (a b : Int) (F : Int → Int) {k : Int} (h : 0 ≤ k) : lfF s a b F (k + 1).toNat = if mCn s a b k ∧ F k + (if k = b then 1 else 0) < lfF s a b F k.toNat then F k + (if k = b then 1 else 0) else lfF s a b F k.toNat := by
  have e : (k + 1).toNat = k.toNat + 1 := by omega
  rw [e]; show (if mCn s a b (k.toNat : Int) ∧ F (k.toNat : Int) + (if (k.toNat : Int) = b then 1 else 0) < lfF s a b F k.toNat then F (k.toNat : Int) + (if (k.toNat : Int) = b then 1 else 0) else lfF s a b F k.toNat) = _
  rw [Int.toNat_of_nonneg h]
theorem lmF_s (s : Int → Int) (a b : Int) (F : Int → Int) {k : Int} (h : 0 ≤ k) : lmF s a b F (k + 1).toNat = lmF s a b F k.toNat + (if mCn s a b k then F k else 0) := by
  have e : (k + 1).toNat = k.toNat + 1 := by omega
  rw [e]; show lmF s a b F k.toNat + (if mCn s a b (k.toNat : Int) then F (k.toNat : Int) else 0) = _
  rw [Int.toNat_of_nonneg h]
theorem lfF_in {s : Int → Int} {a b : Int} {F : Int → Int} : ∀ k : Nat, (∀ h : Int, 0 ≤ h → h < k → 0 ≤ F h ∧ F h ≤ 1000) → 0 ≤ lfF s a b F k ∧ lfF s a b F k ≤ 1000
  | 0, _ => by show (0 : Int) ≤ 1000 ∧ (1000 : Int) ≤ 1000; omega
  | k + 1, hF => by
    have ih := lfF_in (s := s) (a := a) (b := b) (F := F) k (fun h h0 h1 => hF h h0 (by omega))
    have f := hF k (by omega) (by omega)
    have e : lfF s a b F (k + 1) = if mCn s a b k ∧ F k + (if (k : Int) = b then 1 else 0) < lfF s a b F k then F k + (if (k : Int) = b then 1 else 0) else lfF s a b F k := rfl
    have i := ite_in (P := (k : Int) = b) (y := 1) (z := 0) (lo := 0) (hi := 1) ⟨by omega, by omega⟩ ⟨by omega, by omega⟩
    rw [e]; generalize (if (k : Int) = b then (1 : Int) else 0) = x at i ⊢
    by_cases z : mCn s a b k ∧ F k + x < lfF s a b F k
    · rw [if_pos z]; have := z.2; omega
    · rw [if_neg z]; exact ih
theorem lfF_cg {s : Int → Int} {a b : Int} {F G : Int → Int} : ∀ k : Nat, (∀ h : Int, 0 ≤ h → h < k → F h = G h) → lfF s a b F k = lfF s a b G k
  | 0, _ => rfl
  | k + 1, hF => by
    have e : ∀ X : Int → Int, lfF s a b X (k + 1) = if mCn s a b k ∧ X k + (if (k : Int) = b then 1 else 0) < lfF s a b X k then X k + (if (k : Int) = b then 1 else 0) else lfF s a b X k := fun _ => rfl
    rw [e, e, lfF_cg k (fun h h0 h1 => hF h h0 (by omega)), hF k (by omega) (by omega)]
theorem lmF_cg {s : Int → Int} {a b : Int} {F G : Int → Int} : ∀ k : Nat, (∀ h : Int, 0 ≤ h → h < k → F h = G h) → lmF s a b F k = lmF s a b G k
  | 0, _ => rfl
  | k + 1, hF => by
    have e : ∀ X : Int → Int, lmF s a b X (k + 1) = lmF s a b X k + (if mCn s a b k then X k else 0) := fun _ => rfl
    rw [e, e, lmF_cg k (fun h h0 h1 => hF h h0 (by omega)), hF k (by omega) (by omega)]
abbrev bsW (s : Int → Int) (nx b : Int) : Prop := (¬ nx = -4 ∧ b < 2) ∧ ¬ mCl (s 1) (s (2 + (s 0 - 1))) b (s (2 + 0)) nx = 0
def lsR (s : Int → Int) (nx : Int) : Nat → Int → Int
  | 0, b => if bsW s nx b then 1000 else 0
  | r + 1, b => if s (2 + (s 0 - ((r : Int) + 1))) = 0 then lsR s nx r b else lfF s (s 0 - ((r : Int) + 1)) b (lsR s nx r) 2
def mnR (s : Int → Int) (nx : Int) : Nat → Int → Int
  | 0, b => if bsW s nx b then 0 else 1
  | r + 1, b => if s (2 + (s 0 - ((r : Int) + 1))) = 0 then mnR s nx r b else lmF s (s 0 - ((r : Int) + 1)) b (mnR s nx r) 2
def lsS (s : Int → Int) (nx a b : Int) : Int := lsR s nx (s 0 - a).toNat b
def mnS (s : Int → Int) (nx a b : Int) : Int := mnR s nx (s 0 - a).toNat b
theorem lsS_e (s : Int → Int) (nx b : Int) : lsS s nx (s 0) b = if bsW s nx b then 1000 else 0 := by unfold lsS; rw [Int.sub_self]; rfl
theorem mnS_e (s : Int → Int) (nx b : Int) : mnS s nx (s 0) b = if bsW s nx b then 0 else 1 := by unfold mnS; rw [Int.sub_self]; rfl
theorem lsS_s (s : Int → Int) (nx : Int) {a : Int} (b : Int) (h : a < s 0) : lsS s nx a b = if s (2 + a) = 0 then lsS s nx (a + 1) b else lfF s a b (lsS s nx (a + 1)) 2 := by
  unfold lsS
  have e : (s 0 - a).toNat = (s 0 - (a + 1)).toNat + 1 := by omega
  have e2 : s 0 - (((s 0 - (a + 1)).toNat : Int) + 1) = a := by omega
  rw [e]; show (if s (2 + (s 0 - (((s 0 - (a + 1)).toNat : Int) + 1))) = 0 then _ else lfF s (s 0 - (((s 0 - (a + 1)).toNat : Int) + 1)) b _ 2) = _
  rw [e2]
theorem mnS_s (s : Int → Int) (nx : Int) {a : Int} (b : Int) (h : a < s 0) : mnS s nx a b = if s (2 + a) = 0 then mnS s nx (a + 1) b else lmF s a b (mnS s nx (a + 1)) 2 := by
  unfold mnS
  have e : (s 0 - a).toNat = (s 0 - (a + 1)).toNat + 1 := by omega
  have e2 : s 0 - (((s 0 - (a + 1)).toNat : Int) + 1) = a := by omega
  rw [e]; show (if s (2 + (s 0 - (((s 0 - (a + 1)).toNat : Int) + 1))) = 0 then _ else lmF s (s 0 - (((s 0 - (a + 1)).toNat : Int) + 1)) b _ 2) = _
  rw [e2]
theorem lsR_in {s : Int → Int} {nx : Int} : ∀ (r : Nat) (b : Int), 0 ≤ lsR s nx r b ∧ lsR s nx r b ≤ 1000
  | 0, b => by
    have e : lsR s nx 0 b = if bsW s nx b then 1000 else 0 := rfl
    rw [e]; split <;> omega
  | r + 1, b => by
    have e : lsR s nx (r + 1) b = if s (2 + (s 0 - ((r : Int) + 1))) = 0 then lsR s nx r b else lfF s (s 0 - ((r : Int) + 1)) b (lsR s nx r) 2 := rfl
    rw [e]; split
    · exact lsR_in r b
    · exact lfF_in 2 (fun h _ _ => lsR_in r h)
theorem lsS_in {s : Int → Int} {nx a b : Int} : 0 ≤ lsS s nx a b ∧ lsS s nx a b ≤ 1000 := lsR_in _ _
theorem lmF_2 {s : Int → Int} {a b : Int} {F : Int → Int} {c : Int} (h0 : 0 ≤ F 0 ∧ F 0 ≤ c) (h1 : 0 ≤ F 1 ∧ F 1 ≤ c) : 0 ≤ lmF s a b F 2 ∧ lmF s a b F 2 ≤ 2 * c := by
  have e : lmF s a b F 2 = (0 + (if mCn s a b ((0 : Nat) : Int) then F ((0 : Nat) : Int) else 0)) + (if mCn s a b ((1 : Nat) : Int) then F ((1 : Nat) : Int) else 0) := rfl
  have i0 := ite_in (P := mCn s a b ((0 : Nat) : Int)) (y := F ((0 : Nat) : Int)) (z := 0) (lo := 0) (hi := c) h0 ⟨by omega, by omega⟩
  have i1 := ite_in (P := mCn s a b ((1 : Nat) : Int)) (y := F ((1 : Nat) : Int)) (z := 0) (lo := 0) (hi := c) h1 ⟨by omega, by omega⟩
  rw [e]; omega
theorem mnR_in {s : Int → Int} {nx : Int} : ∀ (r : Nat) (b : Int), 0 ≤ mnR s nx r b ∧ mnR s nx r b ≤ ((2 ^ r : Nat) : Int)
  | 0, b => by
    have e : mnR s nx 0 b = if bsW s nx b then 0 else 1 := rfl
    rw [e]; show _ ∧ _ ≤ (1 : Int); split <;> omega
  | r + 1, b => by
    have e : mnR s nx (r + 1) b = if s (2 + (s 0 - ((r : Int) + 1))) = 0 then mnR s nx r b else lmF s (s 0 - ((r : Int) + 1)) b (mnR s nx r) 2 := rfl
    have e2 : ((2 ^ (r + 1) : Nat) : Int) = 2 * ((2 ^ r : Nat) : Int) := by rw [Nat.pow_succ]; omega
    rw [e, e2]; split
    · have := mnR_in (s := s) (nx := nx) r b; omega
    · exact lmF_2 (mnR_in r 0) (mnR_in r 1)
theorem mnS_in {s : Int → Int} {nx a b : Int} (h0 : 0 ≤ a) (hs : s 0 ≤ 32) : 0 ≤ mnS s nx a b ∧ mnS s nx a b ≤ 4294967296 := by
  have h := mnR_in (s := s) (nx := nx) (s 0 - a).toNat b
  have e : ((2 ^ (s 0 - a).toNat : Nat) : Int) ≤ 4294967296 := by
    have : 2 ^ (s 0 - a).toNat ≤ 2 ^ 32 := Nat.pow_le_pow_right (by decide) (by omega)
    omega
  unfold mnS; omega
theorem uJ_u (g : Int → Int) (i v w : Int) : uJ (uJ g i v) i w = uJ g i w := by
  funext j; by_cases q : j = i
  · subst q; rw [uJ_s, uJ_s]
  · rw [uJ_n q, uJ_n q, uJ_n q]
def lfV (s l : Int → Int) (a b : Int) : Int := if s (2 + a) = 0 then l (3 * a + b + 3) else lfF s a b (fun h => l (3 * a + 3 + h)) 2
def lmV (s l : Int → Int) (a b : Int) : Int := if s (2 + a) = 0 then l (3 * a + b + 3) else lmF s a b (fun h => l (3 * a + 3 + h)) 2
/-- the model's choice of hands -/
def mcR (s : Int → Int) (k b : Int) : Int := if mCn s k b 0 then lsS s (-4) (k + 1) 0 + (if b = 0 then 1 else 0) else 1000
def mcN (s : Int → Int) (be : Int) : Nat → Int
  | 0 => 2
  | k + 1 => if s (2 + k) = 0 then mcN s be k else if (if be = 0 then b2 (mcR s k (mcN s be k) < 1000) else b2 (mcR s k (mcN s be k) = lsS s (-4) k (mcN s be k))) = 0 then 1 else 0
def mcB (s : Int → Int) (be k : Int) : Int := mcN s be k.toNat
theorem mcB_s (s : Int → Int) (be : Int) {k : Int} (h : 0 ≤ k) : mcB s be (k + 1) = if s (2 + k) = 0 then mcB s be k else if (if be = 0 then b2 (mcR s k (mcB s be k) < 1000) else b2 (mcR s k (mcB s be k) = lsS s (-4) k (mcB s be k))) = 0 then 1 else 0 := by
  unfold mcB
  have e : (k + 1).toNat = k.toNat + 1 := by omega
  rw [e]; show (if s (2 + (k.toNat : Int)) = 0 then _ else if (if be = 0 then b2 (mcR s (k.toNat : Int) _ < 1000) else b2 (mcR s (k.toNat : Int) _ = lsS s (-4) (k.toNat : Int) _)) = 0 then 1 else 0) = _
  rw [Int.toNat_of_nonneg h]
theorem mcN_in (s : Int → Int) (be : Int) : ∀ k : Nat, 0 ≤ mcN s be k ∧ mcN s be k ≤ 2
  | 0 => by show (0 : Int) ≤ 2 ∧ (2 : Int) ≤ 2; omega
  | k + 1 => by
    have ih := mcN_in s be k
    have e : mcN s be (k + 1) = if s (2 + k) = 0 then mcN s be k else if (if be = 0 then b2 (mcR s k (mcN s be k) < 1000) else b2 (mcR s k (mcN s be k) = lsS s (-4) k (mcN s be k))) = 0 then 1 else 0 := rfl
    rw [e]; generalize (if be = 0 then b2 (mcR s k (mcN s be k) < 1000) else b2 (mcR s k (mcN s be k) = lsS s (-4) k (mcN s be k))) = z
    split
    · exact ih
    · split <;> omega
theorem mcB_in {s : Int → Int} {be k : Int} : 0 ≤ mcB s be k ∧ mcB s be k ≤ 2 := mcN_in _ _ _
theorem mcR_in {s : Int → Int} {k b : Int} : 0 ≤ mcR s k b ∧ mcR s k b ≤ 1001 := by
  have := lsS_in (s := s) (nx := -4) (a := k + 1) (b := 0)
  unfold mcR; split
  · split <;> omega
  · omega
def cap9 (z : Int) : Int := if 1000000000 < z then 1000000000 else z
def soV (s : Int → Int) : Int := if s 0 = 0 ∨ s (2 + 0) = 0 ∨ s (2 + (s 0 - 1)) = 0 then cap9 (mnS s (-4) 0 2) else cap9 ((if mAl (s (2 + 0)) 0 then mnS s 0 1 0 else 0) + (if mAl (s (2 + 0)) 1 then mnS s 1 1 1 else 0))
