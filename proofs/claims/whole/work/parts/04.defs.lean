abbrev vwCl : List vw_C := [(RX0, TX0, 2), (RX1, TX1, 2), (RX2, TX2, 3), (RX3, TX3, 7), (RX4, TX4, 2), (RX6, TX6, 9), (RX7, TX7, 17)]
/-! pure words over Int -/
def smN (f : Int → Int) : Nat → Int
  | 0 => 0
  | n + 1 => smN f n + f n
def sm (f : Int → Int) (k : Int) : Int := smN f k.toNat
theorem sm_0 (f : Int → Int) : sm f 0 = 0 := rfl
theorem sm_s (f : Int → Int) {k : Int} (h : 0 ≤ k) : sm f (k + 1) = sm f k + f k := by
  unfold sm
  have e : (k + 1).toNat = k.toNat + 1 := by omega
  rw [e]; show smN f k.toNat + f (k.toNat : Int) = _
  rw [Int.toNat_of_nonneg h]
theorem smN_cg {f g : Int → Int} : ∀ n : Nat, (∀ j : Int, 0 ≤ j → j < n → f j = g j) → smN f n = smN g n
  | 0, _ => rfl
  | n + 1, h => by
    show smN f n + f n = smN g n + g n
    rw [smN_cg n (fun j h1 h2 => h j h1 (by omega)), h n (by omega) (by omega)]
theorem sm_cg {f g : Int → Int} {k : Int} (h : ∀ j : Int, 0 ≤ j → j < k → f j = g j) : sm f k = sm g k := smN_cg _ (fun j h1 h2 => h j h1 (by omega))
theorem smN_le {f : Int → Int} {c : Int} : ∀ n : Nat, (∀ j : Int, 0 ≤ j → j < n → 0 ≤ f j ∧ f j ≤ c) → 0 ≤ smN f n ∧ smN f n ≤ c * n
  | 0, _ => ⟨Int.le_refl _, by simp [smN]⟩
  | n + 1, h => by
    have h1 := smN_le n (fun j h1 h2 => h j h1 (by omega))
    have h2 := h n (by omega) (by omega)
    have e : c * ((n + 1 : Nat) : Int) = c * n + c := by rw [Int.natCast_add, Int.mul_add]; simp
    exact ⟨by show 0 ≤ smN f n + f n; omega, by show smN f n + f n ≤ _; omega⟩
theorem sm_le {f : Int → Int} {c k : Int} (hk : 0 ≤ k) (h : ∀ j : Int, 0 ≤ j → j < k → 0 ≤ f j ∧ f j ≤ c) : 0 ≤ sm f k ∧ sm f k ≤ c * k := by
  have := smN_le (f := f) (c := c) k.toNat (fun j h1 h2 => h j h1 (by omega))
  rwa [Int.toNat_of_nonneg hk] at this
def sBo (o : Int) : Int := if o = 0 then 1 else if o = 2 then 3 else 2
def sBl (c : Int) : Int := if c = 0 then 0 else sBo (c / 16 % 4)
def sFo (c b : Int) : Int := if 0 < b then 1 else if c / 8 % 2 = 1 then 3 else 2
def sFs (c : Int) : Int := sm (sFo c) (sBl c)
def sOff (o b : Int) : Int := if b = 0 then 0 else if o = 3 then 2 else if o = 2 ∧ b = 1 then -2 else -1
def sFa (c t : Int) : Int := sm (fun b => if sOff (c / 16 % 4) b = t then sFo c b else 0) (sBl c)
def sOf (h a o : Int) : Int := 1 + 2 * h + 8 * a + 16 * o
def sTl (c : Int) : Int := 1 + b2 (c / 8 % 2 = 1) + b2 (¬ c / 16 % 4 = 0)
def sHs (h : Int) : Int := if h = 2 then 120 else if h = 0 then 82 else 76
def sSg (c p : Int) : Int :=
  if c = 0 then 46 else
  let p1 := if c / 8 % 2 = 1 then p - 1 else p
  if c / 8 % 2 = 1 ∧ p = 0 then 62 else
  if (c / 16 % 4 = 1 ∨ c / 16 % 4 = 2) ∧ p1 = 0 then (if c / 16 % 4 = 1 then 102 else 100) else
  let p2 := if c / 16 % 4 = 1 ∨ c / 16 % 4 = 2 then p1 - 1 else p1
  if p2 = 0 then sHs (c / 2 % 4) else 42
theorem bit_and8 {c : Int} (h : 0 ≤ c ∧ c < 64) : iJ c &&& iJ 8 = iJ (8 * (c / 8 % 2)) := by
  obtain ⟨n, rfl⟩ := Int.eq_ofNat_of_zero_le h.1
  have hn : n < 64 := by omega
  have := (by decide +kernel : ∀ n : Nat, n < 64 → iJ (n : Int) &&& iJ 8 = iJ (8 * ((n : Int) / 8 % 2))) n hn
  exact this
theorem bit_sl1 {a : Int} (h : 0 ≤ a ∧ a < 4) : iJ a <<< (iJ 1 &&& 31) = iJ (a * 2) := by
  rcases (by omega : a = 0 ∨ a = 1 ∨ a = 2 ∨ a = 3) with rfl | rfl | rfl | rfl <;> decide
theorem bit_sl4 {a : Int} (h : 0 ≤ a ∧ a < 4) : iJ a <<< (iJ 4 &&& 31) = iJ (a * 16) := by
  rcases (by omega : a = 0 ∨ a = 1 ∨ a = 2 ∨ a = 3) with rfl | rfl | rfl | rfl <;> decide
theorem bit_or1 {a : Int} (h : 0 ≤ a ∧ a < 4) : iJ 1 ||| iJ (a * 2) = iJ (1 + a * 2) := by
  rcases (by omega : a = 0 ∨ a = 1 ∨ a = 2 ∨ a = 3) with rfl | rfl | rfl | rfl <;> decide
theorem bit_or2 {a o : Int} (h : 0 ≤ a ∧ a < 4) (ho : 0 ≤ o ∧ o < 4) : iJ (1 + a * 2) ||| iJ (o * 16) = iJ (1 + a * 2 + o * 16) := by
  rcases (by omega : a = 0 ∨ a = 1 ∨ a = 2 ∨ a = 3) with rfl | rfl | rfl | rfl <;> rcases (by omega : o = 0 ∨ o = 1 ∨ o = 2 ∨ o = 3) with rfl | rfl | rfl | rfl <;> decide
theorem bit_or8 {a o : Int} (h : 0 ≤ a ∧ a < 4) (ho : 0 ≤ o ∧ o < 4) : iJ (1 + a * 2 + o * 16) ||| iJ 8 = iJ (1 + a * 2 + o * 16 + 8) := by
  rcases (by omega : a = 0 ∨ a = 1 ∨ a = 2 ∨ a = 3) with rfl | rfl | rfl | rfl <;> rcases (by omega : o = 0 ∨ o = 1 ∨ o = 2 ∨ o = 3) with rfl | rfl | rfl | rfl <;> decide
theorem sBl_in {c : Int} : 0 ≤ sBl c ∧ sBl c ≤ 3 := by unfold sBl sBo; repeat' split <;> omega
theorem sFo_in {c b : Int} : 1 ≤ sFo c b ∧ sFo c b ≤ 3 := by unfold sFo; repeat' split <;> omega
theorem sFs_in {c : Int} : 0 ≤ sFs c ∧ sFs c ≤ 9 := by
  have h := sBl_in (c := c)
  have := sm_le (f := sFo c) (c := 3) (k := sBl c) h.1 (fun j _ _ => ⟨by have := sFo_in (c := c) (b := j); omega, (sFo_in (c := c) (b := j)).2⟩)
  unfold sFs; omega
theorem sTl_in {c : Int} : 1 ≤ sTl c ∧ sTl c ≤ 3 := by unfold sTl b2; repeat' split <;> omega
theorem sOff_in {o b : Int} : -2 ≤ sOff o b ∧ sOff o b ≤ 2 := by unfold sOff; repeat' split <;> omega
def pAt (g : Int → Int) (n a : Int) : Int := if 0 ≤ a ∧ a < n then g a else 0
def pIn (g : Int → Int) (n p v : Int) : Int → Int := fun j => if j = p then v else if p < j ∧ j ≤ n then g (j - 1) else g j
def pRm (g : Int → Int) (n f t : Int) : Int → Int := fun j => if f ≤ j ∧ j + (t - f + 1) < n then g (j + (t - f + 1)) else g j
def pCp (g g2 : Int → Int) (n : Int) : Int → Int := fun j => if 0 ≤ j ∧ j < n then g2 j else g j
def lrN (g : Int → Int) : Nat → Int × Int
  | 0 => (0, 0)
  | n + 1 => (if (lrN g n).1 < (if g n = 0 then 0 else (lrN g n).2 + 1) then (if g n = 0 then 0 else (lrN g n).2 + 1) else (lrN g n).1, if g n = 0 then 0 else (lrN g n).2 + 1)
def lrL (g : Int → Int) (k : Int) : Int := (lrN g k.toNat).1
def lrR (g : Int → Int) (k : Int) : Int := (lrN g k.toNat).2
theorem lrR_s (g : Int → Int) {k : Int} (h : 0 ≤ k) : lrR g (k + 1) = if g k = 0 then 0 else lrR g k + 1 := by
  unfold lrR
  have e : (k + 1).toNat = k.toNat + 1 := by omega
  rw [e]; show (if g (k.toNat : Int) = 0 then 0 else (lrN g k.toNat).2 + 1) = _
  rw [Int.toNat_of_nonneg h]
theorem lrL_s (g : Int → Int) {k : Int} (h : 0 ≤ k) : lrL g (k + 1) = if lrL g k < lrR g (k + 1) then lrR g (k + 1) else lrL g k := by
  rw [lrR_s g h]
  unfold lrL lrR
  have e : (k + 1).toNat = k.toNat + 1 := by omega
  rw [e]; show (if (lrN g k.toNat).1 < (if g (k.toNat : Int) = 0 then 0 else (lrN g k.toNat).2 + 1) then (if g (k.toNat : Int) = 0 then 0 else (lrN g k.toNat).2 + 1) else (lrN g k.toNat).1) = _
  rw [Int.toNat_of_nonneg h]
def sgF (g : Int → Int) : Nat → Int → Int → Int
  | 0, _, _ => -4
  | r + 1, k, p => if p < sTl (g k) then sSg (g k) p else sgF g r (k + 1) (p - sTl (g k))
