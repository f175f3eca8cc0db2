/-! words of the model's calls -/
def rcK (kp : Int) : Int := if kp < 4 then kp + 1 else 4
def rcH (s h : Int → Int) (kp : Int) : Int → Int := fun j => if kp < 4 then (if 34 * kp ≤ j ∧ j < 34 * kp + 34 then s (j - 34 * kp) else h j) else (if 0 ≤ j ∧ j < 102 then h (j + 34) else if 102 ≤ j ∧ j < 136 then s (j - 102) else h j)
def mpI (s : Int → Int) (a v : Int) : Int → Int := fun i => if i = 0 then s 0 + 1 else if i = 2 + a then v else if 2 + a < i ∧ i ≤ 2 + s 0 then s (i - 1) else s i
def mcU (s : Int → Int) (a b : Int) : Int → Int := fun i => if i = 0 then s 0 - (b - a + 1) else if 2 + a ≤ i ∧ i < 2 + s 0 - (b - a + 1) then s (i + (b - a + 1)) else if 2 + s 0 - (b - a + 1) ≤ i ∧ i < 2 + s 0 then 0 else s i
def mpS (F : Int → Int → Int) (s : Int → Int) (n : Int) : Int → Int := fun i => if 2 ≤ i ∧ i < 2 + n then F (i - 2) (s i) else s i
theorem mpS_0 (F : Int → Int → Int) (s : Int → Int) : s = mpS F s 0 := by
  funext j; unfold mpS; rw [if_neg (show ¬ (2 ≤ j ∧ j < 2 + 0) by omega)]
theorem mpS_s1 (F : Int → Int → Int) (s : Int → Int) {k v : Int} (h : 0 ≤ k) (hv : v = F k (s (2 + k))) : uJ (mpS F s k) (2 + k) v = mpS F s (k + 1) := by
  funext j; by_cases q : j = 2 + k
  · subst q; rw [uJ_s, hv]; unfold mpS; rw [if_pos (show 2 ≤ 2 + k ∧ 2 + k < 2 + (k + 1) by omega), show 2 + k - 2 = k by omega]
  · rw [uJ_n q]; unfold mpS; by_cases q2 : 2 ≤ j ∧ j < 2 + k
    · rw [if_pos q2, if_pos (show 2 ≤ j ∧ j < 2 + (k + 1) by omega)]
    · rw [if_neg q2, if_neg (show ¬ (2 ≤ j ∧ j < 2 + (k + 1)) by omega)]
theorem mpS_s0 (F : Int → Int → Int) (s : Int → Int) {k : Int} (h : 0 ≤ k) (hv : s (2 + k) = F k (s (2 + k))) : mpS F s k = mpS F s (k + 1) := by
  rw [← mpS_s1 F s h hv]; funext j; by_cases q : j = 2 + k
  · subst q; rw [uJ_s]; unfold mpS; rw [if_neg (show ¬ (2 ≤ 2 + k ∧ 2 + k < 2 + k) by omega)]
  · rw [uJ_n q]
theorem mpS_at {F : Int → Int → Int} {s : Int → Int} {k : Int} : mpS F s k (2 + k) = s (2 + k) := by
  unfold mpS; rw [if_neg (show ¬ (2 ≤ 2 + k ∧ 2 + k < 2 + k) by omega)]
theorem mpS_n {F : Int → Int → Int} {s : Int → Int} {k : Int} : mpS F s k 0 = s 0 ∧ mpS F s k 1 = s 1 := by
  unfold mpS; rw [if_neg (show ¬ (2 ≤ (0 : Int) ∧ (0 : Int) < 2 + k) by omega), if_neg (show ¬ (2 ≤ (1 : Int) ∧ (1 : Int) < 2 + k) by omega)]; exact ⟨rfl, rfl⟩
def miM (c : Int) : Int := if ¬ c = 0 ∧ ¬ (c - 1) % 3 = 2 then 1 + (1 - (c - 1) % 3) + 3 * mAc c + 6 * mOr c else c
def leM (d c : Int) : Int := if mOr c = (if d = 0 then 2 else 1) then 1 + (c - 1) % 3 + 3 * mAc c + 6 * (3 - (if d = 0 then 2 else 1)) else c
def deM (hd : Int → Int) (j c : Int) : Int := if ¬ c = 0 ∧ (c - 1) % 3 = 2 then 1 + hd j + 3 * mAc c + 6 * mOr c else c
def mpN (p : Int → Int) : Nat → Int → Int
  | 0, k => if k = 0 then 0 else -4
  | r + 1, k => if mHf (p k) = -4 ∧ ¬ p k = 46 then k else mpN p r (k + 1)
def lmN (s : Int → Int) : Nat → Int × Int
  | 0 => (0, 0)
  | n + 1 => (if (lmN s n).1 < (if s (2 + n) = 0 then 0 else (lmN s n).2 + 1) then (if s (2 + n) = 0 then 0 else (lmN s n).2 + 1) else (lmN s n).1, if s (2 + n) = 0 then 0 else (lmN s n).2 + 1)
def lmL (s : Int → Int) (k : Int) : Int := (lmN s k.toNat).1
def lmR (s : Int → Int) (k : Int) : Int := (lmN s k.toNat).2
theorem lmR_s (s : Int → Int) {k : Int} (h : 0 ≤ k) : lmR s (k + 1) = if s (2 + k) = 0 then 0 else lmR s k + 1 := by
  unfold lmR
  have e : (k + 1).toNat = k.toNat + 1 := by omega
  rw [e]; show (if s (2 + (k.toNat : Int)) = 0 then 0 else (lmN s k.toNat).2 + 1) = _
  rw [Int.toNat_of_nonneg h]
theorem lmL_s (s : Int → Int) {k : Int} (h : 0 ≤ k) : lmL s (k + 1) = if lmL s k < lmR s (k + 1) then lmR s (k + 1) else lmL s k := by
  rw [lmR_s s h]
  unfold lmL lmR
  have e : (k + 1).toNat = k.toNat + 1 := by omega
  rw [e]; show (if (lmN s k.toNat).1 < (if s (2 + (k.toNat : Int)) = 0 then 0 else (lmN s k.toNat).2 + 1) then (if s (2 + (k.toNat : Int)) = 0 then 0 else (lmN s k.toNat).2 + 1) else (lmN s k.toNat).1) = _
  rw [Int.toNat_of_nonneg h]
def mHs (c : Int) : Int := if (c - 1) % 3 = 0 then 82 else if (c - 1) % 3 = 1 then 76 else 120
def mSg (c p : Int) : Int :=
  if c = 0 then 46 else
  if p < mAc c then 62 else
  if p = mAc c ∧ (mOr c = 1 ∨ mOr c = 2) then (if mOr c = 1 then 102 else 100) else
  if p = mAc c + b2 (mOr c = 1 ∨ mOr c = 2) then mHs c else 42
theorem mTl_in {c : Int} : 1 ≤ mTl c ∧ mTl c ≤ 4 := by unfold mTl b2; (repeat' split) <;> omega
def sgM (s : Int → Int) : Nat → Int → Int → Int
  | 0, _, _ => -4
  | r + 1, k, p => if p < mTl (s (2 + k)) then mSg (s (2 + k)) p else sgM s r (k + 1) (p - mTl (s (2 + k)))
/-- a clash of a step with the one before it, by the steps' own hands -/
abbrev mCs (s : Int → Int) (k : Int) : Prop := (¬ s (2 + (k - 1)) = 0 ∧ ¬ s (2 + k) = 0) ∧ ¬ mCl (s 1) (s (2 + (k - 1))) ((s (2 + (k - 1)) - 1) % 3) (s (2 + k)) ((s (2 + k) - 1) % 3) = 0
def mCf (s : Int → Int) : Nat → Int → Int
  | 0, _ => -4
  | r + 1, k => if mCs s k then k else mCf s r (k + 1)
def mSu (s : Int → Int) (w c : Int) : Int := if w = 0 then mAc c else if w = 4 then mBl c else if w = 5 then mFs c else if w = 6 then mTl c else b2 (mOr c = w)
def mHe (s : Int → Int) (t j : Int) : Int := if (j % 3 < mBl (s (2 + j / 3))) ∧ 4 * (j / 3) + mTi (s (2 + j / 3)) (j % 3) = t then mFo (s (2 + j / 3)) (j % 3) else 0
theorem mCl_01 (q c1 h1 c2 h2 : Int) : mCl q c1 h1 c2 h2 = 0 ∨ mCl q c1 h1 c2 h2 = 1 := mCk_01 _ _ _ _ _ _
