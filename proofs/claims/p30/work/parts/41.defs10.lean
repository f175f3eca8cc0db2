/-! words of the model's later calls -/
def qkN (s : Int → Int) : Nat → Int
  | 0 => -4
  | k + 1 => if lsS (uJ s 1 ((k : Int) + 1)) (-4) 0 2 < 1000 then (k : Int) + 1 else qkN s k
theorem qkN_s (s : Int → Int) {k : Int} (h : 1 ≤ k) : qkN s k.toNat = if lsS (uJ s 1 k) (-4) 0 2 < 1000 then k else qkN s (k - 1).toNat := by
  have e : k.toNat = (k - 1).toNat + 1 := by omega
  have e2 : (((k - 1).toNat : Nat) : Int) + 1 = k := by omega
  rw [e]; show (if lsS (uJ s 1 ((((k - 1).toNat : Nat) : Int) + 1)) (-4) 0 2 < 1000 then (((k - 1).toNat : Nat) : Int) + 1 else _) = _
  rw [e2]
theorem qkN_in (s : Int → Int) : ∀ k : Nat, -4 ≤ qkN s k ∧ (qkN s k ≤ k)
  | 0 => by show (-4 : Int) ≤ -4 ∧ (-4 : Int) ≤ 0; omega
  | k + 1 => by
    have ih := qkN_in s k
    have e : qkN s (k + 1) = if lsS (uJ s 1 ((k : Int) + 1)) (-4) 0 2 < 1000 then (k : Int) + 1 else qkN s k := rfl
    rw [e]; split <;> omega
theorem uJ_bk {G s : Int → Int} (h : ∀ v : Int, uJ G 1 v = uJ s 1 v) : uJ G 1 (s 1) = s := by
  rw [h]; funext j; by_cases z : j = 1
  · subst z; rw [uJ_s]
  · rw [uJ_n z]
abbrev cmS (s hd p : Int → Int) (a k : Int) : Prop := (mHf (p k) = -4 ∧ s (2 + (a + k)) = 0) ∨ (¬ mHf (p k) = -4 ∧ ¬ s (2 + (a + k)) = 0 ∧ (mHf (p k) = 2 ∨ mHf (p k) = hd (a + k)))
def cmN (s hd p : Int → Int) (a : Int) : Nat → Int → Int
  | 0, _ => 1
  | r + 1, k => if cmS s hd p a k then cmN s hd p a r (k + 1) else 0
def cmV (s hd p : Int → Int) (pn a : Int) : Int := if a + pn ≤ s 0 then cmN s hd p a pn.toNat 0 else 0
theorem cmN_s (s hd p : Int → Int) (a : Int) {m k : Int} (h : k < m) : cmN s hd p a (m - k).toNat k = if cmS s hd p a k then cmN s hd p a (m - (k + 1)).toNat (k + 1) else 0 := by
  have e : (m - k).toNat = (m - (k + 1)).toNat + 1 := by omega
  rw [e]; rfl
theorem cmN_01 (s hd p : Int → Int) (a : Int) : ∀ (r : Nat) (k : Int), cmN s hd p a r k = 0 ∨ cmN s hd p a r k = 1
  | 0, _ => Or.inr rfl
  | r + 1, k => by
    have ih := cmN_01 s hd p a r (k + 1)
    have e : cmN s hd p a (r + 1) k = if cmS s hd p a k then cmN s hd p a r (k + 1) else 0 := rfl
    rw [e]; split
    · exact ih
    · exact Or.inl rfl
theorem cmV_01 (s hd p : Int → Int) (pn a : Int) : cmV s hd p pn a = 0 ∨ cmV s hd p pn a = 1 := by
  unfold cmV; split
  · exact cmN_01 s hd p a _ _
  · exact Or.inl rfl
theorem cmN_cg {s h1 h2 p : Int → Int} {a : Int} (h : ∀ j : Int, 0 ≤ j → j < s 0 → ¬ s (2 + j) = 0 → h1 j = h2 j) : ∀ (r : Nat) (k : Int), 0 ≤ a + k → a + k + r ≤ s 0 → cmN s h1 p a r k = cmN s h2 p a r k
  | 0, _, _, _ => rfl
  | r + 1, k, h0, hr => by
    have ih := cmN_cg (p := p) (a := a) h r (k + 1) (by omega) (by omega)
    have e : ∀ x : Int → Int, cmN s x p a (r + 1) k = if cmS s x p a k then cmN s x p a r (k + 1) else 0 := fun _ => rfl
    rw [e, e, ih]
    have i : cmS s h1 p a k ↔ cmS s h2 p a k := by
      constructor
      · rintro (z | ⟨z1, z2, z3⟩)
        · exact Or.inl z
        · exact Or.inr ⟨z1, z2, by rw [← h (a + k) h0 (by omega) z2]; exact z3⟩
      · rintro (z | ⟨z1, z2, z3⟩)
        · exact Or.inl z
        · exact Or.inr ⟨z1, z2, by rw [h (a + k) h0 (by omega) z2]; exact z3⟩
    by_cases z : cmS s h1 p a k
    · rw [if_pos z, if_pos (i.mp z)]
    · rw [if_neg z, if_neg (fun y => z (i.mpr y))]
theorem cmV_cg {s h1 h2 p : Int → Int} {pn a : Int} (ha : 0 ≤ a) (hp : 0 ≤ pn) (h : ∀ j : Int, 0 ≤ j → j < s 0 → ¬ s (2 + j) = 0 → h1 j = h2 j) : cmV s h1 p pn a = cmV s h2 p pn a := by
  unfold cmV; by_cases z : a + pn ≤ s 0
  · rw [if_pos z, if_pos z]; exact cmN_cg h _ _ (by omega) (by omega)
  · rw [if_neg z, if_neg z]
theorem mpN_b {p : Int → Int} : ∀ (r : Nat) (k : Int), 0 ≤ k → k + r ≤ 60 → -4 ≤ mpN p r k ∧ mpN p r k ≤ 60
  | 0, k, _, _ => by
    show (-4 : Int) ≤ (if k = 0 then 0 else -4) ∧ (if k = 0 then 0 else -4 : Int) ≤ 60
    split <;> omega
  | r + 1, k, h0, hr => by
    have ih := mpN_b (p := p) r (k + 1) (by omega) (by omega)
    have e : mpN p (r + 1) k = if mHf (p k) = -4 ∧ ¬ p k = 46 then k else mpN p r (k + 1) := rfl
    rw [e]; split
    · omega
    · exact ih
theorem mpN_in {p : Int → Int} {r : Nat} {k : Int} (h0 : 0 ≤ k) (hr : k + r ≤ 60) : jb (mpN p r k) := by
  have := mpN_b (p := p) r k h0 hr
  exact ⟨by omega, by omega⟩
def cpS (s n : Int → Int) : Int → Int := fun j => if 0 ≤ j ∧ j < 34 then n j else s j
def coM (s : Int → Int) (pn kp w : Int) : Int :=
  if w = 0 then s 0 else
  if w = 1 then s 0 - sm (fun j => b2 (¬ s (2 + j) = 0 ∧ (s (2 + j) - 1) % 3 = 0)) (s 0) - sm (fun j => b2 (¬ s (2 + j) = 0 ∧ (s (2 + j) - 1) % 3 = 1)) (s 0) - sm (fun j => b2 (¬ s (2 + j) = 0 ∧ (s (2 + j) - 1) % 3 = 2)) (s 0) else
  if 2 ≤ w ∧ w ≤ 4 then sm (fun j => b2 (¬ s (2 + j) = 0 ∧ (s (2 + j) - 1) % 3 = w - 2)) (s 0) else
  if 5 ≤ w ∧ w ≤ 10 then sm (fun j => mSu s (w - 5) (s (2 + j))) (s 0) else
  if w = 11 then s 1 else if w = 12 then lmL s (s 0) else if w = 14 then pn else if w = 15 then kp else -1
theorem mSu_in {s : Int → Int} {w c : Int} : 0 ≤ mSu s w c ∧ mSu s w c ≤ 9 := by
  have h1 := mAc_in (c := c)
  have h2 := mBl_in (c := c)
  have h3 := mFs_in (c := c)
  have h4 := mTl_in (c := c)
  have h5 := b2_01 (mOr c = w)
  unfold mSu; (repeat' split) <;> omega
/-- what is told -/
def teS (u : (Int → Int) × Int) (v : Int) : (Int → Int) × Int := if u.2 ≤ 32 then (uJ u.1 u.2 v, u.2 + 1) else u
def rpI : Nat → Int → (Int → Int) × Int → (Int → Int) × Int
  | 0, _, u => u
  | r + 1, k, u => rpI r (k + 1) (teS u (u.1 k))
def rpO (a n : Int) : Nat → (Int → Int) × Int → (Int → Int) × Int
  | 0, u => u
  | r + 1, u => rpO a n r (rpI (n - a).toNat a u)
theorem rpI_s (u : (Int → Int) × Int) {n k : Int} (h : k < n) : rpI (n - k).toNat k u = rpI (n - (k + 1)).toNat (k + 1) (teS u (u.1 k)) := by
  have e : (n - k).toNat = (n - (k + 1)).toNat + 1 := by omega
  rw [e]; rfl
theorem rpO_s (u : (Int → Int) × Int) {a n b j : Int} (h : j < b) : rpO a n (b - j).toNat u = rpO a n (b - (j + 1)).toNat (rpI (n - a).toNat a u) := by
  have e : (b - j).toNat = (b - (j + 1)).toNat + 1 := by omega
  rw [e]; rfl
theorem teS_in {u : (Int → Int) × Int} {v : Int} (h : 0 ≤ u.2 ∧ u.2 ≤ 33) : (0 ≤ (teS u v).2 ∧ (teS u v).2 ≤ 33) ∧ u.2 ≤ (teS u v).2 := by
  unfold teS; split
  · show (0 ≤ u.2 + 1 ∧ u.2 + 1 ≤ 33) ∧ u.2 ≤ u.2 + 1; omega
  · omega
def nxV (p : Int → Int) (pn a : Int) : Int := if a < pn then p a else 0
theorem nxV_f {p : Int → Int} {pn : Int} (h : ∀ j : Int, 0 ≤ j → j < pn → 33 ≤ p j ∧ p j ≤ 126) (a : Int) (ha : 0 ≤ a) : (0 ≤ nxV p pn a ∧ nxV p pn a ≤ 126) ∧ (nxV p pn a = 0 ∨ a < pn) := by
  unfold nxV; by_cases z : a < pn
  · rw [if_pos z]; have := h a ha z; omega
  · rw [if_neg z]; omega
theorem mHf_f (c : Int) : (-4 ≤ mHf c ∧ mHf c ≤ 2) ∧ (mHf c = -4 ∨ (0 ≤ mHf c ∧ 76 ≤ c)) := by
  unfold mHf; (repeat' split) <;> omega
/-- the model's reader -/
def rdM (p : Int → Int) (pn : Int) : Nat → Int → Int → Int → (Int → Int) × Int → (Int → Int) → (Int → Int) → Int × ((Int → Int) × Int)
  | 0, _, _, _, u, _, _ => (0, u)
  | r + 1, k, d, f, u, B, X =>
    if ¬ k < pn then (if 0 < d ∨ f = 0 then pn else -4, u) else
    if p k = 46 then rdM p pn r (k + 1) d 1 (teS u 0) B X else
    if 50 ≤ p k ∧ p k ≤ 57 then (if nxV p pn (k + 1) = 40 then rdM p pn r (k + 2) (d + 1) 0 u (uJ B d u.2) (uJ X d (p k - 48)) else (k + 1, u)) else
    if p k = 41 then (if d = 0 ∨ f = 0 then (k, u) else rdM p pn r (k + 1) (d + -1) f (rpO (B (d + -1)) u.2 (X (d + -1) - 1).toNat u) B X) else
    let a := if p k = 62 then 1 else 0
    let o := if nxV p pn (k + a) = 102 then 1 else if nxV p pn (k + a) = 100 then 2 else 0
    let y := if 0 < o then 1 else 0
    if mHf (nxV p pn (k + a + y)) = -4 then (k + a + y, u) else
    let m := if o = 0 ∧ nxV p pn (k + a + y + 1) = 42 then 1 else 0
    rdM p pn r (k + a + y + 1 + m) d 1 (teS u (1 + mHf (nxV p pn (k + a + y)) + 3 * a + 6 * (if m = 1 then 3 else o))) B X
section
variable {p : Int → Int} {pn r k d f : Int} {u : (Int → Int) × Int} {B X : Int → Int}
theorem rdM_end (hr : 0 < r) (hk : ¬ k < pn) : rdM p pn r.toNat k d f u B X = (if 0 < d ∨ f = 0 then pn else -4, u) := by
  rw [show r.toNat = (r - 1).toNat + 1 by omega]; exact if_pos hk
theorem rdM_46 (hr : 0 < r) (hk : k < pn) (h : p k = 46) : rdM p pn r.toNat k d f u B X = rdM p pn (r - 1).toNat (k + 1) d 1 (teS u 0) B X := by
  rw [show r.toNat = (r - 1).toNat + 1 by omega]; exact (if_neg (fun z => z hk)).trans (if_pos h)
theorem rdM_num (hr : 0 < r) (hk : k < pn) (h46 : ¬ p k = 46) (h : 50 ≤ p k ∧ p k ≤ 57) (h2 : nxV p pn (k + 1) = 40) : rdM p pn r.toNat k d f u B X = rdM p pn (r - 1).toNat (k + 2) (d + 1) 0 u (uJ B d u.2) (uJ X d (p k - 48)) := by
  rw [show r.toNat = (r - 1).toNat + 1 by omega]; exact (((if_neg (fun z => z hk)).trans (if_neg h46)).trans (if_pos h)).trans (if_pos h2)
theorem rdM_nuB (hr : 0 < r) (hk : k < pn) (h46 : ¬ p k = 46) (h : 50 ≤ p k ∧ p k ≤ 57) (h2 : ¬ nxV p pn (k + 1) = 40) : rdM p pn r.toNat k d f u B X = (k + 1, u) := by
  rw [show r.toNat = (r - 1).toNat + 1 by omega]; exact (((if_neg (fun z => z hk)).trans (if_neg h46)).trans (if_pos h)).trans (if_neg h2)
theorem rdM_cl (hr : 0 < r) (hk : k < pn) (h46 : ¬ p k = 46) (hn : ¬ (50 ≤ p k ∧ p k ≤ 57)) (h : p k = 41) (h2 : ¬ (d = 0 ∨ f = 0)) : rdM p pn r.toNat k d f u B X = rdM p pn (r - 1).toNat (k + 1) (d + -1) f (rpO (B (d + -1)) u.2 (X (d + -1) - 1).toNat u) B X := by
  rw [show r.toNat = (r - 1).toNat + 1 by omega]; exact ((((if_neg (fun z => z hk)).trans (if_neg h46)).trans (if_neg hn)).trans (if_pos h)).trans (if_neg h2)
theorem rdM_clB (hr : 0 < r) (hk : k < pn) (h46 : ¬ p k = 46) (hn : ¬ (50 ≤ p k ∧ p k ≤ 57)) (h : p k = 41) (h2 : d = 0 ∨ f = 0) : rdM p pn r.toNat k d f u B X = (k, u) := by
  rw [show r.toNat = (r - 1).toNat + 1 by omega]; exact ((((if_neg (fun z => z hk)).trans (if_neg h46)).trans (if_neg hn)).trans (if_pos h)).trans (if_pos h2)
theorem rdM_st (a o y m o2 : Int) (hr : 0 < r) (hk : k < pn) (h46 : ¬ p k = 46) (hn : ¬ (50 ≤ p k ∧ p k ≤ 57)) (h41 : ¬ p k = 41) (ha : a = if p k = 62 then 1 else 0) (ho : o = if nxV p pn (k + a) = 102 then 1 else if nxV p pn (k + a) = 100 then 2 else 0) (hy : y = if 0 < o then 1 else 0) (hh : ¬ mHf (nxV p pn (k + a + y)) = -4) (hm : m = if o = 0 ∧ nxV p pn (k + a + y + 1) = 42 then 1 else 0) (ho2 : o2 = if m = 1 then 3 else o) : rdM p pn r.toNat k d f u B X = rdM p pn (r - 1).toNat (k + a + y + 1 + m) d 1 (teS u (1 + mHf (nxV p pn (k + a + y)) + 3 * a + 6 * o2)) B X := by
  subst ho2; subst hm; subst hy; subst ho; subst ha
  rw [show r.toNat = (r - 1).toNat + 1 by omega]; exact ((((if_neg (fun z => z hk)).trans (if_neg h46)).trans (if_neg hn)).trans (if_neg h41)).trans (if_neg hh)
theorem rdM_stB (a o y : Int) (hr : 0 < r) (hk : k < pn) (h46 : ¬ p k = 46) (hn : ¬ (50 ≤ p k ∧ p k ≤ 57)) (h41 : ¬ p k = 41) (ha : a = if p k = 62 then 1 else 0) (ho : o = if nxV p pn (k + a) = 102 then 1 else if nxV p pn (k + a) = 100 then 2 else 0) (hy : y = if 0 < o then 1 else 0) (hh : mHf (nxV p pn (k + a + y)) = -4) : rdM p pn r.toNat k d f u B X = (k + a + y, u) := by
  subst hy; subst ho; subst ha
  rw [show r.toNat = (r - 1).toNat + 1 by omega]; exact ((((if_neg (fun z => z hk)).trans (if_neg h46)).trans (if_neg hn)).trans (if_neg h41)).trans (if_pos hh)
end
theorem rpI_in : ∀ (r : Nat) (k : Int) {u : (Int → Int) × Int}, 0 ≤ u.2 ∧ u.2 ≤ 33 → 0 ≤ (rpI r k u).2 ∧ (rpI r k u).2 ≤ 33
  | 0, _, _, h => h
  | r + 1, k, u, h => rpI_in r (k + 1) (teS_in h).1
theorem rpO_in {a n : Int} : ∀ (r : Nat) {u : (Int → Int) × Int}, 0 ≤ u.2 ∧ u.2 ≤ 33 → 0 ≤ (rpO a n r u).2 ∧ (rpO a n r u).2 ≤ 33
  | 0, _, h => h
  | r + 1, u, h => rpO_in r (rpI_in _ _ h)
