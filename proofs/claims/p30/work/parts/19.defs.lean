abbrev vwCl : List vw_C := [(RX0, TX0, 2), (RX1, TX1, 2), (RX2, TX2, 3), (RX3, TX3, 7), (RX4, TX4, 2), (RX6, TX6, 9)]
/-! pure words over Int -/
def smN (f : Int → Int) : Nat → Int
  | 0 => 0
  | n + 1 => smN f n + f n
def sm (f : Int → Int) (k : Int) : Int := smN f k.toNat
theorem sm_0 (f : Int → Int) : sm f 0 = 0 := rfl
theorem sm_s (f : Int → Int) {k : Int} (h : 0 ≤ k) : sm f (k + 1) = sm f k + f k := by
  unfold sm
  have e : (k + 1).toNat = k.toNat + 1 := by omega
  rw [e]; show smN f k.toNat + f (k.toNat : Int) = _
  rw [Int.toNat_of_nonneg h]
theorem smN_cg {f g : Int → Int} : ∀ n : Nat, (∀ j : Int, 0 ≤ j → j < n → f j = g j) → smN f n = smN g n
  | 0, _ => rfl
  | n + 1, h => by
    show smN f n + f n = smN g n + g n
    rw [smN_cg n (fun j h1 h2 => h j h1 (by omega)), h n (by omega) (by omega)]
theorem sm_cg {f g : Int → Int} {k : Int} (h : ∀ j : Int, 0 ≤ j → j < k → f j = g j) : sm f k = sm g k := smN_cg _ (fun j h1 h2 => h j h1 (by omega))
theorem smN_le {f : Int → Int} {c : Int} : ∀ n : Nat, (∀ j : Int, 0 ≤ j → j < n → 0 ≤ f j ∧ f j ≤ c) → 0 ≤ smN f n ∧ smN f n ≤ c * n
  | 0, _ => ⟨Int.le_refl _, by simp [smN]⟩
  | n + 1, h => by
    have h1 := smN_le n (fun j h1 h2 => h j h1 (by omega))
    have h2 := h n (by omega) (by omega)
    have e : c * ((n + 1 : Nat) : Int) = c * n + c := by rw [Int.natCast_add, Int.mul_add]; simp
    exact ⟨by show 0 ≤ smN f n + f n; omega, by show smN f n + f n ≤ _; omega⟩
theorem sm_le {f : Int → Int} {c k : Int} (hk : 0 ≤ k) (h : ∀ j : Int, 0 ≤ j → j < k → 0 ≤ f j ∧ f j ≤ c) : 0 ≤ sm f k ∧ sm f k ≤ c * k := by
  have := smN_le (f := f) (c := c) k.toNat (fun j h1 h2 => h j h1 (by omega))
  rwa [Int.toNat_of_nonneg hk] at this
def sBo (o : Int) : Int := if o = 0 then 1 else if o = 2 then 3 else 2
def sBl (c : Int) : Int := if c = 0 then 0 else sBo (c / 16 % 4)
def sFo (c b : Int) : Int := if 0 < b then 1 else if c / 8 % 2 = 1 then 3 else 2
def sFs (c : Int) : Int := sm (sFo c) (sBl c)
def sOff (o b : Int) : Int := if b = 0 then 0 else if o = 3 then 2 else if o = 2 ∧ b = 1 then -2 else -1
def sFa (c t : Int) : Int := sm (fun b => if sOff (c / 16 % 4) b = t then sFo c b else 0) (sBl c)
def sOf (h a o : Int) : Int := 1 + 2 * h + 8 * a + 16 * o
def sTl (c : Int) : Int := 1 + b2 (c / 8 % 2 = 1) + b2 (¬ c / 16 % 4 = 0)
def sHs (h : Int) : Int := if h = 2 then 120 else if h = 0 then 82 else 76
def sSg (c p : Int) : Int :=
  if c = 0 then 46 else
  let p1 := if c / 8 % 2 = 1 then p - 1 else p
  if c / 8 % 2 = 1 ∧ p = 0 then 62 else
  if (c / 16 % 4 = 1 ∨ c / 16 % 4 = 2) ∧ p1 = 0 then (if c / 16 % 4 = 1 then 102 else 100) else
  let p2 := if c / 16 % 4 = 1 ∨ c / 16 % 4 = 2 then p1 - 1 else p1
  if p2 = 0 then sHs (c / 2 % 4) else 42
theorem bit_and8 {c : Int} (h : 0 ≤ c ∧ c < 64) : iJ c &&& iJ 8 = iJ (8 * (c / 8 % 2)) := by
  obtain ⟨n, rfl⟩ := Int.eq_ofNat_of_zero_le h.1
  have hn : n < 64 := by omega
  have := (by decide +kernel : ∀ n : Nat, n < 64 → iJ (n : Int) &&& iJ 8 = iJ (8 * ((n : Int) / 8 % 2))) n hn
  exact this
theorem bit_sl1 {a : Int} (h : 0 ≤ a ∧ a < 4) : iJ a <<< (iJ 1 &&& 31) = iJ (a * 2) := by
  rcases (by omega : a = 0 ∨ a = 1 ∨ a = 2 ∨ a = 3) with rfl | rfl | rfl | rfl <;> decide
theorem bit_sl4 {a : Int} (h : 0 ≤ a ∧ a < 4) : iJ a <<< (iJ 4 &&& 31) = iJ (a * 16) := by
  rcases (by omega : a = 0 ∨ a = 1 ∨ a = 2 ∨ a = 3) with rfl | rfl | rfl | rfl <;> decide
theorem bit_or1 {a : Int} (h : 0 ≤ a ∧ a < 4) : iJ 1 ||| iJ (a * 2) = iJ (1 + a * 2) := by
  rcases (by omega : a = 0 ∨ a = 1 ∨ a = 2 ∨ a = 3) with rfl | rfl | rfl | rfl <;> decide
theorem bit_or2 {a o : Int} (h : 0 ≤ a ∧ a < 4) (ho : 0 ≤ o ∧ o < 4) : iJ (1 + a * 2) ||| iJ (o * 16) = iJ (1 + a * 2 + o * 16) := by
  rcases (by omega : a = 0 ∨ a = 1 ∨ a = 2 ∨ a = 3) with rfl | rfl | rfl | rfl <;> rcases (by omega : o = 0 ∨ o = 1 ∨ o = 2 ∨ o = 3) with rfl | rfl | rfl | rfl <;> decide
theorem bit_or8 {a o : Int} (h : 0 ≤ a ∧ a < 4) (ho : 0 ≤ o ∧ o < 4) : iJ (1 + a * 2 + o * 16) ||| iJ 8 = iJ (1 + a * 2 + o * 16 + 8) := by
  rcases (by omega : a = 0 ∨ a = 1 ∨ a = 2 ∨ a = 3) with rfl | rfl | rfl | rfl <;> rcases (by omega : o = 0 ∨ o = 1 ∨ o = 2 ∨ o = 3) with rfl | rfl | rfl | rfl <;> decide
theorem sBl_in {c : Int} : 0 ≤ sBl c ∧ sBl c ≤ 3 := by unfold sBl sBo; repeat' split <;> omega
theorem sFo_in {c b : Int} : 1 ≤ sFo c b ∧ sFo c b ≤ 3 := by unfold sFo; repeat' split <;> omega
theorem sFs_in {c : Int} : 0 ≤ sFs c ∧ sFs c ≤ 9 := by
  have h := sBl_in (c := c)
  have := sm_le (f := sFo c) (c := 3) (k := sBl c) h.1 (fun j _ _ => ⟨by have := sFo_in (c := c) (b := j); omega, (sFo_in (c := c) (b := j)).2⟩)
  unfold sFs; omega
theorem sTl_in {c : Int} : 1 ≤ sTl c ∧ sTl c ≤ 3 := by unfold sTl b2; repeat' split <;> omega
theorem sOff_in {o b : Int} : -2 ≤ sOff o b ∧ sOff o b ≤ 2 := by unfold sOff; repeat' split <;> omega
def pAt (g : Int → Int) (n a : Int) : Int := if 0 ≤ a ∧ a < n then g a else 0
def pIn (g : Int → Int) (n p v : Int) : Int → Int := fun j => if j = p then v else if p < j ∧ j ≤ n then g (j - 1) else g j
def pRm (g : Int → Int) (n f t : Int) : Int → Int := fun j => if f ≤ j ∧ j + (t - f + 1) < n then g (j + (t - f + 1)) else g j
def pCp (g g2 : Int → Int) (n : Int) : Int → Int := fun j => if 0 ≤ j ∧ j < n then g2 j else g j
def lrN (g : Int → Int) : Nat → Int × Int
  | 0 => (0, 0)
  | n + 1 => (if (lrN g n).1 < (if g n = 0 then 0 else (lrN g n).2 + 1) then (if g n = 0 then 0 else (lrN g n).2 + 1) else (lrN g n).1, if g n = 0 then 0 else (lrN g n).2 + 1)
def lrL (g : Int → Int) (k : Int) : Int := (lrN g k.toNat).1
def lrR (g : Int → Int) (k : Int) : Int := (lrN g k.toNat).2
theorem lrR_s (g : Int → Int) {k : Int} (h : 0 ≤ k) : lrR g (k + 1) = if g k = 0 then 0 else lrR g k + 1 := by
  unfold lrR
  have e : (k + 1).toNat = k.toNat + 1 := by omega
  rw [e]; show (if g (k.toNat : Int) = 0 then 0 else (lrN g k.toNat).2 + 1) = _
  rw [Int.toNat_of_nonneg h]
theorem lrL_s (g : Int → Int) {k : Int} (h : 0 ≤ k) : lrL g (k + 1) = if lrL g k < lrR g (k + 1) then lrR g (k + 1) else lrL g k := by
  rw [lrR_s g h]
  unfold lrL lrR
  have e : (k + 1).toNat = k.toNat + 1 := by omega
  rw [e]; show (if (lrN g k.toNat).1 < (if g (k.toNat : Int) = 0 then 0 else (lrN g k.toNat).2 + 1) then (if g (k.toNat : Int) = 0 then 0 else (lrN g k.toNat).2 + 1) else (lrN g k.toNat).1) = _
  rw [Int.toNat_of_nonneg h]
def sgF (g : Int → Int) : Nat → Int → Int → Int
  | 0, _, _ => -4
  | r + 1, k, p => if p < sTl (g k) then sSg (g k) p else sgF g r (k + 1) (p - sTl (g k))
/-! words of pad, reader and player -/
abbrev hsP (c : Int) : Prop := c = 82 ∨ c = 76 ∨ c = 120
def pfN (g : Int → Int) : Nat → Int → Int
  | 0, k => if k = 0 then 0 else -4
  | r + 1, k => if g k = 46 ∨ hsP (g k) then pfN g r (k + 1) else k
def rHd (c : Int) : Int := if c = 120 then 2 else if c = 82 then 0 else 1
def stS (c : Int) : Int := if c = 102 ∨ c = 100 then 4 else if hsP c then 2 else -1
def stI (c : Int) : Int := if c = 46 then 1 else if c = 62 then 3 else if 50 ≤ c ∧ c ≤ 57 then 5 else stS c
def stBI (c d : Int) : Int := if c = 41 then (if 0 < d then 1 else -1) else stI c
def stB (s c d : Int) : Int := if s = 5 then (if c = 40 then 0 else -1) else if s = 4 then (if hsP c then 1 else -1) else if s = 3 then stS c else if s = 2 then (if c = 42 then 1 else stBI c d) else if s = 1 then stBI c d else stI c
def dpS (c d : Int) : Int := if c = 40 then d + 1 else if c = 41 then d - 1 else d
def rfN (g : Int → Int) : Nat → Int → Int → Int → Int
  | 0, k, s, d => if d = 0 ∧ (s = 1 ∨ s = 2) then -4 else k
  | r + 1, k, s, d => if stB s (g k) d = -1 then k else rfN g r (k + 1) (stB s (g k) d) (dpS (g k) d)
theorem stB_in {s c d : Int} : -1 ≤ stB s c d ∧ stB s c d ≤ 5 := by
  unfold stB stBI stI stS; (repeat' split) <;> omega
def nrY (b o al bl k x : Int) : Int := if (if b2 (bl = 0 ∨ b = 3) = b2 (k = 0 ∨ o = 3) then 1 else 0) = al then (if 4 + sOff o k - sOff b bl < x then 4 + sOff o k - sOff b bl else x) else x
def nrI (b o al bl : Int) : Nat → Int → Int
  | 0, x => x
  | k + 1, x => nrY b o al bl k (nrI b o al bl k x)
def nrO (b o al : Int) : Nat → Int
  | 0 => 4
  | k + 1 => nrI b o al k (sBo o).toNat (nrO b o al k)
def nrD (b o al : Int) : Int := nrO b o al (sBo b).toNat
theorem nrI_s (b o al bl x : Int) {k : Int} (h : 0 ≤ k) : nrI b o al bl (k + 1).toNat x = nrY b o al bl k (nrI b o al bl k.toNat x) := by
  have e : (k + 1).toNat = k.toNat + 1 := by omega
  rw [e]; show nrY b o al bl (k.toNat : Int) _ = _
  rw [Int.toNat_of_nonneg h]
theorem nrO_s (b o al : Int) {k : Int} (h : 0 ≤ k) : nrO b o al (k + 1).toNat = nrI b o al k (sBo o).toNat (nrO b o al k.toNat) := by
  have e : (k + 1).toNat = k.toNat + 1 := by omega
  rw [e]; show nrI b o al (k.toNat : Int) _ _ = _
  rw [Int.toNat_of_nonneg h]
theorem nrY_in {b o al bl k x : Int} (h : 0 ≤ x ∧ x ≤ 4) : 0 ≤ nrY b o al bl k x ∧ nrY b o al bl k x ≤ 4 := by
  have h1 := sOff_in (o := o) (b := k)
  have h2 := sOff_in (o := b) (b := bl)
  unfold nrY; (repeat' split) <;> omega
theorem sBo_in {o : Int} : 1 ≤ sBo o ∧ sBo o ≤ 3 := by unfold sBo; repeat' split <;> omega
def nrT (i : Int) : Int := nrD (i / 8) (i / 2 % 4) (i % 2)
def nrA : Int → Int := fun j => if 0 ≤ j ∧ j < 32 then nrT j else 0
theorem nrI_in {b o al bl : Int} : ∀ (k : Nat) {x : Int}, 0 ≤ x ∧ x ≤ 4 → 0 ≤ nrI b o al bl k x ∧ nrI b o al bl k x ≤ 4
  | 0, _, h => h
  | k + 1, _, h => nrY_in (nrI_in k h)
theorem nrO_in {b o al : Int} : ∀ (k : Nat), 0 ≤ nrO b o al k ∧ nrO b o al k ≤ 4
  | 0 => by show (0 : Int) ≤ 4 ∧ (4 : Int) ≤ 4; omega
  | k + 1 => nrI_in _ (nrO_in k)
theorem nrA_in {j : Int} : 0 ≤ nrA j ∧ nrA j ≤ 4 := by
  unfold nrA; split
  · exact nrO_in _
  · omega
abbrev cnD (q b c al : Int) : Prop := (¬ b = 0 ∧ ¬ c = 0) ∧ nrA (b / 16 % 4 * 8 + c / 16 % 4 * 2 + al) < q
def ldO (g ow : Int → Int) (n : Int) : Int → Int := fun j => if 0 ≤ j ∧ j < n then (if g j = 0 then 3 else g j / 2 % 4) else ow j
def ldC (g : Int → Int) (q pv al : Int) (cA : Int → Int) (n : Int) : Int → Int := fun j => if 0 ≤ j ∧ j < n then b2 (cnD q (if j = 0 then pv else g (j - 1)) (g j) al) else cA j
def plC (L : Int) (cA cU : Int → Int) (a al : Int) : Int := if 0 ≤ a ∧ a < L then (if al = 0 then cU a else cA a) else 0
theorem plC_01 {L : Int} {cA cU : Int → Int} (hA1 : ∀ j : Int, 0 ≤ j → j < L → cA j = 0 ∨ cA j = 1) (hU1 : ∀ j : Int, 0 ≤ j → j < L → cU j = 0 ∨ cU j = 1) {a al : Int} : plC L cA cU a al = 0 ∨ plC L cA cU a al = 1 := by
  unfold plC; by_cases h : 0 ≤ a ∧ a < L
  · rw [if_pos h]; by_cases q : al = 0
    · rw [if_pos q]; exact hU1 a h.1 h.2
    · rw [if_neg q]; exact hA1 a h.1 h.2
  · rw [if_neg h]; exact Or.inl rfl
theorem pAt_in {g : Int → Int} {n a : Int} (hg : ∀ j : Int, 0 ≤ j → j < n → 0 ≤ g j ∧ g j < 64) : 0 ≤ pAt g n a ∧ pAt g n a < 64 := by
  unfold pAt; by_cases h : 0 ≤ a ∧ a < n
  · rw [if_pos h]; exact hg a h.1 h.2
  · rw [if_neg h]; omega
abbrev fitP (L : Int) (ow cA cU : Int → Int) (a hb h : Int) : Prop := (0 ≤ a ∧ a < L) ∧ (ow a = 2 ∨ ow a = h) ∧ plC L cA cU a (b2 (hb = h)) = 0
theorem bit_sl3 {a : Int} (h : 0 ≤ a ∧ a < 4) : iJ a <<< (iJ 3 &&& 31) = iJ (a * 8) := by
  rcases (by omega : a = 0 ∨ a = 1 ∨ a = 2 ∨ a = 3) with rfl | rfl | rfl | rfl <;> decide
theorem bit_or3 {a o : Int} (h : 0 ≤ a ∧ a < 4) (ho : 0 ≤ o ∧ o < 4) : iJ (a * 8) ||| iJ (o * 2) = iJ (a * 8 + o * 2) := by
  rcases (by omega : a = 0 ∨ a = 1 ∨ a = 2 ∨ a = 3) with rfl | rfl | rfl | rfl <;> rcases (by omega : o = 0 ∨ o = 1 ∨ o = 2 ∨ o = 3) with rfl | rfl | rfl | rfl <;> decide
theorem bit_or4 {a o x : Int} (h : 0 ≤ a ∧ a < 4) (ho : 0 ≤ o ∧ o < 4) (hx : x = 0 ∨ x = 1) : iJ (a * 8 + o * 2) ||| iJ x = iJ (a * 8 + o * 2 + x) := by
  rcases (by omega : a = 0 ∨ a = 1 ∨ a = 2 ∨ a = 3) with rfl | rfl | rfl | rfl <;> rcases (by omega : o = 0 ∨ o = 1 ∨ o = 2 ∨ o = 3) with rfl | rfl | rfl | rfl <;> rcases hx with rfl | rfl <;> decide
theorem bit_pow {e : Int} (h : 0 ≤ e ∧ e ≤ 8) : iJ 1 <<< (iJ e &&& 31) = iJ ((2 ^ e.toNat : Nat) : Int) := by
  rcases (by omega : e = 0 ∨ e = 1 ∨ e = 2 ∨ e = 3 ∨ e = 4 ∨ e = 5 ∨ e = 6 ∨ e = 7 ∨ e = 8) with rfl | rfl | rfl | rfl | rfl | rfl | rfl | rfl | rfl <;> decide
/-- counting step by step -/
def tnX (L : Int) (ow cA cU : Int → Int) (a h r l : Int) : Int := (if fitP L ow cA cU a 0 h then r else 0) + (if fitP L ow cA cU a 1 h then l else 0)
def tbN (L : Int) (ow cA cU : Int → Int) (ah : Int) : Nat → Int × Int
  | 0 => (if ah = 0 then 1 else 0, if ah = 1 then 1 else 0)
  | k + 1 => if ow k = 3 then tbN L ow cA cU ah k else (tnX L ow cA cU k 0 (tbN L ow cA cU ah k).1 (tbN L ow cA cU ah k).2, tnX L ow cA cU k 1 (tbN L ow cA cU ah k).1 (tbN L ow cA cU ah k).2)
def tbR (L : Int) (ow cA cU : Int → Int) (ah k : Int) : Int := (tbN L ow cA cU ah k.toNat).1
def tbL (L : Int) (ow cA cU : Int → Int) (ah k : Int) : Int := (tbN L ow cA cU ah k.toNat).2
theorem tbN_s (L : Int) (ow cA cU : Int → Int) (ah : Int) {k : Int} (h : 0 ≤ k) : tbN L ow cA cU ah (k + 1).toNat = if ow k = 3 then tbN L ow cA cU ah k.toNat else (tnX L ow cA cU k 0 (tbR L ow cA cU ah k) (tbL L ow cA cU ah k), tnX L ow cA cU k 1 (tbR L ow cA cU ah k) (tbL L ow cA cU ah k)) := by
  have e : (k + 1).toNat = k.toNat + 1 := by omega
  rw [e]; unfold tbR tbL; show (if ow (k.toNat : Int) = 3 then _ else _) = _
  rw [Int.toNat_of_nonneg h]
theorem tbR_s (L : Int) (ow cA cU : Int → Int) (ah : Int) {k : Int} (h : 0 ≤ k) : tbR L ow cA cU ah (k + 1) = if ow k = 3 then tbR L ow cA cU ah k else tnX L ow cA cU k 0 (tbR L ow cA cU ah k) (tbL L ow cA cU ah k) := by
  show (tbN L ow cA cU ah (k + 1).toNat).1 = _
  rw [tbN_s _ _ _ _ _ h]; by_cases q : ow k = 3
  · rw [if_pos q, if_pos q]; rfl
  · rw [if_neg q, if_neg q]
theorem tbL_s (L : Int) (ow cA cU : Int → Int) (ah : Int) {k : Int} (h : 0 ≤ k) : tbL L ow cA cU ah (k + 1) = if ow k = 3 then tbL L ow cA cU ah k else tnX L ow cA cU k 1 (tbR L ow cA cU ah k) (tbL L ow cA cU ah k) := by
  show (tbN L ow cA cU ah (k + 1).toNat).2 = _
  rw [tbN_s _ _ _ _ _ h]; by_cases q : ow k = 3
  · rw [if_pos q, if_pos q]; rfl
  · rw [if_neg q, if_neg q]
theorem tnX_in {L : Int} {ow cA cU : Int → Int} {a h r l : Int} (hr : 0 ≤ r) (hl : 0 ≤ l) : 0 ≤ tnX L ow cA cU a h r l ∧ tnX L ow cA cU a h r l ≤ r + l := by
  unfold tnX; (repeat' split) <;> omega
theorem tbN_in (L : Int) (ow cA cU : Int → Int) (ah : Int) : ∀ k : Nat, (0 ≤ (tbN L ow cA cU ah k).1 ∧ (tbN L ow cA cU ah k).1 ≤ ((2 ^ k : Nat) : Int)) ∧ (0 ≤ (tbN L ow cA cU ah k).2 ∧ (tbN L ow cA cU ah k).2 ≤ ((2 ^ k : Nat) : Int))
  | 0 => by
    show (0 ≤ (if ah = 0 then 1 else 0 : Int) ∧ (if ah = 0 then 1 else 0 : Int) ≤ 1) ∧ (0 ≤ (if ah = 1 then 1 else 0 : Int) ∧ (if ah = 1 then 1 else 0 : Int) ≤ 1)
    (repeat' split) <;> omega
  | k + 1 => by
    have h := tbN_in L ow cA cU ah k
    have e : ((2 ^ (k + 1) : Nat) : Int) = 2 * ((2 ^ k : Nat) : Int) := by rw [Nat.pow_succ]; omega
    have h0 := tnX_in (L := L) (ow := ow) (cA := cA) (cU := cU) (a := k) (h := 0) h.1.1 h.2.1
    have h1 := tnX_in (L := L) (ow := ow) (cA := cA) (cU := cU) (a := k) (h := 1) h.1.1 h.2.1
    show (0 ≤ (if ow k = 3 then tbN L ow cA cU ah k else _).1 ∧ (if ow k = 3 then tbN L ow cA cU ah k else _).1 ≤ _) ∧ (0 ≤ (if ow k = 3 then tbN L ow cA cU ah k else _).2 ∧ (if ow k = 3 then tbN L ow cA cU ah k else _).2 ≤ _)
    rw [e]
    by_cases q : ow k = 3
    · rw [if_pos q]; omega
    · rw [if_neg q]
      dsimp only
      omega
theorem tb_in (L : Int) (ow cA cU : Int → Int) (ah : Int) {k : Int} (hk : k ≤ 32) : (0 ≤ tbR L ow cA cU ah k ∧ tbR L ow cA cU ah k ≤ 4294967296) ∧ (0 ≤ tbL L ow cA cU ah k ∧ tbL L ow cA cU ah k ≤ 4294967296) := by
  have h := tbN_in L ow cA cU ah k.toNat
  have e : ((2 ^ k.toNat : Nat) : Int) ≤ 4294967296 := by
    have : 2 ^ k.toNat ≤ 2 ^ 32 := Nat.pow_le_pow_right (by decide) (by omega)
    omega
  unfold tbR tbL; omega
def tlA (n q ov : Int) (g ow cA cU : Int → Int) : Int :=
  let o := ldO g ow n
  let a := ldC g q (if ov = 0 then 0 else pAt g n (n - 1)) 1 cA n
  let u := ldC g q (if ov = 0 then 0 else pAt g n (n - 1)) 0 cU n
  tbR n o a u 0 n + (if ov = 0 then tbL n o a u 0 n else tbL n o a u 1 n)
def tkB (ow : Int → Int) (x : Int) : Nat → Int
  | 0 => x
  | k + 1 => if ow k = 2 then tkB ow x k / 2 else tkB ow x k
theorem tkB_s (ow : Int → Int) (x : Int) {k : Int} (h : 0 ≤ k) : tkB ow x (k + 1).toNat = if ow k = 2 then tkB ow x k.toNat / 2 else tkB ow x k.toNat := by
  have e : (k + 1).toNat = k.toNat + 1 := by omega
  rw [e]; show (if ow (k.toNat : Int) = 2 then _ else _) = _
  rw [Int.toNat_of_nonneg h]
def tkH (L : Int) (ow hd : Int → Int) (x : Int) : Int → Int := fun j => if 0 ≤ j ∧ j < L then (if ow j = 2 then tkB ow x j.toNat % 2 else ow j) else hd j
def haA (L : Int) (hd : Int → Int) (a : Int) : Int := if 0 ≤ a ∧ a < L then hd a else 3
def fcN (L : Int) (cA cU hd : Int → Int) : Nat → Int → Int → Int
  | 0, _, _ => -4
  | r + 1, k, b => if plC L cA cU k (b2 (b = hd k)) = 0 then fcN L cA cU hd r (k + 1) (hd k) else k
def fcV (L : Int) (cA cU hd : Int → Int) : Int := fcN L cA cU hd L.toNat 0 (haA L hd (L - 1))
/-- the table of fewest repeated hands, by the steps left -/
def ffW (L : Int) (ow cA cU : Int → Int) (pr : Int) (F : Int → Int → Int) (a b h : Int) : Int := if fitP L ow cA cU a b h then (if F (a + 1) h + (if b = h then pr else 0) < 1000 then F (a + 1) h + (if b = h then pr else 0) else 1000) else 1000
/-! words of the model -/
def mAc (c : Int) : Int := if c = 0 then 0 else (c - 1) / 3 % 2
def mOr (c : Int) : Int := if c = 0 then 0 else (c - 1) / 6
def mBl (c : Int) : Int := if c = 0 then 0 else if mOr c = 0 then 1 else if mOr c = 2 then 3 else 2
def mTi (c b : Int) : Int := if b = 0 then 0 else if mOr c = 3 then 2 else - b
def mFo (c b : Int) : Int := if 0 < b then 1 else 2 + mAc c
def mHo (c b h : Int) : Int := if b = 0 ∨ mOr c = 3 then h else 1 - h
abbrev mCp (q c1 h1 c2 h2 k : Int) : Prop := (k / 3 < mBl c1 ∧ k % 3 < mBl c2 ∧ mHo c1 (k / 3) h1 = mHo c2 (k % 3) h2) ∧ 4 + mTi c2 (k % 3) - mTi c1 (k / 3) < q ∧ - q < 4 + mTi c2 (k % 3) - mTi c1 (k / 3)
def mCk (q c1 h1 c2 h2 : Int) : Nat → Int
  | 0 => 0
  | k + 1 => if ¬ mCk q c1 h1 c2 h2 k = 0 ∨ mCp q c1 h1 c2 h2 k then 1 else 0
def mCl (q c1 h1 c2 h2 : Int) : Int := mCk q c1 h1 c2 h2 9
theorem mCk_s (q c1 h1 c2 h2 : Int) {k : Int} (h : 0 ≤ k) : mCk q c1 h1 c2 h2 (k + 1).toNat = if ¬ mCk q c1 h1 c2 h2 k.toNat = 0 ∨ mCp q c1 h1 c2 h2 k then 1 else 0 := by
  have e : (k + 1).toNat = k.toNat + 1 := by omega
  rw [e]; show (if ¬ mCk q c1 h1 c2 h2 k.toNat = 0 ∨ mCp q c1 h1 c2 h2 (k.toNat : Int) then 1 else 0) = _
  rw [Int.toNat_of_nonneg h]
theorem mCk_01 (q c1 h1 c2 h2 : Int) : ∀ k : Nat, mCk q c1 h1 c2 h2 k = 0 ∨ mCk q c1 h1 c2 h2 k = 1
  | 0 => Or.inl rfl
  | k + 1 => by
    show (if _ then (1 : Int) else 0) = 0 ∨ (if _ then (1 : Int) else 0) = 1
    split
    · exact Or.inr rfl
    · exact Or.inl rfl
theorem mAc_in {c : Int} : 0 ≤ mAc c ∧ mAc c ≤ 1 := by unfold mAc; split <;> omega
theorem mOr_in {c : Int} (h : 0 ≤ c ∧ c ≤ 24) : 0 ≤ mOr c ∧ mOr c ≤ 3 := by unfold mOr; split <;> omega
theorem mBl_in {c : Int} : 0 ≤ mBl c ∧ mBl c ≤ 3 := by unfold mBl; (repeat' split) <;> omega
theorem mTi_in {c b : Int} (h : 0 ≤ b ∧ b ≤ 2) : -2 ≤ mTi c b ∧ mTi c b ≤ 2 := by unfold mTi; (repeat' split) <;> omega
theorem mFo_in {c b : Int} : 1 ≤ mFo c b ∧ mFo c b ≤ 3 := by have := mAc_in (c := c); unfold mFo; split <;> omega
theorem mHo_in {c b h : Int} (hh : -10 ≤ h ∧ h ≤ 10) : -10 ≤ mHo c b h ∧ mHo c b h ≤ 11 := by unfold mHo; split <;> omega
abbrev mAl (c h : Int) : Prop := (c - 1) % 3 = 2 ∨ (c - 1) % 3 = h
abbrev mCn (s : Int → Int) (a b h : Int) : Prop := mAl (s (2 + a)) h ∧ ¬ (((0 < a ∧ ¬ s (2 + (a - 1)) = 0) ∧ b < 2) ∧ ¬ mCl (s 1) (s (2 + (a - 1))) b (s (2 + a)) h = 0)
def mFs (c : Int) : Int := sm (mFo c) (mBl c)
theorem mFs_in {c : Int} : 0 ≤ mFs c ∧ mFs c ≤ 9 := by
  have h := mBl_in (c := c)
  have := sm_le (f := mFo c) (c := 3) (k := mBl c) h.1 (fun j _ _ => ⟨by have := mFo_in (c := c) (b := j); omega, (mFo_in (c := c) (b := j)).2⟩)
  unfold mFs; omega
def mHf (c : Int) : Int := if c = 82 then 0 else if c = 76 then 1 else if c = 120 then 2 else -4
def mTl (c : Int) : Int := if c = 0 then 1 else 1 + b2 (mAc c = 1) + b2 (mOr c = 1 ∨ mOr c = 2) + b2 (mOr c = 3)
/-! the class's table of fewest repeated hands -/
def ffX (L : Int) (ow cA cU : Int → Int) (pr : Int) (F : Int → Int) (a b h : Int) : Int := if fitP L ow cA cU a b h then (if F h + (if b = h then pr else 0) < 1000 then F h + (if b = h then pr else 0) else 1000) else 1000
def ffR (L : Int) (ow cA cU : Int → Int) (pr : Int) : Nat → Int → Int
  | 0, _ => 0
  | r + 1, b => if ow (L - ((r : Int) + 1)) = 3 then ffR L ow cA cU pr r b else
      if ffX L ow cA cU pr (ffR L ow cA cU pr r) (L - ((r : Int) + 1)) b 1 < ffX L ow cA cU pr (ffR L ow cA cU pr r) (L - ((r : Int) + 1)) b 0 then ffX L ow cA cU pr (ffR L ow cA cU pr r) (L - ((r : Int) + 1)) b 1 else ffX L ow cA cU pr (ffR L ow cA cU pr r) (L - ((r : Int) + 1)) b 0
/-- the table at a step -/
def ffS (L : Int) (ow cA cU : Int → Int) (pr a b : Int) : Int := ffR L ow cA cU pr (L - a).toNat b
def ffV (L : Int) (ow cA cU : Int → Int) (pr a b h : Int) : Int := ffX L ow cA cU pr (ffS L ow cA cU pr (a + 1)) a b h
theorem ffS_e (L : Int) (ow cA cU : Int → Int) (pr b : Int) : ffS L ow cA cU pr L b = 0 := by
  unfold ffS; rw [Int.sub_self]; rfl
theorem ffS_s (L : Int) (ow cA cU : Int → Int) (pr : Int) {a : Int} (b : Int) (h : a < L) : ffS L ow cA cU pr a b = if ow a = 3 then ffS L ow cA cU pr (a + 1) b else if ffV L ow cA cU pr a b 1 < ffV L ow cA cU pr a b 0 then ffV L ow cA cU pr a b 1 else ffV L ow cA cU pr a b 0 := by
  unfold ffV ffS
  have e : (L - a).toNat = (L - (a + 1)).toNat + 1 := by omega
  have e2 : L - (((L - (a + 1)).toNat : Int) + 1) = a := by omega
  rw [e]; show (if ow (L - (((L - (a + 1)).toNat : Int) + 1)) = 3 then _ else _) = _
  rw [e2]
theorem ffX_in {L : Int} {ow cA cU : Int → Int} {pr : Int} {F : Int → Int} {a b h : Int} (hp : pr = 0 ∨ pr = 1) (hF : 0 ≤ F h ∧ F h ≤ 1000) : 0 ≤ ffX L ow cA cU pr F a b h ∧ ffX L ow cA cU pr F a b h ≤ 1000 := by
  unfold ffX; (repeat' split) <;> omega
theorem ffR_in {L : Int} {ow cA cU : Int → Int} {pr : Int} (hp : pr = 0 ∨ pr = 1) : ∀ (r : Nat) (b : Int), 0 ≤ ffR L ow cA cU pr r b ∧ ffR L ow cA cU pr r b ≤ 1000
  | 0, _ => by show (0 : Int) ≤ 0 ∧ (0 : Int) ≤ 1000; omega
  | r + 1, b => by
    have h0 := ffX_in (L := L) (ow := ow) (cA := cA) (cU := cU) (F := ffR L ow cA cU pr r) (a := L - ((r : Int) + 1)) (b := b) (h := 0) hp (ffR_in (L := L) (ow := ow) (cA := cA) (cU := cU) hp r 0)
    have h1 := ffX_in (L := L) (ow := ow) (cA := cA) (cU := cU) (F := ffR L ow cA cU pr r) (a := L - ((r : Int) + 1)) (b := b) (h := 1) hp (ffR_in (L := L) (ow := ow) (cA := cA) (cU := cU) hp r 1)
    have h2 := ffR_in (L := L) (ow := ow) (cA := cA) (cU := cU) hp r b
    have e : ffR L ow cA cU pr (r + 1) b = if ow (L - ((r : Int) + 1)) = 3 then ffR L ow cA cU pr r b else if ffX L ow cA cU pr (ffR L ow cA cU pr r) (L - ((r : Int) + 1)) b 1 < ffX L ow cA cU pr (ffR L ow cA cU pr r) (L - ((r : Int) + 1)) b 0 then ffX L ow cA cU pr (ffR L ow cA cU pr r) (L - ((r : Int) + 1)) b 1 else ffX L ow cA cU pr (ffR L ow cA cU pr r) (L - ((r : Int) + 1)) b 0 := rfl
    rw [e]
    split
    · exact h2
    · split
      · exact h1
      · exact h0
theorem ffS_in {L : Int} {ow cA cU : Int → Int} {pr a b : Int} (hp : pr = 0 ∨ pr = 1) : 0 ≤ ffS L ow cA cU pr a b ∧ ffS L ow cA cU pr a b ≤ 1000 := ffR_in hp _ _
theorem ffV_in {L : Int} {ow cA cU : Int → Int} {pr a b h : Int} (hp : pr = 0 ∨ pr = 1) : 0 ≤ ffV L ow cA cU pr a b h ∧ ffV L ow cA cU pr a b h ≤ 1000 := ffX_in hp (ffS_in hp)
/-- the hand before each step, as it is chosen -/
def chN (L : Int) (ow cA cU : Int → Int) (pr : Int) : Nat → Int
  | 0 => 3
  | k + 1 => if ow k = 3 then chN L ow cA cU pr k else if ffV L ow cA cU pr k (chN L ow cA cU pr k) 0 ≤ ffV L ow cA cU pr k (chN L ow cA cU pr k) 1 then 0 else 1
def chB (L : Int) (ow cA cU : Int → Int) (pr k : Int) : Int := chN L ow cA cU pr k.toNat
theorem chB_s (L : Int) (ow cA cU : Int → Int) (pr : Int) {k : Int} (h : 0 ≤ k) : chB L ow cA cU pr (k + 1) = if ow k = 3 then chB L ow cA cU pr k else if ffV L ow cA cU pr k (chB L ow cA cU pr k) 0 ≤ ffV L ow cA cU pr k (chB L ow cA cU pr k) 1 then 0 else 1 := by
  unfold chB
  have e : (k + 1).toNat = k.toNat + 1 := by omega
  rw [e]; show (if ow (k.toNat : Int) = 3 then _ else _) = _
  rw [Int.toNat_of_nonneg h]
theorem chN_in (L : Int) (ow cA cU : Int → Int) (pr : Int) : ∀ k : Nat, 0 ≤ chN L ow cA cU pr k ∧ chN L ow cA cU pr k ≤ 3
  | 0 => by show (0 : Int) ≤ 3 ∧ (3 : Int) ≤ 3; omega
  | k + 1 => by
    have h := chN_in L ow cA cU pr k
    have e : chN L ow cA cU pr (k + 1) = if ow k = 3 then chN L ow cA cU pr k else if ffV L ow cA cU pr k (chN L ow cA cU pr k) 0 ≤ ffV L ow cA cU pr k (chN L ow cA cU pr k) 1 then 0 else 1 := rfl
    rw [e]; (repeat' split) <;> omega
theorem chB_in {L : Int} {ow cA cU : Int → Int} {pr k : Int} : 0 ≤ chB L ow cA cU pr k ∧ chB L ow cA cU pr k ≤ 3 := chN_in _ _ _ _ _ _
/-- counting by each sticking -/
def teN (L : Int) (ow cA cU : Int → Int) : Nat → Int
  | 0 => 0
  | k + 1 => teN L ow cA cU k + (if fcV L cA cU (tkH L ow (fun _ => 0) (k : Int)) = -4 then 1 else 0)
theorem teN_s (L : Int) (ow cA cU : Int → Int) {k : Int} (h : 0 ≤ k) : teN L ow cA cU (k + 1).toNat = teN L ow cA cU k.toNat + (if fcV L cA cU (tkH L ow (fun _ => 0) k) = -4 then 1 else 0) := by
  have e : (k + 1).toNat = k.toNat + 1 := by omega
  rw [e]; show teN L ow cA cU k.toNat + (if fcV L cA cU (tkH L ow (fun _ => 0) (k.toNat : Int)) = -4 then 1 else 0) = _
  rw [Int.toNat_of_nonneg h]
theorem tkH_cg {L : Int} {ow h1 h2 : Int → Int} {x j : Int} (hj : 0 ≤ j) (hL : j < L) : tkH L ow h1 x j = tkH L ow h2 x j := by
  have e : 0 ≤ j ∧ j < L := ⟨hj, hL⟩
  unfold tkH; rw [if_pos e, if_pos e]
theorem haA_cg {L : Int} {h1 h2 : Int → Int} (h : ∀ j : Int, 0 ≤ j → j < L → h1 j = h2 j) (a : Int) : haA L h1 a = haA L h2 a := by
  unfold haA; by_cases q : 0 ≤ a ∧ a < L
  · rw [if_pos q, if_pos q]; exact h a q.1 q.2
  · rw [if_neg q, if_neg q]
theorem fcN_cg {L : Int} {cA cU h1 h2 : Int → Int} (h : ∀ j : Int, 0 ≤ j → j < L → h1 j = h2 j) : ∀ (r : Nat) (k b : Int), 0 ≤ k → k + r ≤ L → fcN L cA cU h1 r k b = fcN L cA cU h2 r k b
  | 0, _, _, _, _ => rfl
  | r + 1, k, b, h0, hr => by
    show (if plC L cA cU k (b2 (b = h1 k)) = 0 then fcN L cA cU h1 r (k + 1) (h1 k) else k) = (if plC L cA cU k (b2 (b = h2 k)) = 0 then fcN L cA cU h2 r (k + 1) (h2 k) else k)
    rw [h k h0 (by omega), fcN_cg h r (k + 1) (h2 k) (by omega) (by omega)]
theorem fcV_cg {L : Int} {cA cU h1 h2 : Int → Int} (h : ∀ j : Int, 0 ≤ j → j < L → h1 j = h2 j) : fcV L cA cU h1 = fcV L cA cU h2 := by
  unfold fcV; rw [haA_cg h]
  rcases Int.lt_or_le L 0 with q | q
  · rw [show L.toNat = 0 by omega]; rfl
  · exact fcN_cg h L.toNat 0 _ (by omega) (by omega)
theorem fcN_in {L : Int} {cA cU hd : Int → Int} : ∀ (r : Nat) (k b : Int), 0 ≤ k → k + r ≤ 32 → -4 ≤ fcN L cA cU hd r k b ∧ fcN L cA cU hd r k b ≤ 32
  | 0, _, _, _, _ => by show (-4 : Int) ≤ -4 ∧ (-4 : Int) ≤ 32; omega
  | r + 1, k, b, h0, hr => by
    have e : fcN L cA cU hd (r + 1) k b = if plC L cA cU k (b2 (b = hd k)) = 0 then fcN L cA cU hd r (k + 1) (hd k) else k := rfl
    rw [e]; split
    · exact fcN_in r (k + 1) _ (by omega) (by omega)
    · omega
theorem fcV_in {L : Int} {cA cU hd : Int → Int} (h : 0 ≤ L ∧ L ≤ 32) : -4 ≤ fcV L cA cU hd ∧ fcV L cA cU hd ≤ 32 := fcN_in _ _ _ (by omega) (by omega)
theorem ite_in {P : Prop} [Decidable P] {y z lo hi : Int} (hy : lo ≤ y ∧ y ≤ hi) (hz : lo ≤ z ∧ z ≤ hi) : lo ≤ (if P then y else z) ∧ (if P then y else z) ≤ hi := by
  by_cases h : P
  · rw [if_pos h]; exact hy
  · rw [if_neg h]; exact hz
theorem tlA_in {n q ov : Int} {g ow cA cU : Int → Int} (hn : n ≤ 32) : 0 ≤ tlA n q ov g ow cA cU ∧ tlA n q ov g ow cA cU ≤ 8589934592 := by
  have h0 := tb_in n (ldO g ow n) (ldC g q (if ov = 0 then 0 else pAt g n (n - 1)) 1 cA n) (ldC g q (if ov = 0 then 0 else pAt g n (n - 1)) 0 cU n) 0 hn
  have h1 := tb_in n (ldO g ow n) (ldC g q (if ov = 0 then 0 else pAt g n (n - 1)) 1 cA n) (ldC g q (if ov = 0 then 0 else pAt g n (n - 1)) 0 cU n) 1 hn
  have h2 := ite_in (P := ov = 0) h0.2 h1.2
  have e : tlA n q ov g ow cA cU = _ + _ := rfl
  rw [e]
  exact ⟨Int.add_nonneg h0.1.1 h2.1, by have := h0.1.2; have := h2.2; omega⟩
