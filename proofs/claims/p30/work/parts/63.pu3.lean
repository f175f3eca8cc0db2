/-! bits, and the words of the law's own methods -/
def p2 (j : Int) : Int := ((2 ^ j.toNat : Nat) : Int)
def anI (x y : Int) : Int := ((x.toNat &&& y.toNat : Nat) : Int)
theorem p2_pos (j : Int) : 1 ≤ p2 j := by
  unfold p2; have : 0 < 2 ^ j.toNat := Nat.two_pow_pos _; omega
theorem p2_s {j : Int} (h : 0 ≤ j) : p2 (j + 1) = 2 * p2 j := by
  unfold p2; rw [show (j + 1).toNat = j.toNat + 1 by omega, Nat.pow_succ]; omega
theorem p2_9 {j : Int} (h : j ≤ 9) : p2 j ≤ 512 := by
  unfold p2
  have : 2 ^ j.toNat ≤ 2 ^ 9 := Nat.pow_le_pow_right (by decide) (by omega)
  omega
theorem iJ_m31 (v : Int) (hv : jb v) : iJ v &&& iJ 2147483647 = iJ (v % 2147483648) := by
  rw [pk_and (iJ v) 31 (by decide), iJ_nI]
  refine congrArg iJ ?_
  have e : (iJ v).toBitVec.toNat = (v % 4294967296).toNat := by
    show (BitVec.ofInt 32 v).toNat = _
    rw [BitVec.toNat_ofInt]; rfl
  rw [e]; have := hv.1; have := hv.2; omega
theorem iJ_an {x y : Int} (hx : 0 ≤ x ∧ x < 2147483648) (hy : 0 ≤ y ∧ y < 2147483648) : iJ x &&& iJ y = iJ (anI x y) := by
  obtain ⟨a, rfl⟩ := Int.eq_ofNat_of_zero_le hx.1
  obtain ⟨b, rfl⟩ := Int.eq_ofNat_of_zero_le hy.1
  unfold anI
  rw [← iJ_nI, ← iJ_nI, ← iJ_nI, Int.toNat_natCast, Int.toNat_natCast]
  have ha : a < 2 ^ 32 := by omega
  have hb : b < 2 ^ 32 := by omega
  have hab : a &&& b < 2 ^ 32 := Nat.lt_of_le_of_lt Nat.and_le_left ha
  apply Int32.toBitVec_inj.mp
  apply BitVec.eq_of_toNat_eq
  rw [Int32.toBitVec_and, BitVec.toNat_and, pk_tn ha, pk_tn hb, pk_tn hab]
theorem anI_in {x y : Int} (hx : 0 ≤ x) : 0 ≤ anI x y ∧ anI x y ≤ x := by
  unfold anI
  have : x.toNat &&& y.toNat ≤ x.toNat := Nat.and_le_left
  omega
theorem sh_r {a k : Int} (h : 0 ≤ a ∧ a < 2147483648) (hk : 0 ≤ k ∧ k ≤ 9) : iJ a >>> (iJ k &&& 31) = iJ (a / p2 k) := by
  rcases (by omega : k = 0 ∨ k = 1 ∨ k = 2 ∨ k = 3 ∨ k = 4 ∨ k = 5 ∨ k = 6 ∨ k = 7 ∨ k = 8 ∨ k = 9) with rfl | rfl | rfl | rfl | rfl | rfl | rfl | rfl | rfl | rfl
  · exact iJ_shr h (iJ 0) 0 1 (by decide) rfl
  · exact iJ_shr h (iJ 1) 1 2 (by decide) rfl
  · exact iJ_shr h (iJ 2) 2 4 (by decide) rfl
  · exact iJ_shr h (iJ 3) 3 8 (by decide) rfl
  · exact iJ_shr h (iJ 4) 4 16 (by decide) rfl
  · exact iJ_shr h (iJ 5) 5 32 (by decide) rfl
  · exact iJ_shr h (iJ 6) 6 64 (by decide) rfl
  · exact iJ_shr h (iJ 7) 7 128 (by decide) rfl
  · exact iJ_shr h (iJ 8) 8 256 (by decide) rfl
  · exact iJ_shr h (iJ 9) 9 512 (by decide) rfl
theorem sh_1 {b k : Int} (hb : b = 0 ∨ b = 1) (hk : 0 ≤ k ∧ k ≤ 9) : iJ b <<< (iJ k &&& 31) = iJ (b * p2 k) := by
  rcases (by omega : k = 0 ∨ k = 1 ∨ k = 2 ∨ k = 3 ∨ k = 4 ∨ k = 5 ∨ k = 6 ∨ k = 7 ∨ k = 8 ∨ k = 9) with rfl | rfl | rfl | rfl | rfl | rfl | rfl | rfl | rfl | rfl <;> rcases hb with rfl | rfl <;> decide
theorem sh_a {a k : Int} (ha : 0 ≤ a ∧ a < 128) (hk : 0 ≤ k ∧ k ≤ 4) : iJ a <<< (iJ k &&& 31) = iJ (a * p2 k) := by
  obtain ⟨n, rfl⟩ := Int.eq_ofNat_of_zero_le ha.1
  have e : ∀ n : Nat, n < 128 → ∀ k ∈ ([0, 1, 2, 3, 4] : List Int), iJ (n : Int) <<< (iJ k &&& 31) = iJ ((n : Int) * p2 k) := by decide +kernel
  exact e n (by omega) k (by rcases (by omega : k = 0 ∨ k = 1 ∨ k = 2 ∨ k = 3 ∨ k = 4) with rfl | rfl | rfl | rfl | rfl <;> decide)
theorem or_b {x b k : Int} (hk : 0 ≤ k ∧ k ≤ 8) (hx : 0 ≤ x ∧ x < p2 k) (hb : b = 0 ∨ b = 1) : iJ x ||| iJ (b * p2 k) = iJ (x + b * p2 k) := by
  obtain ⟨n, rfl⟩ := Int.eq_ofNat_of_zero_le hx.1
  have e : ∀ k ∈ ([0, 1, 2, 3, 4, 5, 6, 7, 8] : List Int), ∀ n : Nat, n < (p2 k).toNat → ∀ b ∈ ([0, 1] : List Int), iJ (n : Int) ||| iJ (b * p2 k) = iJ ((n : Int) + b * p2 k) := by decide +kernel
  exact e k (by rcases (by omega : k = 0 ∨ k = 1 ∨ k = 2 ∨ k = 3 ∨ k = 4 ∨ k = 5 ∨ k = 6 ∨ k = 7 ∨ k = 8) with rfl | rfl | rfl | rfl | rfl | rfl | rfl | rfl | rfl <;> decide) n (by have := hx.2; omega) b (by rcases hb with rfl | rfl <;> decide)
def lowV (v n : Int) : Int := v % 2147483648 % n
theorem lowV_in {v n : Int} (hn : 1 ≤ n) : 0 ≤ lowV v n ∧ lowV v n < n := by unfold lowV; exact ⟨Int.emod_nonneg _ (by omega), Int.emod_lt_of_pos _ (by omega)⟩
/-- blows of a step, as bits -/
def blV (c h f : Int) : Int := if c = 0 then 0 else if h = f then 16 + (if c / 16 % 4 = 3 then 64 else 0) else if c / 16 % 4 = 1 then 8 else if c / 16 % 4 = 2 then 12 else 0
theorem blV_in (c h f : Int) : 0 ≤ blV c h f ∧ blV c h f ≤ 80 := by unfold blV; (repeat' split) <;> omega
abbrev clS (a b o : Int) : Prop := ¬ (if o < 0 then anI (a * p2 (- o)) b else anI (a / p2 o) b) = 0
def clI (a b q : Int) : Nat → Int → Int
  | 0, x => x
  | k + 1, x => if ¬ clI a b q k x = 0 ∨ clS a b ((k : Int) + (1 - q)) then 1 else 0
def clO (q c1 h1 c2 h2 : Int) : Nat → Int
  | 0 => 0
  | f + 1 => clI (blV c1 h1 f) (blV c2 h2 f * p2 4) q (2 * q - 1).toNat (clO q c1 h1 c2 h2 f)
theorem clI_s (a b q x : Int) {o : Int} (h : 1 - q ≤ o) : clI a b q (o + 1 - (1 - q)).toNat x = if ¬ clI a b q (o - (1 - q)).toNat x = 0 ∨ clS a b o then 1 else 0 := by
  have e : (o + 1 - (1 - q)).toNat = (o - (1 - q)).toNat + 1 := by omega
  rw [e]; show (if ¬ clI a b q (o - (1 - q)).toNat x = 0 ∨ clS a b (((o - (1 - q)).toNat : Int) + (1 - q)) then 1 else 0) = _
  rw [show (((o - (1 - q)).toNat : Nat) : Int) + (1 - q) = o by omega]
theorem clO_s (q c1 h1 c2 h2 : Int) {f : Int} (h : 0 ≤ f) : clO q c1 h1 c2 h2 (f + 1).toNat = clI (blV c1 h1 f) (blV c2 h2 f * p2 4) q (2 * q - 1).toNat (clO q c1 h1 c2 h2 f.toNat) := by
  rw [show (f + 1).toNat = f.toNat + 1 by omega]
  show clI (blV c1 h1 (f.toNat : Int)) (blV c2 h2 (f.toNat : Int) * p2 4) q (2 * q - 1).toNat (clO q c1 h1 c2 h2 f.toNat) = _
  rw [Int.toNat_of_nonneg h]
theorem clI_01 (a b q : Int) : ∀ (k : Nat) (x : Int), x = 0 ∨ x = 1 → clI a b q k x = 0 ∨ clI a b q k x = 1
  | 0, _, h => h
  | k + 1, x, h => by
    show (if _ then (1 : Int) else 0) = 0 ∨ (if _ then (1 : Int) else 0) = 1
    split
    · exact Or.inr rfl
    · exact Or.inl rfl
theorem cl_cn {q b c h1 h2 : Int} (hq : 1 ≤ q ∧ q ≤ 4) (hb : vK b) (hc : vK c) (g1 : h1 = 0 ∨ h1 = 1) (g2 : h2 = 0 ∨ h2 = 1) : clO q b h1 c h2 2 = b2 (cnD q b c (b2 (h1 = h2))) := by
  have e : ∀ x ∈ codes, ∀ y ∈ codes, ∀ q ∈ ([1, 2, 3, 4] : List Int), (clO q x 0 y 0 2 = b2 (cnD q x y 1)) ∧ (clO q x 1 y 1 2 = b2 (cnD q x y 1)) ∧ (clO q x 0 y 1 2 = b2 (cnD q x y 0)) ∧ (clO q x 1 y 0 2 = b2 (cnD q x y 0)) := by decide +kernel
  have f := e b (vK_in hb) c (vK_in hc) q (by rcases (by omega : q = 1 ∨ q = 2 ∨ q = 3 ∨ q = 4) with rfl | rfl | rfl | rfl <;> decide)
  rcases g1 with rfl | rfl <;> rcases g2 with rfl | rfl
  · exact f.1
  · exact f.2.2.1
  · exact f.2.2.2
  · exact f.2.1
/-- whether a sticking can be played -/
abbrev caP (g : Int → Int) (n q : Int) (hb : Int → Int) (ov j : Int) : Prop := (ov = 0 ∧ ¬ j + 1 < n) ∨ ¬ cnD q (g j) (g (if j + 1 < n then j + 1 else 0)) (b2 (hb j = hb (if j + 1 < n then j + 1 else 0)))
def caN (g : Int → Int) (n q : Int) (hb : Int → Int) (ov : Int) : Nat → Int → Int
  | 0, _ => 1
  | r + 1, j => if caP g n q hb ov j then caN g n q hb ov r (j + 1) else 0
def caV (g : Int → Int) (n q : Int) (hb : Int → Int) (ov : Int) : Int := caN g n q hb ov n.toNat 0
theorem caN_s (g : Int → Int) (q : Int) (hb : Int → Int) (ov : Int) {n k : Int} (h : k < n) : caN g n q hb ov (n - k).toNat k = if caP g n q hb ov k then caN g n q hb ov (n - (k + 1)).toNat (k + 1) else 0 := by
  rw [show (n - k).toNat = (n - (k + 1)).toNat + 1 by omega]; rfl
theorem caN_01 (g : Int → Int) (n q : Int) (hb : Int → Int) (ov : Int) : ∀ (r : Nat) (j : Int), caN g n q hb ov r j = 0 ∨ caN g n q hb ov r j = 1
  | 0, _ => Or.inr rfl
  | r + 1, j => by
    have e : caN g n q hb ov (r + 1) j = if caP g n q hb ov j then caN g n q hb ov r (j + 1) else 0 := rfl
    rw [e]; split
    · exact caN_01 g n q hb ov r (j + 1)
    · exact Or.inl rfl
/-- repeated hands -/
def rpS (g hb : Int → Int) : Nat → Int × Int
  | 0 => (0, -1)
  | k + 1 => if g k = 0 then rpS g hb k else ((rpS g hb k).1 + (if hb k = (rpS g hb k).2 then 1 else 0), hb k)
theorem rpS_s (g hb : Int → Int) {k : Int} (h : 0 ≤ k) : rpS g hb (k + 1).toNat = if g k = 0 then rpS g hb k.toNat else ((rpS g hb k.toNat).1 + (if hb k = (rpS g hb k.toNat).2 then 1 else 0), hb k) := by
  rw [show (k + 1).toNat = k.toNat + 1 by omega]
  show (if g (k.toNat : Int) = 0 then rpS g hb k.toNat else ((rpS g hb k.toNat).1 + (if hb (k.toNat : Int) = (rpS g hb k.toNat).2 then 1 else 0), hb (k.toNat : Int))) = _
  rw [Int.toNat_of_nonneg h]
theorem rpS_in (g hb : Int → Int) : ∀ k : Nat, 0 ≤ (rpS g hb k).1 ∧ (rpS g hb k).1 ≤ k
  | 0 => ⟨Int.le_refl _, Int.le_refl _⟩
  | k + 1 => by
    have ih := rpS_in g hb k
    have e : rpS g hb (k + 1) = if g k = 0 then rpS g hb k else ((rpS g hb k).1 + (if hb k = (rpS g hb k).2 then 1 else 0), hb k) := rfl
    rw [e]; split
    · omega
    · show 0 ≤ (rpS g hb k).1 + (if hb k = (rpS g hb k).2 then 1 else 0) ∧ (rpS g hb k).1 + (if hb k = (rpS g hb k).2 then 1 else 0) ≤ _
      split <;> omega
def rpV (g : Int → Int) (n : Int) (hb : Int → Int) : Int := (rpS g hb n.toNat).1
theorem rpS_cg {g h1 h2 : Int → Int} : ∀ k : Nat, (∀ j : Int, 0 ≤ j → j < k → h1 j = h2 j) → rpS g h1 k = rpS g h2 k
  | 0, _ => rfl
  | k + 1, h => by
    have e : ∀ x : Int → Int, rpS g x (k + 1) = if g k = 0 then rpS g x k else ((rpS g x k).1 + (if x k = (rpS g x k).2 then 1 else 0), x k) := fun _ => rfl
    rw [e, e, rpS_cg k (fun j a b => h j a (by omega)), h k (by omega) (by omega)]
theorem caN_cg {g : Int → Int} {n q ov : Int} {h1 h2 : Int → Int} (h : ∀ j : Int, 0 ≤ j → j < n → h1 j = h2 j) : ∀ (r : Nat) (j : Int), 0 ≤ j → j + r = n → caN g n q h1 ov r j = caN g n q h2 ov r j
  | 0, _, _, _ => rfl
  | r + 1, j, h0, hr => by
    have e : ∀ x : Int → Int, caN g n q x ov (r + 1) j = if caP g n q x ov j then caN g n q x ov r (j + 1) else 0 := fun _ => rfl
    have hx : h1 (if j + 1 < n then j + 1 else 0) = h2 (if j + 1 < n then j + 1 else 0) := by
      by_cases z : j + 1 < n
      · rw [if_pos z]; exact h _ (by omega) z
      · rw [if_neg z]; exact h 0 (by omega) (by omega)
    rw [e, e, caN_cg h r (j + 1) (by omega) (by omega)]
    unfold caP; rw [h j h0 (by omega), hx]
/-- the hands of a number, and the mask that the law makes of them -/
def hkV (n k j : Int) : Int := k / p2 (n - 1 - j) % 2
def mkN (f : Int → Int) : Nat → Int
  | 0 => 0
  | j + 1 => mkN f j + f j * p2 j
def btV (x j : Int) : Int := x / p2 j % 2
theorem hkV_01 (n k j : Int) : hkV n k j = 0 ∨ hkV n k j = 1 := by unfold hkV; omega
theorem mkN_s (f : Int → Int) {j : Int} (h : 0 ≤ j) : mkN f (j + 1).toNat = mkN f j.toNat + f j * p2 j := by
  rw [show (j + 1).toNat = j.toNat + 1 by omega]
  show mkN f j.toNat + f (j.toNat : Int) * p2 (j.toNat : Int) = _
  rw [Int.toNat_of_nonneg h]
theorem mkN_in {f : Int → Int} (hf : ∀ j, f j = 0 ∨ f j = 1) : ∀ m : Nat, 0 ≤ mkN f m ∧ mkN f m < p2 m
  | 0 => ⟨Int.le_refl _, by show (0 : Int) < p2 0; decide⟩
  | m + 1 => by
    have ih := mkN_in hf m
    have e : mkN f (m + 1) = mkN f m + f m * p2 m := rfl
    have p := p2_s (j := (m : Int)) (by omega)
    have p1 := p2_pos (m : Int)
    rw [e, show ((m + 1 : Nat) : Int) = (m : Int) + 1 by omega, p]
    rcases hf m with z | z <;> (rw [z]; omega)
theorem p2_add {i j : Nat} (h : i < j) : ∃ t : Int, p2 j = p2 i * (2 * t) := by
  refine ⟨p2 (j - i - 1 : Nat), ?_⟩
  unfold p2
  rw [Int.toNat_natCast, Int.toNat_natCast, Int.toNat_natCast]
  have e : 2 ^ j = 2 ^ i * (2 * 2 ^ (j - i - 1)) := by
    rw [show 2 * 2 ^ (j - i - 1) = 2 ^ (j - i - 1 + 1) from by rw [Nat.pow_succ, Nat.mul_comm], ← Nat.pow_add]
    exact congrArg (fun z => 2 ^ z) (by omega)
  rw [e]; simp
theorem mkN_b {f : Int → Int} (hf : ∀ j, f j = 0 ∨ f j = 1) : ∀ (m i : Nat), i < m → btV (mkN f m) i = f i
  | 0, i, h => absurd h (by omega)
  | m + 1, i, h => by
    have e : mkN f (m + 1) = mkN f m + f m * p2 m := rfl
    have hm := mkN_in hf m
    have p1 := p2_pos (i : Int)
    unfold btV; rw [e]
    by_cases z : i = m
    · subst z
      rcases hf i with y | y
      · rw [y, Int.zero_mul, Int.add_zero, Int.ediv_eq_zero_of_lt hm.1 hm.2]; rfl
      · rw [y, Int.one_mul, Int.add_ediv_of_dvd_right (Int.dvd_refl _), Int.ediv_eq_zero_of_lt hm.1 hm.2, Int.ediv_self (by omega)]; rfl
    · have ih := mkN_b hf m i (by omega)
      obtain ⟨t, ht⟩ := p2_add (i := i) (j := m) (by omega)
      unfold btV at ih
      rw [ht, show f m * (p2 i * (2 * t)) = p2 i * (2 * (f m * t)) by rw [Int.mul_left_comm, Int.mul_left_comm (f m) 2 t], Int.add_mul_ediv_left _ _ (show p2 (i : Int) ≠ 0 by omega)]
      rw [Int.add_mul_emod_self_left]; exact ih
