/-! numbers of stickings: from behind, with a weight of the last hand -/
theorem alg4 (A B C D : Prop) [Decidable A] [Decidable B] [Decidable C] [Decidable D] (x y m0 m1 : Int) : ((if A then x else 0) + (if C then y else 0)) * m0 + ((if B then x else 0) + (if D then y else 0)) * m1 = x * ((if A then m0 else 0) + (if B then m1 else 0)) + y * ((if C then m0 else 0) + (if D then m1 else 0)) := by
  by_cases a : A <;> by_cases b : B <;> by_cases c : C <;> by_cases d : D <;> simp only [a, b, c, d, if_true, if_false, Int.add_mul, Int.mul_add, Int.zero_mul, Int.mul_zero, Int.add_zero, Int.zero_add] <;> omega
theorem algL (A B F G : Prop) [Decidable A] [Decidable B] [Decidable F] [Decidable G] (x0 x1 y0 y1 : Int) : (if F then ((if A then x0 else 0) + (if B then y0 else 0)) else 0) + (if G then ((if A then x1 else 0) + (if B then y1 else 0)) else 0) = (if A then ((if F then x0 else 0) + (if G then x1 else 0)) else 0) + (if B then ((if F then y0 else 0) + (if G then y1 else 0)) else 0) := by
  by_cases a : A <;> by_cases b : B <;> by_cases f : F <;> by_cases h : G <;> simp only [a, b, f, h, if_true, if_false] <;> omega
theorem alg2 (A B F G : Prop) [Decidable A] [Decidable B] [Decidable F] [Decidable G] (hA : A ↔ F) (hB : B ↔ G) (x y : Int) : (if A then x else 0) + (if B then y else 0) = (if F then x else 0) + (if G then y else 0) := by
  by_cases a : A <;> by_cases b : B
  · rw [if_pos a, if_pos b, if_pos (hA.mp a), if_pos (hB.mp b)]
  · rw [if_pos a, if_neg b, if_pos (hA.mp a), if_neg (fun z => b (hB.mpr z))]
  · rw [if_neg a, if_pos b, if_neg (fun z => a (hA.mpr z)), if_pos (hB.mp b)]
  · rw [if_neg a, if_neg b, if_neg (fun z => a (hA.mpr z)), if_neg (fun z => b (hB.mpr z))]
section
variable {n : Int} {ow cA cU : Int → Int}
def bw (n : Int) (ow cA cU : Int → Int) (w : Int → Int) : Nat → Int → Int → Int
  | 0, _, b => w b
  | r + 1, k, b => if ow k = 3 then bw n ow cA cU w r (k + 1) b else (if fitP n ow cA cU k b 0 then bw n ow cA cU w r (k + 1) 0 else 0) + (if fitP n ow cA cU k b 1 then bw n ow cA cU w r (k + 1) 1 else 0)
theorem bw_s (w : Int → Int) (r : Nat) (k b : Int) : bw n ow cA cU w (r + 1) k b = if ow k = 3 then bw n ow cA cU w r (k + 1) b else (if fitP n ow cA cU k b 0 then bw n ow cA cU w r (k + 1) 0 else 0) + (if fitP n ow cA cU k b 1 then bw n ow cA cU w r (k + 1) 1 else 0) := rfl
/-- from ahead and from behind -/
theorem tb_bw (w : Int → Int) (ah : Int) : ∀ r : Nat, (r : Int) ≤ n → (tbN n ow cA cU ah (n - r).toNat).1 * bw n ow cA cU w r (n - r) 0 + (tbN n ow cA cU ah (n - r).toNat).2 * bw n ow cA cU w r (n - r) 1 = (tbN n ow cA cU ah n.toNat).1 * w 0 + (tbN n ow cA cU ah n.toNat).2 * w 1
  | 0, _ => by
    rw [show n - ((0 : Nat) : Int) = n by omega]; rfl
  | r + 1, hr => by
    have ih := tb_bw w ah r (by omega)
    rw [← ih]
    generalize hk : n - (((r + 1 : Nat)) : Int) = k
    rw [show n - (r : Int) = k + 1 by omega]
    have e : tbN n ow cA cU ah (k + 1).toNat = if ow k = 3 then tbN n ow cA cU ah k.toNat else (tnX n ow cA cU k 0 (tbN n ow cA cU ah k.toNat).1 (tbN n ow cA cU ah k.toNat).2, tnX n ow cA cU k 1 (tbN n ow cA cU ah k.toNat).1 (tbN n ow cA cU ah k.toNat).2) := tbN_s n ow cA cU ah (by omega)
    rw [e, bw_s, bw_s]
    generalize tbN n ow cA cU ah k.toNat = u
    by_cases z : ow k = 3
    · rw [if_pos z, if_pos z, if_pos z]
    · rw [if_neg z, if_neg z, if_neg z]
      unfold tnX
      generalize bw n ow cA cU w r (k + 1) 0 = m0
      generalize bw n ow cA cU w r (k + 1) 1 = m1
      exact (alg4 (fitP n ow cA cU k 0 0) (fitP n ow cA cU k 0 1) (fitP n ow cA cU k 1 0) (fitP n ow cA cU k 1 1) _ _ _ _).symm
theorem tb_bw0 (w : Int → Int) (hn : 0 ≤ n) {ah : Int} (h01 : ah = 0 ∨ ah = 1) : bw n ow cA cU w n.toNat 0 ah = tbR n ow cA cU ah n * w 0 + tbL n ow cA cU ah n * w 1 := by
  have h := tb_bw (n := n) (ow := ow) (cA := cA) (cU := cU) w ah n.toNat (by omega)
  rw [show n - ((n.toNat : Nat) : Int) = 0 by omega] at h
  unfold tbR tbL; rw [← h]
  have e : tbN n ow cA cU ah (0 : Int).toNat = (if ah = 0 then 1 else 0, if ah = 1 then 1 else 0) := rfl
  rw [e]
  rcases h01 with rfl | rfl
  · simp
  · simp
def dlt (z : Int) : Int → Int := fun b => if b = z then 1 else 0
theorem bw_lin {w : Int → Int} {A0 A1 : Prop} [Decidable A0] [Decidable A1] (h0 : w 0 = if A0 then 1 else 0) (h1 : w 1 = if A1 then 1 else 0) : ∀ (r : Nat) (k b : Int), b = 0 ∨ b = 1 → bw n ow cA cU w r k b = (if A0 then bw n ow cA cU (dlt 0) r k b else 0) + (if A1 then bw n ow cA cU (dlt 1) r k b else 0)
  | 0, k, b, hb => by
    show w b = (if A0 then dlt 0 b else 0) + (if A1 then dlt 1 b else 0)
    rcases hb with rfl | rfl
    · rw [h0, show dlt 0 0 = 1 from rfl, show dlt 1 0 = 0 from rfl]; by_cases z : A0 <;> by_cases y : A1 <;> simp only [z, y, if_true, if_false] <;> rfl
    · rw [h1, show dlt 0 1 = 0 from rfl, show dlt 1 1 = 1 from rfl]; by_cases z : A0 <;> by_cases y : A1 <;> simp only [z, y, if_true, if_false] <;> rfl
  | r + 1, k, b, hb => by
    have ih := fun b hb => bw_lin h0 h1 r (k + 1) b hb
    rw [bw_s, bw_s, bw_s, ih b hb, ih 0 (Or.inl rfl), ih 1 (Or.inr rfl)]
    by_cases z : ow k = 3
    · rw [if_pos z, if_pos z, if_pos z]
    · rw [if_neg z, if_neg z, if_neg z]
      exact algL A0 A1 (fitP n ow cA cU k b 0) (fitP n ow cA cU k b 1) _ _ _ _
/-! by each choice -/
def oc (n : Int) (ow cA cU : Int → Int) (w : Int → Int) : Nat → Int → Int → Int → Int
  | 0, _, b, _ => w b
  | r + 1, k, b, y => if plC n cA cU k (b2 (b = (if ow k = 2 then y % 2 else ow k))) = 0 then oc n ow cA cU w r (k + 1) (if ow k = 3 then b else (if ow k = 2 then y % 2 else ow k)) (if ow k = 2 then y / 2 else y) else 0
def kn (ow : Int → Int) : Nat → Int → Nat
  | 0, _ => 0
  | r + 1, k => kn ow r (k + 1) + (if ow k = 2 then 1 else 0)
def sN (f : Nat → Int) : Nat → Int
  | 0 => 0
  | m + 1 => sN f m + f m
theorem sN_2 (f : Nat → Int) : ∀ m : Nat, sN f (2 * m) = sN (fun y => f (2 * y) + f (2 * y + 1)) m
  | 0 => rfl
  | m + 1 => by
    have ih := sN_2 f m
    show sN f (2 * m) + f (2 * m) + f (2 * m + 1) = sN (fun y => f (2 * y) + f (2 * y + 1)) m + (f (2 * m) + f (2 * m + 1))
    omega
theorem sN_cg {f h : Nat → Int} : ∀ m : Nat, (∀ y, y < m → f y = h y) → sN f m = sN h m
  | 0, _ => rfl
  | m + 1, e => by
    show sN f m + f m = sN h m + h m
    rw [sN_cg m (fun y a => e y (by omega)), e m (by omega)]
theorem sN_add (f h : Nat → Int) : ∀ m : Nat, sN (fun y => f y + h y) m = sN f m + sN h m
  | 0 => rfl
  | m + 1 => by
    have ih := sN_add f h m
    show sN (fun y => f y + h y) m + (f m + h m) = sN f m + f m + (sN h m + h m)
    omega
theorem sN_if (P : Prop) [Decidable P] (f : Nat → Int) (m : Nat) : sN (fun y => if P then f y else 0) m = if P then sN f m else 0 := by
  by_cases z : P
  · rw [if_pos z]; exact sN_cg m (fun y _ => if_pos z)
  · rw [if_neg z]
    have : ∀ m, sN (fun y => if P then f y else 0) m = 0 := fun m => by
      induction m with
      | zero => rfl
      | succ m ih => show sN (fun y => if P then f y else 0) m + (if P then f m else 0) = 0; rw [ih, if_neg z]; rfl
    exact this m
theorem oc_sum (w : Int → Int) (h3 : ∀ k al : Int, 0 ≤ k → k < n → ow k = 3 → plC n cA cU k al = 0) (ho : ∀ k : Int, 0 ≤ k → k < n → ow k = 0 ∨ ow k = 1 ∨ ow k = 2 ∨ ow k = 3) : ∀ (r : Nat) (k b : Int), 0 ≤ k → k + r ≤ n → sN (fun y => oc n ow cA cU w r k b (y : Int)) (2 ^ kn ow r k) = bw n ow cA cU w r k b
  | 0, k, b, _, _ => by
    show 0 + w b = w b
    omega
  | r + 1, k, b, h0, hr => by
    have ih := fun b => oc_sum w h3 ho r (k + 1) b (by omega) (by omega)
    have hk : 0 ≤ k ∧ k < n := ⟨h0, by omega⟩
    have eK : kn ow (r + 1) k = kn ow r (k + 1) + (if ow k = 2 then 1 else 0) := rfl
    have eO : ∀ y : Int, oc n ow cA cU w (r + 1) k b y = if plC n cA cU k (b2 (b = (if ow k = 2 then y % 2 else ow k))) = 0 then oc n ow cA cU w r (k + 1) (if ow k = 3 then b else (if ow k = 2 then y % 2 else ow k)) (if ow k = 2 then y / 2 else y) else 0 := fun _ => rfl
    rw [bw_s, eK]
    rcases ho k h0 hk.2 with z | z | z | z
    · rw [if_neg (show ¬ ow k = 2 by omega), Nat.add_zero, if_neg (show ¬ ow k = 3 by omega), ← ih 0, ← ih 1]
      have e1 : ∀ y : Int, oc n ow cA cU w (r + 1) k b y = if plC n cA cU k (b2 (b = 0)) = 0 then oc n ow cA cU w r (k + 1) 0 y else 0 := fun y => by
        rw [eO, if_neg (show ¬ ow k = 2 by omega), if_neg (show ¬ ow k = 3 by omega), if_neg (show ¬ ow k = 2 by omega), z]
      rw [sN_cg _ (fun y _ => e1 y), sN_if, if_neg (fun q : fitP n ow cA cU k b 1 => absurd q.2.1 (by omega)), Int.add_zero]
      by_cases y : plC n cA cU k (b2 (b = 0)) = 0
      · rw [if_pos y, if_pos ⟨hk, Or.inr z, y⟩]; rfl
      · rw [if_neg y, if_neg (fun q => y q.2.2)]
    · rw [if_neg (show ¬ ow k = 2 by omega), Nat.add_zero, if_neg (show ¬ ow k = 3 by omega), ← ih 0, ← ih 1]
      have e1 : ∀ y : Int, oc n ow cA cU w (r + 1) k b y = if plC n cA cU k (b2 (b = 1)) = 0 then oc n ow cA cU w r (k + 1) 1 y else 0 := fun y => by
        rw [eO, if_neg (show ¬ ow k = 2 by omega), if_neg (show ¬ ow k = 3 by omega), if_neg (show ¬ ow k = 2 by omega), z]
      rw [sN_cg _ (fun y _ => e1 y), sN_if, if_neg (fun q : fitP n ow cA cU k b 0 => absurd q.2.1 (by omega)), Int.zero_add]
      by_cases y : plC n cA cU k (b2 (b = 1)) = 0
      · rw [if_pos y, if_pos ⟨hk, Or.inr z, y⟩]; rfl
      · rw [if_neg y, if_neg (fun q => y q.2.2)]
    · rw [if_pos z, if_neg (show ¬ ow k = 3 by omega), Nat.pow_succ, Nat.mul_comm, sN_2, ← ih 0, ← ih 1]
      have e0 : ∀ y : Nat, oc n ow cA cU w (r + 1) k b ((2 * y : Nat) : Int) = if plC n cA cU k (b2 (b = 0)) = 0 then oc n ow cA cU w r (k + 1) 0 (y : Int) else 0 := fun y => by
        rw [eO, if_pos z, if_neg (show ¬ ow k = 3 by omega), if_pos z, show ((2 * y : Nat) : Int) % 2 = 0 by omega, show ((2 * y : Nat) : Int) / 2 = y by omega]
      have e1 : ∀ y : Nat, oc n ow cA cU w (r + 1) k b ((2 * y + 1 : Nat) : Int) = if plC n cA cU k (b2 (b = 1)) = 0 then oc n ow cA cU w r (k + 1) 1 (y : Int) else 0 := fun y => by
        rw [eO, if_pos z, if_neg (show ¬ ow k = 3 by omega), if_pos z, show ((2 * y + 1 : Nat) : Int) % 2 = 1 by omega, show ((2 * y + 1 : Nat) : Int) / 2 = y by omega]
      rw [sN_cg _ (fun y _ => by rw [e0, e1]), sN_add, sN_if, sN_if]
      have f : ∀ hh : Int, fitP n ow cA cU k b hh ↔ plC n cA cU k (b2 (b = hh)) = 0 := fun hh => ⟨fun q => q.2.2, fun q => ⟨hk, Or.inl z, q⟩⟩
      exact alg2 _ _ _ _ (f 0).symm (f 1).symm _ _
    · rw [if_neg (show ¬ ow k = 2 by omega), Nat.add_zero, if_pos z, ← ih b]
      have e1 : ∀ y : Int, oc n ow cA cU w (r + 1) k b y = oc n ow cA cU w r (k + 1) b y := fun y => by
        rw [eO, if_neg (show ¬ ow k = 2 by omega), if_pos z, if_neg (show ¬ ow k = 2 by omega), if_pos (h3 k _ h0 hk.2 z)]
      exact sN_cg _ (fun y _ => e1 y)
end
