/-! the class's codes and the model's -/
def mk (c : Int) : Int := if c = 0 then 0 else 1 + c / 2 % 4 + 3 * (c / 8 % 2) + 6 * (c / 16 % 4)
def codes : List Int := [0, 1, 3, 5, 9, 11, 13, 17, 19, 21, 25, 27, 29, 33, 35, 37, 41, 43, 45, 49, 51, 53, 57, 59, 61]
theorem codes_all : ∀ k : Fin 64, (¬ ((k.val : Int) / 2 % 4 = 3) ∧ ((k.val : Int) = 0 ∨ (k.val : Int) % 2 = 1)) → (k.val : Int) ∈ codes := by decide +kernel
theorem vK_in {c : Int} (h : vK c) : c ∈ codes := by
  have h1 := h.1
  have q := codes_all ⟨c.toNat, by omega⟩
  have e : ((c.toNat : Nat) : Int) = c := Int.toNat_of_nonneg h1.1
  rw [e] at q; exact q h.2
theorem vK_all {P : Int → Prop} [DecidablePred P] (h : ∀ k ∈ codes, P k) {c : Int} (hc : vK c) : P c := h c (vK_in hc)
theorem mk_0 {c : Int} (h : vK c) : mk c = 0 ↔ c = 0 := vK_all (P := fun c => mk c = 0 ↔ c = 0) (by decide +kernel) h
theorem mk_in {c : Int} (h : vK c) : 0 ≤ mk c ∧ mk c ≤ 24 := vK_all (P := fun c => 0 ≤ mk c ∧ mk c ≤ 24) (by decide +kernel) h
theorem mk_inj {c d : Int} (h : vK c) (h2 : vK d) : mk c = mk d ↔ c = d := by
  have e : ∀ x ∈ codes, ∀ y ∈ codes, (mk x = mk y ↔ x = y) := by decide +kernel
  exact e c (vK_in h) d (vK_in h2)
theorem mk_hd {c : Int} (h : vK c) : ¬ c = 0 → (mk c - 1) % 3 = c / 2 % 4 := vK_all (P := fun c => ¬ c = 0 → (mk c - 1) % 3 = c / 2 % 4) (by decide +kernel) h
theorem mk_ac {c : Int} (h : vK c) : mAc (mk c) = b2 (c / 8 % 2 = 1) := vK_all (P := fun c => mAc (mk c) = b2 (c / 8 % 2 = 1)) (by decide +kernel) h
theorem mk_or {c : Int} (h : vK c) : mOr (mk c) = c / 16 % 4 := vK_all (P := fun c => mOr (mk c) = c / 16 % 4) (by decide +kernel) h
theorem mk_bl {c : Int} (h : vK c) : mBl (mk c) = sBl c := vK_all (P := fun c => mBl (mk c) = sBl c) (by decide +kernel) h
theorem mk_fs {c : Int} (h : vK c) : mFs (mk c) = sFs c := vK_all (P := fun c => mFs (mk c) = sFs c) (by decide +kernel) h
theorem mk_tl {c : Int} (h : vK c) : mTl (mk c) = sTl c := vK_all (P := fun c => mTl (mk c) = sTl c) (by decide +kernel) h
theorem mk_mi {c : Int} (h : vK c) : mk (miC c) = miM (mk c) ∧ vK (miC c) := by
  have e := vK_all (P := fun c => mk (miC c) = miM (mk c) ∧ ((0 ≤ miC c ∧ miC c < 64) ∧ ¬ miC c / 2 % 4 = 3 ∧ (miC c = 0 ∨ miC c % 2 = 1))) (by decide +kernel) h
  exact ⟨e.1, e.2⟩
theorem mk_le {c d : Int} (h : vK c) (hd : d = 0 ∨ d = 1) : mk (leC d c) = leM d (mk c) ∧ vK (leC d c) := by
  rcases hd with rfl | rfl
  · exact vK_all (P := fun c => mk (leC 0 c) = leM 0 (mk c) ∧ ((0 ≤ leC 0 c ∧ leC 0 c < 64) ∧ ¬ leC 0 c / 2 % 4 = 3 ∧ (leC 0 c = 0 ∨ leC 0 c % 2 = 1))) (by decide +kernel) h
  · exact vK_all (P := fun c => mk (leC 1 c) = leM 1 (mk c) ∧ ((0 ≤ leC 1 c ∧ leC 1 c < 64) ∧ ¬ leC 1 c / 2 % 4 = 3 ∧ (leC 1 c = 0 ∨ leC 1 c % 2 = 1))) (by decide +kernel) h
theorem mk_sOf {h a o : Int} (hh : 0 ≤ h ∧ h ≤ 2) (ha : a = 0 ∨ a = 1) (ho : 0 ≤ o ∧ o ≤ 3) : mk (sOf h a o) = 1 + h + 3 * a + 6 * o := by
  have hs := (sOf_in hh ha ho).2.2
  unfold mk; rw [if_neg hs]; unfold sOf; omega
theorem mk_sg {c p : Int} (h : vK c) (hp : 0 ≤ p ∧ p < sTl c) : mSg (mk c) p = sSg c p := by
  have e : ∀ x ∈ codes, (sTl x ≤ 4) ∧ mSg (mk x) 0 = sSg x 0 ∧ (1 < sTl x → mSg (mk x) 1 = sSg x 1) ∧ (2 < sTl x → mSg (mk x) 2 = sSg x 2) ∧ (3 < sTl x → mSg (mk x) 3 = sSg x 3) := by decide +kernel
  have f := e c (vK_in h)
  have g := f.1
  rcases (by omega : p = 0 ∨ p = 1 ∨ p = 2 ∨ p = 3) with rfl | rfl | rfl | rfl
  · exact f.2.1
  · exact f.2.2.1 hp.2
  · exact f.2.2.2.1 hp.2
  · exact f.2.2.2.2 hp.2
def mFa (c u : Int) : Int := sm (fun b => if b < mBl c ∧ mTi c b = u then mFo c b else 0) 3
theorem mk_fa {c : Int} (h : vK c) (u : Int) : sFa c u = mFa (mk c) u := by
  by_cases z : -2 ≤ u ∧ u ≤ 2
  · have e : ∀ x ∈ codes, ∀ u ∈ ([-2, -1, 0, 1, 2] : List Int), sFa x u = mFa (mk x) u := by decide +kernel
    exact e c (vK_in h) u (by rcases (by omega : u = -2 ∨ u = -1 ∨ u = 0 ∨ u = 1 ∨ u = 2) with rfl | rfl | rfl | rfl | rfl <;> decide)
  · have e0 : ∀ k : Int, sm (fun _ => (0 : Int)) k = 0 := fun k => by
      have : ∀ n : Nat, smN (fun _ => (0 : Int)) n = 0 := fun n => by
        induction n with
        | zero => rfl
        | succ n ih => show smN (fun _ => (0 : Int)) n + 0 = 0; omega
      exact this k.toNat
    have e1 : sFa c u = 0 := by
      unfold sFa
      exact Eq.trans (sm_cg (g := fun _ => 0) (fun j _ _ => if_neg (fun y => by have := sOff_in (o := c / 16 % 4) (b := j); omega))) (e0 _)
    have e2 : mFa (mk c) u = 0 := by
      unfold mFa
      exact Eq.trans (sm_cg (g := fun _ => 0) (fun j a b => if_neg (fun y => by have := mTi_in (c := mk c) (b := j) ⟨by omega, by omega⟩; omega))) (e0 _)
    rw [e1, e2]
theorem mk_hr {c h : Int} (hc : vK c) (hh : h = 0 ∨ h = 1) : mRb (mk c) h = sFr c h := by
  rcases hh with rfl | rfl
  · exact vK_all (P := fun c => mRb (mk c) 0 = sFr c 0) (by decide +kernel) hc
  · exact vK_all (P := fun c => mRb (mk c) 1 = sFr c 1) (by decide +kernel) hc
theorem mk_cl {q b c h1 h2 : Int} (hq : 1 ≤ q ∧ q ≤ 4) (hb : vK b) (hc : vK c) (g1 : h1 = 0 ∨ h1 = 1) (g2 : h2 = 0 ∨ h2 = 1) : (¬ mCl q (mk b) h1 (mk c) h2 = 0) ↔ cnD q b c (b2 (h1 = h2)) := by
  have e : ∀ x ∈ codes, ∀ y ∈ codes, ∀ q ∈ ([1, 2, 3, 4] : List Int), ((¬ mCl q (mk x) 0 (mk y) 0 = 0) ↔ cnD q x y 1) ∧ ((¬ mCl q (mk x) 1 (mk y) 1 = 0) ↔ cnD q x y 1) ∧ ((¬ mCl q (mk x) 0 (mk y) 1 = 0) ↔ cnD q x y 0) ∧ ((¬ mCl q (mk x) 1 (mk y) 0 = 0) ↔ cnD q x y 0) := by decide +kernel
  have f := e b (vK_in hb) c (vK_in hc) q (by rcases (by omega : q = 1 ∨ q = 2 ∨ q = 3 ∨ q = 4) with rfl | rfl | rfl | rfl <;> decide)
  rcases g1 with rfl | rfl <;> rcases g2 with rfl | rfl
  · exact f.1
  · exact f.2.2.1
  · exact f.2.2.2
  · exact f.2.1
/-- a piece of the class and a state of the model -/
def RP (g : Int → Int) (n q : Int) (s : Int → Int) : Prop := (0 ≤ n ∧ n ≤ 32) ∧ (1 ≤ q ∧ q ≤ 4) ∧ s 0 = n ∧ s 1 = q ∧ ∀ j : Int, 0 ≤ j → j < n → vK (g j) ∧ s (2 + j) = mk (g j)
