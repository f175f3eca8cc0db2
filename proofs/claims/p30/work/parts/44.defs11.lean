/-! the class's reader -/
def rcI : Nat → Int → (Int → Int) × Int → Int × ((Int → Int) × Int)
  | 0, _, u => (1, u)
  | r + 1, k, u => if u.2 < 32 then rcI r (k + 1) (uJ u.1 u.2 (pAt u.1 u.2 k), u.2 + 1) else (0, u)
def rcO (a n : Int) : Nat → (Int → Int) × Int → Int × ((Int → Int) × Int)
  | 0, u => (1, u)
  | r + 1, u => if (rcI (n - a).toNat a u).1 = 1 then rcO a n r (rcI (n - a).toNat a u).2 else (0, (rcI (n - a).toNat a u).2)
theorem rcI_s (u : (Int → Int) × Int) {n k : Int} (h : k < n) : rcI (n - k).toNat k u = if u.2 < 32 then rcI (n - (k + 1)).toNat (k + 1) (uJ u.1 u.2 (pAt u.1 u.2 k), u.2 + 1) else (0, u) := by
  have e : (n - k).toNat = (n - (k + 1)).toNat + 1 := by omega
  rw [e]; rfl
theorem rcO_s (u : (Int → Int) × Int) {a n b j : Int} (h : j < b) : rcO a n (b - j).toNat u = if (rcI (n - a).toNat a u).1 = 1 then rcO a n (b - (j + 1)).toNat (rcI (n - a).toNat a u).2 else (0, (rcI (n - a).toNat a u).2) := by
  have e : (b - j).toNat = (b - (j + 1)).toNat + 1 := by omega
  rw [e]; rfl
/-- a code of a step -/
def vK (c : Int) : Prop := (0 ≤ c ∧ c < 64) ∧ ¬ c / 2 % 4 = 3 ∧ (c = 0 ∨ c % 2 = 1)
theorem vK_0 : vK 0 := by unfold vK; decide
theorem vK_of {h a o : Int} (hh : 0 ≤ h ∧ h ≤ 2) (ha : a = 0 ∨ a = 1) (ho : 0 ≤ o ∧ o ≤ 3) : vK (sOf h a o) := by
  have := sOf_in hh ha ho
  exact ⟨this.1, this.2.1, Or.inr (by unfold sOf; omega)⟩
def cIn (u : (Int → Int) × Int) : Prop := (0 ≤ u.2 ∧ u.2 ≤ 32) ∧ ∀ j : Int, 0 ≤ j → j < u.2 → vK (u.1 j)
theorem cIn_ad {u : (Int → Int) × Int} (h : cIn u) (hf : u.2 < 32) {v : Int} (hv : vK v) : cIn (uJ u.1 u.2 v, u.2 + 1) := by
  have h1 := h.1
  refine ⟨⟨by show 0 ≤ u.2 + 1; omega, by show u.2 + 1 ≤ 32; omega⟩, fun j h0 h2 => ?_⟩
  show vK (uJ u.1 u.2 v j)
  have h3 : j < u.2 + 1 := h2
  by_cases z : j = u.2
  · subst z; rw [uJ_s]; exact hv
  · rw [uJ_n z]; exact h.2 j h0 (by omega)
theorem cIn_ch {u : (Int → Int) × Int} (h : cIn u) {a v : Int} (hv : vK v) : cIn (uJ u.1 a v, u.2) := by
  refine ⟨h.1, fun j h0 h2 => ?_⟩
  show vK (uJ u.1 a v j)
  by_cases z : j = a
  · subst z; rw [uJ_s]; exact hv
  · rw [uJ_n z]; exact h.2 j h0 h2
theorem pAt_in2 {u : (Int → Int) × Int} (h : cIn u) (a : Int) : vK (pAt u.1 u.2 a) := by
  unfold pAt; split
  · rename_i z; exact h.2 a z.1 z.2
  · exact vK_0
theorem rcI_in : ∀ (r : Nat) (k : Int) {u : (Int → Int) × Int}, cIn u → cIn (rcI r k u).2 ∧ ((rcI r k u).1 = 0 ∨ (rcI r k u).1 = 1) ∧ u.2 ≤ (rcI r k u).2.2
  | 0, _, u, h => ⟨h, Or.inr rfl, Int.le_refl _⟩
  | r + 1, k, u, h => by
    have e : rcI (r + 1) k u = if u.2 < 32 then rcI r (k + 1) (uJ u.1 u.2 (pAt u.1 u.2 k), u.2 + 1) else (0, u) := rfl
    rw [e]; split
    · rename_i z
      have q := rcI_in r (k + 1) (cIn_ad h z (pAt_in2 h k))
      exact ⟨q.1, q.2.1, by have := q.2.2; have e2 : ((uJ u.1 u.2 (pAt u.1 u.2 k), u.2 + 1) : (Int → Int) × Int).2 = u.2 + 1 := rfl; rw [e2] at this; omega⟩
    · exact ⟨h, Or.inl rfl, Int.le_refl _⟩
theorem rcO_in {a n : Int} : ∀ (r : Nat) {u : (Int → Int) × Int}, cIn u → cIn (rcO a n r u).2 ∧ ((rcO a n r u).1 = 0 ∨ (rcO a n r u).1 = 1) ∧ u.2 ≤ (rcO a n r u).2.2
  | 0, u, h => ⟨h, Or.inr rfl, Int.le_refl _⟩
  | r + 1, u, h => by
    have q := rcI_in (n - a).toNat a h
    have e : rcO a n (r + 1) u = if (rcI (n - a).toNat a u).1 = 1 then rcO a n r (rcI (n - a).toNat a u).2 else (0, (rcI (n - a).toNat a u).2) := rfl
    rw [e]; split
    · have z := rcO_in (a := a) (n := n) r q.1
      exact ⟨z.1, z.2.1, by have := z.2.2; have := q.2.2; omega⟩
    · exact ⟨q.1, Or.inl rfl, q.2.2⟩
def wOr (c : Int) : Int := sOf (c / 2 % 4) (b2 (c / 8 % 2 = 1)) 3
def wrC (p : Int → Int) : Nat → Int → Int → Int → Int → (Int → Int) × Int → (Int → Int) → (Int → Int) → Int × ((Int → Int) × Int)
  | 0, _, _, _, _, u, _, _ => (1, u)
  | r + 1, k, ac, o, d, u, S, X =>
    if p k = 62 then wrC p r (k + 1) 1 o d u S X else
    if p k = 102 ∨ p k = 100 then wrC p r (k + 1) ac (if p k = 102 then 1 else 2) d u S X else
    if hsP (p k) then (if u.2 < 32 then wrC p r (k + 1) 0 0 d (uJ u.1 u.2 (sOf (rHd (p k)) ac o), u.2 + 1) S X else (0, u)) else
    if p k = 42 then wrC p r (k + 1) ac o d (uJ u.1 (u.2 - 1) (wOr (u.1 (u.2 - 1))), u.2) S X else
    if p k = 46 then (if u.2 < 32 then wrC p r (k + 1) ac o d (uJ u.1 u.2 0, u.2 + 1) S X else (0, u)) else
    if p k = 40 then wrC p r (k + 1) ac o (d + 1) u (uJ S d u.2) (uJ X d (p (k - 1) - 48)) else
    if p k = 41 then (if (rcO (S (d + -1)) u.2 (X (d + -1) - 1).toNat u).1 = 1 then wrC p r (k + 1) ac o (d + -1) (rcO (S (d + -1)) u.2 (X (d + -1) - 1).toNat u).2 S X else (0, (rcO (S (d + -1)) u.2 (X (d + -1) - 1).toNat u).2)) else
    wrC p r (k + 1) ac o d u S X
section
variable {p : Int → Int} {np k ac o d : Int} {u : (Int → Int) × Int} {S X : Int → Int}
theorem wrC_62 (hk : k < np) (h : p k = 62) : wrC p (np - k).toNat k ac o d u S X = wrC p (np - (k + 1)).toNat (k + 1) 1 o d u S X := by
  rw [show (np - k).toNat = (np - (k + 1)).toNat + 1 by omega]; exact if_pos h
theorem wrC_fd (o2 : Int) (hk : k < np) (h : p k = 102 ∨ p k = 100) (ho : o2 = if p k = 102 then 1 else 2) : wrC p (np - k).toNat k ac o d u S X = wrC p (np - (k + 1)).toNat (k + 1) ac o2 d u S X := by
  subst ho
  rw [show (np - k).toNat = (np - (k + 1)).toNat + 1 by omega]; exact (if_neg (by omega)).trans (if_pos h)
theorem wrC_hs (hk : k < np) (h : hsP (p k)) : wrC p (np - k).toNat k ac o d u S X = if u.2 < 32 then wrC p (np - (k + 1)).toNat (k + 1) 0 0 d (uJ u.1 u.2 (sOf (rHd (p k)) ac o), u.2 + 1) S X else (0, u) := by
  rw [show (np - k).toNat = (np - (k + 1)).toNat + 1 by omega]
  exact ((if_neg (by omega)).trans (if_neg (by omega))).trans (if_pos h)
theorem wrC_42 (hk : k < np) (h : p k = 42) : wrC p (np - k).toNat k ac o d u S X = wrC p (np - (k + 1)).toNat (k + 1) ac o d (uJ u.1 (u.2 - 1) (wOr (u.1 (u.2 - 1))), u.2) S X := by
  rw [show (np - k).toNat = (np - (k + 1)).toNat + 1 by omega]
  exact (((if_neg (by omega)).trans (if_neg (by omega))).trans (if_neg (by omega))).trans (if_pos h)
theorem wrC_46 (hk : k < np) (h : p k = 46) : wrC p (np - k).toNat k ac o d u S X = if u.2 < 32 then wrC p (np - (k + 1)).toNat (k + 1) ac o d (uJ u.1 u.2 0, u.2 + 1) S X else (0, u) := by
  rw [show (np - k).toNat = (np - (k + 1)).toNat + 1 by omega]
  exact ((((if_neg (by omega)).trans (if_neg (by omega))).trans (if_neg (by omega))).trans (if_neg (by omega))).trans (if_pos h)
theorem wrC_40 (hk : k < np) (h : p k = 40) : wrC p (np - k).toNat k ac o d u S X = wrC p (np - (k + 1)).toNat (k + 1) ac o (d + 1) u (uJ S d u.2) (uJ X d (p (k - 1) - 48)) := by
  rw [show (np - k).toNat = (np - (k + 1)).toNat + 1 by omega]
  exact (((((if_neg (by omega)).trans (if_neg (by omega))).trans (if_neg (by omega))).trans (if_neg (by omega))).trans (if_neg (by omega))).trans (if_pos h)
theorem wrC_41 (hk : k < np) (h : p k = 41) : wrC p (np - k).toNat k ac o d u S X = if (rcO (S (d + -1)) u.2 (X (d + -1) - 1).toNat u).1 = 1 then wrC p (np - (k + 1)).toNat (k + 1) ac o (d + -1) (rcO (S (d + -1)) u.2 (X (d + -1) - 1).toNat u).2 S X else (0, (rcO (S (d + -1)) u.2 (X (d + -1) - 1).toNat u).2) := by
  rw [show (np - k).toNat = (np - (k + 1)).toNat + 1 by omega]
  exact ((((((if_neg (by omega)).trans (if_neg (by omega))).trans (if_neg (by omega))).trans (if_neg (by omega))).trans (if_neg (by omega))).trans (if_neg (by omega))).trans (if_pos h)
theorem wrC_x (hk : k < np) (h0 : ¬ p k = 62) (h1 : ¬ (p k = 102 ∨ p k = 100)) (h2 : ¬ hsP (p k)) (h3 : ¬ p k = 42) (h4 : ¬ p k = 46) (h5 : ¬ p k = 40) (h6 : ¬ p k = 41) : wrC p (np - k).toNat k ac o d u S X = wrC p (np - (k + 1)).toNat (k + 1) ac o d u S X := by
  rw [show (np - k).toNat = (np - (k + 1)).toNat + 1 by omega]
  exact ((((((if_neg h0).trans (if_neg h1)).trans (if_neg h2)).trans (if_neg h3)).trans (if_neg h4)).trans (if_neg h5)).trans (if_neg h6)
end
/-- the place in a text, for the reader's bounds -/
def wrI (p S X : Int → Int) (np k st d ac o : Int) (u : (Int → Int) × Int) : Prop :=
  rfN p (np - k).toNat k st d = -4 ∧ (0 ≤ d ∧ 2 * d ≤ k) ∧ (st = 5 → 1 ≤ k ∧ 2 * d + 1 ≤ k ∧ 50 ≤ p (k - 1) ∧ p (k - 1) ≤ 57) ∧ (∀ j : Int, 0 ≤ j → j < d → (0 ≤ S j ∧ S j ≤ 32) ∧ (2 ≤ X j ∧ X j ≤ 9)) ∧ (st = 2 → 1 ≤ u.2) ∧ (ac = 0 ∨ ac = 1) ∧ (0 ≤ o ∧ o ≤ 2) ∧ cIn u
theorem rfN_s {p : Int → Int} {np k st d : Int} (hk : k < np) (hk0 : 0 ≤ k) (h : rfN p (np - k).toNat k st d = -4) : ¬ stB st (p k) d = -1 ∧ rfN p (np - (k + 1)).toNat (k + 1) (stB st (p k) d) (dpS (p k) d) = -4 := by
  rw [show (np - k).toNat = (np - (k + 1)).toNat + 1 by omega] at h
  have e : rfN p ((np - (k + 1)).toNat + 1) k st d = if stB st (p k) d = -1 then k else rfN p (np - (k + 1)).toNat (k + 1) (stB st (p k) d) (dpS (p k) d) := rfl
  rw [e] at h; by_cases z : stB st (p k) d = -1
  · rw [if_pos z] at h; omega
  · rw [if_neg z] at h; exact ⟨z, h⟩
theorem wOr_in {c : Int} (h : vK c) : vK (wOr c) := by
  have h1 := h.1
  have h2 := h.2.1
  unfold wOr; exact vK_of (by omega) (b2_01 _) (by omega)
theorem stB_f {st c d : Int} (hs : 0 ≤ st ∧ st ≤ 5) (h : ¬ stB st c d = -1) : (stB st c d = 5 → 50 ≤ c ∧ c ≤ 57) ∧ (stB st c d = 2 → hsP c) ∧ (c = 42 → st = 2) ∧ (c = 41 → 0 < d) ∧ (c = 40 → st = 5) := by
  revert h; unfold stB stBI stI stS hsP; (repeat' split) <;> omega
theorem rHd_in {c : Int} : 0 ≤ rHd c ∧ rHd c ≤ 2 := by unfold rHd; (repeat' split) <;> omega
def wrQ (p : Int → Int) (np : Int) (V : Int × ((Int → Int) × Int)) (k st d ac o x : Int) (u : (Int → Int) × Int) (S X : Int → Int) : Prop :=
  (0 ≤ k ∧ k ≤ np) ∧ (0 ≤ st ∧ st ≤ 5) ∧ cIn u ∧ ((x = 1 ∧ wrI p S X np k st d ac o u ∧ wrC p (np - k).toNat k ac o d u S X = V) ∨ (x = 0 ∧ V = (0, u)))
section
variable {p : Int → Int} {np k ac o d st x : Int} {u : (Int → Int) × Int} {S X : Int → Int} {V : Int × ((Int → Int) × Int)}
theorem wrQ_i (h : wrQ p np V k st d ac o x u S X) (hx : ¬ x = 0) : x = 1 ∧ wrI p S X np k st d ac o u ∧ wrC p (np - k).toNat k ac o d u S X = V := h.2.2.2.elim id (fun z => absurd z.1 hx)
theorem wrI_s (h : wrI p S X np k st d ac o u) (hk : k < np) (hk0 : 0 ≤ k) (hs : 0 ≤ st ∧ st ≤ 5) {d2 ac2 o2 : Int} {u2 : (Int → Int) × Int} {S2 X2 : Int → Int} (hd2 : d2 = dpS (p k) d) (hS : ∀ j : Int, 0 ≤ j → j < d2 → (0 ≤ S2 j ∧ S2 j ≤ 32) ∧ (2 ≤ X2 j ∧ X2 j ≤ 9)) (hu : cIn u2) (hu2 : hsP (p k) → 1 ≤ u2.2) (ha2 : ac2 = 0 ∨ ac2 = 1) (ho2 : 0 ≤ o2 ∧ o2 ≤ 2) : wrI p S2 X2 np (k + 1) (stB st (p k) d) d2 ac2 o2 u2 ∧ (0 ≤ stB st (p k) d ∧ stB st (p k) d ≤ 5) := by
  obtain ⟨h1, h2, h3, h4, h5, h6, h7, h8⟩ := h
  obtain ⟨n1, n2⟩ := rfN_s hk hk0 h1
  have f := stB_f hs n1
  have g := stB_in (s := st) (c := p k) (d := d)
  subst hd2
  refine ⟨⟨n2, ?_, fun z => ?_, hS, fun z => hu2 (f.2.1 z), ha2, ho2, hu⟩, by omega⟩
  · unfold dpS; by_cases z : p k = 40
    · rw [if_pos z]; have := h3 (f.2.2.2.2 z); omega
    · rw [if_neg z]; by_cases y : p k = 41
      · rw [if_pos y]; have := f.2.2.2.1 y; omega
      · rw [if_neg y]; omega
  · have q := f.1 z
    have e : dpS (p k) d = d := by unfold dpS; rw [if_neg (by omega), if_neg (by omega)]
    rw [e, show k + 1 - 1 = k by omega]; omega
theorem wrQ_s (h : wrQ p np V k st d ac o x u S X) (hx : ¬ x = 0) (hk : k < np) {d2 ac2 o2 : Int} {u2 : (Int → Int) × Int} {S2 X2 : Int → Int} (hd2 : d2 = dpS (p k) d) (hS : ∀ j : Int, 0 ≤ j → j < d2 → (0 ≤ S2 j ∧ S2 j ≤ 32) ∧ (2 ≤ X2 j ∧ X2 j ≤ 9)) (hu : cIn u2) (hu2 : hsP (p k) → 1 ≤ u2.2) (ha2 : ac2 = 0 ∨ ac2 = 1) (ho2 : 0 ≤ o2 ∧ o2 ≤ 2) (hw : wrC p (np - k).toNat k ac o d u S X = wrC p (np - (k + 1)).toNat (k + 1) ac2 o2 d2 u2 S2 X2) : wrQ p np V (k + 1) (stB st (p k) d) d2 ac2 o2 1 u2 S2 X2 := by
  have q := wrQ_i h hx
  have i := wrI_s q.2.1 hk h.1.1 h.2.1 hd2 hS hu hu2 ha2 ho2
  have h1 := h.1
  exact ⟨by omega, i.2, hu, Or.inl ⟨rfl, i.1, hw ▸ q.2.2⟩⟩
theorem wrQ_0 (h : wrQ p np V k st d ac o x u S X) (hx : ¬ x = 0) (hk : k < np) {d2 ac2 o2 : Int} {u2 : (Int → Int) × Int} {S2 X2 : Int → Int} (hu : cIn u2) (hw : wrC p (np - k).toNat k ac o d u S X = (0, u2)) : wrQ p np V (k + 1) (stB st (p k) d) d2 ac2 o2 0 u2 S2 X2 := by
  have q := wrQ_i h hx
  have n1 := (rfN_s hk h.1.1 q.2.1.1).1
  have g := stB_in (s := st) (c := p k) (d := d)
  have h1 := h.1
  exact ⟨by omega, by omega, hu, Or.inr ⟨rfl, q.2.2 ▸ hw⟩⟩
theorem wrQ_dp (h : wrI p S X np k st d ac o u) {d2 : Int} (hd : d2 ≤ d) : ∀ j : Int, 0 ≤ j → j < d2 → (0 ≤ S j ∧ S j ≤ 32) ∧ (2 ≤ X j ∧ X j ≤ 9) := fun j h0 h1 => h.2.2.2.1 j h0 (by omega)
theorem wrQ_62 (h : wrQ p np V k st d ac o x u S X) (hx : ¬ x = 0) (hk : k < np) (hc : p k = 62) : wrQ p np V (k + 1) (stB st (p k) d) d 1 o x u S X := by
  have q := wrQ_i h hx
  have e := q.1
  subst e
  exact wrQ_s h hx hk (by unfold dpS; rw [if_neg (by omega), if_neg (by omega)]) (wrQ_dp q.2.1 (Int.le_refl _)) h.2.2.1 (fun z => absurd z (by unfold hsP; omega)) (Or.inr rfl) q.2.1.2.2.2.2.2.2.1 (wrC_62 hk hc)
theorem wrQ_fd (o2 : Int) (h : wrQ p np V k st d ac o x u S X) (hx : ¬ x = 0) (hk : k < np) (hc : p k = 102 ∨ p k = 100) (ho : o2 = if p k = 102 then 1 else 2) : wrQ p np V (k + 1) (stB st (p k) d) d ac o2 x u S X := by
  have q := wrQ_i h hx
  have e := q.1
  subst e
  exact wrQ_s h hx hk (by unfold dpS; rw [if_neg (by omega), if_neg (by omega)]) (wrQ_dp q.2.1 (Int.le_refl _)) h.2.2.1 (fun z => absurd z (by unfold hsP; omega)) q.2.1.2.2.2.2.2.1 (by omega) (wrC_fd o2 hk hc ho)
theorem wrQ_hs (h : wrQ p np V k st d ac o x u S X) (hx : ¬ x = 0) (hk : k < np) (hc : hsP (p k)) (hf : u.2 < 32) : wrQ p np V (k + 1) (stB st (p k) d) d 0 0 1 (uJ u.1 u.2 (sOf (rHd (p k)) ac o), u.2 + 1) S X := by
  have q := wrQ_i h hx
  have hc2 : p k = 82 ∨ p k = 76 ∨ p k = 120 := hc
  have r := h.2.2.1.1
  have i := q.2.1.2.2.2.2.2
  exact wrQ_s h hx hk (by unfold dpS; rw [if_neg (by omega), if_neg (by omega)]) (wrQ_dp q.2.1 (Int.le_refl _)) (cIn_ad h.2.2.1 hf (vK_of rHd_in i.1 (by have := i.2.1; omega))) (fun _ => by show 1 ≤ u.2 + 1; omega) (Or.inl rfl) (by omega) ((wrC_hs hk hc).trans (if_pos hf))
theorem wrQ_hs0 (h : wrQ p np V k st d ac o x u S X) (hx : ¬ x = 0) (hk : k < np) (hc : hsP (p k)) (hf : ¬ u.2 < 32) {d2 ac2 o2 : Int} {S2 X2 : Int → Int} : wrQ p np V (k + 1) (stB st (p k) d) d2 ac2 o2 0 u S2 X2 :=
  wrQ_0 h hx hk h.2.2.1 ((wrC_hs hk hc).trans (if_neg hf))
theorem wrQ_42 (h : wrQ p np V k st d ac o x u S X) (hx : ¬ x = 0) (hk : k < np) (hc : p k = 42) : wrQ p np V (k + 1) (stB st (p k) d) d ac o x (uJ u.1 (u.2 - 1) (wOr (u.1 (u.2 - 1))), u.2) S X := by
  have q := wrQ_i h hx
  have n1 := (rfN_s hk h.1.1 q.2.1.1).1
  have f := stB_f h.2.1 n1
  have g := q.2.1.2.2.2.2.1 (f.2.2.1 hc)
  have r := h.2.2.1
  have e := q.1
  subst e
  exact wrQ_s h hx hk (by unfold dpS; rw [if_neg (by omega), if_neg (by omega)]) (wrQ_dp q.2.1 (Int.le_refl _)) (cIn_ch r (wOr_in (r.2 _ (by omega) (by omega)))) (fun _ => g) q.2.1.2.2.2.2.2.1 q.2.1.2.2.2.2.2.2.1 (wrC_42 hk hc)
theorem wrQ_46 (h : wrQ p np V k st d ac o x u S X) (hx : ¬ x = 0) (hk : k < np) (hc : p k = 46) (hf : u.2 < 32) : wrQ p np V (k + 1) (stB st (p k) d) d ac o 1 (uJ u.1 u.2 0, u.2 + 1) S X := by
  have q := wrQ_i h hx
  have r := h.2.2.1.1
  exact wrQ_s h hx hk (by unfold dpS; rw [if_neg (by omega), if_neg (by omega)]) (wrQ_dp q.2.1 (Int.le_refl _)) (cIn_ad h.2.2.1 hf vK_0) (fun _ => by show 1 ≤ u.2 + 1; omega) q.2.1.2.2.2.2.2.1 q.2.1.2.2.2.2.2.2.1 ((wrC_46 hk hc).trans (if_pos hf))
theorem wrQ_460 (h : wrQ p np V k st d ac o x u S X) (hx : ¬ x = 0) (hk : k < np) (hc : p k = 46) (hf : ¬ u.2 < 32) {d2 ac2 o2 : Int} {S2 X2 : Int → Int} : wrQ p np V (k + 1) (stB st (p k) d) d2 ac2 o2 0 u S2 X2 :=
  wrQ_0 h hx hk h.2.2.1 ((wrC_46 hk hc).trans (if_neg hf))
theorem wrQ_40 (h : wrQ p np V k st d ac o x u S X) (hx : ¬ x = 0) (hk : k < np) (hc : p k = 40) : wrQ p np V (k + 1) (stB st (p k) d) (d + 1) ac o x u (uJ S d u.2) (uJ X d (p (k - 1) - 48)) := by
  have q := wrQ_i h hx
  have n1 := (rfN_s hk h.1.1 q.2.1.1).1
  have f := stB_f h.2.1 n1
  have g := q.2.1.2.2.1 (f.2.2.2.2 hc)
  have r := h.2.2.1.1
  have e := q.1
  subst e
  refine wrQ_s h hx hk (by unfold dpS; rw [if_pos hc]) (fun j h0 h1 => ?_) h.2.2.1 (fun z => absurd z (by unfold hsP; omega)) q.2.1.2.2.2.2.2.1 q.2.1.2.2.2.2.2.2.1 (wrC_40 hk hc)
  by_cases z : j = d
  · subst z; rw [uJ_s, uJ_s]; omega
  · rw [uJ_n z, uJ_n z]; exact q.2.1.2.2.2.1 j h0 (by omega)
theorem wrQ_41 (h : wrQ p np V k st d ac o x u S X) (hx : ¬ x = 0) (hk : k < np) (hc : p k = 41) : wrQ p np V (k + 1) (stB st (p k) d) (d + -1) ac o (rcO (S (d + -1)) u.2 (X (d + -1) - 1).toNat u).1 (rcO (S (d + -1)) u.2 (X (d + -1) - 1).toNat u).2 S X := by
  have q := wrQ_i h hx
  have r := rcO_in (a := S (d + -1)) (n := u.2) (X (d + -1) - 1).toNat h.2.2.1
  have w := wrC_41 (ac := ac) (o := o) (d := d) (u := u) (S := S) (X := X) hk hc
  rcases r.2.1 with z | z
  · rw [z]; rw [if_neg (by rw [z]; decide)] at w
    exact wrQ_0 h hx hk r.1 w
  · rw [z]; rw [if_pos z] at w
    exact wrQ_s h hx hk (by unfold dpS; rw [if_neg (by omega), if_pos hc]; omega) (wrQ_dp q.2.1 (by omega)) r.1 (fun z => absurd z (by unfold hsP; omega)) q.2.1.2.2.2.2.2.1 q.2.1.2.2.2.2.2.2.1 w
theorem wrQ_x (h : wrQ p np V k st d ac o x u S X) (hx : ¬ x = 0) (hk : k < np) (h0 : ¬ p k = 62) (h1 : ¬ (p k = 102 ∨ p k = 100)) (h2 : ¬ hsP (p k)) (h3 : ¬ p k = 42) (h4 : ¬ p k = 46) (h5 : ¬ p k = 40) (h6 : ¬ p k = 41) : wrQ p np V (k + 1) (stB st (p k) d) d ac o x u S X := by
  have q := wrQ_i h hx
  have e := q.1
  subst e
  exact wrQ_s h hx hk (by unfold dpS; rw [if_neg h5, if_neg h6]) (wrQ_dp q.2.1 (Int.le_refl _)) h.2.2.1 (fun z => absurd z h2) q.2.1.2.2.2.2.2.1 q.2.1.2.2.2.2.2.2.1 (wrC_x hk h0 h1 h2 h3 h4 h5 h6)
theorem wrQ_end (h : wrQ p np V k st d ac o x u S X) (he : np ≤ k ∨ x = 0) : V = (x, u) := by
  have h1 := h.1
  rcases h.2.2.2 with z | z
  · rw [← z.2.2, show (np - k).toNat = 0 by omega, z.1]; rfl
  · rw [z.2, z.1]
theorem wrQ_01 (h : wrQ p np V k st d ac o x u S X) : x = 0 ∨ x = 1 := h.2.2.2.elim (fun z => Or.inr z.1) (fun z => Or.inl z.1)
theorem wrQ_f0 (h : wrQ p np V k st d ac o x u S X) (hx : ¬ x = 0) : (0 ≤ d ∧ 2 * d ≤ k) ∧ (ac = 0 ∨ ac = 1) ∧ (0 ≤ o ∧ o ≤ 2) := by
  have q := (wrQ_i h hx).2.1.2
  exact ⟨q.1, q.2.2.2.2.1, q.2.2.2.2.2.1⟩
theorem wrQ_f40 (h : wrQ p np V k st d ac o x u S X) (hx : ¬ x = 0) (hk : k < np) (hc : p k = 40) : 1 ≤ k ∧ 50 ≤ p (k - 1) ∧ p (k - 1) ≤ 57 := by
  have q := (wrQ_i h hx).2.1
  have f := stB_f h.2.1 (rfN_s hk h.1.1 q.1).1
  have g := q.2.2.1 (f.2.2.2.2 hc)
  exact ⟨g.1, g.2.2⟩
theorem wrQ_f42 (h : wrQ p np V k st d ac o x u S X) (hx : ¬ x = 0) (hk : k < np) (hc : p k = 42) : 1 ≤ u.2 := by
  have q := (wrQ_i h hx).2.1
  have f := stB_f h.2.1 (rfN_s hk h.1.1 q.1).1
  exact q.2.2.2.2.1 (f.2.2.1 hc)
theorem wrQ_f41 (h : wrQ p np V k st d ac o x u S X) (hx : ¬ x = 0) (hk : k < np) (hc : p k = 41) : 0 < d ∧ (0 ≤ S (d + -1) ∧ S (d + -1) ≤ 32) ∧ (2 ≤ X (d + -1) ∧ X (d + -1) ≤ 9) := by
  have q := (wrQ_i h hx).2.1
  have f := stB_f h.2.1 (rfN_s hk h.1.1 q.1).1
  have g := f.2.2.2.1 hc
  exact ⟨g, q.2.2.2.1 _ (by omega) (by omega)⟩
end
