/-! the readers -/
def RU (cu u : (Int → Int) × Int) : Prop := cIn cu ∧ u.2 = cu.2 ∧ ∀ j : Int, 0 ≤ j → j < cu.2 → u.1 j = mk (cu.1 j)
theorem rl_ad {cu u : (Int → Int) × Int} (h : RU cu u) (hf : cu.2 < 32) {v w : Int} (hv : vK v) (hw : w = mk v) : RU (uJ cu.1 cu.2 v, cu.2 + 1) (teS u w) := by
  subst hw
  obtain ⟨h1, h2, h3⟩ := h
  have e : teS u (mk v) = (uJ u.1 u.2 (mk v), u.2 + 1) := if_pos (by omega)
  rw [e]
  refine ⟨cIn_ad h1 hf hv, by show u.2 + 1 = cu.2 + 1; rw [h2], fun j a b => ?_⟩
  have b2 : j < cu.2 + 1 := b
  show uJ u.1 u.2 (mk v) j = mk (uJ cu.1 cu.2 v j)
  rw [h2]; by_cases z : j = cu.2
  · rw [z, uJ_s, uJ_s]
  · rw [uJ_n z, uJ_n z]; exact h3 j a (by omega)
theorem rl_ov {cu u : (Int → Int) × Int} (h : RU cu u) (hf : ¬ cu.2 < 32) (w : Int) : (teS u w).2 = 33 := by
  have h1 := h.1.1
  have h2 := h.2.1
  have e : teS u w = (uJ u.1 u.2 w, u.2 + 1) := if_pos (by omega)
  rw [e]; show u.2 + 1 = 33; omega
theorem te33 {u : (Int → Int) × Int} (h : u.2 = 33) (w : Int) : teS u w = u := if_neg (by omega)
theorem rpI33 : ∀ (r : Nat) (k : Int) {u : (Int → Int) × Int}, u.2 = 33 → rpI r k u = u
  | 0, _, _, _ => rfl
  | r + 1, k, u, h => by
    have e : rpI (r + 1) k u = rpI r (k + 1) (teS u (u.1 k)) := rfl
    rw [e, te33 h]; exact rpI33 r (k + 1) h
theorem rpO33 {a n : Int} : ∀ (r : Nat) {u : (Int → Int) × Int}, u.2 = 33 → rpO a n r u = u
  | 0, _, _ => rfl
  | r + 1, u, h => by
    have e : rpO a n (r + 1) u = rpO a n r (rpI (n - a).toNat a u) := rfl
    rw [e, rpI33 _ _ h]; exact rpO33 r h
def WR (w : Int × ((Int → Int) × Int)) (v : (Int → Int) × Int) : Prop := (w.1 = 1 ∧ RU w.2 v) ∨ (w.1 = 0 ∧ cIn w.2 ∧ v.2 = 33)
theorem rcI_rp : ∀ (r : Nat) (k : Int) {cu u : (Int → Int) × Int}, 0 ≤ k → (r = 0 ∨ k + r ≤ cu.2) → RU cu u → WR (rcI r k cu) (rpI r k u)
  | 0, k, cu, u, _, _, h => Or.inl ⟨rfl, h⟩
  | r + 1, k, cu, u, hk, hr, h => by
    have e1 : rcI (r + 1) k cu = if cu.2 < 32 then rcI r (k + 1) (uJ cu.1 cu.2 (pAt cu.1 cu.2 k), cu.2 + 1) else (0, cu) := rfl
    have e2 : rpI (r + 1) k u = rpI r (k + 1) (teS u (u.1 k)) := rfl
    rw [e1, e2]
    have b : k < cu.2 := by rcases hr with z | z <;> omega
    by_cases z : cu.2 < 32
    · rw [if_pos z]
      refine rcI_rp r (k + 1) (by omega) ?_ (rl_ad h z (pAt_in2 h.1 k) (by rw [pAt_t ⟨hk, b⟩]; exact h.2.2 k hk b))
      by_cases y : r = 0
      · exact Or.inl y
      · refine Or.inr ?_
        show k + 1 + r ≤ cu.2 + 1
        rcases hr with z | z <;> omega
    · rw [if_neg z]
      refine Or.inr ⟨rfl, h.1, ?_⟩
      have t := rl_ov h z (u.1 k)
      rw [rpI33 _ _ t]; exact t
theorem rcO_rp {a n : Int} (ha : 0 ≤ a) : ∀ (r : Nat) {cu u : (Int → Int) × Int}, n ≤ cu.2 → RU cu u → WR (rcO a n r cu) (rpO a n r u)
  | 0, _, _, _, h => Or.inl ⟨rfl, h⟩
  | r + 1, cu, u, hn, h => by
    have e1 : rcO a n (r + 1) cu = if (rcI (n - a).toNat a cu).1 = 1 then rcO a n r (rcI (n - a).toNat a cu).2 else (0, (rcI (n - a).toNat a cu).2) := rfl
    have e2 : rpO a n (r + 1) u = rpO a n r (rpI (n - a).toNat a u) := rfl
    have t := rcI_rp (n - a).toNat a (cu := cu) (u := u) ha (by omega) h
    have i := rcI_in (n - a).toNat a h.1
    rw [e1, e2]
    rcases t with t | t
    · rw [if_pos t.1]; exact rcO_rp ha r (by have := i.2.2; omega) t.2
    · rw [if_neg (by omega), rpO33 r t.2.2]; exact Or.inr ⟨rfl, t.2.1, t.2.2⟩
theorem rdM33 {p : Int → Int} {pn : Int} : ∀ (r : Nat) (k d f : Int) {u : (Int → Int) × Int} (B X : Int → Int), u.2 = 33 → (rdM p pn r k d f u B X).2.2 = 33
  | 0, _, _, _, _, _, _, h => h
  | r + 1, k, d, f, u, B, X, h => by
    have ih := fun k d f B X => rdM33 (p := p) (pn := pn) r k d f (u := u) B X h
    unfold rdM
    rw [te33 h, rpO33 _ h]
    dsimp only
    rw [te33 h]
    (repeat' split) <;> first | exact h | exact ih _ _ _ _ _
theorem nx_t {p : Int → Int} {pn a : Int} (h : a < pn) : nxV p pn a = p a := if_pos h
theorem nx_f {p : Int → Int} {pn a : Int} (h : ¬ a < pn) : nxV p pn a = 0 := if_neg h
theorem rHd_m {c : Int} (h : hsP c) : rHd c = mHf c := by
  rcases h with h | h | h <;> (subst h; rfl)
theorem dpS_o {c d : Int} (h0 : ¬ c = 40) (h1 : ¬ c = 41) : dpS c d = d := by unfold dpS; rw [if_neg h0, if_neg h1]
theorem wOr_s {h a o : Int} (hh : 0 ≤ h ∧ h ≤ 2) (ha : a = 0 ∨ a = 1) (ho : 0 ≤ o ∧ o ≤ 3) : wOr (sOf h a o) = sOf h a 3 := by
  unfold wOr
  have e1 : sOf h a o / 2 % 4 = h := by unfold sOf; omega
  have e2 : b2 (sOf h a o / 8 % 2 = 1) = a := by
    have e : sOf h a o / 8 % 2 = a := by unfold sOf; omega
    rw [e]; rcases ha with rfl | rfl <;> rfl
  rw [e1, e2]
theorem mHf_in {c : Int} (h : hsP c) : 0 ≤ mHf c ∧ mHf c ≤ 2 := by
  rcases h with h | h | h <;> (subst h; decide)
section
variable {gp p : Int → Int} {np : Int}
theorem rf_s {k st d : Int} (hk : k < np) : rfN gp (np - k).toNat k st d = if stB st (gp k) d = -1 then k else rfN gp (np - (k + 1)).toNat (k + 1) (stB st (gp k) d) (dpS (gp k) d) := by
  rw [show (np - k).toNat = (np - (k + 1)).toNat + 1 by omega]; rfl
theorem rf_e {k st d : Int} (hk : k = np) : rfN gp (np - k).toNat k st d = if d = 0 ∧ (st = 1 ∨ st = 2) then -4 else k := by
  rw [show (np - k).toNat = 0 by omega]; rfl
theorem stS_v (c : Int) : (c = 102 ∨ c = 100 → stS c = 4) ∧ (hsP c → stS c = 2) ∧ (¬ (c = 102 ∨ c = 100) → ¬ hsP c → stS c = -1) := by
  unfold stS hsP; (repeat' split) <;> omega
theorem stB_4 (c d : Int) : (hsP c → stB 4 c d = 1) ∧ (¬ hsP c → stB 4 c d = -1) := by
  have e : stB 4 c d = if hsP c then 1 else -1 := rfl
  rw [e]; exact ⟨fun h => if_pos h, fun h => if_neg h⟩
theorem st_A (hp : ∀ j : Int, 0 ≤ j → j < np → gp j = p j) {k s1 d o y : Int} (hk : 0 ≤ k ∧ k ≤ np) (hs : k < np → stB s1 (p k) d = stS (p k)) (he : k = np → ¬ (s1 = 1 ∨ s1 = 2)) (ho : o = if nxV p np k = 102 then 1 else if nxV p np k = 100 then 2 else 0) (hy : y = if 0 < o then 1 else 0) (hh : mHf (nxV p np (k + y)) = -4) : rfN gp (np - k).toNat k s1 d = k + y := by
  by_cases z : k < np
  · have e := hp k hk.1 z
    have v := stS_v (p k)
    rw [rf_s z, e, hs z]
    rw [nx_t z] at ho
    by_cases c : p k = 102 ∨ p k = 100
    · have y1 : y = 1 := by
        rcases c with c | c
        · rw [if_pos c] at ho; rw [ho] at hy; rw [hy]; rfl
        · rw [if_neg (by omega), if_pos c] at ho; rw [ho] at hy; rw [hy]; rfl
      rw [v.1 c, if_neg (by decide), dpS_o (by omega) (by omega), y1]
      rw [y1] at hh
      by_cases z2 : k + 1 < np
      · rw [nx_t z2] at hh
        rw [rf_s z2, hp (k + 1) (by omega) z2, if_pos ((stB_4 _ _).2 ((mHf_4 _).mp hh))]
      · rw [rf_e (by omega), if_neg (by omega)]
    · have o0 : o = 0 := by rw [if_neg (fun t => c (Or.inl t)), if_neg (fun t => c (Or.inr t))] at ho; exact ho
      have y0 : y = 0 := by rw [o0] at hy; rw [hy]; rfl
      rw [y0, Int.add_zero] at hh
      rw [nx_t z] at hh
      rw [v.2.2 c ((mHf_4 _).mp hh), if_pos rfl, y0, Int.add_zero]
  · have kn : k = np := by omega
    rw [nx_f z, if_neg (by decide), if_neg (by decide)] at ho
    have y0 : y = 0 := by rw [ho] at hy; rw [hy]; rfl
    rw [rf_e kn, if_neg (fun t => he kn t.2), y0, Int.add_zero]
theorem st_B (hp : ∀ j : Int, 0 ≤ j → j < np → gp j = p j) {k s1 d o y m : Int} (hk : 0 ≤ k ∧ k ≤ np) (hs : k < np → stB s1 (p k) d = stS (p k)) (ho : o = if nxV p np k = 102 then 1 else if nxV p np k = 100 then 2 else 0) (hy : y = if 0 < o then 1 else 0) (hh : ¬ mHf (nxV p np (k + y)) = -4) (hm : m = if o = 0 ∧ nxV p np (k + y + 1) = 42 then 1 else 0) : rfN gp (np - k).toNat k s1 d = rfN gp (np - (k + y + 1 + m)).toNat (k + y + 1 + m) (if o = 0 ∧ m = 0 then 2 else 1) d ∧ (k < k + y + 1 + m ∧ k + y + 1 + m ≤ np) ∧ hsP (nxV p np (k + y)) ∧ (0 ≤ o ∧ o ≤ 2) ∧ (m = 0 ∨ m = 1) ∧ ∀ (ac o2 : Int) (cu : (Int → Int) × Int) (S Y : Int → Int), (ac = 0 ∨ ac = 1) → (o2 = if m = 1 then 3 else o) → wrC gp (np - k).toNat k ac 0 d cu S Y = if cu.2 < 32 then wrC gp (np - (k + y + 1 + m)).toNat (k + y + 1 + m) 0 0 d (uJ cu.1 cu.2 (sOf (mHf (nxV p np (k + y))) ac o2), cu.2 + 1) S Y else (0, cu) := by
  have hP : hsP (nxV p np (k + y)) := Decidable.byContradiction (fun t => hh ((mHf_4 _).mpr t))
  have z : k < np := Decidable.byContradiction (fun z => by
    rw [nx_f z, if_neg (by decide), if_neg (by decide)] at ho
    have y0 : y = 0 := by rw [ho] at hy; rw [hy]; rfl
    rw [y0, Int.add_zero, nx_f z] at hP
    revert hP; unfold hsP; omega)
  have e := hp k hk.1 z
  have v := stS_v (p k)
  rw [nx_t z] at ho
  by_cases c : p k = 102 ∨ p k = 100
  · have oy : (o = if p k = 102 then 1 else 2) ∧ (o = 1 ∨ o = 2) := by
      rcases c with c | c
      · rw [if_pos c] at ho ⊢; exact ⟨ho, Or.inl ho⟩
      · rw [if_neg (by omega), if_pos c] at ho; rw [if_neg (by omega)]; exact ⟨ho, Or.inr ho⟩
    have y1 : y = 1 := by rw [if_pos (by omega)] at hy; exact hy
    have m0 : m = 0 := by rw [if_neg (fun t => by omega)] at hm; exact hm
    subst y1 m0
    have z2 : k + 1 < np := Decidable.byContradiction (fun z2 => by
      rw [nx_f z2] at hP; revert hP; unfold hsP; omega)
    have e2 := hp (k + 1) (by omega) z2
    rw [nx_t z2] at hP ⊢
    refine ⟨?_, by omega, hP, by omega, Or.inl rfl, fun ac o2 cu S Y ha h2 => ?_⟩
    · rw [rf_s z, e, hs z, v.1 c, if_neg (by decide), dpS_o (by omega) (by omega), rf_s z2, e2, (stB_4 _ _).1 hP, if_neg (by decide), dpS_o (by rcases hP with t | t | t <;> omega) (by rcases hP with t | t | t <;> omega), if_neg (by omega), show k + 1 + 1 + 0 = k + 1 + 1 by omega]
    · rw [if_neg (by decide)] at h2
      subst h2
      rw [wrC_fd o2 z (by rw [e]; exact c) (by rw [e]; exact oy.1), wrC_hs z2 (by rw [e2]; exact hP), e2, rHd_m hP, show k + 1 + 1 + 0 = k + 1 + 1 by omega]
  · have o0 : o = 0 := by rw [if_neg (fun t => c (Or.inl t)), if_neg (fun t => c (Or.inr t))] at ho; exact ho
    have y0 : y = 0 := by rw [if_neg (by omega)] at hy; exact hy
    subst y0 o0
    rw [Int.add_zero] at hP hm ⊢
    rw [nx_t z] at hP ⊢
    have dk : dpS (p k) d = d := dpS_o (by rcases hP with t | t | t <;> omega) (by rcases hP with t | t | t <;> omega)
    by_cases w : nxV p np (k + 1) = 42
    · rw [if_pos ⟨rfl, w⟩] at hm
      subst hm
      have z2 : k + 1 < np := Decidable.byContradiction (fun z2 => by rw [nx_f z2] at w; omega)
      have e2 := hp (k + 1) (by omega) z2
      rw [nx_t z2] at w
      have st : stB 2 (p (k + 1)) d = 1 := by rw [w]; rfl
      refine ⟨?_, by omega, hP, by omega, Or.inr rfl, fun ac o2 cu S Y ha h2 => ?_⟩
      · rw [rf_s z, e, hs z, v.2.1 hP, if_neg (by decide), dk, rf_s z2, e2, st, if_neg (by decide), dpS_o (by omega) (by omega), if_neg (by omega)]
      · rw [if_pos rfl] at h2
        subst h2
        rw [wrC_hs z (by rw [e]; exact hP), e, rHd_m hP]
        by_cases q : cu.2 < 32
        · rw [if_pos q, if_pos q, wrC_42 z2 (by rw [e2]; exact w)]
          have f : uJ (uJ cu.1 cu.2 (sOf (mHf (p k)) ac 0)) (cu.2 + 1 - 1) (wOr (uJ cu.1 cu.2 (sOf (mHf (p k)) ac 0) (cu.2 + 1 - 1))) = uJ cu.1 cu.2 (sOf (mHf (p k)) ac 3) := by
            rw [show cu.2 + 1 - 1 = cu.2 by omega, uJ_s, wOr_s (mHf_in hP) ha (by omega), uJ_u]
          exact congrArg (fun F => wrC gp (np - (k + 1 + 1)).toNat (k + 1 + 1) 0 0 d (F, cu.2 + 1) S Y) f
        · rw [if_neg q, if_neg q]
    · rw [if_neg (fun t => w t.2)] at hm
      subst hm
      refine ⟨?_, by omega, hP, by omega, Or.inl rfl, fun ac o2 cu S Y ha h2 => ?_⟩
      · rw [rf_s z, e, hs z, v.2.1 hP, if_neg (by decide), dk, if_pos ⟨rfl, rfl⟩, Int.add_zero]
      · rw [if_neg (by decide)] at h2
        subst h2
        rw [wrC_hs z (by rw [e]; exact hP), e, rHd_m hP, Int.add_zero]
theorem stI_v (c : Int) : (c = 46 → stI c = 1) ∧ (c = 62 → stI c = 3) ∧ (50 ≤ c ∧ c ≤ 57 → stI c = 5) ∧ (¬ c = 46 → ¬ c = 62 → ¬ (50 ≤ c ∧ c ≤ 57) → stI c = stS c) := by
  unfold stI
  refine ⟨fun h => if_pos h, fun h => ?_, fun h => ?_, fun h1 h2 h3 => ?_⟩
  · rw [if_neg (by omega), if_pos h]
  · rw [if_neg (by omega), if_neg (by omega), if_pos h]
  · rw [if_neg h1, if_neg h2, if_neg h3]
/-- at the head of an item -/
theorem stB_h {st c d : Int} (hs : st = 0 ∨ st = 1 ∨ (st = 2 ∧ ¬ c = 42)) (hc : ¬ c = 41) : stB st c d = stI c := by
  have e : ∀ c d : Int, stBI c d = if c = 41 then (if 0 < d then 1 else -1) else stI c := fun _ _ => rfl
  rcases hs with rfl | rfl | ⟨rfl, h⟩
  · rfl
  · show stBI c d = _; rw [e, if_neg hc]
  · show (if c = 42 then 1 else stBI c d) = _; rw [if_neg h, e, if_neg hc]
theorem stB_41 {st d : Int} : (st = 0 → stB st 41 d = -1) ∧ (st = 1 ∨ st = 2 → (0 < d → stB st 41 d = 1) ∧ (¬ 0 < d → stB st 41 d = -1)) := by
  refine ⟨fun h => by rw [h]; rfl, fun h => ⟨fun hd => ?_, fun hd => ?_⟩⟩
  · rcases h with h | h <;> (rw [h]; show (if 0 < d then (1 : Int) else -1) = 1; exact if_pos hd)
  · rcases h with h | h <;> (rw [h]; show (if 0 < d then (1 : Int) else -1) = -1; exact if_neg hd)
theorem om_1 {k a y : Int} (h1 : 0 ≤ k) (h2 : 0 ≤ a) (h3 : 0 ≤ y) : ¬ k + a + y = -4 := by omega
theorem om_2 {k k2 np r : Int} {N : Nat} (h : k < k2) (h2 : k2 ≤ np) (hN : (np - k).toNat ≤ N + 1) (hr : np - k < r) (hk : 0 ≤ k) : (np - k2).toNat ≤ N ∧ (0 ≤ k2 ∧ k2 ≤ np) ∧ np - k2 < r - 1 := by omega
/-- the readers agree from an item's head on, where at most N signs are left -/
def RD (gp p : Int → Int) (np : Int) (N : Nat) : Prop := ∀ (k st d f r : Int) (u : (Int → Int) × Int) (B X : Int → Int), (np - k).toNat ≤ N → (0 ≤ k ∧ k ≤ np) → np - k < r → 0 ≤ d → ((st = 0 ∧ f = 0) ∨ (st = 1 ∧ f = 1) ∨ (st = 2 ∧ f = 1 ∧ ¬ nxV p np k = 42)) → rfN gp (np - k).toNat k st d = (rdM p np r.toNat k d f u B X).1 ∧ (rfN gp (np - k).toNat k st d = -4 → ∀ (cu : (Int → Int) × Int) (S Y : Int → Int), RU cu u → (∀ j : Int, 0 ≤ j → j < d → 0 ≤ S j ∧ S j = B j ∧ Y j = X j) → WR (wrC gp (np - k).toNat k 0 0 d cu S Y) (rdM p np r.toNat k d f u B X).2)
theorem RD.st {N : Nat} (ih : RD gp p np N) (hp : ∀ j : Int, 0 ≤ j → j < np → gp j = p j) {k st d f r a s1 : Int} {u : (Int → Int) × Int} {B X : Int → Int} (hN : (np - k).toNat ≤ N + 1) (hk : 0 ≤ k ∧ k ≤ np) (hr : np - k < r) (hr0 : 0 < r) (hd : 0 ≤ d) (z : k < np) (c46 : ¬ p k = 46) (cn : ¬ (50 ≤ p k ∧ p k ≤ 57)) (c41 : ¬ p k = 41) (ha : a = (if p k = 62 then 1 else 0)) (a01 : a = 0 ∨ a = 1) (a0 : 0 ≤ a) (ka0 : 0 ≤ k + a ∧ k + a ≤ np) (hs : k + a < np → stB s1 (p (k + a)) d = stS (p (k + a))) (he : k + a = np → ¬ (s1 = 1 ∨ s1 = 2)) (hrf : rfN gp (np - k).toNat k st d = rfN gp (np - (k + a)).toNat (k + a) s1 d) (hwr : ∀ (cu : (Int → Int) × Int) (S Y : Int → Int), wrC gp (np - k).toNat k 0 0 d cu S Y = wrC gp (np - (k + a)).toNat (k + a) a 0 d cu S Y) : rfN gp (np - k).toNat k st d = (rdM p np r.toNat k d f u B X).1 ∧ (rfN gp (np - k).toNat k st d = -4 → ∀ (cu : (Int → Int) × Int) (S Y : Int → Int), RU cu u → (∀ j : Int, 0 ≤ j → j < d → 0 ≤ S j ∧ S j = B j ∧ Y j = X j) → WR (wrC gp (np - k).toNat k 0 0 d cu S Y) (rdM p np r.toNat k d f u B X).2) := by
  obtain ⟨o, ho⟩ : ∃ o : Int, o = if nxV p np (k + a) = 102 then 1 else if nxV p np (k + a) = 100 then 2 else 0 := ⟨_, rfl⟩
  obtain ⟨y, hy⟩ : ∃ y : Int, y = if 0 < o then 1 else 0 := ⟨_, rfl⟩
  have y0 : 0 ≤ y := by rw [hy]; split <;> decide
  by_cases hh : mHf (nxV p np (k + a + y)) = -4
  · have A := st_A hp (k := k + a) (s1 := s1) (d := d) ka0 hs he ho hy hh
    rw [rdM_stB a o y hr0 z c46 cn c41 ha ho hy hh, hrf, A]
    exact ⟨rfl, fun hf => absurd hf (om_1 hk.1 a0 y0)⟩
  · obtain ⟨m, hm⟩ : ∃ m : Int, m = if o = 0 ∧ nxV p np (k + a + y + 1) = 42 then 1 else 0 := ⟨_, rfl⟩
    obtain ⟨o2, h2⟩ : ∃ o2 : Int, o2 = if m = 1 then 3 else o := ⟨_, rfl⟩
    obtain ⟨b1, b2, b3, b4, b5, b6⟩ := st_B hp (k := k + a) (s1 := s1) (d := d) ka0 hs ho hy hh hm
    have ob : 0 ≤ o2 ∧ o2 ≤ 3 := by
      rw [h2]; split
      · decide
      · exact ⟨b4.1, Int.le_trans b4.2 (by decide)⟩
    rw [rdM_st a o y m o2 hr0 z c46 cn c41 ha ho hy hh hm h2, hrf, b1]
    have lt : k < k + a + y + 1 + m := Int.lt_of_le_of_lt (Int.le_add_of_nonneg_right a0) b2.1
    have q2 := om_2 lt b2.2 hN hr hk.1
    have i := ih (k + a + y + 1 + m) (if o = 0 ∧ m = 0 then 2 else 1) d 1 (r - 1) (teS u (1 + mHf (nxV p np (k + a + y)) + 3 * a + 6 * o2)) B X q2.1 q2.2.1 q2.2.2 hd (by
      by_cases t : o = 0 ∧ m = 0
      · rw [if_pos t]
        refine Or.inr (Or.inr ⟨rfl, rfl, fun x => ?_⟩)
        rw [t.2, Int.add_zero] at x
        rw [if_pos ⟨t.1, x⟩, t.2] at hm; exact absurd hm (by decide)
      · rw [if_neg t]; exact Or.inr (Or.inl ⟨rfl, rfl⟩))
    refine ⟨i.1, fun hf cu S Y h hS => ?_⟩
    have hi := mHf_in b3
    rw [hwr, b6 a o2 cu S Y a01 h2]
    by_cases q : cu.2 < 32
    · rw [if_pos q]; exact i.2 hf _ S Y (rl_ad h q (vK_of hi a01 ob) (mk_sOf hi a01 ob).symm) hS
    · rw [if_neg q]; exact Or.inr ⟨rfl, h.1, rdM33 _ _ _ _ _ _ (rl_ov h q _)⟩
set_option maxHeartbeats 8000000 in
theorem rd_m (hp : ∀ j : Int, 0 ≤ j → j < np → gp j = p j) : ∀ N : Nat, RD gp p np N := by
  intro N; induction N with
  | zero =>
    intro k st d f r u B X hN hk hr hd hst
    have kn : k = np := by omega
    rw [rf_e kn, rdM_end (by omega) (by omega)]
    refine ⟨?_, fun _ cu S Y h _ => ?_⟩
    · show _ = (if 0 < d ∨ f = 0 then np else -4)
      by_cases z : 0 < d ∨ f = 0
      · rw [if_pos z, if_neg (by omega)]; exact kn
      · rw [if_neg z, if_pos (by omega)]
    · rw [show (np - k).toNat = 0 by omega]; exact Or.inl ⟨rfl, h⟩
  | succ N ih =>
    intro k st d f r u B X hN hk hr hd hst
    by_cases z : k < np
    · have e := hp k hk.1 z
      have nk := nx_t (p := p) z
      by_cases c46 : p k = 46
      · have sb : stB st (p k) d = 1 := by rw [stB_h (by omega) (by omega)]; exact (stI_v _).1 c46
        have i := ih (k + 1) 1 d 1 (r - 1) (teS u 0) B X (by omega) (by omega) (by omega) hd (Or.inr (Or.inl ⟨rfl, rfl⟩))
        rw [rf_s z, e, sb, if_neg (by decide), dpS_o (by omega) (by omega), rdM_46 (by omega) z c46]
        refine ⟨i.1, fun hf cu S Y h hS => ?_⟩
        rw [wrC_46 z (by rw [e]; exact c46)]
        by_cases q : cu.2 < 32
        · rw [if_pos q]; exact i.2 hf _ S Y (rl_ad h q vK_0 rfl) hS
        · rw [if_neg q]; exact Or.inr ⟨rfl, h.1, rdM33 _ _ _ _ _ _ (rl_ov h q 0)⟩
      · by_cases cn : 50 ≤ p k ∧ p k ≤ 57
        · have sb : stB st (p k) d = 5 := by rw [stB_h (by omega) (by omega)]; exact (stI_v _).2.2.1 cn
          rw [rf_s z, e, sb, if_neg (by decide), dpS_o (by omega) (by omega)]
          by_cases w : nxV p np (k + 1) = 40
          · have z2 : k + 1 < np := Decidable.byContradiction (fun z2 => by rw [nx_f z2] at w; omega)
            have e2 := hp (k + 1) (by omega) z2
            rw [rdM_num (by omega) z c46 cn w]
            rw [nx_t z2] at w
            have sb2 : stB 5 (p (k + 1)) d = 0 := by rw [w]; rfl
            have ds : dpS (p (k + 1)) d = d + 1 := by rw [w]; rfl
            have i := ih (k + 1 + 1) 0 (d + 1) 0 (r - 1) u (uJ B d u.2) (uJ X d (p k - 48)) (by omega) (by omega) (by omega) (by omega) (Or.inl ⟨rfl, rfl⟩)
            rw [rf_s z2, e2, sb2, if_neg (by decide), ds, show k + 2 = k + 1 + 1 by omega]
            refine ⟨i.1, fun hf cu S Y h hS => ?_⟩
            rw [wrC_x z (by omega) (by omega) (by unfold hsP; omega) (by omega) (by omega) (by omega) (by omega), wrC_40 z2 (by rw [e2]; exact w), show k + 1 - 1 = k by omega, e]
            refine i.2 hf cu _ _ h (fun j a b => ?_)
            by_cases y : j = d
            · rw [y, uJ_s, uJ_s, uJ_s, uJ_s]; exact ⟨h.1.1.1, h.2.1.symm, rfl⟩
            · rw [uJ_n y, uJ_n y, uJ_n y, uJ_n y]; exact hS j a (by omega)
          · rw [rdM_nuB (by omega) z c46 cn w]
            have r1 : rfN gp (np - (k + 1)).toNat (k + 1) 5 d = k + 1 := by
              by_cases z2 : k + 1 < np
              · rw [nx_t z2] at w
                have sb2 : stB 5 (p (k + 1)) d = -1 := by
                  show (if p (k + 1) = 40 then (0 : Int) else -1) = -1; exact if_neg w
                rw [rf_s z2, hp (k + 1) (by omega) z2, if_pos sb2]
              · rw [rf_e (by omega), if_neg (by omega)]
            rw [r1]
            exact ⟨rfl, fun hf => absurd hf (by omega)⟩
        · by_cases c41 : p k = 41
          · rw [rf_s z, e, c41]
            by_cases w : d = 0 ∨ f = 0
            · rw [rdM_clB (by omega) z c46 cn c41 w]
              have sb : stB st 41 d = -1 := by
                by_cases y : st = 0
                · exact stB_41.1 y
                · exact (stB_41.2 (by omega)).2 (by omega)
              rw [if_pos sb]; exact ⟨rfl, fun hf => absurd hf (by omega)⟩
            · have sb : stB st 41 d = 1 := (stB_41.2 (by omega)).1 (by omega)
              have ds : dpS 41 d = d + -1 := by show d - 1 = d + -1; omega
              have f1 : f = 1 := by omega
              rw [rdM_cl (by omega) z c46 cn c41 w, sb, if_neg (by decide), ds, f1]
              have i := ih (k + 1) 1 (d + -1) 1 (r - 1) (rpO (B (d + -1)) u.2 (X (d + -1) - 1).toNat u) B X (by omega) (by omega) (by omega) (by omega) (Or.inr (Or.inl ⟨rfl, rfl⟩))
              refine ⟨i.1, fun hf cu S Y h hS => ?_⟩
              have t := hS (d + -1) (by omega) (by omega)
              have g := rcO_rp (n := cu.2) t.1 (Y (d + -1) - 1).toNat (Int.le_refl _) h
              rw [t.2.1, t.2.2] at g
              rw [wrC_41 z (by rw [e]; exact c41), t.2.1, t.2.2]
              rw [h.2.1] at i ⊢
              rcases g with g | g
              · rw [if_pos g.1]; exact i.2 hf _ S Y g.2 (fun j a b => hS j a (by omega))
              · rw [if_neg (by omega)]; exact Or.inr ⟨rfl, g.2.1, rdM33 _ _ _ _ _ _ g.2.2⟩
          · by_cases c62 : p k = 62
            · have sb : stB st (p k) d = 3 := by rw [stB_h (by omega) c41]; exact (stI_v _).2.1 c62
              refine ih.st hp (a := 1) (s1 := 3) hN hk hr (by omega) hd z c46 cn c41 (by rw [if_pos c62]) (Or.inr rfl) (by decide) (by omega) (fun _ => rfl) (fun _ => by decide) ?_ (fun cu S Y => wrC_62 z (by rw [e]; exact c62))
              rw [rf_s z, e, sb, if_neg (by decide), dpS_o (by omega) (by omega)]
            · have sb : stB st (p k) d = stS (p k) := by rw [stB_h (by omega) c41]; exact (stI_v _).2.2.2 c46 c62 cn
              refine ih.st hp (a := 0) (s1 := st) hN hk hr (by omega) hd z c46 cn c41 (by rw [if_neg c62]) (Or.inl rfl) (by decide) (by omega) (fun _ => by rw [Int.add_zero]; exact sb) (fun t => absurd t (by omega)) (by rw [Int.add_zero]) (fun cu S Y => by rw [Int.add_zero])
    · have kn : k = np := by omega
      rw [rf_e kn, rdM_end (by omega) (by omega)]
      refine ⟨?_, fun _ cu S Y h _ => ?_⟩
      · show _ = (if 0 < d ∨ f = 0 then np else -4)
        by_cases z : 0 < d ∨ f = 0
        · rw [if_pos z, if_neg (by omega)]; exact kn
        · rw [if_neg z, if_pos (by omega)]
      · rw [show (np - k).toNat = 0 by omega]; exact Or.inl ⟨rfl, h⟩
/-- the whole text -/
theorem rd_0 (hp : ∀ j : Int, 0 ≤ j → j < np → gp j = p j) (hn : 0 ≤ np ∧ np ≤ 60) (T B X : Int → Int) : rfN gp np.toNat 0 0 0 = (rdM p np 61 0 0 0 (T, 0) B X).1 ∧ (rfN gp np.toNat 0 0 0 = -4 → ∀ (gt S Y : Int → Int), WR (wrC gp np.toNat 0 0 0 0 (gt, 0) S Y) (rdM p np 61 0 0 0 (T, 0) B X).2) := by
  have m := rd_m hp np.toNat 0 0 0 0 61 (T, 0) B X (by omega) (by omega) (by omega) (Int.le_refl _) (Or.inl ⟨rfl, rfl⟩)
  rw [show np - 0 = np by omega] at m
  exact ⟨m.1, fun hf gt S Y => m.2 hf (gt, 0) S Y ⟨cIn_0 gt, rfl, fun j a b => absurd b (by show ¬ j < 0; omega)⟩ (fun j a b => absurd b (by omega))⟩
theorem RU.rp {cu u : (Int → Int) × Int} (h : RU cu u) {q : Int} (hq : 1 ≤ q ∧ q ≤ 4) {s : Int → Int} (hs : s 1 = q) (g : Int → Int) : RP (pCp g cu.1 cu.2) cu.2 q (fun j => if j = 0 then u.2 else if 2 ≤ j ∧ j < 34 then (if j - 2 < u.2 then u.1 (j - 2) else 0) else s j) := by
  obtain ⟨h1, h2, h3⟩ := h
  have hn := h1.1
  refine ⟨hn, hq, h2, ?_, fun j a b => ?_⟩
  · show (if (1 : Int) = 0 then u.2 else if 2 ≤ (1 : Int) ∧ (1 : Int) < 34 then _ else s 1) = q
    rw [if_neg (by decide), if_neg (by decide)]; exact hs
  · have e : pCp g cu.1 cu.2 j = cu.1 j := if_pos ⟨a, b⟩
    rw [e]
    refine ⟨h1.2 j a b, ?_⟩
    show (if 2 + j = 0 then u.2 else if 2 ≤ 2 + j ∧ 2 + j < 34 then (if 2 + j - 2 < u.2 then u.1 (2 + j - 2) else 0) else s (2 + j)) = mk (cu.1 j)
    rw [if_neg (by omega), if_pos (by omega), show 2 + j - 2 = j by omega, if_pos (by omega)]; exact h3 j a b
end
