/-! the clash -/
section
variable {g : Int → Int} {n q : Int} {s : Int → Int}
theorem RP.cla (h : RP g n q s) (hz : sm (fun j => b2 (¬ g j = 0 ∧ g j / 2 % 4 = 2)) n = 0) : fcP g n q = mCf s (s 0 - 1).toNat 1 := by
  have hn := h.1
  have no := sm_no (P := fun j => ¬ g j = 0 ∧ g j / 2 % 4 = 2) n.toNat (by rw [Int.toNat_of_nonneg hn.1]; exact hz)
  have hx : ∀ k : Int, 0 ≤ k → k < n → ¬ g k = 0 → HX g n 0 k = (s (2 + k) - 1) % 3 ∧ (HX g n 0 k = 0 ∨ HX g n 0 k = 1) := fun k a b c => by
    have o := owP_n h ⟨a, b⟩
    have e := HX_e (g := g) (x := 0) (n := n) ⟨a, b⟩
    have nt : ¬ owP g k = 2 := fun t => by
      unfold owP at t; rw [if_neg c] at t; exact no k a (by omega) ⟨c, t⟩
    rw [if_neg nt] at e
    have f := ow_4 h k a b
    have g3 : ¬ owP g k = 3 := fun t => c (o.1.mp t)
    exact ⟨by rw [e, o.2.1 c], by rw [e]; omega⟩
  have st : ∀ k : Int, 1 ≤ k → k < n → (plC n (cnP g q 0 1) (cnP g q 0 0) k (b2 (HX g n 0 (k - 1) = HX g n 0 k)) = 0 ↔ ¬ mCs s k) := fun k a b => by
    rw [plC_e ⟨by omega, b⟩ (b2_01 _), if_neg (show ¬ k = 0 by omega), b2_n]
    have v := h.2.2.2.2 k (by omega) b
    have w := h.2.2.2.2 (k - 1) (by omega) (by omega)
    have v0 := (owP_n h (k := k) ⟨by omega, b⟩).2.2
    have w0 := (owP_n h (k := k - 1) ⟨by omega, by omega⟩).2.2
    by_cases z : ¬ g (k - 1) = 0 ∧ ¬ g k = 0
    · have h1 := hx (k - 1) (by omega) (by omega) z.1
      have h2 := hx k (by omega) b z.2
      have m : (¬ mCl (s 1) (s (2 + (k - 1))) ((s (2 + (k - 1)) - 1) % 3) (s (2 + k)) ((s (2 + k) - 1) % 3) = 0) ↔ cnD q (g (k - 1)) (g k) (b2 (HX g n 0 (k - 1) = HX g n 0 k)) := by
        rw [← h1.1, ← h2.1, w.2, v.2, h.2.2.2.1]; exact mk_cl h.2.1 w.1 v.1 h1.2 h2.2
      exact ⟨fun x y => x (m.mp y.2), fun x y => x ⟨⟨fun t => z.1 (w0.mp t), fun t => z.2 (v0.mp t)⟩, m.mpr y⟩⟩
    · exact ⟨fun _ y => z ⟨fun t => y.1.1 (w0.mpr t), fun t => y.1.2 (v0.mpr t)⟩, fun _ y => z y.1⟩
  have rc : ∀ (r : Nat) (k : Int), 1 ≤ k → k + r = n → fcN n (cnP g q 0 1) (cnP g q 0 0) (HX g n 0) r k (HX g n 0 (k - 1)) = mCf s r k := by
    intro r; induction r with
    | zero => intro k _ _; rfl
    | succ r ih =>
      intro k a b
      have e1 : fcN n (cnP g q 0 1) (cnP g q 0 0) (HX g n 0) (r + 1) k (HX g n 0 (k - 1)) = if plC n (cnP g q 0 1) (cnP g q 0 0) k (b2 (HX g n 0 (k - 1) = HX g n 0 k)) = 0 then fcN n (cnP g q 0 1) (cnP g q 0 0) (HX g n 0) r (k + 1) (HX g n 0 k) else k := rfl
      have e2 : mCf s (r + 1) k = if mCs s k then k else mCf s r (k + 1) := rfl
      have i := ih (k + 1) (by omega) (by omega)
      rw [show k + 1 - 1 = k by omega] at i
      rw [e1, e2]
      by_cases z : mCs s k
      · rw [if_pos z, if_neg (fun y => (st k a (by omega)).mp y z)]
      · rw [if_neg z, if_pos ((st k a (by omega)).mpr z)]; exact i
  have e0 : fcP g n q = fcN n (cnP g q 0 1) (cnP g q 0 0) (HX g n 0) n.toNat 0 (haA n (HX g n 0) (n - 1)) := rfl
  rw [e0, h.2.2.1]
  by_cases z : n = 0
  · rw [show n.toNat = 0 by omega, show (n - 1).toNat = 0 by omega]; rfl
  · rw [show n.toNat = (n - 1).toNat + 1 by omega]
    have e1 : ∀ b : Int, fcN n (cnP g q 0 1) (cnP g q 0 0) (HX g n 0) ((n - 1).toNat + 1) 0 b = if plC n (cnP g q 0 1) (cnP g q 0 0) 0 (b2 (b = HX g n 0 0)) = 0 then fcN n (cnP g q 0 1) (cnP g q 0 0) (HX g n 0) (n - 1).toNat (0 + 1) (HX g n 0 0) else 0 := fun _ => rfl
    rw [e1, if_pos (plC_p (Int.le_refl _) ⟨fun _ => rfl, fun t => absurd rfl t⟩)]
    exact rc (n - 1).toNat 1 (by omega) (by omega)
/-! patterns -/
theorem sm_tl {F f : Int → Int} {m : Int} : ∀ n : Nat, m ≤ n → (∀ j : Int, 0 ≤ j → j < m → F j = f j) → (∀ j : Int, 0 ≤ j → m ≤ j → j < n → F j = 0) → sm F n = sm f m
  | 0, h, _, _ => by
    have e : m.toNat = 0 := by omega
    unfold sm; rw [e]; rfl
  | n + 1, h, h1, h2 => by
    have e := sm_s F (k := n) (by omega)
    by_cases z : m = n + 1
    · rw [show (((n + 1 : Nat)) : Int) = m by omega]; exact sm_cg h1
    · rw [show (((n + 1 : Nat)) : Int) = (n : Int) + 1 by omega, e, sm_tl n (by omega) h1 (fun j a b c => h2 j a b (by omega)), h2 n (by omega) (by omega) (by omega), Int.add_zero]
theorem pf_al {g : Int → Int} : ∀ (r : Nat) (k : Int), 0 ≤ k → pfN g r k = -4 → ∀ j : Int, k ≤ j → j < k + r → g j = 46 ∨ hsP (g j)
  | 0, k, _, _, j, a, b => absurd b (by omega)
  | r + 1, k, h0, h, j, a, b => by
    have e : pfN g (r + 1) k = if g k = 46 ∨ hsP (g k) then pfN g r (k + 1) else k := rfl
    rw [e] at h
    by_cases z : g k = 46 ∨ hsP (g k)
    · rw [if_pos z] at h
      by_cases y : j = k
      · rw [y]; exact z
      · exact pf_al r (k + 1) (by omega) h j (by omega) (by omega)
    · rw [if_neg z] at h; omega
theorem mHf_4 (c : Int) : mHf c = -4 ↔ ¬ hsP c := by
  unfold mHf hsP; (repeat' split) <;> omega
theorem mHf_v (c : Int) : (c = 82 → mHf c = 0) ∧ (c = 76 → mHf c = 1) ∧ (c = 120 → mHf c = 2) := by
  unfold mHf; (repeat' split) <;> omega
theorem pf_mp {gp p : Int → Int} {np : Int} (h : ∀ j : Int, 0 ≤ j → j < np → gp j = p j) : ∀ (r : Nat) (k : Int), 0 ≤ k → k + r ≤ np → pfN gp r k = mpN p r k
  | 0, _, _, _ => rfl
  | r + 1, k, h0, hr => by
    have ih := pf_mp h r (k + 1) (by omega) (by omega)
    have e1 : pfN gp (r + 1) k = if gp k = 46 ∨ hsP (gp k) then pfN gp r (k + 1) else k := rfl
    have e2 : mpN p (r + 1) k = if mHf (p k) = -4 ∧ ¬ p k = 46 then k else mpN p r (k + 1) := rfl
    rw [e1, e2, h k h0 (by omega), ih]
    by_cases z : p k = 46 ∨ hsP (p k)
    · rw [if_pos z, if_neg (fun y => z.elim y.2 ((mHf_4 _).mp y.1))]
    · rw [if_neg z, if_pos ⟨(mHf_4 _).mpr (fun y => z (Or.inr y)), fun y => z (Or.inl y)⟩]
theorem RP.pat (h : RP g n q s) {gp p : Int → Int} {np : Int} (hp : ∀ j : Int, 0 ≤ j → j < np → gp j = p j) (hnp : 0 ≤ np ∧ np ≤ 60) (hf : pfN gp np.toNat 0 = -4) (hl : fcB g n q 1 < 1000) : sm (fun a => pmN g gp n (chP g n q 1) a np.toNat 0) (n - np + 1) = sm (fun a => cmV s (fun j => mcB s 1 (j + 1)) p np a) (s 0) := by
  have hn := h.1
  have l1 := (h.play (Or.inr rfl)).mp hl
  have n1 : 1 ≤ np := Decidable.byContradiction (fun z => by
    have e : np.toNat = 0 := by omega
    rw [e] at hf
    have : (0 : Int) = -4 := hf
    omega)
  have al := pf_al np.toNat 0 (by omega) hf
  have one : ∀ (a : Int), 0 ≤ a → a + np ≤ n → ∀ (r : Nat) (k : Int), 0 ≤ k → k + r = np → pmN g gp n (chP g n q 1) a r k = cmN s (fun j => mcB s 1 (j + 1)) p a r k := by
    intro a ha hn2 r; induction r with
    | zero => intro k _ _; rfl
    | succ r ih =>
      intro k hk hr
      have e1 : pmN g gp n (chP g n q 1) a (r + 1) k = if asT (gp k) (pAt g n (a + k)) (chP g n q 1 (a + k)) then pmN g gp n (chP g n q 1) a r (k + 1) else 0 := rfl
      have e2 : cmN s (fun j => mcB s 1 (j + 1)) p a (r + 1) k = if cmS s (fun j => mcB s 1 (j + 1)) p a k then cmN s (fun j => mcB s 1 (j + 1)) p a r (k + 1) else 0 := rfl
      have i := ih (k + 1) (by omega) (by omega)
      have ak : 0 ≤ a + k ∧ a + k < n := by omega
      have v := (owP_n h ak).2.2
      have c := al k (by omega) (by omega)
      rw [hp k hk (by omega)] at c
      have mv := mHf_v (p k)
      have eq : asT (gp k) (pAt g n (a + k)) (chP g n q 1 (a + k)) ↔ cmS s (fun j => mcB s 1 (j + 1)) p a k := by
        rw [hp k hk (by omega), pAt_t ak]
        by_cases y : g (a + k) = 0
        · have y2 := v.mpr y
          constructor
          · rintro (z | z)
            · exact Or.inl ⟨(mHf_4 _).mpr (by unfold hsP; omega), y2⟩
            · exact absurd y z.2.1
          · rintro (z | z)
            · exact Or.inl ⟨c.resolve_right ((mHf_4 _).mp z.1), y⟩
            · exact absurd y2 z.2.1
        · have ch := h.cho (Or.inr rfl) l1 ak y
          have y2 : ¬ s (2 + (a + k)) = 0 := fun t => y (v.mp t)
          constructor
          · rintro (z | ⟨z1, _, z3⟩)
            · exact absurd z.2 y
            · have c2 := c.resolve_left z1
              refine Or.inr ⟨fun t => (mHf_4 _).mp t c2, y2, ?_⟩
              show mHf (p k) = 2 ∨ mHf (p k) = mcB s 1 (a + k + 1)
              rw [← ch.1]
              rcases c2 with t | t | t
              · rw [if_pos t] at z3; rw [mv.1 t]; omega
              · rw [if_neg (show ¬ p k = 82 by omega)] at z3; rw [mv.2.1 t]; omega
              · exact Or.inl (mv.2.2 t)
          · rintro (z | ⟨z1, _, z3⟩)
            · exact absurd z.2 y2
            · have c2 : hsP (p k) := Decidable.byContradiction (fun t => z1 ((mHf_4 _).mpr t))
              have z4 : mHf (p k) = 2 ∨ mHf (p k) = mcB s 1 (a + k + 1) := z3
              rw [← ch.1] at z4
              refine Or.inr ⟨?_, y, ?_⟩
              · rcases c2 with t | t | t <;> omega
              · rcases c2 with t | t | t
                · rw [if_pos t]; rw [mv.1 t] at z4; omega
                · rw [if_neg (show ¬ p k = 82 by omega)]; rw [mv.2.1 t] at z4; omega
                · exact Or.inl t
      rw [e1, e2, i]
      by_cases z : cmS s (fun j => mcB s 1 (j + 1)) p a k
      · rw [if_pos z, if_pos (eq.mpr z)]
      · rw [if_neg z, if_neg (fun y => z (eq.mp y))]
  have fin := sm_tl (F := fun a => cmV s (fun j => mcB s 1 (j + 1)) p np a) (f := fun a => pmN g gp n (chP g n q 1) a np.toNat 0) (m := n - np + 1) n.toNat (by omega) (fun a h0 h1 => by
    show cmV s (fun j => mcB s 1 (j + 1)) p np a = pmN g gp n (chP g n q 1) a np.toNat 0
    unfold cmV; rw [if_pos (by rw [h.2.2.1]; omega)]
    exact (one a h0 (by omega) np.toNat 0 (by omega) (by omega)).symm) (fun a h0 h1 h2 => by
    show cmV s (fun j => mcB s 1 (j + 1)) p np a = 0
    unfold cmV; rw [if_neg (by rw [h.2.2.1]; omega)])
  rw [Int.toNat_of_nonneg hn.1] at fin
  rw [h.2.2.1, fin]
/-! the right hand -/
theorem RP.rig (h : RP g n q s) {pr : Int} (hp : pr = 0 ∨ pr = 1) : rgC g n q pr = rgM s pr := by
  have hn := h.1
  have f := h.frc
  have pl := h.play hp
  unfold rgC rgM; rw [f]
  by_cases z : sm (fun j => mSu s 5 (s (2 + j))) (s 0) = 0 ∨ ¬ lsS s (-4) 0 2 < 1000
  · rw [if_pos z, if_pos (z.imp id (fun y t => y (pl.mp t)))]
  · rw [if_neg z, if_neg (fun y => z (y.imp id (fun y t => y (pl.mpr t))))]
    have l : lsS s (-4) 0 2 < 1000 := Decidable.byContradiction (fun t => z (Or.inr t))
    have e : rgR g n q pr n = mRs s (fun j => mcB s pr (j + 1)) (s 0) := by
      unfold rgR mRs
      rw [h.2.2.1]
      refine sm_cg (fun j a b => ?_)
      have v := h.2.2.2.2 j a b
      show sFr (g j) (chP g n q pr j) = mRb (s (2 + j)) (mcB s pr (j + 1))
      rw [v.2]
      by_cases y : g j = 0
      · rw [y]; rfl
      · have c := h.cho hp l ⟨a, b⟩ y
        rw [← c.1]; exact (mk_hr v.1 c.2).symm
    rw [e]
/-! deciding -/
theorem deC_m {c : Int} (hc : vK c) {x : Int} (hx : ¬ c = 0 → x = 0 ∨ x = 1) {hd hm : Int → Int} {j : Int} (e1 : hd j = x) (e2 : ¬ c = 0 → hm j = x) : vK (deC hd j c) ∧ deM hm j (mk c) = mk (deC hd j c) := by
  have m0 := mk_0 hc
  unfold deC deM
  by_cases z : ¬ c = 0 ∧ c / 2 % 4 = 2
  · have hh := mk_hd hc z.1
    have z2 : ¬ mk c = 0 ∧ (mk c - 1) % 3 = 2 := ⟨fun t => z.1 (m0.mp t), by rw [hh]; exact z.2⟩
    have x1 := hx z.1
    have b := b2_01 (c / 8 % 2 = 1)
    have o : 0 ≤ c / 16 % 4 ∧ c / 16 % 4 ≤ 3 := by omega
    rw [if_pos z, if_pos z2, e1, e2 z.1, mk_ac hc, mk_or hc]
    exact ⟨vK_of (by omega) b o, (mk_sOf (by omega) b o).symm⟩
  · rw [if_neg z, if_neg (fun y => z ⟨fun t => y.1 (m0.mpr t), by rw [← mk_hd hc (fun t => y.1 (m0.mpr t))]; exact y.2⟩)]
    exact ⟨hc, rfl⟩
theorem RP.dec (h : RP g n q s) {pr : Int} (hp : pr = 0 ∨ pr = 1) (hl : fcB g n q pr < 1000) : RP (mpF (deC (fun j => chP g n q pr j)) g n) n q (mpS (deM (fun j => mcB s pr (j + 1))) s (s 0)) := h.map (fun j a b => by
  have v := h.2.2.2.2 j a b
  have l := (h.play hp).mp hl
  rw [v.2]
  exact deC_m v.1 (x := chP g n q pr j) (fun y => (h.cho hp l ⟨a, b⟩ y).2) rfl (fun y => (h.cho hp l ⟨a, b⟩ y).1.symm))
theorem RP.mirr (h : RP g n q s) : RP (mpF (fun _ c => miC c) g n) n q (mpS (fun _ c => miM c) s (s 0)) := h.map (fun j a b => by
  have v := h.2.2.2.2 j a b
  rw [v.2]; exact ⟨(mk_mi v.1).2, (mk_mi v.1).1.symm⟩)
theorem RP.lean (h : RP g n q s) {d : Int} (hd : d = 0 ∨ d = 1) : RP (mpF (fun _ c => leC d c) g n) n q (mpS (fun _ c => leM d c) s (s 0)) := h.map (fun j a b => by
  have v := h.2.2.2.2 j a b
  rw [v.2]; exact ⟨(mk_le v.1 hd).2, (mk_le v.1 hd).1.symm⟩)
/-! looks at a step -/
theorem RP.stp (h : RP g n q s) {a w : Int} (ha : 0 ≤ a ∧ a < n) : (if w = 0 then (if g a = 0 then -4 else g a / 2 % 4) else if w = 1 then b2 (g a / 8 % 2 = 1) else if w = 2 then g a / 16 % 4 else if w = 3 then sBl (g a) else if w = 4 then sFs (g a) else -1) = (if w = 0 then (if s (2 + a) = 0 then -4 else (s (2 + a) - 1) % 3) else if w = 1 then mAc (s (2 + a)) else if w = 2 then mOr (s (2 + a)) else if w = 3 then mBl (s (2 + a)) else if w = 4 then mFs (s (2 + a)) else -1) := by
  have v := h.2.2.2.2 a ha.1 ha.2
  have m0 := mk_0 v.1
  rw [v.2, mk_ac v.1, mk_or v.1, mk_bl v.1, mk_fs v.1]
  by_cases z : g a = 0
  · rw [if_pos z, if_pos (m0.mpr z)]
  · rw [if_neg z, if_neg (fun y => z (m0.mp y)), mk_hd v.1 z]
theorem RP.hnd (h : RP g n q s) {a pr : Int} (hp : pr = 0 ∨ pr = 1) (ha : 0 ≤ a ∧ a < n) : (if ¬ g a = 0 ∧ fcB g n q pr < 1000 then chP g n q pr a else -4) = (if lsS s (-4) 0 2 < 1000 then (if s (2 + a) = 0 then -4 else mcB s pr (a + 1)) else -4) := by
  have v := (owP_n h ha).2.2
  have pl := h.play hp
  by_cases z : lsS s (-4) 0 2 < 1000
  · rw [if_pos z]; by_cases y : g a = 0
    · rw [if_neg (fun t => t.1 y), if_pos (v.mpr y)]
    · rw [if_pos ⟨y, pl.mpr z⟩, if_neg (fun t => y (v.mp t))]; exact (h.cho hp z ha y).1
  · rw [if_neg z, if_neg (fun t => z (pl.mp t.2))]
/-! the quickest -/
theorem RP.qui (h : RP g n q s) : (if fcB g n 4 0 < 1000 then 4 else if fcB g n 3 0 < 1000 then 3 else if fcB g n 2 0 < 1000 then 2 else if fcB g n 1 0 < 1000 then 1 else -4) = qkN s 4 := by
  have p := fun v (hv : 1 ≤ v ∧ v ≤ 4) => (h.set hv).play (pr := 0) (Or.inl rfl)
  have e4 : qkN s 4 = if lsS (uJ s 1 4) (-4) 0 2 < 1000 then 4 else qkN s 3 := rfl
  have e3 : qkN s 3 = if lsS (uJ s 1 3) (-4) 0 2 < 1000 then 3 else qkN s 2 := rfl
  have e2 : qkN s 2 = if lsS (uJ s 1 2) (-4) 0 2 < 1000 then 2 else qkN s 1 := rfl
  have e1 : qkN s 1 = if lsS (uJ s 1 1) (-4) 0 2 < 1000 then 1 else -4 := rfl
  have f : ∀ (A B : Prop) [Decidable A] [Decidable B] (x y : Int), (A ↔ B) → (if A then x else y) = (if B then x else y) := fun A B _ _ x y t => by
    by_cases z : A
    · rw [if_pos z, if_pos (t.mp z)]
    · rw [if_neg z, if_neg (fun y => z (t.mpr y))]
  rw [e4, e3, e2, e1, f _ _ _ _ (p 4 (by omega)), f _ _ _ _ (p 3 (by omega)), f _ _ _ _ (p 2 (by omega)), f _ _ _ _ (p 1 (by omega))]
/-! what would be -/
theorem RP.ifs (h : RP g n q s) {a x o : Int} (ha : 0 ≤ a ∧ a < n) (hx : 0 ≤ x ∧ x ≤ 2) (ho : 0 ≤ o ∧ o ≤ 3) : RP (ifG g a x o) n q (uJ s (2 + a) (1 + x + 3 * mAc (s (2 + a)) + 6 * o)) := by
  have v := h.2.2.2.2 a ha.1 ha.2
  have b := b2_01 (g a / 8 % 2 = 1)
  have r := h.ch (a := a) (c := sOf x (b2 (g a / 8 % 2 = 1)) o) (vK_of hx b ho) ha
  have e : uJ s 0 (s 0 + 0) = s := by
    funext j; by_cases z : j = 0
    · rw [z, uJ_s]; omega
    · rw [uJ_n z]
  rw [e, mk_sOf hx b ho, ← mk_ac v.1, ← v.2] at r
  unfold ifG; rw [← mk_ac v.1, ← v.2]; exact r
end
