/-! weaker ends of contracts; the history's words -/
theorem MV.weak {S S2 : Type} {l : Launch} {y : MethodName} {wy : List Cond} {rm : Room} {D : va_G} {cl : List vw_C} {av : List Value} {wc : va_W} {tys : List (ClassId × FieldType)} {post : S → Prop} {w1 : S → va_W} {post2 : S2 → Prop} {w2 : S2 → va_W} (h : MV l y wy rm D cl av wc tys post w1)
    (hw : ∀ u, post u → ∃ (v : S2) (perm : List Nat), post2 v ∧ va_nd perm = true ∧ perm.map (fun i => (w1 u)[i]?) = (w2 v).map some) : MV l y wy rm D cl av wc tys post2 w2 := by
  intro sz p e a b c s m args below hf happ hP hK
  obtain ⟨n, o, h1, h2, h3, ⟨⟨u, e1, e2, e3, e4⟩, hF⟩, hL⟩ := h sz p e a b c s m args below hf happ hP hK
  obtain ⟨v, perm, q1, q2, q3⟩ := hw u e2
  exact ⟨n, o, h1, h2, h3, ⟨⟨v, e1, q1, pick_P e3 q3, e4.sub perm q2 q3⟩, hF⟩, hL⟩
theorem MM.weak {S S2 : Type} {l : Launch} {y : MethodName} {wy : List Cond} {rm : Room} {D : va_G} {cl : List vw_C} {av : List Value} {wc : va_W} {tys : List (ClassId × FieldType)} {val : S → Int} {post : S → Prop} {w1 : S → va_W} {val2 : S2 → Int} {post2 : S2 → Prop} {w2 : S2 → va_W} (h : MM l y wy rm D cl av wc tys val post w1)
    (hw : ∀ u, post u → ∃ (v : S2) (perm : List Nat), (val u = val2 v ∧ post2 v) ∧ va_nd perm = true ∧ perm.map (fun i => (w1 u)[i]?) = (w2 v).map some) : MM l y wy rm D cl av wc tys val2 post2 w2 := by
  intro sz p e a b c s m args below hf happ hP hK
  obtain ⟨n, o, h1, h2, h3, ⟨⟨r, u, e1, e2, e3, e4⟩, hF⟩, hL⟩ := h sz p e a b c s m args below hf happ hP hK
  obtain ⟨v, perm, q1, q2, q3⟩ := hw u e2.2
  exact ⟨n, o, h1, h2, h3, ⟨⟨r, v, e1, ⟨by rw [e2.1, q1.1], q1.2⟩, pick_P e3 q3, e4.sub perm q2 q3⟩, hF⟩, hL⟩
def hF (xa : Nat → Nat) : Nat → Option Nat := fun j => if j < 4 then some (xa j) else none
def xr {α : Type} (f : Nat → α) : Nat → α := fun j => if j = 3 then f 0 else f (j + 1)
def up {α : Type} (f : Nat → α) (k : Nat) (v : α) : Nat → α := fun i => if i = k then v else f i
theorem hF_rot (xa : Nat → Nat) : va_up (va_up (va_up (va_up (hF xa) (0 : Int).toNat (some (xa 1))) (1 : Int).toNat (some (xa 2))) (2 : Int).toNat (some (xa 3))) (3 : Int).toNat (some (xa 0)) = hF (xr xa) := by
  funext j
  match j with
  | 0 => rfl
  | 1 => rfl
  | 2 => rfl
  | 3 => rfl
  | j + 4 =>
    have h0 : ¬ (j + 4 = 0) := by omega
    have h1 : ¬ (j + 4 = 1) := by omega
    have h2 : ¬ (j + 4 = 2) := by omega
    have h3 : ¬ (j + 4 = 3) := by omega
    have h4 : ¬ (j + 4 < 4) := by omega
    show (if j + 4 = 3 then _ else if j + 4 = 2 then _ else if j + 4 = 1 then _ else if j + 4 = 0 then _ else if j + 4 < 4 then _ else none) = (if j + 4 < 4 then _ else none)
    rw [if_neg h0, if_neg h1, if_neg h2, if_neg h3, if_neg h4, if_neg h4]
/-- the history with one more state, the oldest one dropped if there are five -/
def HPush (m n q : Int) (g : Int → Int) (hN hQ : Nat → Int) (hG : Nat → Int → Int) (m2 : Int) (hN2 hQ2 : Nat → Int) (hG2 : Nat → Int → Int) : Prop :=
  m2 = (if m < 4 then m + 1 else 4) ∧ (∀ i : Nat, (i : Int) + 1 < m2 → hN2 i = hN (if m < 4 then i else i + 1) ∧ hQ2 i = hQ (if m < 4 then i else i + 1) ∧ ∀ j : Int, 0 ≤ j → j < hN2 i → hG2 i j = hG (if m < 4 then i else i + 1) j) ∧ (hN2 (m2 - 1).toNat = n ∧ hQ2 (m2 - 1).toNat = q ∧ ∀ j : Int, 0 ≤ j → j < n → hG2 (m2 - 1).toNat j = g j) ∧ ∀ i : Nat, 0 ≤ hN2 i ∧ hN2 i ≤ 32
theorem hpush_lt {k : Nat} {n q : Int} {g : Int → Int} {hN hQ : Nat → Int} {hG : Nat → Int → Int} (hk : k < 4) (hn : 0 ≤ n ∧ n ≤ 32) (hh : ∀ i : Nat, 0 ≤ hN i ∧ hN i ≤ 32) : HPush k n q g hN hQ hG ((k : Int) + 1) (up hN k n) (up hQ k q) (up hG k (pCp (hG k) g n)) := by
  have e : ((k : Int) + 1 - 1).toNat = k := by omega
  refine ⟨by rw [if_pos (by omega)], fun i hi => ?_, ?_, fun i => ?_⟩
  · have h1 : ¬ i = k := by omega
    unfold up; rw [if_pos (show (k : Int) < 4 by omega)]
    exact ⟨if_neg h1, if_neg h1, fun j _ _ => by rw [if_neg h1]⟩
  · rw [e]; unfold up
    refine ⟨if_pos rfl, if_pos rfl, fun j h1 h2 => ?_⟩
    rw [if_pos rfl]; unfold pCp; rw [if_pos ⟨h1, h2⟩]
  · unfold up; split
    · exact hn
    · exact hh i
theorem hpush_4 {n q : Int} {g : Int → Int} {hN hQ : Nat → Int} {hG : Nat → Int → Int} (hn : 0 ≤ n ∧ n ≤ 32) (hh : ∀ i : Nat, 0 ≤ hN i ∧ hN i ≤ 32) : HPush 4 n q g hN hQ hG 4 (up (xr hN) 3 n) (up (xr hQ) 3 q) (up (xr hG) 3 (pCp (hG 0) g n)) := by
  refine ⟨rfl, fun i hi => ?_, ?_, fun i => ?_⟩
  · have h1 : ¬ i = 3 := by omega
    unfold up xr; rw [if_neg (show ¬ (4 : Int) < 4 by omega), if_neg h1, if_neg h1]
    exact ⟨rfl, by rw [if_neg h1, if_neg h1], fun j _ _ => by rw [if_neg h1, if_neg h1]⟩
  · refine ⟨rfl, rfl, fun j h1 h2 => ?_⟩
    show pCp (hG 0) g n j = g j
    unfold pCp; rw [if_pos ⟨h1, h2⟩]
  · unfold up xr; split
    · exact hn
    · exact hh (i + 1)
/-! words of the class's calls -/
def mpF (F : Int → Int → Int) (g : Int → Int) (n : Int) : Int → Int := fun j => if 0 ≤ j ∧ j < n then F j (g j) else g j
theorem mpF_0 (F : Int → Int → Int) (g : Int → Int) : g = mpF F g 0 := by
  funext j; unfold mpF; rw [if_neg (show ¬ (0 ≤ j ∧ j < 0) by omega)]
theorem mpF_s1 (F : Int → Int → Int) (g : Int → Int) {k v : Int} (h : 0 ≤ k) (hv : v = F k (g k)) : uJ (mpF F g k) k v = mpF F g (k + 1) := by
  funext j; by_cases q : j = k
  · subst q; rw [uJ_s, hv]; unfold mpF; rw [if_pos (show 0 ≤ j ∧ j < j + 1 by omega)]
  · rw [uJ_n q]; unfold mpF; by_cases q2 : 0 ≤ j ∧ j < k
    · rw [if_pos q2, if_pos (show 0 ≤ j ∧ j < k + 1 by omega)]
    · rw [if_neg q2, if_neg (show ¬ (0 ≤ j ∧ j < k + 1) by omega)]
theorem mpF_s0 (F : Int → Int → Int) (g : Int → Int) {k : Int} (h : 0 ≤ k) (hv : g k = F k (g k)) : mpF F g k = mpF F g (k + 1) := by
  rw [← mpF_s1 F g h hv]; funext j; by_cases q : j = k
  · subst q; rw [uJ_s]; unfold mpF; rw [if_neg (show ¬ (0 ≤ j ∧ j < j) by omega)]
  · rw [uJ_n q]
theorem pAt_mp {F : Int → Int → Int} {g : Int → Int} {n k : Int} (h : 0 ≤ k ∧ k < n) : pAt (mpF F g k) n k = g k := by
  unfold pAt mpF; rw [if_pos h, if_neg (show ¬ (0 ≤ k ∧ k < k) by omega)]
theorem pAt_t {g : Int → Int} {n k : Int} (h : 0 ≤ k ∧ k < n) : pAt g n k = g k := if_pos h
def miC (c : Int) : Int := if ¬ c = 0 ∧ ¬ c / 2 % 4 = 2 then sOf (if c / 2 % 4 = 0 then 1 else 0) (b2 (c / 8 % 2 = 1)) (c / 16 % 4) else c
def leC (d c : Int) : Int := if c / 16 % 4 = (if d = 0 then 2 else 1) then sOf (c / 2 % 4) (b2 (c / 8 % 2 = 1)) (if d = 0 then 1 else 2) else c
def deC (hd : Int → Int) (j c : Int) : Int := if ¬ c = 0 ∧ c / 2 % 4 = 2 then sOf (hd j) (b2 (c / 8 % 2 = 1)) (c / 16 % 4) else c
def tuI (n a j : Int) : Int := if j + a < n then j + a else j + a - n
