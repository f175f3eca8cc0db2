/-! weaker ends of contracts; the history's words -/
theorem MV.weak {S S2 : Type} {l : Launch} {y : MethodName} {wy : List Cond} {rm : Room} {D : va_G} {cl : List vw_C} {av : List Value} {wc : va_W} {tys : List (ClassId × FieldType)} {post : S → Prop} {w1 : S → va_W} {post2 : S2 → Prop} {w2 : S2 → va_W} (h : MV l y wy rm D cl av wc tys post w1)
    (hw : ∀ u, post u → ∃ (v : S2) (perm : List Nat), post2 v ∧ va_nd perm = true ∧ perm.map (fun i => (w1 u)[i]?) = (w2 v).map some) : MV l y wy rm D cl av wc tys post2 w2 := by
  intro sz p e a b c s m args below hf happ hP hK
  obtain ⟨n, o, h1, h2, h3, ⟨⟨u, e1, e2, e3, e4⟩, hF⟩, hL⟩ := h sz p e a b c s m args below hf happ hP hK
  obtain ⟨v, perm, q1, q2, q3⟩ := hw u e2
  exact ⟨n, o, h1, h2, h3, ⟨⟨v, e1, q1, pick_P e3 q3, e4.sub perm q2 q3⟩, hF⟩, hL⟩
theorem MM.weak {S S2 : Type} {l : Launch} {y : MethodName} {wy : List Cond} {rm : Room} {D : va_G} {cl : List vw_C} {av : List Value} {wc : va_W} {tys : List (ClassId × FieldType)} {val : S → Int} {post : S → Prop} {w1 : S → va_W} {val2 : S2 → Int} {post2 : S2 → Prop} {w2 : S2 → va_W} (h : MM l y wy rm D cl av wc tys val post w1)
    (hw : ∀ u, post u → ∃ (v : S2) (perm : List Nat), (val u = val2 v ∧ post2 v) ∧ va_nd perm = true ∧ perm.map (fun i => (w1 u)[i]?) = (w2 v).map some) : MM l y wy rm D cl av wc tys val2 post2 w2 := by
  intro sz p e a b c s m args below hf happ hP hK
  obtain ⟨n, o, h1, h2, h3, ⟨⟨r, u, e1, e2, e3, e4⟩, hF⟩, hL⟩ := h sz p e a b c s m args below hf happ hP hK
  obtain ⟨v, perm, q1, q2, q3⟩ := hw u e2.2
  exact ⟨n, o, h1, h2, h3, ⟨⟨r, v, e1, ⟨by rw [e2.1, q1.1], q1.2⟩, pick_P e3 q3, e4.sub perm q2 q3⟩, hF⟩, hL⟩
def hF (xa : Nat → Nat) : Nat → Option Nat := fun j => if j < 4 then some (xa j) else none
def xr {α : Type} (f : Nat → α) : Nat → α := fun j => if j = 3 then f 0 else f (j + 1)
def up {α : Type} (f : Nat → α) (k : Nat) (v : α) : Nat → α := fun i => if i = k then v else f i
theorem hF_rot (xa : Nat → Nat) : va_up (va_up (va_up (va_up (hF xa) (0 : Int).toNat (some (xa 1))) (1 : Int).toNat (some (xa 2))) (2 : Int).toNat (some (xa 3))) (3 : Int).toNat (some (xa 0)) = hF (xr xa) := by
  funext j
  match j with
  | 0 => rfl
  | 1 => rfl
  | 2 => rfl
  | 3 => rfl
  | j + 4 =>
    have h0 : ¬ (j + 4 = 0) := by omega
    have h1 : ¬ (j + 4 = 1) := by omega
    have h2 : ¬ (j + 4 = 2) := by omega
    have h3 : ¬ (j + 4 = 3) := by omega
    have h4 : ¬ (j + 4 < 4) := by omega
    show (if j + 4 = 3 then _ else if j + 4 = 2 then _ else if j + 4 = 1 then _ else if j + 4 = 0 then _ else if j + 4 < 4 then _ else none) = (if j + 4 < 4 then _ else none)
    rw [if_neg h0, if_neg h1, if_neg h2, if_neg h3, if_neg h4, if_neg h4]
/-- the history with one more state, the oldest one dropped if there are five -/
def HPush (m n q : Int) (g : Int → Int) (hN hQ : Nat → Int) (hG : Nat → Int → Int) (m2 : Int) (hN2 hQ2 : Nat → Int) (hG2 : Nat → Int → Int) : Prop :=
  m2 = (if m < 4 then m + 1 else 4) ∧ (∀ i : Nat, (i : Int) + 1 < m2 → hN2 i = hN (if m < 4 then i else i + 1) ∧ hQ2 i = hQ (if m < 4 then i else i + 1) ∧ ∀ j : Int, 0 ≤ j → j < hN2 i → hG2 i j = hG (if m < 4 then i else i + 1) j) ∧ (hN2 (m2 - 1).toNat = n ∧ hQ2 (m2 - 1).toNat = q ∧ ∀ j : Int, 0 ≤ j → j < n → hG2 (m2 - 1).toNat j = g j) ∧ ∀ i : Nat, 0 ≤ hN2 i ∧ hN2 i ≤ 32
theorem hpush_lt {k : Nat} {n q : Int} {g : Int → Int} {hN hQ : Nat → Int} {hG : Nat → Int → Int} (hk : k < 4) (hn : 0 ≤ n ∧ n ≤ 32) (hh : ∀ i : Nat, 0 ≤ hN i ∧ hN i ≤ 32) : HPush k n q g hN hQ hG ((k : Int) + 1) (up hN k n) (up hQ k q) (up hG k (pCp (hG k) g n)) := by
  have e : ((k : Int) + 1 - 1).toNat = k := by omega
  refine ⟨by rw [if_pos (by omega)], fun i hi => ?_, ?_, fun i => ?_⟩
  · have h1 : ¬ i = k := by omega
    unfold up; rw [if_pos (show (k : Int) < 4 by omega)]
    exact ⟨if_neg h1, if_neg h1, fun j _ _ => by rw [if_neg h1]⟩
  · rw [e]; unfold up
    refine ⟨if_pos rfl, if_pos rfl, fun j h1 h2 => ?_⟩
    rw [if_pos rfl]; unfold pCp; rw [if_pos ⟨h1, h2⟩]
  · unfold up; split
    · exact hn
    · exact hh i
theorem hpush_4 {n q : Int} {g : Int → Int} {hN hQ : Nat → Int} {hG : Nat → Int → Int} (hn : 0 ≤ n ∧ n ≤ 32) (hh : ∀ i : Nat, 0 ≤ hN i ∧ hN i ≤ 32) : HPush 4 n q g hN hQ hG 4 (up (xr hN) 3 n) (up (xr hQ) 3 q) (up (xr hG) 3 (pCp (hG 0) g n)) := by
  refine ⟨rfl, fun i hi => ?_, ?_, fun i => ?_⟩
  · have h1 : ¬ i = 3 := by omega
    unfold up xr; rw [if_neg (show ¬ (4 : Int) < 4 by omega), if_neg h1, if_neg h1]
    exact ⟨rfl, by rw [if_neg h1, if_neg h1], fun j _ _ => by rw [if_neg h1, if_neg h1]⟩
  · refine ⟨rfl, rfl, fun j h1 h2 => ?_⟩
    show pCp (hG 0) g n j = g j
    unfold pCp; rw [if_pos ⟨h1, h2⟩]
  · unfold up xr; split
    · exact hn
    · exact hh (i + 1)
/-! words of the class's calls -/
def mpF (F : Int → Int → Int) (g : Int → Int) (n : Int) : Int → Int := fun j => if 0 ≤ j ∧ j < n then F j (g j) else g j
theorem mpF_0 (F : Int → Int → Int) (g : Int → Int) : g = mpF F g 0 := by
  funext j; unfold mpF; rw [if_neg (show ¬ (0 ≤ j ∧ j < 0) by omega)]
theorem mpF_s1 (F : Int → Int → Int) (g : Int → Int) {k v : Int} (h : 0 ≤ k) (hv : v = F k (g k)) : uJ (mpF F g k) k v = mpF F g (k + 1) := by
  funext j; by_cases q : j = k
  · subst q; rw [uJ_s, hv]; unfold mpF; rw [if_pos (show 0 ≤ j ∧ j < j + 1 by omega)]
  · rw [uJ_n q]; unfold mpF; by_cases q2 : 0 ≤ j ∧ j < k
    · rw [if_pos q2, if_pos (show 0 ≤ j ∧ j < k + 1 by omega)]
    · rw [if_neg q2, if_neg (show ¬ (0 ≤ j ∧ j < k + 1) by omega)]
theorem mpF_s0 (F : Int → Int → Int) (g : Int → Int) {k : Int} (h : 0 ≤ k) (hv : g k = F k (g k)) : mpF F g k = mpF F g (k + 1) := by
  rw [← mpF_s1 F g h hv]; funext j; by_cases q : j = k
  · subst q; rw [uJ_s]; unfold mpF; rw [if_neg (show ¬ (0 ≤ j ∧ j < j) by omega)]
  · rw [uJ_n q]
theorem pAt_mp {F : Int → Int → Int} {g : Int → Int} {n k : Int} (h : 0 ≤ k ∧ k < n) : pAt (mpF F g k) n k = g k := by
  unfold pAt mpF; rw [if_pos h, if_neg (show ¬ (0 ≤ k ∧ k < k) by omega)]
theorem pAt_t {g : Int → Int} {n k : Int} (h : 0 ≤ k ∧ k < n) : pAt g n k = g k := if_pos h
def miC (c : Int) : Int := if ¬ c = 0 ∧ ¬ c / 2 % 4 = 2 then sOf (if c / 2 % 4 = 0 then 1 else 0) (b2 (c / 8 % 2 = 1)) (c / 16 % 4) else c
def leC (d c : Int) : Int := if c / 16 % 4 = (if d = 0 then 2 else 1) then sOf (c / 2 % 4) (b2 (c / 8 % 2 = 1)) (if d = 0 then 1 else 2) else c
def deC (hd : Int → Int) (j c : Int) : Int := if ¬ c = 0 ∧ c / 2 % 4 = 2 then sOf (hd j) (b2 (c / 8 % 2 = 1)) (c / 16 % 4) else c
def tuI (n a j : Int) : Int := if j + a < n then j + a else j + a - n
/-! the player's words depend on its rows within the piece alone -/
def agP (L : Int) (ow cA cU ow2 cA2 cU2 : Int → Int) : Prop := ∀ j : Int, 0 ≤ j → j < L → ow j = ow2 j ∧ cA j = cA2 j ∧ cU j = cU2 j
theorem plC_cg {L : Int} {ow cA cU ow2 cA2 cU2 : Int → Int} (h : agP L ow cA cU ow2 cA2 cU2) (a al : Int) : plC L cA cU a al = plC L cA2 cU2 a al := by
  unfold plC; by_cases q : 0 ≤ a ∧ a < L
  · rw [if_pos q, if_pos q, (h a q.1 q.2).2.1, (h a q.1 q.2).2.2]
  · rw [if_neg q, if_neg q]
theorem fitP_cg {L : Int} {ow cA cU ow2 cA2 cU2 : Int → Int} (h : agP L ow cA cU ow2 cA2 cU2) (a b c : Int) : fitP L ow cA cU a b c ↔ fitP L ow2 cA2 cU2 a b c := by
  constructor
  · rintro ⟨h1, h2, h3⟩
    exact ⟨h1, by rw [← (h a h1.1 h1.2).1]; exact h2, by rw [← plC_cg h]; exact h3⟩
  · rintro ⟨h1, h2, h3⟩
    exact ⟨h1, by rw [(h a h1.1 h1.2).1]; exact h2, by rw [plC_cg h]; exact h3⟩
theorem ffX_cg {L : Int} {ow cA cU ow2 cA2 cU2 : Int → Int} (h : agP L ow cA cU ow2 cA2 cU2) {pr : Int} {F F2 : Int → Int} (hF : ∀ b, F b = F2 b) (a b c : Int) : ffX L ow cA cU pr F a b c = ffX L ow2 cA2 cU2 pr F2 a b c := by
  unfold ffX; rw [hF c]
  by_cases q : fitP L ow cA cU a b c
  · rw [if_pos q, if_pos ((fitP_cg h a b c).mp q)]
  · rw [if_neg q, if_neg (fun z => q ((fitP_cg h a b c).mpr z))]
theorem ffR_cg {L : Int} {ow cA cU ow2 cA2 cU2 : Int → Int} (h : agP L ow cA cU ow2 cA2 cU2) (pr : Int) : ∀ (r : Nat), (r : Int) ≤ L → ∀ b : Int, ffR L ow cA cU pr r b = ffR L ow2 cA2 cU2 pr r b
  | 0, _, _ => rfl
  | r + 1, hr, b => by
    have ih := ffR_cg h pr r (by omega)
    have e : ∀ (o a u : Int → Int), ffR L o a u pr (r + 1) b = if o (L - ((r : Int) + 1)) = 3 then ffR L o a u pr r b else if ffX L o a u pr (ffR L o a u pr r) (L - ((r : Int) + 1)) b 1 < ffX L o a u pr (ffR L o a u pr r) (L - ((r : Int) + 1)) b 0 then ffX L o a u pr (ffR L o a u pr r) (L - ((r : Int) + 1)) b 1 else ffX L o a u pr (ffR L o a u pr r) (L - ((r : Int) + 1)) b 0 := fun _ _ _ => rfl
    rw [e, e, (h (L - ((r : Int) + 1)) (by omega) (by omega)).1, ih b, ffX_cg h ih, ffX_cg h ih]
theorem ffS_cg {L : Int} {ow cA cU ow2 cA2 cU2 : Int → Int} (h : agP L ow cA cU ow2 cA2 cU2) (pr : Int) {a : Int} (ha : 0 ≤ a ∧ a ≤ L) (b : Int) : ffS L ow cA cU pr a b = ffS L ow2 cA2 cU2 pr a b := ffR_cg h pr _ (by omega) b
theorem ffV_cg {L : Int} {ow cA cU ow2 cA2 cU2 : Int → Int} (h : agP L ow cA cU ow2 cA2 cU2) (pr : Int) {a : Int} (ha : 0 ≤ a ∧ a < L) (b c : Int) : ffV L ow cA cU pr a b c = ffV L ow2 cA2 cU2 pr a b c := by
  unfold ffV; exact ffX_cg h (fun x => ffS_cg h pr (by omega) x) a b c
theorem chN_cg {L : Int} {ow cA cU ow2 cA2 cU2 : Int → Int} (h : agP L ow cA cU ow2 cA2 cU2) (pr : Int) : ∀ (k : Nat), (k : Int) ≤ L → chN L ow cA cU pr k = chN L ow2 cA2 cU2 pr k
  | 0, _ => rfl
  | k + 1, hk => by
    have ih := chN_cg h pr k (by omega)
    have e : ∀ (o a u : Int → Int), chN L o a u pr (k + 1) = if o k = 3 then chN L o a u pr k else if ffV L o a u pr k (chN L o a u pr k) 0 ≤ ffV L o a u pr k (chN L o a u pr k) 1 then 0 else 1 := fun _ _ _ => rfl
    rw [e, e, (h k (by omega) (by omega)).1, ih, ffV_cg h pr ⟨by omega, by omega⟩, ffV_cg h pr ⟨by omega, by omega⟩]
theorem chB_cg {L : Int} {ow cA cU ow2 cA2 cU2 : Int → Int} (h : agP L ow cA cU ow2 cA2 cU2) (pr : Int) {k : Int} (hk : 0 ≤ k ∧ k ≤ L) : chB L ow cA cU pr k = chB L ow2 cA2 cU2 pr k := chN_cg h pr _ (by omega)
theorem tnX_cg {L : Int} {ow cA cU ow2 cA2 cU2 : Int → Int} (h : agP L ow cA cU ow2 cA2 cU2) (a c x y : Int) : tnX L ow cA cU a c x y = tnX L ow2 cA2 cU2 a c x y := by
  unfold tnX
  have e : ∀ b : Int, ∀ z : Int, (if fitP L ow cA cU a b c then z else 0) = (if fitP L ow2 cA2 cU2 a b c then z else 0) := fun b z => by
    by_cases q : fitP L ow cA cU a b c
    · rw [if_pos q, if_pos ((fitP_cg h a b c).mp q)]
    · rw [if_neg q, if_neg (fun w => q ((fitP_cg h a b c).mpr w))]
  rw [e, e]
theorem tbN_cg {L : Int} {ow cA cU ow2 cA2 cU2 : Int → Int} (h : agP L ow cA cU ow2 cA2 cU2) (ah : Int) : ∀ (k : Nat), (k : Int) ≤ L → tbN L ow cA cU ah k = tbN L ow2 cA2 cU2 ah k
  | 0, _ => rfl
  | k + 1, hk => by
    have ih := tbN_cg h ah k (by omega)
    have e : ∀ (o a u : Int → Int), tbN L o a u ah (k + 1) = if o k = 3 then tbN L o a u ah k else (tnX L o a u k 0 (tbN L o a u ah k).1 (tbN L o a u ah k).2, tnX L o a u k 1 (tbN L o a u ah k).1 (tbN L o a u ah k).2) := fun _ _ _ => rfl
    rw [e, e, (h k (by omega) (by omega)).1, ih, tnX_cg h, tnX_cg h]
theorem tbR_cg {L : Int} {ow cA cU ow2 cA2 cU2 : Int → Int} (h : agP L ow cA cU ow2 cA2 cU2) (ah : Int) {k : Int} (hk : 0 ≤ k ∧ k ≤ L) : tbR L ow cA cU ah k = tbR L ow2 cA2 cU2 ah k := by
  unfold tbR; rw [tbN_cg h ah k.toNat (by omega)]
theorem tbL_cg {L : Int} {ow cA cU ow2 cA2 cU2 : Int → Int} (h : agP L ow cA cU ow2 cA2 cU2) (ah : Int) {k : Int} (hk : 0 ≤ k ∧ k ≤ L) : tbL L ow cA cU ah k = tbL L ow2 cA2 cU2 ah k := by
  unfold tbL; rw [tbN_cg h ah k.toNat (by omega)]
theorem tkB_cg {L : Int} {ow ow2 : Int → Int} (h : ∀ j : Int, 0 ≤ j → j < L → ow j = ow2 j) (x : Int) : ∀ (k : Nat), (k : Int) ≤ L → tkB ow x k = tkB ow2 x k
  | 0, _ => rfl
  | k + 1, hk => by
    have ih := tkB_cg h x k (by omega)
    have e : ∀ o : Int → Int, tkB o x (k + 1) = if o k = 2 then tkB o x k / 2 else tkB o x k := fun _ => rfl
    rw [e, e, h k (by omega) (by omega), ih]
theorem tkH_c2 {L : Int} {ow ow2 hd hd2 : Int → Int} (h : ∀ j : Int, 0 ≤ j → j < L → ow j = ow2 j) (x : Int) {j : Int} (h0 : 0 ≤ j) (hL : j < L) : tkH L ow hd x j = tkH L ow2 hd2 x j := by
  have e : 0 ≤ j ∧ j < L := ⟨h0, hL⟩
  unfold tkH; rw [if_pos e, if_pos e, h j h0 hL, tkB_cg h x j.toNat (by omega)]
theorem fcN_c2 {L : Int} {ow cA cU ow2 cA2 cU2 hd : Int → Int} (h : agP L ow cA cU ow2 cA2 cU2) : ∀ (r : Nat) (k b : Int), fcN L cA cU hd r k b = fcN L cA2 cU2 hd r k b
  | 0, _, _ => rfl
  | r + 1, k, b => by
    have e : ∀ (a u : Int → Int), fcN L a u hd (r + 1) k b = if plC L a u k (b2 (b = hd k)) = 0 then fcN L a u hd r (k + 1) (hd k) else k := fun _ _ => rfl
    rw [e, e, plC_cg h, fcN_c2 h]
theorem fcV_c2 {L : Int} {ow cA cU ow2 cA2 cU2 hd hd2 : Int → Int} (h : agP L ow cA cU ow2 cA2 cU2) (hh : ∀ j : Int, 0 ≤ j → j < L → hd j = hd2 j) : fcV L cA cU hd = fcV L cA2 cU2 hd2 := by
  rw [fcV_cg hh]; unfold fcV; exact fcN_c2 h _ _ _
theorem teN_cg {L : Int} {ow cA cU ow2 cA2 cU2 : Int → Int} (h : agP L ow cA cU ow2 cA2 cU2) : ∀ (k : Nat), teN L ow cA cU k = teN L ow2 cA2 cU2 k
  | 0 => rfl
  | k + 1 => by
    have e : ∀ (o a u : Int → Int), teN L o a u (k + 1) = teN L o a u k + (if fcV L a u (tkH L o (fun _ => 0) (k : Int)) = -4 then 1 else 0) := fun _ _ _ => rfl
    rw [e, e, teN_cg h k, fcV_c2 h (fun j h0 h1 => tkH_c2 (fun j a b => (h j a b).1) (k : Int) h0 h1)]
def owP (g : Int → Int) : Int → Int := fun j => if g j = 0 then 3 else g j / 2 % 4
def cnP (g : Int → Int) (q pv al : Int) : Int → Int := fun j => b2 (cnD q (if j = 0 then pv else g (j - 1)) (g j) al)
theorem ag_ld (g ow cA cU : Int → Int) (n q pv : Int) : agP n (ldO g ow n) (ldC g q pv 1 cA n) (ldC g q pv 0 cU n) (owP g) (cnP g q pv 1) (cnP g q pv 0) := fun j h0 h1 => by
  have e : 0 ≤ j ∧ j < n := ⟨h0, h1⟩
  unfold ldO ldC owP cnP; rw [if_pos e, if_pos e, if_pos e]; exact ⟨rfl, rfl, rfl⟩
/-- what the player tells, by the piece alone -/
def pvO (g : Int → Int) (n ov : Int) : Int := if ov = 0 then 0 else pAt g n (n - 1)
def fcB (g : Int → Int) (n q pr : Int) : Int := ffS n (owP g) (cnP g q 0 1) (cnP g q 0 0) pr 0 3
def chP (g : Int → Int) (n q pr k : Int) : Int := chB n (owP g) (cnP g q 0 1) (cnP g q 0 0) pr (k + 1)
def tlP (g : Int → Int) (n q ov : Int) : Int := tbR n (owP g) (cnP g q (pvO g n ov) 1) (cnP g q (pvO g n ov) 0) 0 n + (if ov = 0 then tbL n (owP g) (cnP g q (pvO g n ov) 1) (cnP g q (pvO g n ov) 0) 0 n else tbL n (owP g) (cnP g q (pvO g n ov) 1) (cnP g q (pvO g n ov) 0) 1 n)
def teP (g : Int → Int) (n q ov : Int) (k : Nat) : Int := teN n (owP g) (cnP g q (pvO g n ov) 1) (cnP g q (pvO g n ov) 0) k
def fcP (g : Int → Int) (n q : Int) : Int := fcV n (cnP g q 0 1) (cnP g q 0 0) (tkH n (owP g) (fun _ => 0) 0)
theorem fcB_ld {g ow cA cU : Int → Int} {n q pr : Int} (hn : 0 ≤ n) : ffS n (ldO g ow n) (ldC g q 0 1 cA n) (ldC g q 0 0 cU n) pr 0 3 = fcB g n q pr := ffS_cg (ag_ld g ow cA cU n q 0) pr ⟨by omega, hn⟩ 3
theorem chP_ld {g ow cA cU : Int → Int} {n q pr k : Int} (hk : 0 ≤ k ∧ k < n) : chB n (ldO g ow n) (ldC g q 0 1 cA n) (ldC g q 0 0 cU n) pr (k + 1) = chP g n q pr k := chB_cg (ag_ld g ow cA cU n q 0) pr ⟨by omega, by omega⟩
theorem tlP_ld {g ow cA cU : Int → Int} {n q ov : Int} (hn : 0 ≤ n) : tlA n q ov g ow cA cU = tlP g n q ov := by
  have h := ag_ld g ow cA cU n q (pvO g n ov)
  have e : tlA n q ov g ow cA cU = tbR n (ldO g ow n) (ldC g q (pvO g n ov) 1 cA n) (ldC g q (pvO g n ov) 0 cU n) 0 n + (if ov = 0 then tbL n (ldO g ow n) (ldC g q (pvO g n ov) 1 cA n) (ldC g q (pvO g n ov) 0 cU n) 0 n else tbL n (ldO g ow n) (ldC g q (pvO g n ov) 1 cA n) (ldC g q (pvO g n ov) 0 cU n) 1 n) := rfl
  rw [e, tbR_cg h 0 ⟨hn, by omega⟩, tbL_cg h 0 ⟨hn, by omega⟩, tbL_cg h 1 ⟨hn, by omega⟩]; rfl
theorem teP_ld {g ow cA cU : Int → Int} {n q ov : Int} (k : Nat) : teN n (ldO g ow n) (ldC g q (if ov = 0 then 0 else pAt g n (n - 1)) 1 cA n) (ldC g q (if ov = 0 then 0 else pAt g n (n - 1)) 0 cU n) k = teP g n q ov k := teN_cg (ag_ld g ow cA cU n q (pvO g n ov)) k
theorem fcP_ld {g ow cA cU hd : Int → Int} {n q : Int} : fcV n (ldC g q 0 1 cA n) (ldC g q 0 0 cU n) (tkH n (ldO g ow n) hd 0) = fcP g n q :=
  fcV_c2 (ag_ld g ow cA cU n q 0) (fun _ h0 h1 => tkH_c2 (fun j a b => (ag_ld g ow cA cU n q 0 j a b).1) 0 h0 h1)
theorem ldO_n3 {g ow : Int → Int} {n j : Int} (h : 0 ≤ j ∧ j < n) (h0 : ¬ g j = 0) (h3 : ¬ g j / 2 % 4 = 3) : ¬ ldO g ow n j = 3 := by
  unfold ldO; rw [if_pos h, if_neg h0]; exact h3
theorem fcB_in {g : Int → Int} {n q pr : Int} (hp : pr = 0 ∨ pr = 1) : 0 ≤ fcB g n q pr ∧ fcB g n q pr ≤ 1000 := ffS_in hp
theorem chP_in {g : Int → Int} {n q pr k : Int} : 0 ≤ chP g n q pr k ∧ chP g n q pr k ≤ 3 := chB_in
abbrev asT (c x h : Int) : Prop := (c = 46 ∧ x = 0) ∨ (¬ c = 46 ∧ ¬ x = 0 ∧ (c = 120 ∨ h = (if c = 82 then 0 else 1)))
def pmN (g gp : Int → Int) (n : Int) (h : Int → Int) (a : Int) : Nat → Int → Int
  | 0, _ => 1
  | r + 1, k => if asT (gp k) (pAt g n (a + k)) (h (a + k)) then pmN g gp n h a r (k + 1) else 0
theorem pmN_01 (g gp : Int → Int) (n : Int) (h : Int → Int) (a : Int) : ∀ (r : Nat) (k : Int), pmN g gp n h a r k = 0 ∨ pmN g gp n h a r k = 1
  | 0, _ => Or.inr rfl
  | r + 1, k => by
    have e : pmN g gp n h a (r + 1) k = if asT (gp k) (pAt g n (a + k)) (h (a + k)) then pmN g gp n h a r (k + 1) else 0 := rfl
    rw [e]; split
    · exact pmN_01 g gp n h a r (k + 1)
    · exact Or.inl rfl
theorem pmN_cg {g gp : Int → Int} {n : Int} {h1 h2 : Int → Int} (hh : ∀ j : Int, ¬ pAt g n j = 0 → h1 j = h2 j) (a : Int) : ∀ (r : Nat) (k : Int), pmN g gp n h1 a r k = pmN g gp n h2 a r k
  | 0, _ => rfl
  | r + 1, k => by
    have e : ∀ h : Int → Int, pmN g gp n h a (r + 1) k = if asT (gp k) (pAt g n (a + k)) (h (a + k)) then pmN g gp n h a r (k + 1) else 0 := fun _ => rfl
    rw [e, e, pmN_cg hh a r (k + 1)]
    by_cases q : pAt g n (a + k) = 0
    · have e2 : ∀ y : Int, asT (gp k) (pAt g n (a + k)) y ↔ gp k = 46 := fun y => ⟨fun z => z.elim (fun w => w.1) (fun w => absurd q w.2.1), fun z => Or.inl ⟨z, q⟩⟩
      by_cases z : gp k = 46
      · rw [if_pos ((e2 _).mpr z), if_pos ((e2 _).mpr z)]
      · rw [if_neg (fun w => z ((e2 _).mp w)), if_neg (fun w => z ((e2 _).mp w))]
    · rw [hh _ q]
theorem haA_t {L : Int} {hd : Int → Int} {a : Int} (h : 0 ≤ a ∧ a < L) : haA L hd a = hd a := if_pos h
theorem sOf_in {h a o : Int} (hh : 0 ≤ h ∧ h ≤ 2) (ha : a = 0 ∨ a = 1) (ho : 0 ≤ o ∧ o ≤ 3) : (0 ≤ sOf h a o ∧ sOf h a o < 64) ∧ ¬ sOf h a o / 2 % 4 = 3 ∧ ¬ sOf h a o = 0 := by
  unfold sOf; omega
/-- the stroke that would be -/
def ifG (g : Int → Int) (a h o : Int) : Int → Int := uJ g a (sOf h (b2 (g a / 8 % 2 = 1)) o)
theorem sm_b2 {P : Int → Prop} [DecidablePred P] (n : Int) (hn : 0 ≤ n) : 0 ≤ sm (fun j => b2 (P j)) n ∧ sm (fun j => b2 (P j)) n ≤ n := by
  have := sm_le (f := fun j => b2 (P j)) (c := 1) (k := n) hn (fun j _ _ => by rcases b2_01 (P j) with z | z <;> (rw [z]; omega))
  omega
/-- the player's words depend on the piece's steps alone -/
def agG (n : Int) (g g2 : Int → Int) : Prop := ∀ j : Int, 0 ≤ j → j < n → g j = g2 j
theorem ag_g {n : Int} {g g2 : Int → Int} (h : agG n g g2) (q pv : Int) : agP n (owP g) (cnP g q pv 1) (cnP g q pv 0) (owP g2) (cnP g2 q pv 1) (cnP g2 q pv 0) := fun j h0 h1 => by
  have e1 : g j = g2 j := h j h0 h1
  have e2 : (if j = 0 then pv else g (j - 1)) = (if j = 0 then pv else g2 (j - 1)) := by
    by_cases z : j = 0
    · rw [if_pos z, if_pos z]
    · rw [if_neg z, if_neg z, h (j - 1) (by omega) (by omega)]
  unfold owP cnP; rw [e1, e2]; exact ⟨rfl, rfl, rfl⟩
theorem fcB_g {n : Int} {g g2 : Int → Int} (h : agG n g g2) (hn : 0 ≤ n) (q pr : Int) : fcB g n q pr = fcB g2 n q pr := ffS_cg (ag_g h q 0) pr ⟨by omega, hn⟩ 3
theorem chP_g {n : Int} {g g2 : Int → Int} (h : agG n g g2) (q pr : Int) {k : Int} (hk : 0 ≤ k ∧ k < n) : chP g n q pr k = chP g2 n q pr k := chB_cg (ag_g h q 0) pr ⟨by omega, by omega⟩
theorem pvO_g {n : Int} {g g2 : Int → Int} (h : agG n g g2) (ov : Int) : pvO g n ov = pvO g2 n ov := by
  unfold pvO pAt; by_cases z : ov = 0
  · rw [if_pos z, if_pos z]
  · rw [if_neg z, if_neg z]; by_cases y : 0 ≤ n - 1 ∧ n - 1 < n
    · rw [if_pos y, if_pos y, h (n - 1) y.1 y.2]
    · rw [if_neg y, if_neg y]
theorem tlP_g {n : Int} {g g2 : Int → Int} (h : agG n g g2) (hn : 0 ≤ n) (q ov : Int) : tlP g n q ov = tlP g2 n q ov := by
  unfold tlP; rw [pvO_g h ov]
  have e := ag_g h q (pvO g2 n ov)
  rw [tbR_cg e 0 ⟨hn, by omega⟩, tbL_cg e 0 ⟨hn, by omega⟩, tbL_cg e 1 ⟨hn, by omega⟩]
theorem smS_g {n : Int} {g g2 : Int → Int} (h : agG n g g2) (f : Int → Int) : sm (fun j => f (g j)) n = sm (fun j => f (g2 j)) n := sm_cg (fun j h0 h1 => by rw [h j h0 h1])
theorem pfN_in' {g : Int → Int} : ∀ (r : Nat) (k : Int), 0 ≤ k → k + r ≤ 60 → -4 ≤ pfN g r k ∧ pfN g r k ≤ 60
  | 0, k, h0, h1 => by show -4 ≤ (if k = 0 then (0 : Int) else -4) ∧ (if k = 0 then (0 : Int) else -4) ≤ 60; split <;> omega
  | r + 1, k, h0, h1 => by
    have e : pfN g (r + 1) k = if g k = 46 ∨ hsP (g k) then pfN g r (k + 1) else k := rfl
    rw [e]; split
    · exact pfN_in' r (k + 1) (by omega) (by omega)
    · omega
theorem pfN_in {g : Int → Int} {n : Int} (h0 : 0 ≤ n) (h1 : n ≤ 60) : jb (pfN g n.toNat 0) := by
  have := pfN_in' (g := g) n.toNat 0 (by omega) (by omega)
  exact ⟨by omega, by omega⟩
