/-! methods that answer a double -/
def MDb {S : Type} (l : Launch) (y : MethodName) (wy : List Cond) (rm : Room) (D : va_G) (cl : List vw_C) (av : List Value) (wc : va_W) (tys : List (ClassId × FieldType)) (val : S → UInt64) (post : S → Prop) (w1 : S → va_W) : Prop :=
  ∀ sz : Nat, Met l y wy rm (va_Pc av (fun U => U.heap.size = sz ∧ PW D cl wc tys U)) (va_Qd (fun (r : UInt64) (u : S) => r = val u ∧ post u) (fun u t => va_P D cl (w1 u) t.heap ∧ va_D (va_A wc sz) (w1 u)) (va_A wc sz)) 0 0 (va_A wc sz)
section
variable {l : Launch} {y : MethodName} {wy : List Cond} {rm : Room} {D : va_G} {cl : List vw_C} {av : List Value} {wc : va_W} {tys : List (ClassId × FieldType)} {cc : ByteArray} {maxL : Nat} {ret : Option FieldType} {lv : List (Nat × Value)}
theorem MDb.mk {S : Type} {val : S → UInt64} {post : S → Prop} {w1 : S → va_W} (hy : plainName y.cls = true) (hw : wy = Cond.code y cc maxL ret :: wy.tail) (hlen : (lg_sl av).length ≤ maxL) (hlv : lv_args 0 av = lv) (own : String) (ho : y.cls = own)
    (body : ∀ (p : Program) (e : Env) (s : State) (m : MethodId) (args : Array Value) (below : List Frame) (meth : Method) (c : Code) (B : Nat → Prop) (Q : State → Prop), (∀ q : Nat, s.heap.size ≤ q → B q) → EE p s m args meth c D cl tys maxL cc own wy → meth.sig.returnType = ret → Q = (MQ below (va_Qd (fun (r : UInt64) (u : S) => r = val u ∧ post u) (fun u t => va_P D cl (w1 u) t.heap ∧ va_D B (w1 u)) B) args s 0 0 B) →
      GG p l e rm s m args below meth c D cl B B s.heap maxL 0 0 Q wc lv 0 []) : MDb l y wy rm D cl av wc tys val post w1 := by
  intro sz
  refine Met.ofW (cc := cc) (maxL := maxL) (ret := ret) hy hw ?_
  intro p e s m args below meth c s₁ B hml hv
  obtain ⟨rfl, rfl, hP, hK, hD, hNS⟩ := hv
  have hl := lv_entry av (n := maxL) hlen
  rw [lg_entry_eq]
  subst ho
  exact body p e s m _ below meth c (va_A wc s.heap.size) _ (fun q h => Or.inr h) ⟨B.exec, B.bytes, hml, findClass_of_methodNamed B.named, atoms_spec (ws := wy) B.pre, hK, B.notSynchronized, hNS⟩ B.returns rfl s.heap [] _ hP hD.self va_S.rf (hlv ▸ hl)
end
section
variable {p : Program} {l : Launch} {e : Env} {R : Room} {s : State} {m : MethodId} {args : Array Value} {below : List Frame} {meth : Method} {c : Code} {D : va_G} {cl : List vw_C} {AD A : Nat → Prop} {H0 : Heap} {tys : List (ClassId × FieldType)} {nL cells slots : Nat} {Q : State → Prop} {ws : va_W} {lv : List (Nat × Value)} {pc : Nat} {st : List Value} {cc : ByteArray} {own : String} {Ts : List Cond}
theorem r_vD (E : EE p s m args meth c D cl tys nL cc own Ts) {y : MethodName} {bytes : ByteArray} {maxL : Nat} {ret : Option FieldType} {wy : List Cond} {rm : Room} {wc : va_W} {tysc : List (ClassId × FieldType)} {As : List Value} {index : Nat} {st0 : List Value} {b : Nat} {ci : Nat} {fs : List Value} {qc : vw_C} {S : Type} {val : S → UInt64} {post : S → Prop} {w1 : S → va_W} (hM : MDb l y wy rm D cl (.ref b :: As) wc tysc val post w1) (hG : GoodIn Ts (wsV own index y.cls y wy)) (n : Nat) (kf : KF y n wy bytes maxL ret) (hrc : rm.cells = 0 ∧ rm.slots = 0) (hR : rm.frames + 1 ≤ R.frames ∧ 8 + (maxL + 11) + rm.locals ≤ R.locals) (hdg : decode cc pc = .ok (.invokevirtual index, 3)) (hn : As.length = n) (q0 : Nat) (hrv : ws[q0]? = some (b, .inr (ci, fs))) (hcl : cl[ci]? = some qc) (hqc : qc.1 = y.cls) (hst : st0 = As.reverse ++ .ref b :: st) (hcs : cells ≤ R.cells ∧ slots ≤ R.slots) (is : List Nat) (his : is.map (fun i => ws[i]?) = wc.map some) (hnd : va_nd is = true) (tis : List Nat) (htis : tis.filterMap (fun i => tys[i]?) = tysc) (hsum : (st.map fun v => v.category).sum ≤ 8) (wr : va_W) (isR : List Nat) (hisR : isR.map (fun i => ws[i]?) = wr.map some) (hndR : va_nd isR = true) (hdis : ∀ i ∈ isR, i ∉ is) (hA : ∀ q : Nat, H0.size ≤ q → A q) (perm : List Nat) (hpn : va_nd perm = true) (ws2 : S → va_W) (hperm : ∀ u : S, perm.map (fun i => (wr ++ w1 u)[i]?) = (ws2 u).map some) (kk : ∀ u : S, post u → GG p l e R s m args below meth c D cl A A H0 nL cells slots Q (ws2 u) (lv) (pc + 3) (.double (val u) :: st)) : GG p l e R s m args below meth c D cl A A H0 nL cells slots Q (ws) (lv) (pc) (st0) :=
  fun H locs ls hP hD hS hl => by
    subst hst
    have hF := va_free (wc := wc) hD hS hA is his
    refine va_calld (va_runV (As := As) (rest := st) ⟨E.1, E.2.1, E.2.2.1, E.2.2.2.1, E.2.2.2.2.1⟩ (hM H.size) (cw_V E.2.2.2.2.1 hG kf hrc hR) ⟨(preM_mk E.2.2.2.2.2.2.2 E.2.2.2.2.2.1 hP hD his hnd htis).1, (by rw [← hqc]; exact va_recv E.2.2.2.2.2.1 hP hcl hrv), (preM_mk E.2.2.2.2.2.2.2 E.2.2.2.2.2.1 hP hD his hnd htis).2⟩ rfl hn hl.1 rfl (lv_room hsum) hdg ⟨hcs.1, hcs.2⟩) hS (fun q _ h => hF q h) hF (fun r u t H1 locs1 ht hvm hp hB hz hk hS1 => ?_)
    obtain ⟨hP1, hD1⟩ := hB
    rw [ht] at hP1
    have J := va_join (wr := wr) (w1 := w1 u) hP hD is isR his hisR hndR hdis hk hF hP1 hD1
    obtain ⟨rfl, hpo⟩ := hp
    exact kk u hpo H1 locs1 ls (pick_P J.1 (hperm u)) (J.2.sub perm hpn (hperm u)) hS1 hl
theorem r_retD (E : EE p s m args meth c D cl tys nL cc own Ts) {S : Type} {val : S → UInt64} {post : S → Prop} {w1 : S → va_W} {v : UInt64} (u : S) (hr : meth.sig.returnType = some .double) (hdg : decode cc pc = .ok (.dreturn, 1)) (hv : v = val u) (hp : post u) (hw : ws = w1 u) (hQ : Q = (MQ below (va_Qd (fun (r : UInt64) (u : S) => r = val u ∧ post u) (fun u t => va_P D cl (w1 u) t.heap ∧ va_D A (w1 u)) A) args s cells slots A)) : GG p l e R s m args below meth c D cl A A s.heap nL cells slots Q ws lv pc [.double v] :=
  fun H locs ls hP hD hS hl => hQ ▸ W.dret E.1 E.2.1 hr (fun t ht hW => ⟨⟨v, u, rfl, ⟨by rw [hv], hp⟩, by rw [ht]; exact hw ▸ hP, hw ▸ hD⟩, hS.F ht⟩) hS.2.2 hdg E.2.2.2.2.2.2.1
theorem r_ddiv (E : EE p s m args meth c D cl tys nL cc own Ts) {x y : UInt64} (hne : vf_n64 (FP.ddiv x y)) (hdg : decode cc pc = .ok (.ddiv, 1))  (kk : GG p l e R s m args below meth c D cl AD A H0 nL cells slots Q (ws) (lv) (pc + 1) (.double (FP.ddiv x y) :: st)) : GG p l e R s m args below meth c D cl AD A H0 nL cells slots Q (ws) (lv) (pc) (.double y :: .double x :: st) :=
  fun H locs ls hP hD hS hl => lv_ddiv E.1 E.2.1 hdg hne (kk H locs ls hP hD hS hl)
end
/-! the right hand's part -/
def ddv (a b : Int) : UInt64 := FP.ddiv (FP.i2d (iJ a)) (FP.i2d (iJ b))
def dvK (N : Nat) : Bool := (List.range N).all (fun b => (List.range (b + 1)).all (fun a => b == 0 || decide (ddv a b &&& 0x7fffffffffffffff ≤ 0x7ff0000000000000)))
theorem dvK_161 : dvK 161 = true := by decide +kernel
theorem ddv_n {a b : Int} (ha : 0 ≤ a ∧ a ≤ b) (hb : 1 ≤ b ∧ b ≤ 160) : vf_n64 (ddv a b) := by
  have h := List.all_eq_true.mp dvK_161 b.toNat (List.mem_range.mpr (by omega))
  have h2 := List.all_eq_true.mp h a.toNat (List.mem_range.mpr (by omega))
  rw [Int.toNat_of_nonneg ha.1, Int.toNat_of_nonneg (show 0 ≤ b by omega)] at h2
  rcases (Bool.or_eq_true _ _).mp h2 with z | z
  · have e : b.toNat = 0 := eq_of_beq z
    omega
  · unfold vf_n64; exact of_decide_eq_true z
theorem smN_mono {f g : Int → Int} : ∀ n : Nat, (∀ j : Int, 0 ≤ j → j < n → f j ≤ g j) → smN f n ≤ smN g n
  | 0, _ => Int.le_refl _
  | n + 1, h => by
    have h1 := smN_mono n (fun j a b => h j a (by omega))
    have h2 := h n (by omega) (by omega)
    show smN f n + f n ≤ smN g n + g n
    omega
theorem sm_mono {f g : Int → Int} {k : Int} (h : ∀ j : Int, 0 ≤ j → j < k → f j ≤ g j) : sm f k ≤ sm g k := smN_mono _ (fun j a b => h j a (by omega))
theorem sm_1 (f : Int → Int) : sm f 1 = f 0 := by
  have h := sm_s f (k := 0) (by omega)
  rw [sm_0] at h; rw [show (1 : Int) = 0 + 1 from rfl, h]; omega
theorem sm_2 (f : Int → Int) : sm f 2 = f 0 + f 1 := by
  have h := sm_s f (k := 1) (by omega)
  rw [sm_1] at h; exact h
theorem sm_3 (f : Int → Int) : sm f 3 = f 0 + f 1 + f 2 := by
  have h := sm_s f (k := 2) (by omega)
  rw [sm_2] at h; exact h
theorem sFo_01 {c b : Int} : (0 < b → sFo c b = 1) ∧ (2 ≤ sFo c 0 ∧ sFo c 0 ≤ 3) := by
  constructor
  · intro h; unfold sFo; rw [if_pos h]
  · unfold sFo; rw [if_neg (by omega)]; split <;> omega
theorem sBl_v {c : Int} : sBl c = 0 ∨ sBl c = 1 ∨ sBl c = 2 ∨ sBl c = 3 := by unfold sBl sBo; (repeat' split) <;> omega
theorem sFs_5 {c : Int} : 0 ≤ sFs c ∧ sFs c ≤ 5 := by
  have h1 := (sFo_01 (c := c) (b := 1)).1 (by omega)
  have h2 := (sFo_01 (c := c) (b := 2)).1 (by omega)
  have h0 := (sFo_01 (c := c) (b := 2)).2
  unfold sFs; rcases sBl_v (c := c) with z | z | z | z
  · rw [z, sm_0]; omega
  · rw [z, sm_1]; omega
  · rw [z, sm_2]; omega
  · rw [z, sm_3]; omega
def sFw (c h b : Int) : Int := if (if b = 0 ∨ c / 16 % 4 = 3 then h else (if h = 0 then 1 else 0)) = 0 then sFo c b else 0
def sFr (c h : Int) : Int := sm (sFw c h) (sBl c)
theorem sFo_p {c b : Int} : 0 ≤ sFo c b := by unfold sFo; (repeat' split) <;> omega
theorem sFr_le {c h : Int} : 0 ≤ sFr c h ∧ sFr c h ≤ sFs c := by
  constructor
  · have := sm_mono (f := fun _ => 0) (g := sFw c h) (k := sBl c) (fun j _ _ => by unfold sFw; (repeat' split) <;> first | exact sFo_p | exact Int.le_refl _)
    have e : sm (fun _ => 0) (sBl c) = 0 := by rcases sBl_v (c := c) with z | z | z | z <;> rw [z] <;> rfl
    rw [e] at this; exact this
  · exact sm_mono (fun j _ _ => by unfold sFw; (repeat' split) <;> first | exact sFo_p | exact Int.le_refl _)
theorem sFr_0 (h : Int) : sFr 0 h = 0 := rfl
/-- the class's part of the right hand -/
def rgR (g : Int → Int) (n q pr k : Int) : Int := sm (fun j => sFr (g j) (chP g n q pr j)) k
def rgC (g : Int → Int) (n q pr : Int) : UInt64 := if sm (fun j => sFs (g j)) n = 0 ∨ ¬ fcB g n q pr < 1000 then 13830554455654793216 else ddv (rgR g n q pr n) (sm (fun j => sFs (g j)) n)
theorem smS_160 {g : Int → Int} {n : Int} (hn : 0 ≤ n ∧ n ≤ 32) : 0 ≤ sm (fun j => sFs (g j)) n ∧ sm (fun j => sFs (g j)) n ≤ 160 := by
  have := sm_le (f := fun j => sFs (g j)) (c := 5) hn.1 (fun j _ _ => sFs_5)
  omega
theorem rgR_le {g : Int → Int} {n q pr : Int} : rgR g n q pr n ≤ sm (fun j => sFs (g j)) n := sm_mono (fun j _ _ => sFr_le.2)
theorem rgR_in {g : Int → Int} {n q pr k : Int} (hk : 0 ≤ k ∧ k ≤ 32) : 0 ≤ rgR g n q pr k ∧ rgR g n q pr k ≤ 160 := by
  have := sm_le (f := fun j => sFr (g j) (chP g n q pr j)) (c := 5) hk.1 (fun j _ _ => ⟨sFr_le.1, by have := sFr_le (c := g j) (h := chP g n q pr j); have := sFs_5 (c := g j); omega⟩)
  unfold rgR; omega
/-- the model's -/
def mRi (s hd : Int → Int) (i : Int) : Int := if i % 3 < mBl (s (2 + i / 3)) ∧ mHo (s (2 + i / 3)) (i % 3) (hd (i / 3)) = 0 then mFo (s (2 + i / 3)) (i % 3) else 0
theorem sm3 (f : Int → Int) : ∀ n : Nat, sm f (3 * (n : Int)) = sm (fun a => f (3 * a) + f (3 * a + 1) + f (3 * a + 2)) n
  | 0 => rfl
  | n + 1 => by
    have ih := sm3 f n
    have h1 := sm_s f (k := 3 * (n : Int)) (by omega)
    have h2 := sm_s f (k := 3 * (n : Int) + 1) (by omega)
    have h3 := sm_s f (k := 3 * (n : Int) + 1 + 1) (by omega)
    have h4 := sm_s (fun a => f (3 * a) + f (3 * a + 1) + f (3 * a + 2)) (k := (n : Int)) (by omega)
    rw [show (((n + 1 : Nat)) : Int) = (n : Int) + 1 by omega, h4, ← ih, show 3 * ((n : Int) + 1) = 3 * (n : Int) + 1 + 1 + 1 by omega, h3, h2, h1, show 3 * (n : Int) + 1 + 1 = 3 * (n : Int) + 2 by omega]
    omega
theorem mBl_v {c : Int} : mBl c = 0 ∨ mBl c = 1 ∨ mBl c = 2 ∨ mBl c = 3 := by have := mBl_in (c := c); omega
def mRb (c h : Int) : Int := sm (fun b => if b < mBl c ∧ mHo c b h = 0 then mFo c b else 0) 3
theorem mRb_le {c h : Int} : 0 ≤ mRb c h ∧ mRb c h ≤ mFs c := by
  have f0 := mFo_in (c := c) (b := 0)
  have f1 := mFo_in (c := c) (b := 1)
  have f2 := mFo_in (c := c) (b := 2)
  have i : ∀ b : Int, 1 ≤ mFo c b → 0 ≤ (if b < mBl c ∧ mHo c b h = 0 then mFo c b else 0) ∧ (if b < mBl c ∧ mHo c b h = 0 then mFo c b else 0) ≤ (if b < mBl c then mFo c b else 0) := fun b hb => by
    by_cases z : b < mBl c
    · rw [if_pos z]; by_cases y : mHo c b h = 0
      · rw [if_pos ⟨z, y⟩]; omega
      · rw [if_neg (fun x => y x.2)]; omega
    · rw [if_neg (fun x => z x.1), if_neg z]; omega
  have i0 := i 0 f0.1
  have i1 := i 1 f1.1
  have i2 := i 2 f2.1
  unfold mRb mFs; rw [sm_3]; (try dsimp only)
  rcases mBl_v (c := c) with z | z | z | z
  · rw [z] at i0 i1 i2 ⊢; rw [sm_0]; rw [if_neg (show ¬ (0 : Int) < 0 by omega)] at i0; rw [if_neg (show ¬ (1 : Int) < 0 by omega)] at i1; rw [if_neg (show ¬ (2 : Int) < 0 by omega)] at i2; omega
  · rw [z] at i0 i1 i2 ⊢; rw [sm_1]; rw [if_pos (show (0 : Int) < 1 by omega)] at i0; rw [if_neg (show ¬ (1 : Int) < 1 by omega)] at i1; rw [if_neg (show ¬ (2 : Int) < 1 by omega)] at i2; omega
  · rw [z] at i0 i1 i2 ⊢; rw [sm_2]; rw [if_pos (show (0 : Int) < 2 by omega)] at i0; rw [if_pos (show (1 : Int) < 2 by omega)] at i1; rw [if_neg (show ¬ (2 : Int) < 2 by omega)] at i2; omega
  · rw [z] at i0 i1 i2 ⊢; rw [sm_3]; rw [if_pos (show (0 : Int) < 3 by omega)] at i0; rw [if_pos (show (1 : Int) < 3 by omega)] at i1; rw [if_pos (show (2 : Int) < 3 by omega)] at i2; omega
theorem mRi_3 (s hd : Int → Int) (a : Int) : mRi s hd (3 * a) + mRi s hd (3 * a + 1) + mRi s hd (3 * a + 2) = mRb (s (2 + a)) (hd a) := by
  unfold mRi mRb; rw [sm_3, show (3 * a) % 3 = 0 by omega, show (3 * a) / 3 = a by omega, show (3 * a + 1) % 3 = 1 by omega, show (3 * a + 1) / 3 = a by omega, show (3 * a + 2) % 3 = 2 by omega, show (3 * a + 2) / 3 = a by omega]
theorem mFs_5 {c : Int} : 0 ≤ mFs c ∧ mFs c ≤ 5 := by
  have f0 := mFo_in (c := c) (b := 0)
  have f1 : mFo c 1 = 1 := by unfold mFo; rw [if_pos (by omega)]
  have f2 : mFo c 2 = 1 := by unfold mFo; rw [if_pos (by omega)]
  unfold mFs; rcases mBl_v (c := c) with z | z | z | z
  · rw [z, sm_0]; omega
  · rw [z, sm_1]; omega
  · rw [z, sm_2]; omega
  · rw [z, sm_3]; omega
def mRs (s hd : Int → Int) (n : Int) : Int := sm (fun a => mRb (s (2 + a)) (hd a)) n
theorem mRs_e {s hd : Int → Int} {n : Int} (hn : 0 ≤ n) : sm (mRi s hd) (3 * n) = mRs s hd n := by
  have h := sm3 (mRi s hd) n.toNat
  rw [Int.toNat_of_nonneg hn] at h
  rw [h]; exact sm_cg (fun j _ _ => mRi_3 s hd j)
theorem mRs_le {s hd : Int → Int} {n : Int} (hn : 0 ≤ n ∧ n ≤ 32) : (0 ≤ mRs s hd n ∧ mRs s hd n ≤ sm (fun j => mSu s 5 (s (2 + j))) n) ∧ sm (fun j => mSu s 5 (s (2 + j))) n ≤ 160 := by
  have e : ∀ c, mSu s 5 c = mFs c := fun c => by unfold mSu; rw [if_neg (by omega), if_neg (by omega), if_pos rfl]
  have h0 := sm_le (f := fun a => mRb (s (2 + a)) (hd a)) (c := 5) hn.1 (fun j _ _ => ⟨mRb_le.1, by have := mRb_le (c := s (2 + j)) (h := hd j); have := mFs_5 (c := s (2 + j)); omega⟩)
  have h1 := sm_le (f := fun j => mSu s 5 (s (2 + j))) (c := 5) hn.1 (fun j _ _ => by (try dsimp only); rw [e]; exact mFs_5)
  have h2 := sm_mono (f := fun a => mRb (s (2 + a)) (hd a)) (g := fun j => mSu s 5 (s (2 + j))) (k := n) (fun j _ _ => by (try dsimp only); rw [e]; exact mRb_le.2)
  unfold mRs; omega
theorem mRb_cg {s h1 h2 : Int → Int} {n : Int} (h : ∀ j : Int, 0 ≤ j → j < n → ¬ s (2 + j) = 0 → h1 j = h2 j) : mRs s h1 n = mRs s h2 n := sm_cg (fun j a b => by
  (try dsimp only)
  by_cases z : s (2 + j) = 0
  · rw [z]; rfl
  · rw [h j a b z])
def rgM (s : Int → Int) (pr : Int) : UInt64 := if sm (fun j => mSu s 5 (s (2 + j))) (s 0) = 0 ∨ ¬ lsS s (-4) 0 2 < 1000 then 13830554455654793216 else ddv (mRs s (fun j => mcB s pr (j + 1)) (s 0)) (sm (fun j => mSu s 5 (s (2 + j))) (s 0))
