/-! values over Int -/
def iJ (z : Int) : Int32 := Int32.ofInt z
def lJ (z : Int) : Int64 := Int64.ofInt z
abbrev jb (z : Int) : Prop := -2147483648 ≤ z ∧ z < 2147483648
abbrev lb (z : Int) : Prop := -9223372036854775808 ≤ z ∧ z < 9223372036854775808
def b2 (P : Prop) [Decidable P] : Int := if P then 1 else 0
def aJ (g : Int → Int) : Nat → Int32 := fun j => iJ (g (j : Int))
def aL (g : Int → Int) : Nat → Int64 := fun j => lJ (g (j : Int))
def uJ (g : Int → Int) (i v : Int) : Int → Int := fun j => if j = i then v else g j
abbrev cJ (cA : ClassId) (n : Nat) (g : Int → Int) : va_E := .inl (cA, n, .inl (aJ g))
abbrev cL (cA : ClassId) (n : Nat) (g : Int → Int) : va_E := .inl (cA, n, .inr (.inl (aL g)))
abbrev cR (cA : ClassId) (n : Nat) (f : Nat → Option Nat) : va_E := .inl (cA, n, .inr (.inr (.inr (.inr f))))
theorem b2_t {P : Prop} [Decidable P] (h : P) : b2 P = 1 := if_pos h
theorem b2_f {P : Prop} [Decidable P] (h : ¬ P) : b2 P = 0 := if_neg h
theorem b2_c {P P' : Prop} [Decidable P] [Decidable P'] (h : P ↔ P') : b2 P = b2 P' := by
  unfold b2; by_cases q : P
  · rw [if_pos q, if_pos (h.mp q)]
  · rw [if_neg q, if_neg (fun z => q (h.mpr z))]
theorem b2_01 (P : Prop) [Decidable P] : b2 P = 0 ∨ b2 P = 1 := by
  unfold b2; by_cases q : P
  · exact Or.inr (if_pos q)
  · exact Or.inl (if_neg q)
theorem uJ_s (g : Int → Int) (i v : Int) : uJ g i v i = v := if_pos rfl
theorem uJ_n {g : Int → Int} {i v j : Int} (h : j ≠ i) : uJ g i v j = g j := if_neg h
theorem iJ_ti {z : Int} (h : jb z) : (iJ z).toInt = z := by
  rw [iJ, Int32.toInt_ofInt]; exact @Int.bmod_eq_of_le z 4294967296 (by have := h.1; omega) (by have := h.2; omega)
theorem lJ_ti {z : Int} (h : lb z) : (lJ z).toInt = z := by
  rw [lJ, Int64.toInt_ofInt]; exact @Int.bmod_eq_of_le z 18446744073709551616 (by have := h.1; omega) (by have := h.2; omega)
theorem iJ_of (x : Int32) : x = iJ x.toInt := (Int32.ofInt_toInt x).symm
theorem jb_of (x : Int32) : jb x.toInt := ⟨by have := Int32.le_toInt x; omega, by have := Int32.toInt_lt x; omega⟩
theorem iJ_nI (n : Nat) : nI n = iJ (n : Int) := by
  apply Int32.toInt_inj.mp; rw [iJ, Int32.toInt_ofInt]; simp [nI, Int32.toInt_ofNat]
theorem iJ_add (a b : Int) : iJ a + iJ b = iJ (a + b) := by
  apply Int32.toInt_inj.mp; simp [iJ, Int32.toInt_add, Int32.toInt_ofInt]
theorem iJ_sub (a b : Int) : iJ a - iJ b = iJ (a - b) := by
  apply Int32.toInt_inj.mp; simp [iJ, Int32.toInt_sub, Int32.toInt_ofInt]
theorem iJ_mul (a b : Int) : iJ a * iJ b = iJ (a * b) := by
  apply Int32.toInt_inj.mp; simp [iJ, Int32.toInt_mul, Int32.toInt_ofInt]
theorem iJ_neg (a : Int) : - iJ a = iJ (- a) := by
  apply Int32.toInt_inj.mp; simp [iJ, Int32.toInt_neg, Int32.toInt_ofInt]
theorem lJ_add (a b : Int) : lJ a + lJ b = lJ (a + b) := by
  apply Int64.toInt_inj.mp; simp [lJ, Int64.toInt_add, Int64.toInt_ofInt]
theorem iJ_inj {a b : Int} (ha : jb a) (hb : jb b) : iJ a = iJ b ↔ a = b := by
  constructor
  · intro h; have := congrArg Int32.toInt h; rwa [iJ_ti ha, iJ_ti hb] at this
  · intro h; rw [h]
theorem iJ_lt {a b : Int} (ha : jb a) (hb : jb b) : iJ a < iJ b ↔ a < b := by rw [Int32.lt_iff_toInt_lt, iJ_ti ha, iJ_ti hb]
theorem iJ_le {a b : Int} (ha : jb a) (hb : jb b) : iJ a ≤ iJ b ↔ a ≤ b := by rw [Int32.le_iff_toInt_le, iJ_ti ha, iJ_ti hb]
theorem jb_0 : jb 0 := by unfold jb; decide
theorem iJ_0 : iJ 0 = 0 := rfl
theorem lJ_lt {a b : Int} (ha : lb a) (hb : lb b) : lJ a < lJ b ↔ a < b := by rw [Int64.lt_iff_toInt_lt, lJ_ti ha, lJ_ti hb]
theorem lJ_l2i (a : Int) : (lJ a).toInt32 = iJ a := by
  apply Int32.toInt_inj.mp; simp [iJ, lJ, Int32.toInt_ofInt, Int64.toInt_ofInt, Int64.toInt_toInt32]
theorem iJ_cl {i : Int} (h : jb i) : (iJ i).toNatClampNeg = i.toNat := by
  show (iJ i).toInt.toNat = i.toNat; rw [iJ_ti h]
theorem iJ_in {i : Int} {n : Nat} (h : 0 ≤ i ∧ i < n) (hn : n < 2147483648) : vp_in (iJ i) n := by
  rw [vp_in_iff, iJ_ti ⟨by omega, by omega⟩]; exact h
theorem jb_in {i : Int} {n : Nat} (h : 0 ≤ i ∧ i < n) (hn : n < 2147483648) : jb i := ⟨by omega, by omega⟩
theorem aJ_at {g : Int → Int} {i : Int} {n : Nat} (h : 0 ≤ i ∧ i < n) (hn : n < 2147483648) : aJ g (iJ i).toNatClampNeg = iJ (g i) := by
  rw [iJ_cl (jb_in h hn)]; unfold aJ; rw [Int.toNat_of_nonneg h.1]
theorem aL_at {g : Int → Int} {i : Int} {n : Nat} (h : 0 ≤ i ∧ i < n) (hn : n < 2147483648) : aL g (iJ i).toNatClampNeg = lJ (g i) := by
  rw [iJ_cl (jb_in h hn)]; unfold aL; rw [Int.toNat_of_nonneg h.1]
theorem aJ_up {g : Int → Int} {i v : Int} {n : Nat} (h : 0 ≤ i ∧ i < n) (hn : n < 2147483648) : upd (aJ g) (iJ i).toNatClampNeg (iJ v) = aJ (uJ g i v) := by
  rw [iJ_cl (jb_in h hn)]; funext j; unfold upd aJ uJ
  by_cases q : j = i.toNat
  · rw [if_pos q, if_pos (by omega)]
  · rw [if_neg q, if_neg (by omega)]
theorem aL_up {g : Int → Int} {i v : Int} {n : Nat} (h : 0 ≤ i ∧ i < n) (hn : n < 2147483648) : vp_updL (aL g) (iJ i).toNatClampNeg (lJ v) = aL (uJ g i v) := by
  rw [iJ_cl (jb_in h hn)]; funext j; unfold vp_updL aL uJ
  by_cases q : j = i.toNat
  · rw [if_pos q, if_pos (by omega)]
  · rw [if_neg q, if_neg (by omega)]
theorem iJ_nat {a : Int} (h : 0 ≤ a) : iJ a = nI a.toNat := by rw [iJ_nI, Int.toNat_of_nonneg h]
theorem iJ_div {a b : Int} (ha : 0 ≤ a) (ha2 : a < 2147483648) (hb : 0 < b) (hb2 : b < 2147483648) : iJ a / iJ b = iJ (a / b) := by
  apply Int32.toInt_inj.mp
  have e : jb (a / b) := ⟨by have := Int.ediv_nonneg ha (by omega : (0:Int) ≤ b); omega, by have := Int.ediv_le_self b ha; omega⟩
  rw [lg_idiv_nonneg (by rw [iJ_ti ⟨by omega, by omega⟩]; exact ha) (by rw [iJ_ti ⟨by omega, by omega⟩]; exact hb), iJ_ti ⟨by omega, by omega⟩, iJ_ti ⟨by omega, by omega⟩, iJ_ti e]
theorem iJ_rem {a b : Int} (ha : 0 ≤ a) (ha2 : a < 2147483648) (hb : 0 < b) (hb2 : b < 2147483648) : iJ a - iJ a / iJ b * iJ b = iJ (a % b) := by
  rw [iJ_div ha ha2 hb hb2, iJ_mul, iJ_sub]
  exact congrArg iJ (by have := Int.emod_add_mul_ediv a b; rw [Int.mul_comm] at this; omega)
theorem iJ_ne0 {b : Int} (hb : 0 < b) (hb2 : b < 2147483648) : ¬ iJ b = 0 := by
  rw [← iJ_0, iJ_inj ⟨by omega, by omega⟩ jb_0]; omega
theorem nar_01 {v : Int} (h : v = 0 ∨ v = 1) : vp_nar .boolean (iJ v) = iJ v := by
  rcases h with rfl | rfl <;> decide
theorem narZ {v : Int} (h : v = 0 ∨ v = 1) : narrow .boolean (.int (iJ v)) = .int (iJ v) := by
  rcases h with rfl | rfl <;> rfl
theorem aJ_0 : (fun _ => (0 : Int32)) = aJ (fun _ => 0) := rfl
/-! the judgement -/
/-- the links of nest mates: facts of the state, kept by every call -/
def nsF : List (String × Nat × String × String) := [("LeanSticks$Player", 58, "LeanSticks$Piece", "length"), ("LeanSticks", 97, "LeanSticks$Piece", "length"), ("LeanSticks$Player", 71, "LeanSticks$Piece", "quick"), ("LeanSticks", 127, "LeanSticks$Piece", "quick"), ("LeanSticks", 207, "LeanSticks$History", "length"), ("LeanSticks", 140, "LeanSticks$Pad", "length")]
def NS (U : State) : Prop := (∀ q ∈ nsF, va_Nw (.fieldLinkNest q.1 q.2.1 q.2.2.1 q.2.2.2 "I" "LeanSticks") U) ∧ va_Nw (.methodLinkNest "LeanSticks$Step" 46 ⟨"LeanSticks", "otherHand", "(I)I"⟩ "LeanSticks") U
theorem NS.warm {s U : State} (hW : s.WarmedH U.vm) (h : NS s) : NS U := ⟨fun q hq => va_Nw.warmF hW (h.1 q hq), va_Nw.warmM hW h.2⟩
theorem NS.same {s U : State} (hv : s.vm = U.vm) (h : NS s) : NS U := ⟨fun q hq => va_Nw.same rfl hv (h.1 q hq), va_Nw.same rfl hv h.2⟩
def EE (p : Program) (s : State) (m : MethodId) (args : Array Value) (meth : Method) (c : Code) (D : va_G) (cl : List vw_C) (tys : List (ClassId × FieldType)) (nL : Nat) (cc : ByteArray) (own : String) (Ts : List Cond) : Prop :=
  p.tables.exec = Jvm.exec ∧ c.code = cc ∧ c.maxLocals = nL ∧ s.vm.findClass own = some m.cls ∧ (∀ w ∈ Ts, w.before args s = true) ∧ va_K D cl tys s ∧ meth.locks = false ∧ NS s
def GG (p : Program) (l : Launch) (e : Env) (R : Room) (s : State) (m : MethodId) (args : Array Value) (below : List Frame) (meth : Method) (c : Code) (D : va_G) (cl : List vw_C) (AD A : Nat → Prop) (H0 : Heap) (nL cells slots : Nat) (Q : State → Prop) (ws : va_W) (lv : List (Nat × Value)) (pc : Nat) (st : List Value) : Prop :=
  ∀ (H : Heap) (locs : List Loc) (ls : Array Slot), va_P D cl ws H → va_D AD ws → va_S A H0 H locs → lv_has ls nL lv → W p l e R s m args below meth c H locs cells slots Q (F0 m pc ls st)
def PW (D : va_G) (cl : List vw_C) (wc : va_W) (tys : List (ClassId × FieldType)) : State → Prop := fun U => va_P D cl wc U.heap ∧ va_K D cl tys U ∧ va_D (fun _ => True) wc ∧ NS U
theorem PW.moved {D : va_G} {cl : List vw_C} {wc : va_W} {tys : List (ClassId × FieldType)} {U : State} (h : PW D cl wc tys U) (g : JFrame) (mk : MethodId) (a : Array Value) : PW D cl wc tys (U.calling g mk a) :=
  ⟨h.1, va_K.moved (u := U) (U := U.calling g mk a) (Vm.Alike.refl U.vm) h.2.1, h.2.2.1, NS.same rfl h.2.2.2⟩
/-- a reading method: contract -/
def MP (l : Launch) (y : MethodName) (wy : List Cond) (rm : Room) (D : va_G) (cl : List vw_C) (av : List Value) (wc : va_W) (tys : List (ClassId × FieldType)) (val : Int) : Prop :=
  Met l y wy rm (va_Pc av (PW D cl wc tys)) (va_Qi (fun (r : Int32) (_ : Unit) => r = iJ val) (fun _ _ => True) (fun _ => False)) 0 0 (fun _ => False)
def ML (l : Launch) (y : MethodName) (wy : List Cond) (rm : Room) (D : va_G) (cl : List vw_C) (av : List Value) (wc : va_W) (tys : List (ClassId × FieldType)) (val : Int) : Prop :=
  Met l y wy rm (va_Pc av (PW D cl wc tys)) (va_Ql (fun (r : Int64) (_ : Unit) => r = lJ val) (fun _ _ => True) (fun _ => False)) 0 0 (fun _ => False)
/-- a writing method: contract -/
def MM {S : Type} (l : Launch) (y : MethodName) (wy : List Cond) (rm : Room) (D : va_G) (cl : List vw_C) (av : List Value) (wc : va_W) (tys : List (ClassId × FieldType)) (val : S → Int) (post : S → Prop) (w1 : S → va_W) : Prop :=
  ∀ sz : Nat, Met l y wy rm (va_Pc av (fun U => U.heap.size = sz ∧ PW D cl wc tys U)) (va_Qi (fun (r : Int32) (u : S) => r = iJ (val u) ∧ post u) (fun u t => va_P D cl (w1 u) t.heap ∧ va_D (va_A wc sz) (w1 u)) (va_A wc sz)) 0 0 (va_A wc sz)
def MV {S : Type} (l : Launch) (y : MethodName) (wy : List Cond) (rm : Room) (D : va_G) (cl : List vw_C) (av : List Value) (wc : va_W) (tys : List (ClassId × FieldType)) (post : S → Prop) (w1 : S → va_W) : Prop :=
  ∀ sz : Nat, Met l y wy rm (va_Pc av (fun U => U.heap.size = sz ∧ PW D cl wc tys U)) (va_Qv (fun (u : S) => post u) (fun u t => va_P D cl (w1 u) t.heap ∧ va_D (va_A wc sz) (w1 u)) (va_A wc sz)) 0 0 (va_A wc sz)
/-- facts of a callee that a program decides -/
def KF (y : MethodName) (n : Nat) (wy : List Cond) (bytes : ByteArray) (maxL : Nat) (ret : Option FieldType) : Prop :=
  (wy = Cond.code y bytes maxL ret :: wy.tail) ∧ y.cls ≠ "java/lang/invoke/MethodHandle" ∧ y.cls ≠ "java/lang/invoke/VarHandle" ∧ (parseMethodDescriptor y.desc).map (fun d => d.parameters.length) = some n

section JLA
variable {l : Launch} {y : MethodName} {wy : List Cond} {rm : Room} {D : va_G} {cl : List vw_C} {av : List Value} {wc : va_W} {tys : List (ClassId × FieldType)} {cc : ByteArray} {maxL : Nat} {ret : Option FieldType} {lv : List (Nat × Value)}
theorem MP.mk {val : Int} (hy : plainName y.cls = true) (hw : wy = Cond.code y cc maxL ret :: wy.tail) (hlen : (lg_sl av).length ≤ maxL) (hlv : lv_args 0 av = lv) (own : String) (ho : y.cls = own)
    (body : ∀ (p : Program) (e : Env) (s : State) (m : MethodId) (args : Array Value) (below : List Frame) (meth : Method) (c : Code) (Q : State → Prop), EE p s m args meth c D cl tys maxL cc own wy → meth.sig.returnType = ret → Q = (MQ below (va_Qi (fun (r : Int32) (_ : Unit) => r = iJ val) (fun _ _ => True) (fun _ => False)) args s 0 0 (fun _ => False)) →
      GG p l e rm s m args below meth c D cl (fun _ => True) (fun _ => False) s.heap maxL 0 0 Q wc lv 0 []) : MP l y wy rm D cl av wc tys val := by
  refine Met.ofW (cc := cc) (maxL := maxL) (ret := ret) hy hw ?_
  intro p e s m args below meth c s₁ B hml hv
  obtain ⟨rfl, hP, hK, hD, hNS⟩ := hv
  have hl := lv_entry av (n := maxL) hlen
  rw [lg_entry_eq]
  subst ho
  exact body p e s m _ below meth c _ ⟨B.exec, B.bytes, hml, findClass_of_methodNamed B.named, atoms_spec (ws := wy) B.pre, hK, B.notSynchronized, hNS⟩ B.returns rfl s.heap [] _ hP hD va_S.rf (hlv ▸ hl)
theorem ML.mk {val : Int} (hy : plainName y.cls = true) (hw : wy = Cond.code y cc maxL ret :: wy.tail) (hlen : (lg_sl av).length ≤ maxL) (hlv : lv_args 0 av = lv) (own : String) (ho : y.cls = own)
    (body : ∀ (p : Program) (e : Env) (s : State) (m : MethodId) (args : Array Value) (below : List Frame) (meth : Method) (c : Code) (Q : State → Prop), EE p s m args meth c D cl tys maxL cc own wy → meth.sig.returnType = ret → Q = (MQ below (va_Ql (fun (r : Int64) (_ : Unit) => r = lJ val) (fun _ _ => True) (fun _ => False)) args s 0 0 (fun _ => False)) →
      GG p l e rm s m args below meth c D cl (fun _ => True) (fun _ => False) s.heap maxL 0 0 Q wc lv 0 []) : ML l y wy rm D cl av wc tys val := by
  refine Met.ofW (cc := cc) (maxL := maxL) (ret := ret) hy hw ?_
  intro p e s m args below meth c s₁ B hml hv
  obtain ⟨rfl, hP, hK, hD, hNS⟩ := hv
  have hl := lv_entry av (n := maxL) hlen
  rw [lg_entry_eq]
  subst ho
  exact body p e s m _ below meth c _ ⟨B.exec, B.bytes, hml, findClass_of_methodNamed B.named, atoms_spec (ws := wy) B.pre, hK, B.notSynchronized, hNS⟩ B.returns rfl s.heap [] _ hP hD va_S.rf (hlv ▸ hl)
theorem MM.mk {S : Type} {val : S → Int} {post : S → Prop} {w1 : S → va_W} (hy : plainName y.cls = true) (hw : wy = Cond.code y cc maxL ret :: wy.tail) (hlen : (lg_sl av).length ≤ maxL) (hlv : lv_args 0 av = lv) (own : String) (ho : y.cls = own)
    (body : ∀ (p : Program) (e : Env) (s : State) (m : MethodId) (args : Array Value) (below : List Frame) (meth : Method) (c : Code) (B : Nat → Prop) (Q : State → Prop), (∀ q : Nat, s.heap.size ≤ q → B q) → EE p s m args meth c D cl tys maxL cc own wy → meth.sig.returnType = ret → Q = (MQ below (va_Qi (fun (r : Int32) (u : S) => r = iJ (val u) ∧ post u) (fun u t => va_P D cl (w1 u) t.heap ∧ va_D B (w1 u)) B) args s 0 0 B) →
      GG p l e rm s m args below meth c D cl B B s.heap maxL 0 0 Q wc lv 0 []) : MM l y wy rm D cl av wc tys val post w1 := by
  intro sz
  refine Met.ofW (cc := cc) (maxL := maxL) (ret := ret) hy hw ?_
  intro p e s m args below meth c s₁ B hml hv
  obtain ⟨rfl, rfl, hP, hK, hD, hNS⟩ := hv
  have hl := lv_entry av (n := maxL) hlen
  rw [lg_entry_eq]
  subst ho
  exact body p e s m _ below meth c (va_A wc s.heap.size) _ (fun q h => Or.inr h) ⟨B.exec, B.bytes, hml, findClass_of_methodNamed B.named, atoms_spec (ws := wy) B.pre, hK, B.notSynchronized, hNS⟩ B.returns rfl s.heap [] _ hP hD.self va_S.rf (hlv ▸ hl)
theorem MV.mk {S : Type} {post : S → Prop} {w1 : S → va_W} (hy : plainName y.cls = true) (hw : wy = Cond.code y cc maxL ret :: wy.tail) (hlen : (lg_sl av).length ≤ maxL) (hlv : lv_args 0 av = lv) (own : String) (ho : y.cls = own)
    (body : ∀ (p : Program) (e : Env) (s : State) (m : MethodId) (args : Array Value) (below : List Frame) (meth : Method) (c : Code) (B : Nat → Prop) (Q : State → Prop), (∀ q : Nat, s.heap.size ≤ q → B q) → EE p s m args meth c D cl tys maxL cc own wy → meth.sig.returnType = ret → Q = (MQ below (va_Qv (fun (u : S) => post u) (fun u t => va_P D cl (w1 u) t.heap ∧ va_D B (w1 u)) B) args s 0 0 B) →
      GG p l e rm s m args below meth c D cl B B s.heap maxL 0 0 Q wc lv 0 []) : MV l y wy rm D cl av wc tys post w1 := by
  intro sz
  refine Met.ofW (cc := cc) (maxL := maxL) (ret := ret) hy hw ?_
  intro p e s m args below meth c s₁ B hml hv
  obtain ⟨rfl, rfl, hP, hK, hD, hNS⟩ := hv
  have hl := lv_entry av (n := maxL) hlen
  rw [lg_entry_eq]
  subst ho
  exact body p e s m _ below meth c (va_A wc s.heap.size) _ (fun q h => Or.inr h) ⟨B.exec, B.bytes, hml, findClass_of_methodNamed B.named, atoms_spec (ws := wy) B.pre, hK, B.notSynchronized, hNS⟩ B.returns rfl s.heap [] _ hP hD.self va_S.rf (hlv ▸ hl)
end JLA
section JLB
variable {p : Program} {l : Launch} {e : Env} {R : Room} {s : State} {m : MethodId} {args : Array Value} {below : List Frame} {meth : Method} {c : Code} {D : va_G} {cl : List vw_C} {AD A : Nat → Prop} {H0 : Heap} {tys : List (ClassId × FieldType)} {nL cells slots : Nat} {Q : State → Prop} {ws : va_W} {lv : List (Nat × Value)} {pc : Nat} {st : List Value} {cc : ByteArray} {own : String} {Ts : List Cond}

theorem r_iconst (E : EE p s m args meth c D cl tys nL cc own Ts) {n : Int} (v : Int) (hv : Int32.ofInt n = iJ v) (hdg : decode cc pc = .ok (.iconst n, 1))  (kk : GG p l e R s m args below meth c D cl AD A H0 nL cells slots Q (ws) (lv) (pc + 1) (.int (iJ v) :: st)) : GG p l e R s m args below meth c D cl AD A H0 nL cells slots Q (ws) (lv) (pc) (st) :=
  fun H locs ls hP hD hS hl => lv_iconst E.1 E.2.1 hdg hv (kk H locs ls hP hD hS hl)
theorem r_bipush (E : EE p s m args meth c D cl tys nL cc own Ts) {n : Int} (v : Int) (hv : (Int8.ofInt n).toInt32 = iJ v) (hdg : decode cc pc = .ok (.bipush n, 2))  (kk : GG p l e R s m args below meth c D cl AD A H0 nL cells slots Q (ws) (lv) (pc + 2) (.int (iJ v) :: st)) : GG p l e R s m args below meth c D cl AD A H0 nL cells slots Q (ws) (lv) (pc) (st) :=
  fun H locs ls hP hD hS hl => lv_bipush E.1 E.2.1 hdg hv (kk H locs ls hP hD hS hl)
theorem r_sipush (E : EE p s m args meth c D cl tys nL cc own Ts) {n : Int} (v : Int) (hv : (Int16.ofInt n).toInt32 = iJ v) (hdg : decode cc pc = .ok (.sipush n, 3))  (kk : GG p l e R s m args below meth c D cl AD A H0 nL cells slots Q (ws) (lv) (pc + 3) (.int (iJ v) :: st)) : GG p l e R s m args below meth c D cl AD A H0 nL cells slots Q (ws) (lv) (pc) (st) :=
  fun H locs ls hP hD hS hl => lv_sipush E.1 E.2.1 hdg hv (kk H locs ls hP hD hS hl)
theorem r_lconst (E : EE p s m args meth c D cl tys nL cc own Ts) {n : Fin 2} (v : Int) (hv : Int64.ofNat (n : Nat) = lJ v) (hdg : decode cc pc = .ok (.lconst n, 1))  (kk : GG p l e R s m args below meth c D cl AD A H0 nL cells slots Q (ws) (lv) (pc + 1) (.long (lJ v) :: st)) : GG p l e R s m args below meth c D cl AD A H0 nL cells slots Q (ws) (lv) (pc) (st) :=
  fun H locs ls hP hD hS hl => lv_lconst E.1 E.2.1 hdg hv (kk H locs ls hP hD hS hl)
theorem r_iload_n (E : EE p s m args meth c D cl tys nL cc own Ts) {k : Fin 4} {i : Nat} {x : Int32} (j : Nat) (hdg : decode cc pc = .ok (.iload_n k, 1)) (hi : (k : Nat) = i) (h : lv[j]? = some (i, .int x)) (kk : GG p l e R s m args below meth c D cl AD A H0 nL cells slots Q (ws) (lv) (pc + 1) (.int x :: st)) : GG p l e R s m args below meth c D cl AD A H0 nL cells slots Q (ws) (lv) (pc) (st) :=
  fun H locs ls hP hD hS hl => lv_iload_n E.1 E.2.1 hdg hi (lv_at hl j h) (kk H locs ls hP hD hS hl)
theorem r_iload (E : EE p s m args meth c D cl tys nL cc own Ts) {i : Nat} {x : Int32} (j : Nat) (hdg : decode cc pc = .ok (.iload i, 2)) (h : lv[j]? = some (i, .int x)) (kk : GG p l e R s m args below meth c D cl AD A H0 nL cells slots Q (ws) (lv) (pc + 2) (.int x :: st)) : GG p l e R s m args below meth c D cl AD A H0 nL cells slots Q (ws) (lv) (pc) (st) :=
  fun H locs ls hP hD hS hl => lv_iload E.1 E.2.1 hdg (lv_at hl j h) (kk H locs ls hP hD hS hl)
theorem r_lload_n (E : EE p s m args meth c D cl tys nL cc own Ts) {k : Fin 4} {i : Nat} {x : Int64} (j : Nat) (hdg : decode cc pc = .ok (.lload_n k, 1)) (hi : (k : Nat) = i) (h : lv[j]? = some (i, .long x)) (kk : GG p l e R s m args below meth c D cl AD A H0 nL cells slots Q (ws) (lv) (pc + 1) (.long x :: st)) : GG p l e R s m args below meth c D cl AD A H0 nL cells slots Q (ws) (lv) (pc) (st) :=
  fun H locs ls hP hD hS hl => lv_lload_n E.1 E.2.1 hdg hi (lv_at hl j h) (kk H locs ls hP hD hS hl)
theorem r_lload (E : EE p s m args meth c D cl tys nL cc own Ts) {i : Nat} {x : Int64} (j : Nat) (hdg : decode cc pc = .ok (.lload i, 2)) (h : lv[j]? = some (i, .long x)) (kk : GG p l e R s m args below meth c D cl AD A H0 nL cells slots Q (ws) (lv) (pc + 2) (.long x :: st)) : GG p l e R s m args below meth c D cl AD A H0 nL cells slots Q (ws) (lv) (pc) (st) :=
  fun H locs ls hP hD hS hl => lv_lload E.1 E.2.1 hdg (lv_at hl j h) (kk H locs ls hP hD hS hl)
theorem r_aload_n (E : EE p s m args meth c D cl tys nL cc own Ts) {k : Fin 4} {i : Nat} {x : Nat} (j : Nat) (hdg : decode cc pc = .ok (.aload_n k, 1)) (hi : (k : Nat) = i) (h : lv[j]? = some (i, .ref x)) (kk : GG p l e R s m args below meth c D cl AD A H0 nL cells slots Q (ws) (lv) (pc + 1) (.ref x :: st)) : GG p l e R s m args below meth c D cl AD A H0 nL cells slots Q (ws) (lv) (pc) (st) :=
  fun H locs ls hP hD hS hl => lv_aload_n E.1 E.2.1 hdg hi (lv_at hl j h) (kk H locs ls hP hD hS hl)
theorem r_aload (E : EE p s m args meth c D cl tys nL cc own Ts) {i : Nat} {x : Nat} (j : Nat) (hdg : decode cc pc = .ok (.aload i, 2)) (h : lv[j]? = some (i, .ref x)) (kk : GG p l e R s m args below meth c D cl AD A H0 nL cells slots Q (ws) (lv) (pc + 2) (.ref x :: st)) : GG p l e R s m args below meth c D cl AD A H0 nL cells slots Q (ws) (lv) (pc) (st) :=
  fun H locs ls hP hD hS hl => lv_aload E.1 E.2.1 hdg (lv_at hl j h) (kk H locs ls hP hD hS hl)
theorem r_dload_n (E : EE p s m args meth c D cl tys nL cc own Ts) {k : Fin 4} {i : Nat} {x : UInt64} (j : Nat) (hdg : decode cc pc = .ok (.dload_n k, 1)) (hi : (k : Nat) = i) (h : lv[j]? = some (i, .double x)) (kk : GG p l e R s m args below meth c D cl AD A H0 nL cells slots Q (ws) (lv) (pc + 1) (.double x :: st)) : GG p l e R s m args below meth c D cl AD A H0 nL cells slots Q (ws) (lv) (pc) (st) :=
  fun H locs ls hP hD hS hl => lv_dload_n E.1 E.2.1 hdg hi (lv_at hl j h) (kk H locs ls hP hD hS hl)
theorem r_dload (E : EE p s m args meth c D cl tys nL cc own Ts) {i : Nat} {x : UInt64} (j : Nat) (hdg : decode cc pc = .ok (.dload i, 2)) (h : lv[j]? = some (i, .double x)) (kk : GG p l e R s m args below meth c D cl AD A H0 nL cells slots Q (ws) (lv) (pc + 2) (.double x :: st)) : GG p l e R s m args below meth c D cl AD A H0 nL cells slots Q (ws) (lv) (pc) (st) :=
  fun H locs ls hP hD hS hl => lv_dload E.1 E.2.1 hdg (lv_at hl j h) (kk H locs ls hP hD hS hl)
theorem r_istore_n (E : EE p s m args meth c D cl tys nL cc own Ts) {k : Fin 4} {i : Nat} {x : Int32} (lv2 : List (Nat × Value)) (hdg : decode cc pc = .ok (.istore_n k, 1)) (hi : (k : Nat) = i) (hn : i < nL) (hl2 : (i, Value.int x) :: lv.filter (fun q => !(q.1 == i) && !(q.1 + 1 == i && q.2.category == 2)) = lv2) (kk : GG p l e R s m args below meth c D cl AD A H0 nL cells slots Q (ws) (lv2) (pc + 1) (st)) : GG p l e R s m args below meth c D cl AD A H0 nL cells slots Q (ws) (lv) (pc) (.int x :: st) :=
  fun H locs ls hP hD hS hl => lv_istore_n E.1 E.2.1 hdg hi hl hn hl2 (fun ls2 hl3 => kk H locs ls2 hP hD hS hl3)
theorem r_istore (E : EE p s m args meth c D cl tys nL cc own Ts) {i : Nat} {x : Int32} (lv2 : List (Nat × Value)) (hdg : decode cc pc = .ok (.istore i, 2)) (hn : i < nL) (hl2 : (i, Value.int x) :: lv.filter (fun q => !(q.1 == i) && !(q.1 + 1 == i && q.2.category == 2)) = lv2) (kk : GG p l e R s m args below meth c D cl AD A H0 nL cells slots Q (ws) (lv2) (pc + 2) (st)) : GG p l e R s m args below meth c D cl AD A H0 nL cells slots Q (ws) (lv) (pc) (.int x :: st) :=
  fun H locs ls hP hD hS hl => lv_istore E.1 E.2.1 hdg hl hn hl2 (fun ls2 hl3 => kk H locs ls2 hP hD hS hl3)
theorem r_astore_n (E : EE p s m args meth c D cl tys nL cc own Ts) {k : Fin 4} {i : Nat} {x : Nat} (lv2 : List (Nat × Value)) (hdg : decode cc pc = .ok (.astore_n k, 1)) (hi : (k : Nat) = i) (hn : i < nL) (hl2 : (i, Value.ref x) :: lv.filter (fun q => !(q.1 == i) && !(q.1 + 1 == i && q.2.category == 2)) = lv2) (kk : GG p l e R s m args below meth c D cl AD A H0 nL cells slots Q (ws) (lv2) (pc + 1) (st)) : GG p l e R s m args below meth c D cl AD A H0 nL cells slots Q (ws) (lv) (pc) (.ref x :: st) :=
  fun H locs ls hP hD hS hl => lv_astore_n E.1 E.2.1 hdg hi hl hn hl2 (fun ls2 hl3 => kk H locs ls2 hP hD hS hl3)
theorem r_astore (E : EE p s m args meth c D cl tys nL cc own Ts) {i : Nat} {x : Nat} (lv2 : List (Nat × Value)) (hdg : decode cc pc = .ok (.astore i, 2)) (hn : i < nL) (hl2 : (i, Value.ref x) :: lv.filter (fun q => !(q.1 == i) && !(q.1 + 1 == i && q.2.category == 2)) = lv2) (kk : GG p l e R s m args below meth c D cl AD A H0 nL cells slots Q (ws) (lv2) (pc + 2) (st)) : GG p l e R s m args below meth c D cl AD A H0 nL cells slots Q (ws) (lv) (pc) (.ref x :: st) :=
  fun H locs ls hP hD hS hl => lv_astore E.1 E.2.1 hdg hl hn hl2 (fun ls2 hl3 => kk H locs ls2 hP hD hS hl3)
theorem r_lstore_n (E : EE p s m args meth c D cl tys nL cc own Ts) {k : Fin 4} {i : Nat} {x : Int64} (lv2 : List (Nat × Value)) (hdg : decode cc pc = .ok (.lstore_n k, 1)) (hi : (k : Nat) = i) (hn : i + 1 < nL) (hl2 : (i, Value.long x) :: lv.filter (fun q => !(q.1 == i) && (!(q.1 == i + 1) && !(q.1 + 1 == i && q.2.category == 2))) = lv2) (kk : GG p l e R s m args below meth c D cl AD A H0 nL cells slots Q (ws) (lv2) (pc + 1) (st)) : GG p l e R s m args below meth c D cl AD A H0 nL cells slots Q (ws) (lv) (pc) (.long x :: st) :=
  fun H locs ls hP hD hS hl => lv_lstore_n E.1 E.2.1 hdg hi hl hn hl2 (fun ls2 hl3 => kk H locs ls2 hP hD hS hl3)
theorem r_lstore (E : EE p s m args meth c D cl tys nL cc own Ts) {i : Nat} {x : Int64} (lv2 : List (Nat × Value)) (hdg : decode cc pc = .ok (.lstore i, 2)) (hn : i + 1 < nL) (hl2 : (i, Value.long x) :: lv.filter (fun q => !(q.1 == i) && (!(q.1 == i + 1) && !(q.1 + 1 == i && q.2.category == 2))) = lv2) (kk : GG p l e R s m args below meth c D cl AD A H0 nL cells slots Q (ws) (lv2) (pc + 2) (st)) : GG p l e R s m args below meth c D cl AD A H0 nL cells slots Q (ws) (lv) (pc) (.long x :: st) :=
  fun H locs ls hP hD hS hl => lv_lstore E.1 E.2.1 hdg hl hn hl2 (fun ls2 hl3 => kk H locs ls2 hP hD hS hl3)
theorem r_dstore_n (E : EE p s m args meth c D cl tys nL cc own Ts) {k : Fin 4} {i : Nat} {x : UInt64} (lv2 : List (Nat × Value)) (hdg : decode cc pc = .ok (.dstore_n k, 1)) (hi : (k : Nat) = i) (hn : i + 1 < nL) (hl2 : (i, Value.double x) :: lv.filter (fun q => !(q.1 == i) && (!(q.1 == i + 1) && !(q.1 + 1 == i && q.2.category == 2))) = lv2) (kk : GG p l e R s m args below meth c D cl AD A H0 nL cells slots Q (ws) (lv2) (pc + 1) (st)) : GG p l e R s m args below meth c D cl AD A H0 nL cells slots Q (ws) (lv) (pc) (.double x :: st) :=
  fun H locs ls hP hD hS hl => lv_dstore_n E.1 E.2.1 hdg hi hl hn hl2 (fun ls2 hl3 => kk H locs ls2 hP hD hS hl3)
theorem r_dstore (E : EE p s m args meth c D cl tys nL cc own Ts) {i : Nat} {x : UInt64} (lv2 : List (Nat × Value)) (hdg : decode cc pc = .ok (.dstore i, 2)) (hn : i + 1 < nL) (hl2 : (i, Value.double x) :: lv.filter (fun q => !(q.1 == i) && (!(q.1 == i + 1) && !(q.1 + 1 == i && q.2.category == 2))) = lv2) (kk : GG p l e R s m args below meth c D cl AD A H0 nL cells slots Q (ws) (lv2) (pc + 2) (st)) : GG p l e R s m args below meth c D cl AD A H0 nL cells slots Q (ws) (lv) (pc) (.double x :: st) :=
  fun H locs ls hP hD hS hl => lv_dstore E.1 E.2.1 hdg hl hn hl2 (fun ls2 hl3 => kk H locs ls2 hP hD hS hl3)
theorem r_iinc (E : EE p s m args meth c D cl tys nL cc own Ts) {i k : Nat} {n : Int} {x : Int} (lv2 : List (Nat × Value)) (hdg : decode cc pc = .ok (.iinc i n, 3)) (hk : lv[k]? = some (i, .int (iJ x))) (hn : i < nL) (hl2 : (i, Value.int (iJ (x + n))) :: lv.filter (fun q => !(q.1 == i) && !(q.1 + 1 == i && q.2.category == 2)) = lv2) (kk : GG p l e R s m args below meth c D cl AD A H0 nL cells slots Q (ws) (lv2) (pc + 3) (st)) : GG p l e R s m args below meth c D cl AD A H0 nL cells slots Q (ws) (lv) (pc) (st) :=
  fun H locs ls hP hD hS hl => lv_iinc E.1 E.2.1 hdg hl hk (iJ_add x n) hn hl2 (fun ls2 hl3 => kk H locs ls2 hP hD hS hl3)
theorem r_iadd (E : EE p s m args meth c D cl tys nL cc own Ts) {a b : Int} (hdg : decode cc pc = .ok (.iadd, 1))  (kk : GG p l e R s m args below meth c D cl AD A H0 nL cells slots Q (ws) (lv) (pc + 1) (.int (iJ (a + b)) :: st)) : GG p l e R s m args below meth c D cl AD A H0 nL cells slots Q (ws) (lv) (pc) (.int (iJ b) :: .int (iJ a) :: st) :=
  fun H locs ls hP hD hS hl => lv_iadd E.1 E.2.1 hdg (by rw [iJ_add]; exact kk H locs ls hP hD hS hl)
theorem r_isub (E : EE p s m args meth c D cl tys nL cc own Ts) {a b : Int} (hdg : decode cc pc = .ok (.isub, 1))  (kk : GG p l e R s m args below meth c D cl AD A H0 nL cells slots Q (ws) (lv) (pc + 1) (.int (iJ (a - b)) :: st)) : GG p l e R s m args below meth c D cl AD A H0 nL cells slots Q (ws) (lv) (pc) (.int (iJ b) :: .int (iJ a) :: st) :=
  fun H locs ls hP hD hS hl => lv_isub E.1 E.2.1 hdg (by rw [iJ_sub]; exact kk H locs ls hP hD hS hl)
theorem r_imul (E : EE p s m args meth c D cl tys nL cc own Ts) {a b : Int} (hdg : decode cc pc = .ok (.imul, 1))  (kk : GG p l e R s m args below meth c D cl AD A H0 nL cells slots Q (ws) (lv) (pc + 1) (.int (iJ (a * b)) :: st)) : GG p l e R s m args below meth c D cl AD A H0 nL cells slots Q (ws) (lv) (pc) (.int (iJ b) :: .int (iJ a) :: st) :=
  fun H locs ls hP hD hS hl => lv_imul E.1 E.2.1 hdg (by rw [iJ_mul]; exact kk H locs ls hP hD hS hl)
theorem r_ineg (E : EE p s m args meth c D cl tys nL cc own Ts) {a : Int} (hdg : decode cc pc = .ok (.ineg, 1))  (kk : GG p l e R s m args below meth c D cl AD A H0 nL cells slots Q (ws) (lv) (pc + 1) (.int (iJ (- a)) :: st)) : GG p l e R s m args below meth c D cl AD A H0 nL cells slots Q (ws) (lv) (pc) (.int (iJ a) :: st) :=
  fun H locs ls hP hD hS hl => lv_ineg E.1 E.2.1 hdg (by rw [iJ_neg]; exact kk H locs ls hP hD hS hl)
theorem r_ladd (E : EE p s m args meth c D cl tys nL cc own Ts) {a b : Int} (hdg : decode cc pc = .ok (.ladd, 1))  (kk : GG p l e R s m args below meth c D cl AD A H0 nL cells slots Q (ws) (lv) (pc + 1) (.long (lJ (a + b)) :: st)) : GG p l e R s m args below meth c D cl AD A H0 nL cells slots Q (ws) (lv) (pc) (.long (lJ b) :: .long (lJ a) :: st) :=
  fun H locs ls hP hD hS hl => lv_ladd E.1 E.2.1 hdg (by rw [lJ_add]; exact kk H locs ls hP hD hS hl)
theorem r_idiv (E : EE p s m args meth c D cl tys nL cc own Ts) {a b : Int} (ha : 0 ≤ a ∧ a < 2147483648) (hb : 0 < b ∧ b < 2147483648) (hdg : decode cc pc = .ok (.idiv, 1))  (kk : GG p l e R s m args below meth c D cl AD A H0 nL cells slots Q (ws) (lv) (pc + 1) (.int (iJ (a / b)) :: st)) : GG p l e R s m args below meth c D cl AD A H0 nL cells slots Q (ws) (lv) (pc) (.int (iJ b) :: .int (iJ a) :: st) :=
  fun H locs ls hP hD hS hl => lv_idiv E.1 E.2.1 hdg (iJ_ne0 hb.1 hb.2) (by rw [iJ_div ha.1 ha.2 hb.1 hb.2]; exact kk H locs ls hP hD hS hl)
theorem r_irem (E : EE p s m args meth c D cl tys nL cc own Ts) {a b : Int} (ha : 0 ≤ a ∧ a < 2147483648) (hb : 0 < b ∧ b < 2147483648) (hdg : decode cc pc = .ok (.irem, 1))  (kk : GG p l e R s m args below meth c D cl AD A H0 nL cells slots Q (ws) (lv) (pc + 1) (.int (iJ (a % b)) :: st)) : GG p l e R s m args below meth c D cl AD A H0 nL cells slots Q (ws) (lv) (pc) (.int (iJ b) :: .int (iJ a) :: st) :=
  fun H locs ls hP hD hS hl => lv_irem E.1 E.2.1 hdg (iJ_ne0 hb.1 hb.2) (by rw [iJ_rem ha.1 ha.2 hb.1 hb.2]; exact kk H locs ls hP hD hS hl)
theorem r_iand (E : EE p s m args meth c D cl tys nL cc own Ts) {x y : Int32} (v : Int) (hv : x &&& y = iJ v) (hdg : decode cc pc = .ok (.iand, 1))  (kk : GG p l e R s m args below meth c D cl AD A H0 nL cells slots Q (ws) (lv) (pc + 1) (.int (iJ v) :: st)) : GG p l e R s m args below meth c D cl AD A H0 nL cells slots Q (ws) (lv) (pc) (.int y :: .int x :: st) :=
  fun H locs ls hP hD hS hl => lv_iand E.1 E.2.1 hdg (by rw [hv]; exact kk H locs ls hP hD hS hl)
theorem r_ior (E : EE p s m args meth c D cl tys nL cc own Ts) {x y : Int32} (v : Int) (hv : x ||| y = iJ v) (hdg : decode cc pc = .ok (.ior, 1))  (kk : GG p l e R s m args below meth c D cl AD A H0 nL cells slots Q (ws) (lv) (pc + 1) (.int (iJ v) :: st)) : GG p l e R s m args below meth c D cl AD A H0 nL cells slots Q (ws) (lv) (pc) (.int y :: .int x :: st) :=
  fun H locs ls hP hD hS hl => lv_ior E.1 E.2.1 hdg (by rw [hv]; exact kk H locs ls hP hD hS hl)
theorem r_ishl (E : EE p s m args meth c D cl tys nL cc own Ts) {x y : Int32} (v : Int) (hv : x <<< (y &&& 31) = iJ v) (hdg : decode cc pc = .ok (.ishl, 1))  (kk : GG p l e R s m args below meth c D cl AD A H0 nL cells slots Q (ws) (lv) (pc + 1) (.int (iJ v) :: st)) : GG p l e R s m args below meth c D cl AD A H0 nL cells slots Q (ws) (lv) (pc) (.int y :: .int x :: st) :=
  fun H locs ls hP hD hS hl => lv_ishl E.1 E.2.1 hdg (by rw [hv]; exact kk H locs ls hP hD hS hl)
theorem r_ishr (E : EE p s m args meth c D cl tys nL cc own Ts) {x y : Int32} (v : Int) (hv : x >>> (y &&& 31) = iJ v) (hdg : decode cc pc = .ok (.ishr, 1))  (kk : GG p l e R s m args below meth c D cl AD A H0 nL cells slots Q (ws) (lv) (pc + 1) (.int (iJ v) :: st)) : GG p l e R s m args below meth c D cl AD A H0 nL cells slots Q (ws) (lv) (pc) (.int y :: .int x :: st) :=
  fun H locs ls hP hD hS hl => lv_ishr E.1 E.2.1 hdg (by rw [hv]; exact kk H locs ls hP hD hS hl)
theorem r_l2i (E : EE p s m args meth c D cl tys nL cc own Ts) {a : Int} (hdg : decode cc pc = .ok (.l2i, 1))  (kk : GG p l e R s m args below meth c D cl AD A H0 nL cells slots Q (ws) (lv) (pc + 1) (.int (iJ a) :: st)) : GG p l e R s m args below meth c D cl AD A H0 nL cells slots Q (ws) (lv) (pc) (.long (lJ a) :: st) :=
  fun H locs ls hP hD hS hl => lv_l2i E.1 E.2.1 hdg (lJ_l2i a) (kk H locs ls hP hD hS hl)
theorem r_i2d (E : EE p s m args meth c D cl tys nL cc own Ts) {x : Int32} (hdg : decode cc pc = .ok (.i2d, 1))  (kk : GG p l e R s m args below meth c D cl AD A H0 nL cells slots Q (ws) (lv) (pc + 1) (.double (FP.i2d x) :: st)) : GG p l e R s m args below meth c D cl AD A H0 nL cells slots Q (ws) (lv) (pc) (.int x :: st) :=
  fun H locs ls hP hD hS hl => lv_i2d E.1 E.2.1 hdg (kk H locs ls hP hD hS hl)
theorem r_dup (E : EE p s m args meth c D cl tys nL cc own Ts) {v : Value} (hdg : decode cc pc = .ok (.dup, 1)) (hva : v.category = 1) (kk : GG p l e R s m args below meth c D cl AD A H0 nL cells slots Q (ws) (lv) (pc + 1) (v :: v :: st)) : GG p l e R s m args below meth c D cl AD A H0 nL cells slots Q (ws) (lv) (pc) (v :: st) :=
  fun H locs ls hP hD hS hl => lv_dup E.1 E.2.1 hdg hva (kk H locs ls hP hD hS hl)
theorem r_dup2 (E : EE p s m args meth c D cl tys nL cc own Ts) {v u : Value} (hdg : decode cc pc = .ok (.dup2, 1)) (hva : v.category = 1) (hvb : u.category = 1) (kk : GG p l e R s m args below meth c D cl AD A H0 nL cells slots Q (ws) (lv) (pc + 1) (v :: u :: v :: u :: st)) : GG p l e R s m args below meth c D cl AD A H0 nL cells slots Q (ws) (lv) (pc) (v :: u :: st) :=
  fun H locs ls hP hD hS hl => lv_dup2_11 E.1 E.2.1 hdg hva hvb (kk H locs ls hP hD hS hl)
theorem r_pop (E : EE p s m args meth c D cl tys nL cc own Ts) {v : Value} (hdg : decode cc pc = .ok (.pop, 1)) (hva : v.category = 1) (kk : GG p l e R s m args below meth c D cl AD A H0 nL cells slots Q (ws) (lv) (pc + 1) (st)) : GG p l e R s m args below meth c D cl AD A H0 nL cells slots Q (ws) (lv) (pc) (v :: st) :=
  fun H locs ls hP hD hS hl => lv_pop E.1 E.2.1 hdg hva (kk H locs ls hP hD hS hl)
theorem r_goto (E : EE p s m args meth c D cl tys nL cc own Ts) {off : Int} (tgt : Nat) (hdg : decode cc pc = .ok (.goto off, 3)) (ht : (pc : Int) + off = (tgt : Int)) (kk : GG p l e R s m args below meth c D cl AD A H0 nL cells slots Q (ws) (lv) (tgt) (st)) : GG p l e R s m args below meth c D cl AD A H0 nL cells slots Q (ws) (lv) (pc) (st) :=
  fun H locs ls hP hD hS hl => lv_goto E.1 E.2.1 hdg ht (kk H locs ls hP hD hS hl)
theorem r_ldc2l (E : EE p s m args meth c D cl tys nL cc own Ts) {idx : Nat} (v : Int) (hdg : decode cc pc = .ok (.ldc2_w idx, 3)) (hc : Cond.constantLong own idx (lJ v) ∈ Ts) (kk : GG p l e R s m args below meth c D cl AD A H0 nL cells slots Q (ws) (lv) (pc + 3) (.long (lJ v) :: st)) : GG p l e R s m args below meth c D cl AD A H0 nL cells slots Q (ws) (lv) (pc) (st) :=
  fun H locs ls hP hD hS hl => lv_ldc2 E.1 E.2.1 E.2.2.2.1 (E.2.2.2.2.1 _ hc) hdg (kk H locs ls hP hD hS hl)
theorem r_ldc2d (E : EE p s m args meth c D cl tys nL cc own Ts) {idx : Nat} (v : UInt64) (hdg : decode cc pc = .ok (.ldc2_w idx, 3)) (hc : Cond.constantDouble own idx v ∈ Ts) (kk : GG p l e R s m args below meth c D cl AD A H0 nL cells slots Q (ws) (lv) (pc + 3) (.double v :: st)) : GG p l e R s m args below meth c D cl AD A H0 nL cells slots Q (ws) (lv) (pc) (st) :=
  fun H locs ls hP hD hS hl => lv_ldc2d E.1 E.2.1 E.2.2.2.1 (E.2.2.2.2.1 _ hc) hdg (kk H locs ls hP hD hS hl)
theorem r_ldc (E : EE p s m args meth c D cl tys nL cc own Ts) {idx : Nat} (v : Int) (hdg : decode cc pc = .ok (.ldc idx, 2)) (hc : Cond.constant own idx (iJ v) ∈ Ts) (kk : GG p l e R s m args below meth c D cl AD A H0 nL cells slots Q (ws) (lv) (pc + 2) (.int (iJ v) :: st)) : GG p l e R s m args below meth c D cl AD A H0 nL cells slots Q (ws) (lv) (pc) (st) :=
  fun H locs ls hP hD hS hl => lv_ldc E.1 E.2.1 E.2.2.2.1 (E.2.2.2.2.1 _ hc) hdg (kk H locs ls hP hD hS hl)
theorem r_icmp_eq (E : EE p s m args meth c D cl tys nL cc own Ts) {a b : Int} {off : Int} (tgt : Nat) (hdg : decode cc pc = .ok (.if_icmp .eq off, 3)) (ht : (pc : Int) + off = (tgt : Int)) (hA : jb a) (hB : jb b) (kt : a = b → GG p l e R s m args below meth c D cl AD A H0 nL cells slots Q (ws) (lv) (tgt) (st)) (kf : ¬ a = b → GG p l e R s m args below meth c D cl AD A H0 nL cells slots Q (ws) (lv) (pc + 3) (st)) : GG p l e R s m args below meth c D cl AD A H0 nL cells slots Q (ws) (lv) (pc) (.int (iJ b) :: .int (iJ a) :: st) :=
  fun H locs ls hP hD hS hl => lv_icmp_eq E.1 E.2.1 hdg ht (fun q => kt ((iJ_inj hA hB).mp q) H locs ls hP hD hS hl) (fun q => kf (fun z => q ((iJ_inj hA hB).mpr z)) H locs ls hP hD hS hl)
theorem r_if_eq (E : EE p s m args meth c D cl tys nL cc own Ts) {a : Int} {off : Int} (tgt : Nat) (hdg : decode cc pc = .ok (.ifCond .eq off, 3)) (ht : (pc : Int) + off = (tgt : Int)) (hA : jb a) (kt : a = 0 → GG p l e R s m args below meth c D cl AD A H0 nL cells slots Q (ws) (lv) (tgt) (st)) (kf : ¬ a = 0 → GG p l e R s m args below meth c D cl AD A H0 nL cells slots Q (ws) (lv) (pc + 3) (st)) : GG p l e R s m args below meth c D cl AD A H0 nL cells slots Q (ws) (lv) (pc) (.int (iJ a) :: st) :=
  fun H locs ls hP hD hS hl => lv_if_eq E.1 E.2.1 hdg ht (fun q => kt ((iJ_inj hA jb_0).mp q) H locs ls hP hD hS hl) (fun q => kf (fun z => q ((iJ_inj hA jb_0).mpr z)) H locs ls hP hD hS hl)
theorem r_icmp_ne (E : EE p s m args meth c D cl tys nL cc own Ts) {a b : Int} {off : Int} (tgt : Nat) (hdg : decode cc pc = .ok (.if_icmp .ne off, 3)) (ht : (pc : Int) + off = (tgt : Int)) (hA : jb a) (hB : jb b) (kt : ¬ a = b → GG p l e R s m args below meth c D cl AD A H0 nL cells slots Q (ws) (lv) (tgt) (st)) (kf : a = b → GG p l e R s m args below meth c D cl AD A H0 nL cells slots Q (ws) (lv) (pc + 3) (st)) : GG p l e R s m args below meth c D cl AD A H0 nL cells slots Q (ws) (lv) (pc) (.int (iJ b) :: .int (iJ a) :: st) :=
  fun H locs ls hP hD hS hl => lv_icmp_ne E.1 E.2.1 hdg ht (fun q => kt (fun z => q ((iJ_inj hA hB).mpr z)) H locs ls hP hD hS hl) (fun q => kf ((iJ_inj hA hB).mp q) H locs ls hP hD hS hl)
theorem r_if_ne (E : EE p s m args meth c D cl tys nL cc own Ts) {a : Int} {off : Int} (tgt : Nat) (hdg : decode cc pc = .ok (.ifCond .ne off, 3)) (ht : (pc : Int) + off = (tgt : Int)) (hA : jb a) (kt : ¬ a = 0 → GG p l e R s m args below meth c D cl AD A H0 nL cells slots Q (ws) (lv) (tgt) (st)) (kf : a = 0 → GG p l e R s m args below meth c D cl AD A H0 nL cells slots Q (ws) (lv) (pc + 3) (st)) : GG p l e R s m args below meth c D cl AD A H0 nL cells slots Q (ws) (lv) (pc) (.int (iJ a) :: st) :=
  fun H locs ls hP hD hS hl => lv_if_ne E.1 E.2.1 hdg ht (fun q => kt (fun z => q ((iJ_inj hA jb_0).mpr z)) H locs ls hP hD hS hl) (fun q => kf ((iJ_inj hA jb_0).mp q) H locs ls hP hD hS hl)
theorem r_icmp_lt (E : EE p s m args meth c D cl tys nL cc own Ts) {a b : Int} {off : Int} (tgt : Nat) (hdg : decode cc pc = .ok (.if_icmp .lt off, 3)) (ht : (pc : Int) + off = (tgt : Int)) (hA : jb a) (hB : jb b) (kt : a < b → GG p l e R s m args below meth c D cl AD A H0 nL cells slots Q (ws) (lv) (tgt) (st)) (kf : ¬ a < b → GG p l e R s m args below meth c D cl AD A H0 nL cells slots Q (ws) (lv) (pc + 3) (st)) : GG p l e R s m args below meth c D cl AD A H0 nL cells slots Q (ws) (lv) (pc) (.int (iJ b) :: .int (iJ a) :: st) :=
  fun H locs ls hP hD hS hl => lv_icmp_lt E.1 E.2.1 hdg ht (fun q => kt ((iJ_lt hA hB).mp q) H locs ls hP hD hS hl) (fun q => kf (fun z => q ((iJ_lt hA hB).mpr z)) H locs ls hP hD hS hl)
theorem r_if_lt (E : EE p s m args meth c D cl tys nL cc own Ts) {a : Int} {off : Int} (tgt : Nat) (hdg : decode cc pc = .ok (.ifCond .lt off, 3)) (ht : (pc : Int) + off = (tgt : Int)) (hA : jb a) (kt : a < 0 → GG p l e R s m args below meth c D cl AD A H0 nL cells slots Q (ws) (lv) (tgt) (st)) (kf : ¬ a < 0 → GG p l e R s m args below meth c D cl AD A H0 nL cells slots Q (ws) (lv) (pc + 3) (st)) : GG p l e R s m args below meth c D cl AD A H0 nL cells slots Q (ws) (lv) (pc) (.int (iJ a) :: st) :=
  fun H locs ls hP hD hS hl => lv_if_lt E.1 E.2.1 hdg ht (fun q => kt ((iJ_lt hA jb_0).mp q) H locs ls hP hD hS hl) (fun q => kf (fun z => q ((iJ_lt hA jb_0).mpr z)) H locs ls hP hD hS hl)
theorem r_icmp_ge (E : EE p s m args meth c D cl tys nL cc own Ts) {a b : Int} {off : Int} (tgt : Nat) (hdg : decode cc pc = .ok (.if_icmp .ge off, 3)) (ht : (pc : Int) + off = (tgt : Int)) (hA : jb a) (hB : jb b) (kt : b ≤ a → GG p l e R s m args below meth c D cl AD A H0 nL cells slots Q (ws) (lv) (tgt) (st)) (kf : ¬ b ≤ a → GG p l e R s m args below meth c D cl AD A H0 nL cells slots Q (ws) (lv) (pc + 3) (st)) : GG p l e R s m args below meth c D cl AD A H0 nL cells slots Q (ws) (lv) (pc) (.int (iJ b) :: .int (iJ a) :: st) :=
  fun H locs ls hP hD hS hl => lv_icmp_ge E.1 E.2.1 hdg ht (fun q => kt ((iJ_le hB hA).mp q) H locs ls hP hD hS hl) (fun q => kf (fun z => q ((iJ_le hB hA).mpr z)) H locs ls hP hD hS hl)
theorem r_if_ge (E : EE p s m args meth c D cl tys nL cc own Ts) {a : Int} {off : Int} (tgt : Nat) (hdg : decode cc pc = .ok (.ifCond .ge off, 3)) (ht : (pc : Int) + off = (tgt : Int)) (hA : jb a) (kt : 0 ≤ a → GG p l e R s m args below meth c D cl AD A H0 nL cells slots Q (ws) (lv) (tgt) (st)) (kf : ¬ 0 ≤ a → GG p l e R s m args below meth c D cl AD A H0 nL cells slots Q (ws) (lv) (pc + 3) (st)) : GG p l e R s m args below meth c D cl AD A H0 nL cells slots Q (ws) (lv) (pc) (.int (iJ a) :: st) :=
  fun H locs ls hP hD hS hl => lv_if_ge E.1 E.2.1 hdg ht (fun q => kt ((iJ_le jb_0 hA).mp q) H locs ls hP hD hS hl) (fun q => kf (fun z => q ((iJ_le jb_0 hA).mpr z)) H locs ls hP hD hS hl)
theorem r_icmp_gt (E : EE p s m args meth c D cl tys nL cc own Ts) {a b : Int} {off : Int} (tgt : Nat) (hdg : decode cc pc = .ok (.if_icmp .gt off, 3)) (ht : (pc : Int) + off = (tgt : Int)) (hA : jb a) (hB : jb b) (kt : b < a → GG p l e R s m args below meth c D cl AD A H0 nL cells slots Q (ws) (lv) (tgt) (st)) (kf : ¬ b < a → GG p l e R s m args below meth c D cl AD A H0 nL cells slots Q (ws) (lv) (pc + 3) (st)) : GG p l e R s m args below meth c D cl AD A H0 nL cells slots Q (ws) (lv) (pc) (.int (iJ b) :: .int (iJ a) :: st) :=
  fun H locs ls hP hD hS hl => lv_icmp_gt E.1 E.2.1 hdg ht (fun q => kt ((iJ_lt hB hA).mp q) H locs ls hP hD hS hl) (fun q => kf (fun z => q ((iJ_lt hB hA).mpr z)) H locs ls hP hD hS hl)
theorem r_if_gt (E : EE p s m args meth c D cl tys nL cc own Ts) {a : Int} {off : Int} (tgt : Nat) (hdg : decode cc pc = .ok (.ifCond .gt off, 3)) (ht : (pc : Int) + off = (tgt : Int)) (hA : jb a) (kt : 0 < a → GG p l e R s m args below meth c D cl AD A H0 nL cells slots Q (ws) (lv) (tgt) (st)) (kf : ¬ 0 < a → GG p l e R s m args below meth c D cl AD A H0 nL cells slots Q (ws) (lv) (pc + 3) (st)) : GG p l e R s m args below meth c D cl AD A H0 nL cells slots Q (ws) (lv) (pc) (.int (iJ a) :: st) :=
  fun H locs ls hP hD hS hl => lv_if_gt E.1 E.2.1 hdg ht (fun q => kt ((iJ_lt jb_0 hA).mp q) H locs ls hP hD hS hl) (fun q => kf (fun z => q ((iJ_lt jb_0 hA).mpr z)) H locs ls hP hD hS hl)
theorem r_icmp_le (E : EE p s m args meth c D cl tys nL cc own Ts) {a b : Int} {off : Int} (tgt : Nat) (hdg : decode cc pc = .ok (.if_icmp .le off, 3)) (ht : (pc : Int) + off = (tgt : Int)) (hA : jb a) (hB : jb b) (kt : a ≤ b → GG p l e R s m args below meth c D cl AD A H0 nL cells slots Q (ws) (lv) (tgt) (st)) (kf : ¬ a ≤ b → GG p l e R s m args below meth c D cl AD A H0 nL cells slots Q (ws) (lv) (pc + 3) (st)) : GG p l e R s m args below meth c D cl AD A H0 nL cells slots Q (ws) (lv) (pc) (.int (iJ b) :: .int (iJ a) :: st) :=
  fun H locs ls hP hD hS hl => lv_icmp_le E.1 E.2.1 hdg ht (fun q => kt ((iJ_le hA hB).mp q) H locs ls hP hD hS hl) (fun q => kf (fun z => q ((iJ_le hA hB).mpr z)) H locs ls hP hD hS hl)
theorem r_if_le (E : EE p s m args meth c D cl tys nL cc own Ts) {a : Int} {off : Int} (tgt : Nat) (hdg : decode cc pc = .ok (.ifCond .le off, 3)) (ht : (pc : Int) + off = (tgt : Int)) (hA : jb a) (kt : a ≤ 0 → GG p l e R s m args below meth c D cl AD A H0 nL cells slots Q (ws) (lv) (tgt) (st)) (kf : ¬ a ≤ 0 → GG p l e R s m args below meth c D cl AD A H0 nL cells slots Q (ws) (lv) (pc + 3) (st)) : GG p l e R s m args below meth c D cl AD A H0 nL cells slots Q (ws) (lv) (pc) (.int (iJ a) :: st) :=
  fun H locs ls hP hD hS hl => lv_if_le E.1 E.2.1 hdg ht (fun q => kt ((iJ_le hA jb_0).mp q) H locs ls hP hD hS hl) (fun q => kf (fun z => q ((iJ_le hA jb_0).mpr z)) H locs ls hP hD hS hl)
theorem b2_0 {P : Prop} [Decidable P] : iJ (b2 P) = 0 ↔ ¬ P := by
  unfold b2; by_cases q : P
  · rw [if_pos q]; exact ⟨fun h => absurd h (by decide), fun h => absurd q h⟩
  · rw [if_neg q]; exact ⟨fun _ => q, fun _ => rfl⟩
theorem r_ifeq_b (E : EE p s m args meth c D cl tys nL cc own Ts) {P : Prop} [Decidable P] {off : Int} (tgt : Nat) (hdg : decode cc pc = .ok (.ifCond .eq off, 3)) (ht : (pc : Int) + off = (tgt : Int)) (kt : ¬ P → GG p l e R s m args below meth c D cl AD A H0 nL cells slots Q (ws) (lv) (tgt) (st)) (kf : P → GG p l e R s m args below meth c D cl AD A H0 nL cells slots Q (ws) (lv) (pc + 3) (st)) : GG p l e R s m args below meth c D cl AD A H0 nL cells slots Q (ws) (lv) (pc) (.int (iJ (b2 P)) :: st) :=
  fun H locs ls hP hD hS hl => lv_if_eq E.1 E.2.1 hdg ht (fun q => kt (b2_0.mp q) H locs ls hP hD hS hl) (fun q => kf (Decidable.of_not_not (fun z => q (b2_0.mpr z))) H locs ls hP hD hS hl)
theorem r_ifne_b (E : EE p s m args meth c D cl tys nL cc own Ts) {P : Prop} [Decidable P] {off : Int} (tgt : Nat) (hdg : decode cc pc = .ok (.ifCond .ne off, 3)) (ht : (pc : Int) + off = (tgt : Int)) (kt : P → GG p l e R s m args below meth c D cl AD A H0 nL cells slots Q (ws) (lv) (tgt) (st)) (kf : ¬ P → GG p l e R s m args below meth c D cl AD A H0 nL cells slots Q (ws) (lv) (pc + 3) (st)) : GG p l e R s m args below meth c D cl AD A H0 nL cells slots Q (ws) (lv) (pc) (.int (iJ (b2 P)) :: st) :=
  fun H locs ls hP hD hS hl => lv_if_ne E.1 E.2.1 hdg ht (fun q => kt (Decidable.of_not_not (fun z => q (b2_0.mpr z))) H locs ls hP hD hS hl) (fun q => kf (b2_0.mp q) H locs ls hP hD hS hl)
theorem r_ifeq_n (E : EE p s m args meth c D cl tys nL cc own Ts) {P : Prop} [Decidable P] {off : Int} (tgt : Nat) (hdg : decode cc pc = .ok (.ifCond .eq off, 3)) (ht : (pc : Int) + off = (tgt : Int)) (kt : P → GG p l e R s m args below meth c D cl AD A H0 nL cells slots Q (ws) (lv) (tgt) (st)) (kf : ¬ P → GG p l e R s m args below meth c D cl AD A H0 nL cells slots Q (ws) (lv) (pc + 3) (st)) : GG p l e R s m args below meth c D cl AD A H0 nL cells slots Q (ws) (lv) (pc) (.int (iJ (b2 (¬ P))) :: st) :=
  r_ifeq_b E tgt hdg ht (fun q => kt (Decidable.of_not_not q)) kf
theorem r_ifne_n (E : EE p s m args meth c D cl tys nL cc own Ts) {P : Prop} [Decidable P] {off : Int} (tgt : Nat) (hdg : decode cc pc = .ok (.ifCond .ne off, 3)) (ht : (pc : Int) + off = (tgt : Int)) (kt : ¬ P → GG p l e R s m args below meth c D cl AD A H0 nL cells slots Q (ws) (lv) (tgt) (st)) (kf : P → GG p l e R s m args below meth c D cl AD A H0 nL cells slots Q (ws) (lv) (pc + 3) (st)) : GG p l e R s m args below meth c D cl AD A H0 nL cells slots Q (ws) (lv) (pc) (.int (iJ (b2 (¬ P))) :: st) :=
  r_ifne_b E tgt hdg ht kt (fun q => kf (Decidable.of_not_not q))
theorem r_tabOut (E : EE p s m args meth c D cl tys nL cc own Ts) {dflt lo hi : Int} {offs : Array Int} {len : Nat} {a : Int} (tgt : Nat) (hdg : decode cc pc = .ok (.tableswitch dflt lo hi offs, len)) (hA : jb a) (h : a < lo ∨ hi < a) (ht : (pc : Int) + dflt = (tgt : Int)) (kk : GG p l e R s m args below meth c D cl AD A H0 nL cells slots Q (ws) (lv) (tgt) (st)) : GG p l e R s m args below meth c D cl AD A H0 nL cells slots Q (ws) (lv) (pc) (.int (iJ a) :: st) :=
  fun H locs ls hP hD hS hl => lv_tableOut E.1 E.2.1 hdg (by rw [iJ_ti hA]; exact h) ht (kk H locs ls hP hD hS hl)
theorem r_tabIn (E : EE p s m args meth c D cl tys nL cc own Ts) {dflt lo hi : Int} {offs : Array Int} {len : Nat} {a : Int} (k : Int) {off : Int} (tgt : Nat) (hdg : decode cc pc = .ok (.tableswitch dflt lo hi offs, len)) (hA : a = k) (hk : jb k) (h1 : lo ≤ k) (h2 : k ≤ hi) (ho : offs[(k - lo).toNat]? = some off) (ht : (pc : Int) + off = (tgt : Int)) (kk : GG p l e R s m args below meth c D cl AD A H0 nL cells slots Q (ws) (lv) (tgt) (st)) : GG p l e R s m args below meth c D cl AD A H0 nL cells slots Q (ws) (lv) (pc) (.int (iJ a) :: st) :=
  fun H locs ls hP hD hS hl => by
    subst hA
    exact lv_tableIn E.1 E.2.1 hdg (by rw [iJ_ti hk]; omega) (by rw [iJ_ti hk]; omega) (by rw [iJ_ti hk]; exact ho) ht (kk H locs ls hP hD hS hl)
theorem r_lv (ks : List Nat) (lv2 : List (Nat × Value)) (h : lv_pick lv ks = lv2) (kk : GG p l e R s m args below meth c D cl AD A H0 nL cells slots Q (ws) (lv2) (pc) (st)) : GG p l e R s m args below meth c D cl AD A H0 nL cells slots Q (ws) (lv) (pc) (st) :=
  fun H locs ls hP hD hS hl => kk H locs ls hP hD hS (lv_sub hl ks h)
theorem r_cv {ws2 : va_W} {lv2 : List (Nat × Value)} {st2 : List Value} (h1 : ws = ws2) (h2 : lv = lv2) (h3 : st = st2) (kk : GG p l e R s m args below meth c D cl AD A H0 nL cells slots Q (ws2) (lv2) (pc) (st2)) : GG p l e R s m args below meth c D cl AD A H0 nL cells slots Q (ws) (lv) (pc) (st) := by subst h1 h2 h3; exact kk
theorem r_get (E : EE p s m args meth c D cl tys nL cc own Ts) {C : String} {T : u_T} {N index : Nat} {a : Nat} (ci q0 k : Nat) {fs : List Value} {v : Value} (hdg : decode cc pc = .ok (.getfield index, 3)) (hin : ∀ w ∈ u_ws C T N, w ∈ Ts) (hlk : Cond.fieldLink own index (T k).1 (T k).2.1 (T k).2.2.1 ∈ Ts) (he : ws[q0]? = some (a, .inr (ci, fs))) (hc : cl[ci]? = some (C, T, N)) (hk : k < N) (hv : fs[k]? = some v) (kk : GG p l e R s m args below meth c D cl AD A H0 nL cells slots Q (ws) (lv) (pc + 3) (v :: st)) : GG p l e R s m args below meth c D cl AD A H0 nL cells slots Q (ws) (lv) (pc) (.ref a :: st) :=
  fun H locs ls hP hD hS hl => va_get E.1 E.2.1 E.2.2.2.2.1 hin E.2.2.2.1 E.2.2.2.2.2.1 hP q0 he hc k hk (E.2.2.2.2.1 _ hlk) (fun _ h => h) hv hdg (kk H locs ls hP hD hS hl)
theorem r_getN (E : EE p s m args meth c D cl tys nL cc own Ts) {C : String} {T : u_T} {N index : Nat} {a : Nat} (ci q0 k : Nat) {fs : List Value} {v : Value} (hdg : decode cc pc = .ok (.getfield index, 3)) (hin : ∀ w ∈ u_ws C T N, w ∈ Ts) (hq : (own, index, (T k).1, (T k).2.1) ∈ nsF) (hI : (T k).2.2.1 = "I") (he : ws[q0]? = some (a, .inr (ci, fs))) (hc : cl[ci]? = some (C, T, N)) (hk : k < N) (hv : fs[k]? = some v) (kk : GG p l e R s m args below meth c D cl AD A H0 nL cells slots Q (ws) (lv) (pc + 3) (v :: st)) : GG p l e R s m args below meth c D cl AD A H0 nL cells slots Q (ws) (lv) (pc) (.ref a :: st) :=
  fun H locs ls hP hD hS hl => va_getN E.1 E.2.1 E.2.2.2.2.1 hin E.2.2.2.1 E.2.2.2.2.2.1 hP q0 he hc k hk (va_Nw.use rfl (by rw [hI]; exact E.2.2.2.2.2.2.2.1 _ hq)) (fun _ h => h) hv hdg (kk H locs ls hP hD hS hl)
theorem r_iald (E : EE p s m args meth c D cl tys nL cc own Ts) {a : Nat} {i : Int} (q0 t0 : Nat) {cA : ClassId} {n : Nat} {g : Int → Int} (hdg : decode cc pc = .ok (.iaload, 1)) (ha : ws[q0]? = some (a, cJ cA n g)) (ht : tys[t0]? = some (cA, .int)) (hn : n < 2147483648) (hi : 0 ≤ i ∧ i < n) (kk : GG p l e R s m args below meth c D cl AD A H0 nL cells slots Q (ws) (lv) (pc + 1) (.int (iJ (g i)) :: st)) : GG p l e R s m args below meth c D cl AD A H0 nL cells slots Q (ws) (lv) (pc) (.int (iJ i) :: .ref a :: st) :=
  fun H locs ls hP hD hS hl => va_iald E.1 E.2.1 E.2.2.2.2.2.1 hP q0 t0 ha ht (iJ_in hi hn) hdg (by rw [aJ_at hi hn]; exact kk H locs ls hP hD hS hl)
theorem r_zald (E : EE p s m args meth c D cl tys nL cc own Ts) {a : Nat} {i : Int} (q0 t0 : Nat) {cA : ClassId} {n : Nat} {g : Int → Int} (hdg : decode cc pc = .ok (.baload, 1)) (ha : ws[q0]? = some (a, cJ cA n g)) (ht : tys[t0]? = some (cA, .boolean)) (hn : n < 2147483648) (hi : 0 ≤ i ∧ i < n) (kk : GG p l e R s m args below meth c D cl AD A H0 nL cells slots Q (ws) (lv) (pc + 1) (.int (iJ (g i)) :: st)) : GG p l e R s m args below meth c D cl AD A H0 nL cells slots Q (ws) (lv) (pc) (.int (iJ i) :: .ref a :: st) :=
  fun H locs ls hP hD hS hl => va_zald E.1 E.2.1 E.2.2.2.2.2.1 hP q0 t0 ha ht (iJ_in hi hn) hdg (by rw [aJ_at hi hn]; exact kk H locs ls hP hD hS hl)
theorem r_lald (E : EE p s m args meth c D cl tys nL cc own Ts) {a : Nat} {i : Int} (q0 t0 : Nat) {cA : ClassId} {n : Nat} {g : Int → Int} (hdg : decode cc pc = .ok (.laload, 1)) (ha : ws[q0]? = some (a, cL cA n g)) (ht : tys[t0]? = some (cA, .long)) (hn : n < 2147483648) (hi : 0 ≤ i ∧ i < n) (kk : GG p l e R s m args below meth c D cl AD A H0 nL cells slots Q (ws) (lv) (pc + 1) (.long (lJ (g i)) :: st)) : GG p l e R s m args below meth c D cl AD A H0 nL cells slots Q (ws) (lv) (pc) (.int (iJ i) :: .ref a :: st) :=
  fun H locs ls hP hD hS hl => va_lald E.1 E.2.1 E.2.2.2.2.2.1 hP q0 t0 ha ht (iJ_in hi hn) hdg (by rw [aL_at hi hn]; exact kk H locs ls hP hD hS hl)
theorem r_alen (E : EE p s m args meth c D cl tys nL cc own Ts) {a : Nat} (q0 t0 : Nat) {cA : ClassId} {x : vp_A} {ty : FieldType} (n : Nat) (hdg : decode cc pc = .ok (.arraylength, 1)) (ha : ws[q0]? = some (a, .inl (cA, x))) (ht : tys[t0]? = some (cA, ty)) (hx : x.1 = n) (kk : GG p l e R s m args below meth c D cl AD A H0 nL cells slots Q (ws) (lv) (pc + 1) (.int (iJ (n : Int)) :: st)) : GG p l e R s m args below meth c D cl AD A H0 nL cells slots Q (ws) (lv) (pc) (.ref a :: st) :=
  fun H locs ls hP hD hS hl => va_alen E.1 E.2.1 E.2.2.2.2.2.1 hP q0 t0 ha ht (v := iJ (n : Int)) (by rw [hx]; exact iJ_nI n) hdg (kk H locs ls hP hD hS hl)
theorem r_aldq (E : EE p s m args meth c D cl tys nL cc own Ts) {a : Nat} {i : Int} (q0 t0 : Nat) {cA : ClassId} {C : String} {n : Nat} {f : Nat → Option Nat} (hdg : decode cc pc = .ok (.aaload, 1)) (ha : ws[q0]? = some (a, cR cA n f)) (ht : tys[t0]? = some (cA, .object C)) (hn : n < 2147483648) (hi : 0 ≤ i ∧ i < n) {r : Nat} (hf : f i.toNat = some r) (kk : GG p l e R s m args below meth c D cl AD A H0 nL cells slots Q (ws) (lv) (pc + 1) (.ref r :: st)) : GG p l e R s m args below meth c D cl AD A H0 nL cells slots Q (ws) (lv) (pc) (.int (iJ i) :: .ref a :: st) :=
  fun H locs ls hP hD hS hl => va_aldq E.1 E.2.1 E.2.2.2.2.2.1 hP q0 t0 ha ht (iJ_in hi hn) hdg (by rw [iJ_cl (jb_in hi hn), hf]; exact kk H locs ls hP hD hS hl)

theorem r_top {a : Int} (b : Int) (h : a = b) (kk : GG p l e R s m args below meth c D cl AD A H0 nL cells slots Q (ws) (lv) (pc) (.int (iJ b) :: st)) : GG p l e R s m args below meth c D cl AD A H0 nL cells slots Q (ws) (lv) (pc) (.int (iJ a) :: st) := h ▸ kk
theorem r_topL {a : Int} (b : Int) (h : a = b) (kk : GG p l e R s m args below meth c D cl AD A H0 nL cells slots Q (ws) (lv) (pc) (.long (lJ b) :: st)) : GG p l e R s m args below meth c D cl AD A H0 nL cells slots Q (ws) (lv) (pc) (.long (lJ a) :: st) := h ▸ kk
theorem r_imin (E : EE p s m args meth c D cl tys nL cc own Ts) {a b : Int} (v : Int) {index : Nat} (hdg : decode cc pc = .ok (.invokestatic index, 3)) (hv : jb a ∧ jb b ∧ v = (if b < a then b else a)) (hT : Cond.methodLink own index Lib.Math.min.name ∈ Ts ∧ Cond.static Lib.Math.min.name ∈ Ts ∧ Cond.initialized "java/lang/Math" ∈ Ts ∧ Cond.code Lib.Math.min.name Lib.Math.min.code 2 (some .int) ∈ Ts) (hR : 1 ≤ R.frames ∧ 21 ≤ R.locals) (hsum : (st.map fun v => v.category).sum ≤ 8) (hcs : cells ≤ R.cells ∧ slots ≤ R.slots) (kk : GG p l e R s m args below meth c D cl AD A H0 nL cells slots Q (ws) (lv) (pc + 3) (.int (iJ v) :: st)) : GG p l e R s m args below meth c D cl AD A H0 nL cells slots Q (ws) (lv) (pc) (.int (iJ b) :: .int (iJ a) :: st) :=
  fun H locs ls hP hD hS hl => va_mmin E.1 E.2.1 (E.2.2.1.trans hl.1.symm) E.2.2.2.1 (E.2.2.2.2.1 _ hT.1) (E.2.2.2.2.1 _ hT.2.1) (E.2.2.2.2.1 _ hT.2.2.1) (E.2.2.2.2.1 _ hT.2.2.2) hR.1 (by omega) hcs.1 hcs.2 hdg (by
    have e : (if iJ b < iJ a then iJ b else iJ a) = iJ v := by
      rw [hv.2.2]; by_cases q : b < a
      · rw [if_pos q, if_pos ((iJ_lt hv.2.1 hv.1).mpr q)]
      · rw [if_neg q, if_neg (fun z => q ((iJ_lt hv.2.1 hv.1).mp z))]
    rw [e]; exact kk H locs ls hP hD hS hl)
theorem r_imax (E : EE p s m args meth c D cl tys nL cc own Ts) {a b : Int} (v : Int) {index : Nat} (hdg : decode cc pc = .ok (.invokestatic index, 3)) (hv : jb a ∧ jb b ∧ v = (if a < b then b else a)) (hT : Cond.methodLink own index Lib.Math.max.name ∈ Ts ∧ Cond.static Lib.Math.max.name ∈ Ts ∧ Cond.initialized "java/lang/Math" ∈ Ts ∧ Cond.code Lib.Math.max.name Lib.Math.max.code 2 (some .int) ∈ Ts) (hR : 1 ≤ R.frames ∧ 21 ≤ R.locals) (hsum : (st.map fun v => v.category).sum ≤ 8) (hcs : cells ≤ R.cells ∧ slots ≤ R.slots) (kk : GG p l e R s m args below meth c D cl AD A H0 nL cells slots Q (ws) (lv) (pc + 3) (.int (iJ v) :: st)) : GG p l e R s m args below meth c D cl AD A H0 nL cells slots Q (ws) (lv) (pc) (.int (iJ b) :: .int (iJ a) :: st) :=
  fun H locs ls hP hD hS hl => va_mmax E.1 E.2.1 (E.2.2.1.trans hl.1.symm) E.2.2.2.1 (E.2.2.2.2.1 _ hT.1) (E.2.2.2.2.1 _ hT.2.1) (E.2.2.2.2.1 _ hT.2.2.1) (E.2.2.2.2.1 _ hT.2.2.2) hR.1 (by omega) hcs.1 hcs.2 hdg (by
    have e : (if iJ a < iJ b then iJ b else iJ a) = iJ v := by
      rw [hv.2.2]; by_cases q : a < b
      · rw [if_pos q, if_pos ((iJ_lt hv.1 hv.2.1).mpr q)]
      · rw [if_neg q, if_neg (fun z => q ((iJ_lt hv.1 hv.2.1).mp z))]
    rw [e]; exact kk H locs ls hP hD hS hl)
theorem r_lmin (E : EE p s m args meth c D cl tys nL cc own Ts) {a b : Int} (v : Int) {index : Nat} (hdg : decode cc pc = .ok (.invokestatic index, 3)) (hv : lb a ∧ lb b ∧ v = (if b < a then b else a)) (hT : Cond.methodLink own index Lib.MathLoose.min_long.x ∈ Ts ∧ Cond.static Lib.MathLoose.min_long.x ∈ Ts ∧ Cond.initialized "java/lang/Math" ∈ Ts ∧ Cond.code Lib.MathLoose.min_long.x Lib.MathLoose.min_long.code 4 (some .long) ∈ Ts) (hR : 1 ≤ R.frames ∧ 23 ≤ R.locals) (hsum : (st.map fun v => v.category).sum ≤ 8) (hcs : cells ≤ R.cells ∧ slots ≤ R.slots) (kk : GG p l e R s m args below meth c D cl AD A H0 nL cells slots Q (ws) (lv) (pc + 3) (.long (lJ v) :: st)) : GG p l e R s m args below meth c D cl AD A H0 nL cells slots Q (ws) (lv) (pc) (.long (lJ b) :: .long (lJ a) :: st) :=
  fun H locs ls hP hD hS hl => va_mmin_long E.1 E.2.1 (E.2.2.1.trans hl.1.symm) E.2.2.2.1 (E.2.2.2.2.1 _ hT.1) (E.2.2.2.2.1 _ hT.2.1) (E.2.2.2.2.1 _ hT.2.2.1) (E.2.2.2.2.1 _ hT.2.2.2) hR.1 (by omega) hcs.1 hcs.2 hdg (by
    have e : (if lJ b < lJ a then lJ b else lJ a) = lJ v := by
      rw [hv.2.2]; by_cases q : b < a
      · rw [if_pos q, if_pos ((lJ_lt hv.2.1 hv.1).mpr q)]
      · rw [if_neg q, if_neg (fun z => q ((lJ_lt hv.2.1 hv.1).mp z))]
    rw [e]; exact kk H locs ls hP hD hS hl)
theorem r_lcmp (E : EE p s m args meth c D cl tys nL cc own Ts) {a b : Int} (v : Int) (hdg : decode cc pc = .ok (.lcmp, 1)) (hv : lb a ∧ lb b ∧ v = (if b < a then 1 else if a = b then 0 else -1)) (kk : GG p l e R s m args below meth c D cl AD A H0 nL cells slots Q (ws) (lv) (pc + 1) (.int (iJ v) :: st)) : GG p l e R s m args below meth c D cl AD A H0 nL cells slots Q (ws) (lv) (pc) (.long (lJ b) :: .long (lJ a) :: st) :=
  fun H locs ls hP hD hS hl => W.lcmp E.1 E.2.1 hdg (by
    have e : lg_cmp (lJ a) (lJ b) = iJ v := by
      unfold lg_cmp; rw [hv.2.2]; by_cases q : b < a
      · rw [if_pos q, if_pos ((lJ_lt hv.2.1 hv.1).mpr q)]; rfl
      · rw [if_neg q, if_neg (fun z => q ((lJ_lt hv.2.1 hv.1).mp z))]
        by_cases q2 : a = b
        · rw [if_pos q2, if_pos (by rw [q2])]; rfl
        · rw [if_neg q2, if_neg (fun z => q2 (by have := congrArg Int64.toInt z; rwa [lJ_ti hv.1, lJ_ti hv.2.1] at this))]; rfl
    rw [e]; exact kk H locs ls hP hD hS hl)
theorem iJ_shr {a : Int} (h : 0 ≤ a ∧ a < 2147483648) (s : Int32) (k : Nat) (q : Int) (hs : ((s &&& 31).toBitVec.smod 32).toNat = k) (hq : ((2 ^ k : Nat) : Int) = q) : iJ a >>> (s &&& 31) = iJ (a / q) := by
  obtain ⟨n, rfl⟩ := Int.eq_ofNat_of_zero_le h.1
  have := pk_shrN (n := n) (by omega) (s &&& 31) k hs
  rw [← iJ_nI, this, iJ_nI, ← hq]; rfl
theorem iJ_and {a : Int} (h : 0 ≤ a ∧ a < 2147483648) (m : Int32) (k : Nat) (q : Int) (hm : m.toBitVec.toNat = 2 ^ k - 1) (hq : ((2 ^ k : Nat) : Int) = q) : iJ a &&& m = iJ (a % q) := by
  obtain ⟨n, rfl⟩ := Int.eq_ofNat_of_zero_le h.1
  have := pk_andN (n := n) (by omega) (m := m) k hm
  rw [← iJ_nI, this, iJ_nI, ← hq]; rfl

theorem r_put (E : EE p s m args meth c D cl tys nL cc own Ts) {C : String} {T : u_T} {N index : Nat} {a : Nat} (ci q0 k : Nat) {fs : List Value} {v : Value} {ty : FieldType} (ty0 : Nat → FieldType) (hty : ∀ k, k < N → parseFieldDescriptor (T k).2.2.1 = some (ty0 k)) (hnm : ∀ a, a < N → ∀ b, b < N → a ≠ b → (T a).2.1 ≠ (T b).2.1) (hdg : decode cc pc = .ok (.putfield index, 3)) (hin : ∀ w ∈ u_ws C T N, w ∈ Ts) (hlk : Cond.fieldLink own index (T k).1 (T k).2.1 (T k).2.2.1 ∈ Ts) (he : ws[q0]? = some (a, .inr (ci, fs))) (hc : cl[ci]? = some (C, T, N)) (hk : k < N) (hfin : (T k).2.2.2 = false) (hd : parseFieldDescriptor (T k).2.2.1 = some ty) (hn : narrow ty v = v) (hfit : fits ty v = true) (hl2 : k < fs.length) (ws2 : va_W) (hw2 : ws.set q0 (a, .inr (ci, fs.set k v)) = ws2) (kk : GG p l e R s m args below meth c D cl A A H0 nL cells slots Q (ws2) (lv) (pc + 3) (st)) : GG p l e R s m args below meth c D cl A A H0 nL cells slots Q (ws) (lv) (pc) (v :: .ref a :: st) :=
  fun H locs ls hP hD hS hl => va_put E.1 E.2.1 E.2.2.2.2.1 hin ty0 hty hnm E.2.2.2.1 E.2.2.2.2.2.1 hP hD hS q0 he hc k hk (E.2.2.2.2.1 _ hlk) (fun _ h => h) hfin hd hn hfit hl2 hdg (fun H1 locs1 hP1 hD1 hS1 => kk H1 locs1 ls (hw2 ▸ hP1) (hw2 ▸ hD1) hS1 hl)
theorem r_putN (E : EE p s m args meth c D cl tys nL cc own Ts) {C : String} {T : u_T} {N index : Nat} {a : Nat} (ci q0 k : Nat) {fs : List Value} {v : Value} {ty : FieldType} (ty0 : Nat → FieldType) (hty : ∀ k, k < N → parseFieldDescriptor (T k).2.2.1 = some (ty0 k)) (hnm : ∀ a, a < N → ∀ b, b < N → a ≠ b → (T a).2.1 ≠ (T b).2.1) (hdg : decode cc pc = .ok (.putfield index, 3)) (hin : ∀ w ∈ u_ws C T N, w ∈ Ts) (hq : (own, index, (T k).1, (T k).2.1) ∈ nsF) (hI : (T k).2.2.1 = "I") (he : ws[q0]? = some (a, .inr (ci, fs))) (hc : cl[ci]? = some (C, T, N)) (hk : k < N) (hfin : (T k).2.2.2 = false) (hd : parseFieldDescriptor (T k).2.2.1 = some ty) (hn : narrow ty v = v) (hfit : fits ty v = true) (hl2 : k < fs.length) (ws2 : va_W) (hw2 : ws.set q0 (a, .inr (ci, fs.set k v)) = ws2) (kk : GG p l e R s m args below meth c D cl A A H0 nL cells slots Q (ws2) (lv) (pc + 3) (st)) : GG p l e R s m args below meth c D cl A A H0 nL cells slots Q (ws) (lv) (pc) (v :: .ref a :: st) :=
  fun H locs ls hP hD hS hl => va_putN E.1 E.2.1 E.2.2.2.2.1 hin ty0 hty hnm E.2.2.2.1 E.2.2.2.2.2.1 hP hD hS q0 he hc k hk (va_Nw.use rfl (by rw [hI]; exact E.2.2.2.2.2.2.2.1 _ hq)) (fun _ h => h) hfin hd hn hfit hl2 hdg (fun H1 locs1 hP1 hD1 hS1 => kk H1 locs1 ls (hw2 ▸ hP1) (hw2 ▸ hD1) hS1 hl)
theorem r_putF (E : EE p s m args meth c D cl tys nL cc own Ts) {C : String} {T : u_T} {N index : Nat} {a : Nat} (ci q0 k : Nat) {fs : List Value} {v : Value} {ty : FieldType} (ty0 : Nat → FieldType) (hty : ∀ k, k < N → parseFieldDescriptor (T k).2.2.1 = some (ty0 k)) (hnm : ∀ a, a < N → ∀ b, b < N → a ≠ b → (T a).2.1 ≠ (T b).2.1) (hdg : decode cc pc = .ok (.putfield index, 3)) (hin : ∀ w ∈ u_ws C T N, w ∈ Ts) (hlk : Cond.fieldLink own index (T k).1 (T k).2.1 (T k).2.2.1 ∈ Ts) (he : ws[q0]? = some (a, .inr (ci, fs))) (hc : cl[ci]? = some (C, T, N)) (hk : k < N) (hfin : (T k).2.2.2 = true) (hin2 : meth.name = "<init>") (hdecl : (T k).1 = own) (hd : parseFieldDescriptor (T k).2.2.1 = some ty) (hn : narrow ty v = v) (hfit : fits ty v = true) (hl2 : k < fs.length) (ws2 : va_W) (hw2 : ws.set q0 (a, .inr (ci, fs.set k v)) = ws2) (kk : GG p l e R s m args below meth c D cl A A H0 nL cells slots Q (ws2) (lv) (pc + 3) (st)) : GG p l e R s m args below meth c D cl A A H0 nL cells slots Q (ws) (lv) (pc) (v :: .ref a :: st) :=
  fun H locs ls hP hD hS hl => va_putF E.1 E.2.1 E.2.2.2.2.1 hin ty0 hty hnm E.2.2.2.1 E.2.2.2.2.2.1 hP hD hS q0 he hc k hk (E.2.2.2.2.1 _ hlk) (fun _ h => h) hfin hin2 hdecl hd hn hfit hl2 hdg (fun H1 locs1 hP1 hD1 hS1 => kk H1 locs1 ls (hw2 ▸ hP1) (hw2 ▸ hD1) hS1 hl)
theorem r_iast (E : EE p s m args meth c D cl tys nL cc own Ts) {a : Nat} {i v : Int} (q0 t0 : Nat) {cA : ClassId} {n : Nat} {g : Int → Int} (hdg : decode cc pc = .ok (.iastore, 1)) (ha : ws[q0]? = some (a, cJ cA n g)) (ht : tys[t0]? = some (cA, .int)) (hn : n < 2147483648) (hi : 0 ≤ i ∧ i < n) (ws2 : va_W) (hw2 : ws.set q0 (a, cJ cA n (uJ g i v)) = ws2) (kk : GG p l e R s m args below meth c D cl A A H0 nL cells slots Q (ws2) (lv) (pc + 1) (st)) : GG p l e R s m args below meth c D cl A A H0 nL cells slots Q (ws) (lv) (pc) (.int (iJ v) :: .int (iJ i) :: .ref a :: st) :=
  fun H locs ls hP hD hS hl => va_iast E.1 E.2.1 E.2.2.2.2.2.1 hP hD hS q0 t0 ha ht (iJ_in hi hn) hdg (fun H1 locs1 hP1 hD1 hS1 => kk H1 locs1 ls (by rw [aJ_up hi hn] at hP1; exact hw2 ▸ hP1) (by rw [aJ_up hi hn] at hD1; exact hw2 ▸ hD1) hS1 hl)
theorem r_zast (E : EE p s m args meth c D cl tys nL cc own Ts) {a : Nat} {i v : Int} (q0 t0 : Nat) {cA : ClassId} {n : Nat} {g : Int → Int} (hdg : decode cc pc = .ok (.bastore, 1)) (ha : ws[q0]? = some (a, cJ cA n g)) (ht : tys[t0]? = some (cA, .boolean)) (hn : n < 2147483648) (hi : 0 ≤ i ∧ i < n) (hv : v = 0 ∨ v = 1) (ws2 : va_W) (hw2 : ws.set q0 (a, cJ cA n (uJ g i v)) = ws2) (kk : GG p l e R s m args below meth c D cl A A H0 nL cells slots Q (ws2) (lv) (pc + 1) (st)) : GG p l e R s m args below meth c D cl A A H0 nL cells slots Q (ws) (lv) (pc) (.int (iJ v) :: .int (iJ i) :: .ref a :: st) :=
  fun H locs ls hP hD hS hl => va_zast E.1 E.2.1 E.2.2.2.2.2.1 hP hD hS q0 t0 ha ht (iJ_in hi hn) hdg (fun H1 locs1 hP1 hD1 hS1 => kk H1 locs1 ls (by rw [nar_01 hv, aJ_up hi hn] at hP1; exact hw2 ▸ hP1) (by rw [nar_01 hv, aJ_up hi hn] at hD1; exact hw2 ▸ hD1) hS1 hl)
theorem r_last (E : EE p s m args meth c D cl tys nL cc own Ts) {a : Nat} {i v : Int} (q0 t0 : Nat) {cA : ClassId} {n : Nat} {g : Int → Int} (hdg : decode cc pc = .ok (.lastore, 1)) (ha : ws[q0]? = some (a, cL cA n g)) (ht : tys[t0]? = some (cA, .long)) (hn : n < 2147483648) (hi : 0 ≤ i ∧ i < n) (ws2 : va_W) (hw2 : ws.set q0 (a, cL cA n (uJ g i v)) = ws2) (kk : GG p l e R s m args below meth c D cl A A H0 nL cells slots Q (ws2) (lv) (pc + 1) (st)) : GG p l e R s m args below meth c D cl A A H0 nL cells slots Q (ws) (lv) (pc) (.long (lJ v) :: .int (iJ i) :: .ref a :: st) :=
  fun H locs ls hP hD hS hl => va_last E.1 E.2.1 E.2.2.2.2.2.1 hP hD hS q0 t0 ha ht (iJ_in hi hn) hdg (fun H1 locs1 hP1 hD1 hS1 => kk H1 locs1 ls (by rw [aL_up hi hn] at hP1; exact hw2 ▸ hP1) (by rw [aL_up hi hn] at hD1; exact hw2 ▸ hD1) hS1 hl)
theorem r_astq (E : EE p s m args meth c D cl tys nL cc own Ts) {a : Nat} {i : Int} (q0 t0 qk ci : Nat) {cA : ClassId} {r : vw_C} {n v : Nat} {vs : List Value} {f : Nat → Option Nat} (hdg : decode cc pc = .ok (.aastore, 1)) (ha : ws[q0]? = some (a, cR cA n f)) (ht : tys[t0]? = some (cA, .object r.1)) (hv : ws[qk]? = some (v, .inr (ci, vs))) (hc : cl[ci]? = some r) (hn : n < 2147483648) (hi : 0 ≤ i ∧ i < n) (ws2 : va_W) (hw2 : ws.set q0 (a, cR cA n (va_up f i.toNat (some v))) = ws2) (kk : GG p l e R s m args below meth c D cl A A H0 nL cells slots Q (ws2) (lv) (pc + 1) (st)) : GG p l e R s m args below meth c D cl A A H0 nL cells slots Q (ws) (lv) (pc) (.ref v :: .int (iJ i) :: .ref a :: st) :=
  fun H locs ls hP hD hS hl => va_astq E.1 E.2.1 E.2.2.2.2.2.1 hP hD hS q0 t0 qk ci ha ht hv hc (iJ_in hi hn) hdg (fun H1 locs1 hP1 hD1 hS1 => kk H1 locs1 ls (by rw [iJ_cl (jb_in hi hn)] at hP1; exact hw2 ▸ hP1) (by rw [iJ_cl (jb_in hi hn)] at hD1; exact hw2 ▸ hD1) hS1 hl)

theorem pick_P {H : Heap} {is : List Nat} {wc : va_W} (hP : va_P D cl ws H) (his : is.map (fun i => ws[i]?) = wc.map some) : va_P D cl wc H := by
  intro k q hq
  have h1 : (is.map (fun i => ws[i]?))[k]? = some (some q) := by rw [his, List.getElem?_map, hq]; rfl
  rw [List.getElem?_map] at h1
  cases hi : is[k]? with
  | none => rw [hi] at h1; cases h1
  | some i => rw [hi] at h1; exact hP i q (Option.some.inj h1)
theorem keep_P {H H1 : Heap} (hP : va_P D cl ws H) (hk : ∀ q : Nat, q < H.size → ¬ False → H1[q]? = H[q]?) : va_P D cl ws H1 :=
  fun k q hq => (hP k q hq).kept (hk q.1 (hP k q hq).lt (fun z => z))
theorem preS_mk {H : Heap} {is tis : List Nat} {wc : va_W} {tysc : List (ClassId × FieldType)} {av : List Value} (hNS : NS s) (hK : va_K D cl tys s) (hP : va_P D cl ws H) (hD : va_D AD ws) (his : is.map (fun i => ws[i]?) = wc.map some) (hnd : va_nd is = true) (htis : tis.filterMap (fun i => tys[i]?) = tysc) : PreS s H (va_Pc av (PW D cl wc tysc)) av :=
  ⟨fun a U g mk q => ⟨q.1, q.2.moved g mk a⟩, fun U hU hW => ⟨rfl, by rw [hU]; exact pick_P hP his, va_K.moved hW.alike (hK.sub tis htis), (hD.sub is hnd his).weaken (fun _ _ _ _ => trivial), hNS.warm hW⟩⟩
theorem preM_mk {H : Heap} {is tis : List Nat} {wc : va_W} {tysc : List (ClassId × FieldType)} {av : List Value} (hNS : NS s) (hK : va_K D cl tys s) (hP : va_P D cl ws H) (hD : va_D AD ws) (his : is.map (fun i => ws[i]?) = wc.map some) (hnd : va_nd is = true) (htis : tis.filterMap (fun i => tys[i]?) = tysc) : PreS s H (va_Pc av (fun U => U.heap.size = H.size ∧ PW D cl wc tysc U)) av :=
  ⟨fun a U g mk q => ⟨q.1, q.2.1, q.2.2.moved g mk a⟩, fun U hU hW => ⟨rfl, by rw [hU], by rw [hU]; exact pick_P hP his, va_K.moved hW.alike (hK.sub tis htis), (hD.sub is hnd his).weaken (fun _ _ _ _ => trivial), hNS.warm hW⟩⟩
theorem cw_V {y : MethodName} {bytes : ByteArray} {maxL n index : Nat} {ret : Option FieldType} {wy : List Cond} {rm : Room} (hts : ∀ w ∈ Ts, w.before args s = true) (hG : GoodIn Ts (wsV own index y.cls y wy)) (kf : KF y n wy bytes maxL ret) (hrc : rm.cells = 0 ∧ rm.slots = 0) (hR : rm.frames + 1 ≤ R.frames ∧ 8 + (maxL + 11) + rm.locals ≤ R.locals) : CallW R s args own y.cls index y bytes maxL ret wy rm 0 0 n :=
  cwV n hts hG kf.1 hrc.1 hrc.2 ⟨rfl, kf.2.1, kf.2.2.1, kf.2.2.2⟩ hR
theorem cw_S {y : MethodName} {bytes : ByteArray} {maxL n index : Nat} {ret : Option FieldType} {wy : List Cond} {rm : Room} (hts : ∀ w ∈ Ts, w.before args s = true) (hG : GoodIn Ts (va_wsS own index y wy)) (kf : KF y n wy bytes maxL ret) (hrc : rm.cells = 0 ∧ rm.slots = 0) (hR : rm.frames + 1 ≤ R.frames ∧ 8 + (maxL + 11) + rm.locals ≤ R.locals) : CallB R s args own index y bytes maxL ret wy rm 0 0 n ∧ (Cond.static y).before args s = true :=
  va_cwS n hts hG kf.1 hrc.1 hrc.2 ⟨kf.2.1, kf.2.2.1, kf.2.2.2⟩ hR

theorem r_vP (E : EE p s m args meth c D cl tys nL cc own Ts) {y : MethodName} {bytes : ByteArray} {maxL : Nat} {ret : Option FieldType} {wy : List Cond} {rm : Room} {wc : va_W} {tysc : List (ClassId × FieldType)} {As : List Value} {index : Nat} {st0 : List Value} {b : Nat} {ci : Nat} {fs : List Value} {qc : vw_C} {val : Int} (hM : MP l y wy rm D cl (.ref b :: As) wc tysc val) (hG : GoodIn Ts (wsV own index y.cls y wy)) (n : Nat) (kf : KF y n wy bytes maxL ret) (hrc : rm.cells = 0 ∧ rm.slots = 0) (hR : rm.frames + 1 ≤ R.frames ∧ 8 + (maxL + 11) + rm.locals ≤ R.locals) (hdg : decode cc pc = .ok (.invokevirtual index, 3)) (hn : As.length = n) (q0 : Nat) (hrv : ws[q0]? = some (b, .inr (ci, fs))) (hcl : cl[ci]? = some qc) (hqc : qc.1 = y.cls) (hst : st0 = As.reverse ++ .ref b :: st) (hcs : cells ≤ R.cells ∧ slots ≤ R.slots) (is : List Nat) (his : is.map (fun i => ws[i]?) = wc.map some) (hnd : va_nd is = true) (tis : List Nat) (htis : tis.filterMap (fun i => tys[i]?) = tysc) (hsum : (st.map fun v => v.category).sum ≤ 8) (kk : GG p l e R s m args below meth c D cl AD A H0 nL cells slots Q (ws) (lv) (pc + 3) (.int (iJ val) :: st)) : GG p l e R s m args below meth c D cl AD A H0 nL cells slots Q (ws) (lv) (pc) (st0) :=
  fun H locs ls hP hD hS hl => by
    subst hst
    refine va_calli (va_runV (As := As) (rest := st) ⟨E.1, E.2.1, E.2.2.1, E.2.2.2.1, E.2.2.2.2.1⟩ hM (cw_V E.2.2.2.2.1 hG kf hrc hR) ⟨(preS_mk E.2.2.2.2.2.2.2 E.2.2.2.2.2.1 hP hD his hnd htis).1, (by rw [← hqc]; exact va_recv E.2.2.2.2.2.1 hP hcl hrv), (preS_mk E.2.2.2.2.2.2.2 E.2.2.2.2.2.1 hP hD his hnd htis).2⟩ rfl hn hl.1 rfl (lv_room hsum) hdg ⟨hcs.1, hcs.2⟩) hS (fun q _ h => h.elim) (fun q h => h.elim) (fun r u t H1 locs1 ht hvm hp hB hz hk hS1 => ?_)
    subst hp
    exact kk H1 locs1 ls (keep_P hP hk) hD hS1 hl
theorem r_sP (E : EE p s m args meth c D cl tys nL cc own Ts) {y : MethodName} {bytes : ByteArray} {maxL : Nat} {ret : Option FieldType} {wy : List Cond} {rm : Room} {wc : va_W} {tysc : List (ClassId × FieldType)} {As : List Value} {index : Nat} {st0 : List Value}  {val : Int} (hM : MP l y wy rm D cl As wc tysc val) (hG : GoodIn Ts (va_wsS own index y wy)) (n : Nat) (kf : KF y n wy bytes maxL ret) (hrc : rm.cells = 0 ∧ rm.slots = 0) (hR : rm.frames + 1 ≤ R.frames ∧ 8 + (maxL + 11) + rm.locals ≤ R.locals) (hdg : decode cc pc = .ok (.invokestatic index, 3)) (hn : As.length = n)  (hst : st0 = As.reverse ++ st) (hcs : cells ≤ R.cells ∧ slots ≤ R.slots) (is : List Nat) (his : is.map (fun i => ws[i]?) = wc.map some) (hnd : va_nd is = true) (tis : List Nat) (htis : tis.filterMap (fun i => tys[i]?) = tysc) (hsum : (st.map fun v => v.category).sum ≤ 8) (kk : GG p l e R s m args below meth c D cl AD A H0 nL cells slots Q (ws) (lv) (pc + 3) (.int (iJ val) :: st)) : GG p l e R s m args below meth c D cl AD A H0 nL cells slots Q (ws) (lv) (pc) (st0) :=
  fun H locs ls hP hD hS hl => by
    subst hst
    refine va_calli (va_runS (As := As) (rest := st) ⟨E.1, E.2.1, E.2.2.1, E.2.2.2.1, E.2.2.2.2.1⟩ hM (cw_S E.2.2.2.2.1 hG kf hrc hR) (preS_mk E.2.2.2.2.2.2.2 E.2.2.2.2.2.1 hP hD his hnd htis) rfl hn hl.1 rfl (lv_room hsum) hdg ⟨hcs.1, hcs.2⟩) hS (fun q _ h => h.elim) (fun q h => h.elim) (fun r u t H1 locs1 ht hvm hp hB hz hk hS1 => ?_)
    subst hp
    exact kk H1 locs1 ls (keep_P hP hk) hD hS1 hl
theorem r_vL (E : EE p s m args meth c D cl tys nL cc own Ts) {y : MethodName} {bytes : ByteArray} {maxL : Nat} {ret : Option FieldType} {wy : List Cond} {rm : Room} {wc : va_W} {tysc : List (ClassId × FieldType)} {As : List Value} {index : Nat} {st0 : List Value} {b : Nat} {ci : Nat} {fs : List Value} {qc : vw_C} {val : Int} (hM : ML l y wy rm D cl (.ref b :: As) wc tysc val) (hG : GoodIn Ts (wsV own index y.cls y wy)) (n : Nat) (kf : KF y n wy bytes maxL ret) (hrc : rm.cells = 0 ∧ rm.slots = 0) (hR : rm.frames + 1 ≤ R.frames ∧ 8 + (maxL + 11) + rm.locals ≤ R.locals) (hdg : decode cc pc = .ok (.invokevirtual index, 3)) (hn : As.length = n) (q0 : Nat) (hrv : ws[q0]? = some (b, .inr (ci, fs))) (hcl : cl[ci]? = some qc) (hqc : qc.1 = y.cls) (hst : st0 = As.reverse ++ .ref b :: st) (hcs : cells ≤ R.cells ∧ slots ≤ R.slots) (is : List Nat) (his : is.map (fun i => ws[i]?) = wc.map some) (hnd : va_nd is = true) (tis : List Nat) (htis : tis.filterMap (fun i => tys[i]?) = tysc) (hsum : (st.map fun v => v.category).sum ≤ 8) (kk : GG p l e R s m args below meth c D cl AD A H0 nL cells slots Q (ws) (lv) (pc + 3) (.long (lJ val) :: st)) : GG p l e R s m args below meth c D cl AD A H0 nL cells slots Q (ws) (lv) (pc) (st0) :=
  fun H locs ls hP hD hS hl => by
    subst hst
    refine va_calll (va_runV (As := As) (rest := st) ⟨E.1, E.2.1, E.2.2.1, E.2.2.2.1, E.2.2.2.2.1⟩ hM (cw_V E.2.2.2.2.1 hG kf hrc hR) ⟨(preS_mk E.2.2.2.2.2.2.2 E.2.2.2.2.2.1 hP hD his hnd htis).1, (by rw [← hqc]; exact va_recv E.2.2.2.2.2.1 hP hcl hrv), (preS_mk E.2.2.2.2.2.2.2 E.2.2.2.2.2.1 hP hD his hnd htis).2⟩ rfl hn hl.1 rfl (lv_room hsum) hdg ⟨hcs.1, hcs.2⟩) hS (fun q _ h => h.elim) (fun q h => h.elim) (fun r u t H1 locs1 ht hvm hp hB hz hk hS1 => ?_)
    subst hp
    exact kk H1 locs1 ls (keep_P hP hk) hD hS1 hl
theorem r_sL (E : EE p s m args meth c D cl tys nL cc own Ts) {y : MethodName} {bytes : ByteArray} {maxL : Nat} {ret : Option FieldType} {wy : List Cond} {rm : Room} {wc : va_W} {tysc : List (ClassId × FieldType)} {As : List Value} {index : Nat} {st0 : List Value}  {val : Int} (hM : ML l y wy rm D cl As wc tysc val) (hG : GoodIn Ts (va_wsS own index y wy)) (n : Nat) (kf : KF y n wy bytes maxL ret) (hrc : rm.cells = 0 ∧ rm.slots = 0) (hR : rm.frames + 1 ≤ R.frames ∧ 8 + (maxL + 11) + rm.locals ≤ R.locals) (hdg : decode cc pc = .ok (.invokestatic index, 3)) (hn : As.length = n)  (hst : st0 = As.reverse ++ st) (hcs : cells ≤ R.cells ∧ slots ≤ R.slots) (is : List Nat) (his : is.map (fun i => ws[i]?) = wc.map some) (hnd : va_nd is = true) (tis : List Nat) (htis : tis.filterMap (fun i => tys[i]?) = tysc) (hsum : (st.map fun v => v.category).sum ≤ 8) (kk : GG p l e R s m args below meth c D cl AD A H0 nL cells slots Q (ws) (lv) (pc + 3) (.long (lJ val) :: st)) : GG p l e R s m args below meth c D cl AD A H0 nL cells slots Q (ws) (lv) (pc) (st0) :=
  fun H locs ls hP hD hS hl => by
    subst hst
    refine va_calll (va_runS (As := As) (rest := st) ⟨E.1, E.2.1, E.2.2.1, E.2.2.2.1, E.2.2.2.2.1⟩ hM (cw_S E.2.2.2.2.1 hG kf hrc hR) (preS_mk E.2.2.2.2.2.2.2 E.2.2.2.2.2.1 hP hD his hnd htis) rfl hn hl.1 rfl (lv_room hsum) hdg ⟨hcs.1, hcs.2⟩) hS (fun q _ h => h.elim) (fun q h => h.elim) (fun r u t H1 locs1 ht hvm hp hB hz hk hS1 => ?_)
    subst hp
    exact kk H1 locs1 ls (keep_P hP hk) hD hS1 hl
theorem r_vM (E : EE p s m args meth c D cl tys nL cc own Ts) {y : MethodName} {bytes : ByteArray} {maxL : Nat} {ret : Option FieldType} {wy : List Cond} {rm : Room} {wc : va_W} {tysc : List (ClassId × FieldType)} {As : List Value} {index : Nat} {st0 : List Value} {b : Nat} {ci : Nat} {fs : List Value} {qc : vw_C} {S : Type} {val : S → Int} {post : S → Prop} {w1 : S → va_W} (hM : MM l y wy rm D cl (.ref b :: As) wc tysc val post w1) (hG : GoodIn Ts (wsV own index y.cls y wy)) (n : Nat) (kf : KF y n wy bytes maxL ret) (hrc : rm.cells = 0 ∧ rm.slots = 0) (hR : rm.frames + 1 ≤ R.frames ∧ 8 + (maxL + 11) + rm.locals ≤ R.locals) (hdg : decode cc pc = .ok (.invokevirtual index, 3)) (hn : As.length = n) (q0 : Nat) (hrv : ws[q0]? = some (b, .inr (ci, fs))) (hcl : cl[ci]? = some qc) (hqc : qc.1 = y.cls) (hst : st0 = As.reverse ++ .ref b :: st) (hcs : cells ≤ R.cells ∧ slots ≤ R.slots) (is : List Nat) (his : is.map (fun i => ws[i]?) = wc.map some) (hnd : va_nd is = true) (tis : List Nat) (htis : tis.filterMap (fun i => tys[i]?) = tysc) (hsum : (st.map fun v => v.category).sum ≤ 8) (wr : va_W) (isR : List Nat) (hisR : isR.map (fun i => ws[i]?) = wr.map some) (hndR : va_nd isR = true) (hdis : ∀ i ∈ isR, i ∉ is) (hA : ∀ q : Nat, H0.size ≤ q → A q) (perm : List Nat) (hpn : va_nd perm = true) (ws2 : S → va_W) (hperm : ∀ u : S, perm.map (fun i => (wr ++ w1 u)[i]?) = (ws2 u).map some) (kk : ∀ u : S, post u → GG p l e R s m args below meth c D cl A A H0 nL cells slots Q (ws2 u) (lv) (pc + 3) (.int (iJ (val u)) :: st)) : GG p l e R s m args below meth c D cl A A H0 nL cells slots Q (ws) (lv) (pc) (st0) :=
  fun H locs ls hP hD hS hl => by
    subst hst
    have hF := va_free (wc := wc) hD hS hA is his
    refine va_calli (va_runV (As := As) (rest := st) ⟨E.1, E.2.1, E.2.2.1, E.2.2.2.1, E.2.2.2.2.1⟩ (hM H.size) (cw_V E.2.2.2.2.1 hG kf hrc hR) ⟨(preM_mk E.2.2.2.2.2.2.2 E.2.2.2.2.2.1 hP hD his hnd htis).1, (by rw [← hqc]; exact va_recv E.2.2.2.2.2.1 hP hcl hrv), (preM_mk E.2.2.2.2.2.2.2 E.2.2.2.2.2.1 hP hD his hnd htis).2⟩ rfl hn hl.1 rfl (lv_room hsum) hdg ⟨hcs.1, hcs.2⟩) hS (fun q _ h => hF q h) hF (fun r u t H1 locs1 ht hvm hp hB hz hk hS1 => ?_)
    obtain ⟨hP1, hD1⟩ := hB
    rw [ht] at hP1
    have J := va_join (wr := wr) (w1 := w1 u) hP hD is isR his hisR hndR hdis hk hF hP1 hD1
    obtain ⟨rfl, hpo⟩ := hp
    exact kk u hpo H1 locs1 ls (pick_P J.1 (hperm u)) (J.2.sub perm hpn (hperm u)) hS1 hl
theorem r_sM (E : EE p s m args meth c D cl tys nL cc own Ts) {y : MethodName} {bytes : ByteArray} {maxL : Nat} {ret : Option FieldType} {wy : List Cond} {rm : Room} {wc : va_W} {tysc : List (ClassId × FieldType)} {As : List Value} {index : Nat} {st0 : List Value}  {S : Type} {val : S → Int} {post : S → Prop} {w1 : S → va_W} (hM : MM l y wy rm D cl As wc tysc val post w1) (hG : GoodIn Ts (va_wsS own index y wy)) (n : Nat) (kf : KF y n wy bytes maxL ret) (hrc : rm.cells = 0 ∧ rm.slots = 0) (hR : rm.frames + 1 ≤ R.frames ∧ 8 + (maxL + 11) + rm.locals ≤ R.locals) (hdg : decode cc pc = .ok (.invokestatic index, 3)) (hn : As.length = n)  (hst : st0 = As.reverse ++ st) (hcs : cells ≤ R.cells ∧ slots ≤ R.slots) (is : List Nat) (his : is.map (fun i => ws[i]?) = wc.map some) (hnd : va_nd is = true) (tis : List Nat) (htis : tis.filterMap (fun i => tys[i]?) = tysc) (hsum : (st.map fun v => v.category).sum ≤ 8) (wr : va_W) (isR : List Nat) (hisR : isR.map (fun i => ws[i]?) = wr.map some) (hndR : va_nd isR = true) (hdis : ∀ i ∈ isR, i ∉ is) (hA : ∀ q : Nat, H0.size ≤ q → A q) (perm : List Nat) (hpn : va_nd perm = true) (ws2 : S → va_W) (hperm : ∀ u : S, perm.map (fun i => (wr ++ w1 u)[i]?) = (ws2 u).map some) (kk : ∀ u : S, post u → GG p l e R s m args below meth c D cl A A H0 nL cells slots Q (ws2 u) (lv) (pc + 3) (.int (iJ (val u)) :: st)) : GG p l e R s m args below meth c D cl A A H0 nL cells slots Q (ws) (lv) (pc) (st0) :=
  fun H locs ls hP hD hS hl => by
    subst hst
    have hF := va_free (wc := wc) hD hS hA is his
    refine va_calli (va_runS (As := As) (rest := st) ⟨E.1, E.2.1, E.2.2.1, E.2.2.2.1, E.2.2.2.2.1⟩ (hM H.size) (cw_S E.2.2.2.2.1 hG kf hrc hR) (preM_mk E.2.2.2.2.2.2.2 E.2.2.2.2.2.1 hP hD his hnd htis) rfl hn hl.1 rfl (lv_room hsum) hdg ⟨hcs.1, hcs.2⟩) hS (fun q _ h => hF q h) hF (fun r u t H1 locs1 ht hvm hp hB hz hk hS1 => ?_)
    obtain ⟨hP1, hD1⟩ := hB
    rw [ht] at hP1
    have J := va_join (wr := wr) (w1 := w1 u) hP hD is isR his hisR hndR hdis hk hF hP1 hD1
    obtain ⟨rfl, hpo⟩ := hp
    exact kk u hpo H1 locs1 ls (pick_P J.1 (hperm u)) (J.2.sub perm hpn (hperm u)) hS1 hl
theorem r_vV (E : EE p s m args meth c D cl tys nL cc own Ts) {y : MethodName} {bytes : ByteArray} {maxL : Nat} {ret : Option FieldType} {wy : List Cond} {rm : Room} {wc : va_W} {tysc : List (ClassId × FieldType)} {As : List Value} {index : Nat} {st0 : List Value} {b : Nat} {ci : Nat} {fs : List Value} {qc : vw_C} {S : Type} {post : S → Prop} {w1 : S → va_W} (hM : MV l y wy rm D cl (.ref b :: As) wc tysc post w1) (hG : GoodIn Ts (wsV own index y.cls y wy)) (n : Nat) (kf : KF y n wy bytes maxL ret) (hrc : rm.cells = 0 ∧ rm.slots = 0) (hR : rm.frames + 1 ≤ R.frames ∧ 8 + (maxL + 11) + rm.locals ≤ R.locals) (hdg : decode cc pc = .ok (.invokevirtual index, 3)) (hn : As.length = n) (q0 : Nat) (hrv : ws[q0]? = some (b, .inr (ci, fs))) (hcl : cl[ci]? = some qc) (hqc : qc.1 = y.cls) (hst : st0 = As.reverse ++ .ref b :: st) (hcs : cells ≤ R.cells ∧ slots ≤ R.slots) (is : List Nat) (his : is.map (fun i => ws[i]?) = wc.map some) (hnd : va_nd is = true) (tis : List Nat) (htis : tis.filterMap (fun i => tys[i]?) = tysc) (hsum : (st.map fun v => v.category).sum ≤ 8) (wr : va_W) (isR : List Nat) (hisR : isR.map (fun i => ws[i]?) = wr.map some) (hndR : va_nd isR = true) (hdis : ∀ i ∈ isR, i ∉ is) (hA : ∀ q : Nat, H0.size ≤ q → A q) (perm : List Nat) (hpn : va_nd perm = true) (ws2 : S → va_W) (hperm : ∀ u : S, perm.map (fun i => (wr ++ w1 u)[i]?) = (ws2 u).map some) (kk : ∀ u : S, post u → GG p l e R s m args below meth c D cl A A H0 nL cells slots Q (ws2 u) (lv) (pc + 3) (st)) : GG p l e R s m args below meth c D cl A A H0 nL cells slots Q (ws) (lv) (pc) (st0) :=
  fun H locs ls hP hD hS hl => by
    subst hst
    have hF := va_free (wc := wc) hD hS hA is his
    refine va_callv (va_runV (As := As) (rest := st) ⟨E.1, E.2.1, E.2.2.1, E.2.2.2.1, E.2.2.2.2.1⟩ (hM H.size) (cw_V E.2.2.2.2.1 hG kf hrc hR) ⟨(preM_mk E.2.2.2.2.2.2.2 E.2.2.2.2.2.1 hP hD his hnd htis).1, (by rw [← hqc]; exact va_recv E.2.2.2.2.2.1 hP hcl hrv), (preM_mk E.2.2.2.2.2.2.2 E.2.2.2.2.2.1 hP hD his hnd htis).2⟩ rfl hn hl.1 rfl (lv_room hsum) hdg ⟨hcs.1, hcs.2⟩) hS (fun q _ h => hF q h) hF (fun u t H1 locs1 ht hvm hp hB hz hk hS1 => ?_)
    obtain ⟨hP1, hD1⟩ := hB
    rw [ht] at hP1
    have J := va_join (wr := wr) (w1 := w1 u) hP hD is isR his hisR hndR hdis hk hF hP1 hD1
    exact kk u hp H1 locs1 ls (pick_P J.1 (hperm u)) (J.2.sub perm hpn (hperm u)) hS1 hl
theorem r_sV (E : EE p s m args meth c D cl tys nL cc own Ts) {y : MethodName} {bytes : ByteArray} {maxL : Nat} {ret : Option FieldType} {wy : List Cond} {rm : Room} {wc : va_W} {tysc : List (ClassId × FieldType)} {As : List Value} {index : Nat} {st0 : List Value}  {S : Type} {post : S → Prop} {w1 : S → va_W} (hM : MV l y wy rm D cl As wc tysc post w1) (hG : GoodIn Ts (va_wsS own index y wy)) (n : Nat) (kf : KF y n wy bytes maxL ret) (hrc : rm.cells = 0 ∧ rm.slots = 0) (hR : rm.frames + 1 ≤ R.frames ∧ 8 + (maxL + 11) + rm.locals ≤ R.locals) (hdg : decode cc pc = .ok (.invokestatic index, 3)) (hn : As.length = n)  (hst : st0 = As.reverse ++ st) (hcs : cells ≤ R.cells ∧ slots ≤ R.slots) (is : List Nat) (his : is.map (fun i => ws[i]?) = wc.map some) (hnd : va_nd is = true) (tis : List Nat) (htis : tis.filterMap (fun i => tys[i]?) = tysc) (hsum : (st.map fun v => v.category).sum ≤ 8) (wr : va_W) (isR : List Nat) (hisR : isR.map (fun i => ws[i]?) = wr.map some) (hndR : va_nd isR = true) (hdis : ∀ i ∈ isR, i ∉ is) (hA : ∀ q : Nat, H0.size ≤ q → A q) (perm : List Nat) (hpn : va_nd perm = true) (ws2 : S → va_W) (hperm : ∀ u : S, perm.map (fun i => (wr ++ w1 u)[i]?) = (ws2 u).map some) (kk : ∀ u : S, post u → GG p l e R s m args below meth c D cl A A H0 nL cells slots Q (ws2 u) (lv) (pc + 3) (st)) : GG p l e R s m args below meth c D cl A A H0 nL cells slots Q (ws) (lv) (pc) (st0) :=
  fun H locs ls hP hD hS hl => by
    subst hst
    have hF := va_free (wc := wc) hD hS hA is his
    refine va_callv (va_runS (As := As) (rest := st) ⟨E.1, E.2.1, E.2.2.1, E.2.2.2.1, E.2.2.2.2.1⟩ (hM H.size) (cw_S E.2.2.2.2.1 hG kf hrc hR) (preM_mk E.2.2.2.2.2.2.2 E.2.2.2.2.2.1 hP hD his hnd htis) rfl hn hl.1 rfl (lv_room hsum) hdg ⟨hcs.1, hcs.2⟩) hS (fun q _ h => hF q h) hF (fun u t H1 locs1 ht hvm hp hB hz hk hS1 => ?_)
    obtain ⟨hP1, hD1⟩ := hB
    rw [ht] at hP1
    have J := va_join (wr := wr) (w1 := w1 u) hP hD is isR his hisR hndR hdis hk hF hP1 hD1
    exact kk u hp H1 locs1 ls (pick_P J.1 (hperm u)) (J.2.sub perm hpn (hperm u)) hS1 hl
theorem r_sPN (E : EE p s m args meth c D cl tys nL cc own Ts) {y : MethodName} {bytes : ByteArray} {maxL : Nat} {ret : Option FieldType} {wy : List Cond} {rm : Room} {As : List Value} {st0 : List Value} {val : Int} (hM : MP l y wy rm D cl As [] [] val) (hG : GoodIn Ts wy) (hst2 : Cond.static y ∈ Ts ∧ Cond.initialized y.cls ∈ Ts) (n : Nat) (kf : KF y n wy bytes maxL ret) (hrc : rm.cells = 0 ∧ rm.slots = 0) (hR : rm.frames + 1 ≤ R.frames ∧ 8 + (maxL + 11) + rm.locals ≤ R.locals) (hdg : decode cc pc = .ok (.invokestatic 46, 3)) (ho : own = "LeanSticks$Step") (hy : y = ⟨"LeanSticks", "otherHand", "(I)I"⟩) (hn : As.length = n) (hst : st0 = As.reverse ++ st) (hcs : cells ≤ R.cells ∧ slots ≤ R.slots) (hsum : (st.map fun v => v.category).sum ≤ 8) (kk : GG p l e R s m args below meth c D cl AD A H0 nL cells slots Q (ws) (lv) (pc + 3) (.int (iJ val) :: st)) : GG p l e R s m args below meth c D cl AD A H0 nL cells slots Q (ws) (lv) (pc) (st0) :=
  fun H locs ls hP hD hS hl => by
    subst hst
    refine va_calli (va_runSN (host := "LeanSticks") (As := As) (rest := st) ⟨E.1, E.2.1, E.2.2.1, E.2.2.2.1, E.2.2.2.2.1⟩ hM ⟨va_cnB n E.2.2.2.2.1 hG kf.1 hrc.1 hrc.2 (by rw [ho, hy]; exact E.2.2.2.2.2.2.2.2) (E.2.2.2.2.1 _ hst2.2) ⟨kf.2.1, kf.2.2.1, kf.2.2.2⟩ hR, E.2.2.2.2.1 _ hst2.1, trivial⟩ (preS_mk (is := []) (tis := []) (wc := []) E.2.2.2.2.2.2.2 E.2.2.2.2.2.1 hP hD rfl rfl rfl) rfl hn hl.1 rfl (lv_room hsum) hdg ⟨hcs.1, hcs.2⟩) hS (fun q _ h => h.elim) (fun q h => h.elim) (fun r u t H1 locs1 ht hvm hp hB hz hk hS1 => ?_)
    subst hp
    exact kk H1 locs1 ls (keep_P hP hk) hD hS1 hl

theorem r_retP (E : EE p s m args meth c D cl tys nL cc own Ts) {val v : Int} (hr : meth.sig.returnType = some .int) (hdg : decode cc pc = .ok (.ireturn, 1)) (hv : v = val) (hQ : Q = (MQ below (va_Qi (fun (r : Int32) (_ : Unit) => r = iJ val) (fun _ _ => True) (fun _ => False)) args s cells slots (fun _ => False))) : GG p l e R s m args below meth c D cl AD (fun _ => False) s.heap nL cells slots Q ws lv pc [.int (iJ v)] :=
  fun H locs ls hP hD hS hl => hQ ▸ W.iret E.1 E.2.1 hr (fun t ht hW => ⟨⟨iJ v, (), rfl, by rw [hv], trivial⟩, hS.F ht⟩) hS.2.2 hdg E.2.2.2.2.2.2.1
theorem r_retPZ (E : EE p s m args meth c D cl tys nL cc own Ts) {val v : Int} (hr : meth.sig.returnType = some .boolean) (hdg : decode cc pc = .ok (.ireturn, 1)) (h01 : v = 0 ∨ v = 1) (hv : v = val) (hQ : Q = (MQ below (va_Qi (fun (r : Int32) (_ : Unit) => r = iJ val) (fun _ _ => True) (fun _ => False)) args s cells slots (fun _ => False))) : GG p l e R s m args below meth c D cl AD (fun _ => False) s.heap nL cells slots Q ws lv pc [.int (iJ v)] :=
  fun H locs ls hP hD hS hl => hQ ▸ W.zret E.1 E.2.1 hr (narZ h01) (fun t ht hW => ⟨⟨iJ v, (), rfl, by rw [hv], trivial⟩, hS.F ht⟩) hS.2.2 hdg E.2.2.2.2.2.2.1
theorem r_retPL (E : EE p s m args meth c D cl tys nL cc own Ts) {val v : Int} (hr : meth.sig.returnType = some .long) (hdg : decode cc pc = .ok (.lreturn, 1)) (hv : v = val) (hQ : Q = (MQ below (va_Ql (fun (r : Int64) (_ : Unit) => r = lJ val) (fun _ _ => True) (fun _ => False)) args s cells slots (fun _ => False))) : GG p l e R s m args below meth c D cl AD (fun _ => False) s.heap nL cells slots Q ws lv pc [.long (lJ v)] :=
  fun H locs ls hP hD hS hl => hQ ▸ W.lret E.1 E.2.1 hr (fun t ht hW => ⟨⟨lJ v, (), rfl, by rw [hv], trivial⟩, hS.F ht⟩) hS.2.2 hdg E.2.2.2.2.2.2.1
theorem r_retM (E : EE p s m args meth c D cl tys nL cc own Ts) {S : Type} {val : S → Int} {post : S → Prop} {w1 : S → va_W} {v : Int} (u : S) (hr : meth.sig.returnType = some .int) (hdg : decode cc pc = .ok (.ireturn, 1)) (hv : v = val u) (hp : post u) (hw : ws = w1 u) (hQ : Q = (MQ below (va_Qi (fun (r : Int32) (u : S) => r = iJ (val u) ∧ post u) (fun u t => va_P D cl (w1 u) t.heap ∧ va_D A (w1 u)) A) args s cells slots A)) : GG p l e R s m args below meth c D cl A A s.heap nL cells slots Q ws lv pc [.int (iJ v)] :=
  fun H locs ls hP hD hS hl => hQ ▸ W.iret E.1 E.2.1 hr (fun t ht hW => ⟨⟨iJ v, u, rfl, ⟨by rw [hv], hp⟩, by rw [ht]; exact hw ▸ hP, hw ▸ hD⟩, hS.F ht⟩) hS.2.2 hdg E.2.2.2.2.2.2.1
theorem r_retMZ (E : EE p s m args meth c D cl tys nL cc own Ts) {S : Type} {val : S → Int} {post : S → Prop} {w1 : S → va_W} {v : Int} (u : S) (hr : meth.sig.returnType = some .boolean) (hdg : decode cc pc = .ok (.ireturn, 1)) (h01 : v = 0 ∨ v = 1) (hv : v = val u) (hp : post u) (hw : ws = w1 u) (hQ : Q = (MQ below (va_Qi (fun (r : Int32) (u : S) => r = iJ (val u) ∧ post u) (fun u t => va_P D cl (w1 u) t.heap ∧ va_D A (w1 u)) A) args s cells slots A)) : GG p l e R s m args below meth c D cl A A s.heap nL cells slots Q ws lv pc [.int (iJ v)] :=
  fun H locs ls hP hD hS hl => hQ ▸ W.zret E.1 E.2.1 hr (narZ h01) (fun t ht hW => ⟨⟨iJ v, u, rfl, ⟨by rw [hv], hp⟩, by rw [ht]; exact hw ▸ hP, hw ▸ hD⟩, hS.F ht⟩) hS.2.2 hdg E.2.2.2.2.2.2.1
theorem r_retMV (E : EE p s m args meth c D cl tys nL cc own Ts) {S : Type} {post : S → Prop} {w1 : S → va_W} (u : S) (hr : meth.sig.returnType = none) (hdg : decode cc pc = .ok (.return_, 1)) (hp : post u) (hw : ws = w1 u) (hQ : Q = (MQ below (va_Qv (fun (u : S) => post u) (fun u t => va_P D cl (w1 u) t.heap ∧ va_D A (w1 u)) A) args s cells slots A)) : GG p l e R s m args below meth c D cl A A s.heap nL cells slots Q ws lv pc [] :=
  fun H locs ls hP hD hS hl => hQ ▸ W.vret E.1 E.2.1 hr (fun t ht hW => ⟨⟨u, rfl, hp, by rw [ht]; exact hw ▸ hP, hw ▸ hD⟩, hS.F ht⟩) hS.2.2 hdg E.2.2.2.2.2.2.1
end JLB
