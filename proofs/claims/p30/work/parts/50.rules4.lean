/-! constructors -/
theorem va_RA_inj {s : State} {cA cB : ClassId} {ty : FieldType} (h1 : va_RA s cA ty) (h2 : va_RA s cB ty) : cA = cB := by
  cases ty with
  | object C =>
    obtain ⟨_, _, _, _, _, h⟩ := h1
    obtain ⟨_, _, _, _, _, g⟩ := h2
    exact Option.some.inj (h.symm.trans g)
  | _ => exact Option.some.inj (h1.symm.trans h2)
def MI {S : Type} (l : Launch) (y : MethodName) (wy : List Cond) (rm : Room) (D : va_G) (cl : List vw_C) (av : List Value) (wc : va_W) (tys : List (ClassId × FieldType)) (mc ms : Nat) (w1 : S → va_W) : Prop :=
  ∀ sz : Nat, Met l y wy rm (va_Pc av (fun U => U.heap.size = sz ∧ PW D cl wc tys U ∧ va_AO "LeanSticks$Piece" U)) (va_Qv (fun (_ : S) => True) (fun u t => va_P D cl (w1 u) t.heap ∧ va_D (va_A wc sz) (w1 u)) (va_A wc sz)) mc ms (va_A wc sz)
section
variable {l : Launch} {y : MethodName} {wy : List Cond} {rm : Room} {D : va_G} {cl : List vw_C} {av : List Value} {wc : va_W} {tys : List (ClassId × FieldType)} {cc : ByteArray} {maxL : Nat} {ret : Option FieldType} {lv : List (Nat × Value)}
theorem MI.mk {S : Type} {w1 : S → va_W} {mc ms : Nat} (hy : plainName y.cls = true) (hw : wy = Cond.code y cc maxL ret :: wy.tail) (hlen : (lg_sl av).length ≤ maxL) (hlv : lv_args 0 av = lv) (own : String) (ho : y.cls = own) (hin : y.name = "<init>")
    (body : ∀ (p : Program) (e : Env) (s : State) (m : MethodId) (args : Array Value) (below : List Frame) (meth : Method) (c : Code) (B : Nat → Prop) (Q : State → Prop), (∀ q : Nat, s.heap.size ≤ q → B q) → va_AO "LeanSticks$Piece" s → meth.name = "<init>" → EE p s m args meth c D cl tys maxL cc own wy → meth.sig.returnType = ret → Q = (MQ below (va_Qv (fun (_ : S) => True) (fun u t => va_P D cl (w1 u) t.heap ∧ va_D B (w1 u)) B) args s mc ms B) →
      GG p l e rm s m args below meth c D cl B B s.heap maxL 0 0 Q wc lv 0 []) : MI l y wy rm D cl av wc tys mc ms w1 := by
  intro sz
  refine Met.ofW (cc := cc) (maxL := maxL) (ret := ret) hy hw ?_
  intro p e s m args below meth c s₁ B hml hv
  obtain ⟨rfl, rfl, ⟨hP, hK, hD, hNS⟩, hAO⟩ := hv
  have hl := lv_entry av (n := maxL) hlen
  rw [lg_entry_eq]
  subst ho
  exact body p e s m _ below meth c (va_A wc s.heap.size) _ (fun q h => Or.inr h) hAO ((name_of_methodNamed B.named B.method).1.trans hin) ⟨B.exec, B.bytes, hml, findClass_of_methodNamed B.named, atoms_spec (ws := wy) B.pre, hK, B.notSynchronized, hNS⟩ B.returns rfl s.heap [] _ hP hD.self va_S.rf (hlv ▸ hl)
end
section
variable {p : Program} {l : Launch} {e : Env} {R : Room} {s : State} {m : MethodId} {args : Array Value} {below : List Frame} {meth : Method} {c : Code} {D : va_G} {cl : List vw_C} {AD A : Nat → Prop} {H0 : Heap} {tys : List (ClassId × FieldType)} {nL cells slots : Nat} {Q : State → Prop} {ws : va_W} {lv : List (Nat × Value)} {pc : Nat} {st : List Value} {cc : ByteArray} {own : String} {Ts : List Cond}
theorem r_perm (perm : List Nat) (hpn : va_nd perm = true) (ws2 : va_W) (h : perm.map (fun i => ws[i]?) = ws2.map some) (kk : GG p l e R s m args below meth c D cl A A H0 nL cells slots Q ws2 lv pc st) : GG p l e R s m args below meth c D cl A A H0 nL cells slots Q ws lv pc st :=
  fun H locs ls hP hD hS hl => kk H locs ls (pick_P hP h) (hD.sub perm hpn h) hS hl
theorem r_new (E : EE p s m args meth c D cl tys nL cc own Ts) {C : String} {T : u_T} {N index : Nat} (ci : Nat) (fs : List Value) (ty0 : Nat → FieldType) (hty : ∀ k, k < N → parseFieldDescriptor (T k).2.2.1 = some (ty0 k)) (hdg : decode cc pc = .ok (.new index, 3)) (hin : ∀ w ∈ u_ws C T N, w ∈ Ts) (hcl : Cond.classLink own index C ∈ Ts) (hinst : Cond.instantiable C N ∈ Ts) (hini : Cond.initialized C ∈ Ts) (hc : cl[ci]? = some (C, T, N)) (hfs : ∀ j, j < N → defaultValue (ty0 j) = vp_V fs j) (hR : cells + 1 ≤ R.cells ∧ slots + N ≤ R.slots) (c2 s2 : Nat) (hcs : cells + 1 = c2 ∧ slots + N = s2) (hA : ∀ q : Nat, H0.size ≤ q → A q) (kk : ∀ q : Nat, GG p l e R s m args below meth c D cl A A H0 nL c2 s2 Q (ws ++ [(q, .inr (ci, fs))]) lv (pc + 3) (.ref q :: st)) : GG p l e R s m args below meth c D cl A A H0 nL cells slots Q ws lv pc st :=
  fun H locs ls hP hD hS hl => va_new E.1 E.2.1 E.2.2.2.2.1 hin ty0 hty E.2.2.2.1 (E.2.2.2.2.1 _ hcl) (E.2.2.2.2.1 _ hinst) (E.2.2.2.2.1 _ hini) E.2.2.2.2.2.1 hP hD hS hA hc hfs hR.1 hR.2 hdg (fun q H1 hP1 hD1 hS1 => by
    rw [hcs.1, hcs.2]; exact kk q H1 locs ls hP1 hD1 hS1 hl)
theorem r_newa (E : EE p s m args meth c D cl tys nL cc own Ts) (t0 : Nat) {cA0 : ClassId} {atype : ArrayType} {ty : FieldType} (hty : newarray.typeOf atype = ty) (ht : tys[t0]? = some (cA0, ty)) (hdg : decode cc pc = .ok (.newarray atype, 2)) (harr : Cond.arrayClass (newarray.typeOf atype) ∈ Ts) {z : Int} {N : Nat} (a0 : vp_A) (ha : ∀ cA : ClassId, vp_cell cA a0 = arrV cA N (fun _ => defaultValue ty)) (hz : ¬ iJ z < 0) (hN : (iJ z).toNatClampNeg = N) (hb : N * componentBytes ty ≤ 536870912) (hR : cells + 1 ≤ R.cells ∧ slots + N ≤ R.slots) (c2 s2 : Nat) (hcs : cells + 1 = c2 ∧ slots + N = s2) (hA : ∀ q : Nat, H0.size ≤ q → A q) (kk : ∀ q : Nat, GG p l e R s m args below meth c D cl A A H0 nL c2 s2 Q (ws ++ [(q, .inl (cA0, a0))]) lv (pc + 2) (.ref q :: st)) : GG p l e R s m args below meth c D cl A A H0 nL cells slots Q ws lv pc (.int (iJ z) :: st) :=
  fun H locs ls hP hD hS hl => va_newa E.1 E.2.1 (E.2.2.2.2.1 _ harr) hty E.2.2.2.2.2.1 hP hD hS hA ha hz hN hb hR.1 hR.2 hdg (fun q cA H1 hK1 hP1 hD1 hS1 => by
    have e : cA = cA0 := va_RA_inj (hK1.2 tys.length (cA, ty) (by simp)).2 (E.2.2.2.2.2.1.2 t0 _ ht).2
    subst e; rw [hcs.1, hcs.2]; exact kk q H1 locs ls hP1 hD1 hS1 hl)
theorem r_newq (E : EE p s m args meth c D cl tys nL cc own Ts) (t0 : Nat) {cA0 : ClassId} {index : Nat} {C : String} (ht : tys[t0]? = some (cA0, .object C)) (hdg : decode cc pc = .ok (.anewarray index, 3)) (hcl : Cond.classLink own index C ∈ Ts) (hAO : va_AO C s) {z : Int} {N : Nat} (hz : ¬ iJ z < 0) (hN : (iJ z).toNatClampNeg = N) (hb : N * 4 ≤ 536870912) (hR : cells + 1 ≤ R.cells ∧ slots + N ≤ R.slots) (c2 s2 : Nat) (hcs : cells + 1 = c2 ∧ slots + N = s2) (hA : ∀ q : Nat, H0.size ≤ q → A q) (kk : ∀ q : Nat, GG p l e R s m args below meth c D cl A A H0 nL c2 s2 Q (ws ++ [(q, cR cA0 N (fun _ => none))]) lv (pc + 3) (.ref q :: st)) : GG p l e R s m args below meth c D cl A A H0 nL cells slots Q ws lv pc (.int (iJ z) :: st) :=
  fun H locs ls hP hD hS hl => va_newq E.1 E.2.1 E.2.2.2.1 (E.2.2.2.2.1 _ hcl) hAO E.2.2.2.2.2.1 hP hD hS hA hz hN hb hR.1 hR.2 hdg (fun q cA H1 hK1 hP1 hD1 hS1 => by
    have e : cA = cA0 := va_RA_inj (hK1.2 tys.length (cA, .object C) (by simp)).2 (E.2.2.2.2.2.1.2 t0 _ ht).2
    subst e; rw [hcs.1, hcs.2]; exact kk q H1 locs ls hP1 hD1 hS1 hl)
theorem r_objI (E : EE p s m args meth c D cl tys nL cc own Ts) {idx a : Nat} (hdg : decode cc pc = .ok (.invokespecial idx, 3)) (hl1 : Cond.methodLink own idx Lib.objectInit ∈ Ts) (hl2 : Cond.instanceMethod Lib.objectInit ∈ Ts) (hl3 : Cond.code Lib.objectInit ⟨#[0xb1]⟩ 1 none ∈ Ts) (hf : 1 ≤ R.frames) (hlo : 20 ≤ R.locals) (hsum : (st.map fun v => v.category).sum ≤ 8) (kk : GG p l e R s m args below meth c D cl A A H0 nL cells slots Q ws lv (pc + 3) st) : GG p l e R s m args below meth c D cl A A H0 nL cells slots Q ws lv pc (.ref a :: st) :=
  fun H locs ls hP hD hS hl => by
    refine W.objInit E.1 E.2.1 E.2.2.2.1 (E.2.2.2.2.1 _ hl1) (E.2.2.2.2.1 _ hl2) (E.2.2.2.2.1 _ hl3) rfl (by rw [E.2.2.1]; exact hl.1) rfl hdg hf (Nat.le_trans (Nat.add_le_add_right (lv_room (rest := .ref a :: st) (m := m) (pc := pc) (ls := ls) hsum) 12) hlo) ?_
    refine W.eq (g2 := F0 m (pc + 3) ls st) rfl ?_
    exact kk H locs ls hP hD hS hl
theorem preI_mk {H : Heap} {is tis : List Nat} {wc : va_W} {tysc : List (ClassId × FieldType)} {av : List Value} (hNS : NS s) (hAO : va_AO "LeanSticks$Piece" s) (hK : va_K D cl tys s) (hP : va_P D cl ws H) (hD : va_D AD ws) (his : is.map (fun i => ws[i]?) = wc.map some) (hnd : va_nd is = true) (htis : tis.filterMap (fun i => tys[i]?) = tysc) : PreS s H (va_Pc av (fun U => U.heap.size = H.size ∧ PW D cl wc tysc U ∧ va_AO "LeanSticks$Piece" U)) av :=
  ⟨fun a U g mk q => ⟨q.1, q.2.1, q.2.2.1.moved g mk a, va_AO.moved (u := U) (U := U.calling g mk a) (Vm.Alike.refl U.vm) q.2.2.2⟩, fun U hU hW => ⟨rfl, by rw [hU], ⟨by rw [hU]; exact pick_P hP his, va_K.moved hW.alike (hK.sub tis htis), (hD.sub is hnd his).weaken (fun _ _ _ _ => trivial), hNS.warm hW⟩, va_AO.moved hW.alike hAO⟩⟩
theorem r_iMI (E : EE p s m args meth c D cl tys nL cc own Ts) (hAO : va_AO "LeanSticks$Piece" s) {y : MethodName} {bytes : ByteArray} {maxL : Nat} {wy : List Cond} {rm : Room} {wc : va_W} {tysc : List (ClassId × FieldType)} {index : Nat} {b mc ms : Nat} {S : Type} {w1 : S → va_W} (hM : MI l y wy rm D cl [.ref b] wc tysc mc ms w1) (hG : GoodIn Ts wy) (kf : KF y 0 wy bytes maxL none) (hin : y.name = "<init>") (hl1 : Cond.methodLink own index y ∈ Ts) (hl2 : Cond.instanceMethod y ∈ Ts) (hl3 : Cond.initialized y.cls ∈ Ts) (hrc : rm.cells = mc ∧ rm.slots = ms) (hR : rm.frames + 1 ≤ R.frames ∧ 8 + (maxL + 11) + rm.locals ≤ R.locals) (hdg : decode cc pc = .ok (.invokespecial index, 3)) (hcR : cells + mc ≤ R.cells ∧ slots + ms ≤ R.slots) (c2 s2 : Nat) (hcs : cells + mc = c2 ∧ slots + ms = s2) (is : List Nat) (his : is.map (fun i => ws[i]?) = wc.map some) (hnd : va_nd is = true) (tis : List Nat) (htis : tis.filterMap (fun i => tys[i]?) = tysc) (hsum : (st.map fun v => v.category).sum ≤ 8) (wr : va_W) (isR : List Nat) (hisR : isR.map (fun i => ws[i]?) = wr.map some) (hndR : va_nd isR = true) (hdis : ∀ i ∈ isR, i ∉ is) (hA : ∀ q : Nat, H0.size ≤ q → A q) (perm : List Nat) (hpn : va_nd perm = true) (ws2 : S → va_W) (hperm : ∀ u : S, perm.map (fun i => (wr ++ w1 u)[i]?) = (ws2 u).map some) (kk : ∀ u : S, GG p l e R s m args below meth c D cl A A H0 nL c2 s2 Q (ws2 u) lv (pc + 3) st) : GG p l e R s m args below meth c D cl A A H0 nL cells slots Q ws lv pc (.ref b :: st) :=
  fun H locs ls hP hD hS hl => by
    have hF := va_free (wc := wc) hD hS hA is his
    refine va_callv (va_runI (As := []) (rest := st) ⟨E.1, E.2.1, E.2.2.1, E.2.2.2.1, E.2.2.2.2.1⟩ (hM H.size) (cwI 0 E.2.2.2.2.1 hG kf.1 hrc.1 hrc.2 (E.2.2.2.2.1 _ hl3) (E.2.2.2.2.1 _ hl1) (E.2.2.2.2.1 _ hl2) hin ⟨kf.2.1, kf.2.2.1, kf.2.2.2⟩ hR) (preI_mk E.2.2.2.2.2.2.2 hAO E.2.2.2.2.2.1 hP hD his hnd htis) rfl rfl hl.1 rfl (lv_room hsum) hdg hcR) hS (fun q _ h => hF q h) hF (fun u t H1 locs1 ht hvm hp hB hz hk hS1 => ?_)
    obtain ⟨hP1, hD1⟩ := hB
    rw [ht] at hP1
    have J := va_join (wr := wr) (w1 := w1 u) hP hD is isR his hisR hndR hdis hk hF hP1 hD1
    rw [hcs.1, hcs.2]
    exact kk u H1 locs1 ls (pick_P J.1 (hperm u)) (J.2.sub perm hpn (hperm u)) hS1 hl
theorem r_retMI (E : EE p s m args meth c D cl tys nL cc own Ts) {S : Type} {w1 : S → va_W} (u : S) (hr : meth.sig.returnType = none) (hdg : decode cc pc = .ok (.return_, 1)) (hw : ws = w1 u) (hQ : Q = (MQ below (va_Qv (fun (_ : S) => True) (fun u t => va_P D cl (w1 u) t.heap ∧ va_D A (w1 u)) A) args s cells slots A)) : GG p l e R s m args below meth c D cl A A s.heap nL cells slots Q ws lv pc [] :=
  fun H locs ls hP hD hS hl => hQ ▸ W.vret E.1 E.2.1 hr (fun t ht hW => ⟨⟨u, rfl, trivial, by rw [ht]; exact hw ▸ hP, hw ▸ hD⟩, hS.F ht⟩) hS.2.2 hdg E.2.2.2.2.2.2.1
end
theorem hF_new (q0 q1 q2 q3 : Nat) : va_up (va_up (va_up (va_up (fun _ => none) (0 : Int).toNat (some q0)) (1 : Int).toNat (some q1)) (2 : Int).toNat (some q2)) (3 : Int).toNat (some q3) = hF (fun k => if k = 0 then q0 else if k = 1 then q1 else if k = 2 then q2 else q3) := by
  funext j
  match j with
  | 0 => rfl
  | 1 => rfl
  | 2 => rfl
  | 3 => rfl
  | j + 4 =>
    have h0 : ¬ (j + 4 = 0) := by omega
    have h1 : ¬ (j + 4 = 1) := by omega
    have h2 : ¬ (j + 4 = 2) := by omega
    have h3 : ¬ (j + 4 = 3) := by omega
    have h4 : ¬ (j + 4 < 4) := by omega
    show (if j + 4 = 3 then _ else if j + 4 = 2 then _ else if j + 4 = 1 then _ else if j + 4 = 0 then _ else none) = (if j + 4 < 4 then _ else none)
    rw [if_neg h0, if_neg h1, if_neg h2, if_neg h3, if_neg h4]

