/-! boolean diamonds, the script's array, doubles -/
section
variable {p : Program} {l : Launch} {e : Env} {R : Room} {s : State} {m : MethodId} {args : Array Value} {below : List Frame} {meth : Method} {c : Code} {D : va_G} {cl : List vw_C} {AD A : Nat → Prop} {H0 : Heap} {tys : List (ClassId × FieldType)} {nL cells slots : Nat} {Q : State → Prop} {ws : va_W} {lv : List (Nat × Value)} {pc : Nat} {st : List Value} {cc : ByteArray} {own : String} {Ts : List Cond}
theorem r_dm_ine (E : EE p s m args meth c D cl tys nL cc own Ts) {a b : Int} (h0 : decode cc pc = .ok (.if_icmp .ne 7, 3)) (d1 : decode cc (pc + 3) = .ok (.iconst 1, 1)) (d2 : decode cc (pc + 4) = .ok (.goto 4, 3)) (d3 : decode cc (pc + 7) = .ok (.iconst 0, 1)) (hA : jb a) (hB : jb b) (kk : GG p l e R s m args below meth c D cl AD A H0 nL cells slots Q (ws) (lv) (pc + 8) (.int (iJ (b2 (a = b))) :: st)) : GG p l e R s m args below meth c D cl AD A H0 nL cells slots Q (ws) (lv) (pc) (.int (iJ b) :: .int (iJ a) :: st) := by
  refine r_icmp_ne E (pc + 7) h0 (by omega) hA hB (fun q => ?_) (fun q => ?_)
  · refine r_iconst E 0 rfl d3 ?_
    rw [b2_f (show ¬ (a = b) from q)] at kk; exact kk
  · refine r_iconst E 1 rfl d1 ?_
    refine r_goto E (pc + 8) d2 (by omega) ?_
    rw [b2_t (show a = b from q)] at kk; exact kk
theorem r_dm_ieq (E : EE p s m args meth c D cl tys nL cc own Ts) {a b : Int} (h0 : decode cc pc = .ok (.if_icmp .eq 7, 3)) (d1 : decode cc (pc + 3) = .ok (.iconst 1, 1)) (d2 : decode cc (pc + 4) = .ok (.goto 4, 3)) (d3 : decode cc (pc + 7) = .ok (.iconst 0, 1)) (hA : jb a) (hB : jb b) (kk : GG p l e R s m args below meth c D cl AD A H0 nL cells slots Q (ws) (lv) (pc + 8) (.int (iJ (b2 (¬ a = b))) :: st)) : GG p l e R s m args below meth c D cl AD A H0 nL cells slots Q (ws) (lv) (pc) (.int (iJ b) :: .int (iJ a) :: st) := by
  refine r_icmp_eq E (pc + 7) h0 (by omega) hA hB (fun q => ?_) (fun q => ?_)
  · refine r_iconst E 0 rfl d3 ?_
    rw [b2_f (show ¬ (¬ a = b) from (fun z => z q))] at kk; exact kk
  · refine r_iconst E 1 rfl d1 ?_
    refine r_goto E (pc + 8) d2 (by omega) ?_
    rw [b2_t (show ¬ a = b from q)] at kk; exact kk
theorem r_dm_ilt (E : EE p s m args meth c D cl tys nL cc own Ts) {a b : Int} (h0 : decode cc pc = .ok (.if_icmp .lt 7, 3)) (d1 : decode cc (pc + 3) = .ok (.iconst 1, 1)) (d2 : decode cc (pc + 4) = .ok (.goto 4, 3)) (d3 : decode cc (pc + 7) = .ok (.iconst 0, 1)) (hA : jb a) (hB : jb b) (kk : GG p l e R s m args below meth c D cl AD A H0 nL cells slots Q (ws) (lv) (pc + 8) (.int (iJ (b2 (b ≤ a))) :: st)) : GG p l e R s m args below meth c D cl AD A H0 nL cells slots Q (ws) (lv) (pc) (.int (iJ b) :: .int (iJ a) :: st) := by
  refine r_icmp_lt E (pc + 7) h0 (by omega) hA hB (fun q => ?_) (fun q => ?_)
  · refine r_iconst E 0 rfl d3 ?_
    rw [b2_f (show ¬ (b ≤ a) from (by omega))] at kk; exact kk
  · refine r_iconst E 1 rfl d1 ?_
    refine r_goto E (pc + 8) d2 (by omega) ?_
    rw [b2_t (show b ≤ a from (by omega))] at kk; exact kk
theorem r_dm_le (E : EE p s m args meth c D cl tys nL cc own Ts) {a : Int} (h0 : decode cc pc = .ok (.ifCond .le 7, 3)) (d1 : decode cc (pc + 3) = .ok (.iconst 1, 1)) (d2 : decode cc (pc + 4) = .ok (.goto 4, 3)) (d3 : decode cc (pc + 7) = .ok (.iconst 0, 1)) (hA : jb a) (kk : GG p l e R s m args below meth c D cl AD A H0 nL cells slots Q (ws) (lv) (pc + 8) (.int (iJ (b2 (0 < a))) :: st)) : GG p l e R s m args below meth c D cl AD A H0 nL cells slots Q (ws) (lv) (pc) (.int (iJ a) :: st) := by
  refine r_if_le E (pc + 7) h0 (by omega) hA (fun q => ?_) (fun q => ?_)
  · refine r_iconst E 0 rfl d3 ?_
    rw [b2_f (show ¬ (0 < a) from (by omega))] at kk; exact kk
  · refine r_iconst E 1 rfl d1 ?_
    refine r_goto E (pc + 8) d2 (by omega) ?_
    rw [b2_t (show 0 < a from (by omega))] at kk; exact kk
theorem r_dm_eq (E : EE p s m args meth c D cl tys nL cc own Ts) {a : Int} (h0 : decode cc pc = .ok (.ifCond .eq 7, 3)) (d1 : decode cc (pc + 3) = .ok (.iconst 1, 1)) (d2 : decode cc (pc + 4) = .ok (.goto 4, 3)) (d3 : decode cc (pc + 7) = .ok (.iconst 0, 1)) (hA : jb a) (kk : GG p l e R s m args below meth c D cl AD A H0 nL cells slots Q (ws) (lv) (pc + 8) (.int (iJ (b2 (¬ a = 0))) :: st)) : GG p l e R s m args below meth c D cl AD A H0 nL cells slots Q (ws) (lv) (pc) (.int (iJ a) :: st) := by
  refine r_if_eq E (pc + 7) h0 (by omega) hA (fun q => ?_) (fun q => ?_)
  · refine r_iconst E 0 rfl d3 ?_
    rw [b2_f (show ¬ (¬ a = 0) from (fun z => z q))] at kk; exact kk
  · refine r_iconst E 1 rfl d1 ?_
    refine r_goto E (pc + 8) d2 (by omega) ?_
    rw [b2_t (show ¬ a = 0 from q)] at kk; exact kk
theorem r_dm_ne (E : EE p s m args meth c D cl tys nL cc own Ts) {a : Int} (h0 : decode cc pc = .ok (.ifCond .ne 7, 3)) (d1 : decode cc (pc + 3) = .ok (.iconst 1, 1)) (d2 : decode cc (pc + 4) = .ok (.goto 4, 3)) (d3 : decode cc (pc + 7) = .ok (.iconst 0, 1)) (hA : jb a) (kk : GG p l e R s m args below meth c D cl AD A H0 nL cells slots Q (ws) (lv) (pc + 8) (.int (iJ (b2 (a = 0))) :: st)) : GG p l e R s m args below meth c D cl AD A H0 nL cells slots Q (ws) (lv) (pc) (.int (iJ a) :: st) := by
  refine r_if_ne E (pc + 7) h0 (by omega) hA (fun q => ?_) (fun q => ?_)
  · refine r_iconst E 0 rfl d3 ?_
    rw [b2_f (show ¬ (a = 0) from q)] at kk; exact kk
  · refine r_iconst E 1 rfl d1 ?_
    refine r_goto E (pc + 8) d2 (by omega) ?_
    rw [b2_t (show a = 0 from q)] at kk; exact kk
theorem r_dm_eqb (E : EE p s m args meth c D cl tys nL cc own Ts) {P : Prop} [Decidable P] (h0 : decode cc pc = .ok (.ifCond .eq 7, 3)) (d1 : decode cc (pc + 3) = .ok (.iconst 1, 1)) (d2 : decode cc (pc + 4) = .ok (.goto 4, 3)) (d3 : decode cc (pc + 7) = .ok (.iconst 0, 1)) (kk : GG p l e R s m args below meth c D cl AD A H0 nL cells slots Q (ws) (lv) (pc + 8) (.int (iJ (b2 P)) :: st)) : GG p l e R s m args below meth c D cl AD A H0 nL cells slots Q (ws) (lv) (pc) (.int (iJ (b2 P)) :: st) := by
  refine r_ifeq_b E (pc + 7) h0 (by omega) (fun q => ?_) (fun q => ?_)
  · refine r_iconst E 0 rfl d3 ?_
    rw [b2_f q] at kk; exact kk
  · refine r_iconst E 1 rfl d1 ?_
    refine r_goto E (pc + 8) d2 (by omega) ?_
    rw [b2_t q] at kk; exact kk
theorem r_sld (E : EE p s m args meth c D cl tys nL cc own Ts) {b L : Nat} {xs : Nat → Int32} (hX : va_X b L xs s H0) (hbl : b < H0.size) (hbA : ¬ A b) (hL : L ≤ 260) {i : Int} (hi : 0 ≤ i ∧ i < (L : Int)) (v : Int) (hv : (xs i.toNat).toInt = v) (hdg : decode cc pc = .ok (.iaload, 1)) (kk : GG p l e R s m args below meth c D cl AD A H0 nL cells slots Q (ws) (lv) (pc + 1) (.int (iJ v) :: st)) : GG p l e R s m args below meth c D cl AD A H0 nL cells slots Q (ws) (lv) (pc) (.int (iJ i) :: .ref b :: st) :=
  fun H locs ls hP hD hS hl => va_sld E.1 E.2.1 hX hbl hbA hS (iJ_in hi (by omega)) hdg (by
    have e : xs (iJ i).toNatClampNeg = iJ v := by
      rw [iJ_cl (jb_in hi (by omega)), ← hv]; exact iJ_of _
    rw [e]; exact kk H locs ls hP hD hS hl)
theorem r_slen (E : EE p s m args meth c D cl tys nL cc own Ts) {b L : Nat} {xs : Nat → Int32} (hX : va_X b L xs s H0) (hbl : b < H0.size) (hbA : ¬ A b) (hdg : decode cc pc = .ok (.arraylength, 1)) (kk : GG p l e R s m args below meth c D cl AD A H0 nL cells slots Q (ws) (lv) (pc + 1) (.int (iJ (L : Int)) :: st)) : GG p l e R s m args below meth c D cl AD A H0 nL cells slots Q (ws) (lv) (pc) (.ref b :: st) :=
  fun H locs ls hP hD hS hl => va_slen E.1 E.2.1 hX hbl hbA hS hdg (by rw [show Int32.ofNat L = iJ (L : Int) from iJ_nI L]; exact kk H locs ls hP hD hS hl)
theorem r_topD {a : UInt64} (b : UInt64) (h : a = b) (kk : GG p l e R s m args below meth c D cl AD A H0 nL cells slots Q (ws) (lv) (pc) (.double b :: st)) : GG p l e R s m args below meth c D cl AD A H0 nL cells slots Q (ws) (lv) (pc) (.double a :: st) := h ▸ kk
theorem r_deq (E : EE p s m args meth c D cl tys nL cc own Ts) {x : UInt64} (hx : FP.dcmp x x = some .eq) (hdg : decode cc pc = .ok (.dcmp .l, 1)) (kk : GG p l e R s m args below meth c D cl AD A H0 nL cells slots Q (ws) (lv) (pc + 1) (.int (iJ 0) :: st)) : GG p l e R s m args below meth c D cl AD A H0 nL cells slots Q (ws) (lv) (pc) (.double x :: .double x :: st) :=
  fun H locs ls hP hD hS hl => lv_dcmp E.1 E.2.1 hdg (by rw [hx]; exact kk H locs ls hP hD hS hl)
end
/-- a method that reads the script: contract -/
def MX (l : Launch) (y : MethodName) (wy : List Cond) (rm : Room) (D : va_G) (cl : List vw_C) (av : List Value) (b L : Nat) (xs : Nat → Int32) (val : Int) : Prop :=
  Met l y wy rm (va_Pc av (fun U => (va_X b L xs U U.heap ∧ b < U.heap.size) ∧ PW D cl [] [] U)) (va_Qi (fun (r : Int32) (_ : Unit) => r = iJ val) (fun _ _ => True) (fun _ => False)) 0 0 (fun _ => False)
theorem MX.mk {l : Launch} {y : MethodName} {wy : List Cond} {rm : Room} {D : va_G} {cl : List vw_C} {av : List Value} {cc : ByteArray} {maxL : Nat} {ret : Option FieldType} {lv : List (Nat × Value)} {b L : Nat} {xs : Nat → Int32} {val : Int} (hy : plainName y.cls = true) (hw : wy = Cond.code y cc maxL ret :: wy.tail) (hlen : (lg_sl av).length ≤ maxL) (hlv : lv_args 0 av = lv) (own : String) (ho : y.cls = own)
    (body : ∀ (p : Program) (e : Env) (s : State) (m : MethodId) (args : Array Value) (below : List Frame) (meth : Method) (c : Code) (Q : State → Prop), va_X b L xs s s.heap → b < s.heap.size → EE p s m args meth c D cl [] maxL cc own wy → meth.sig.returnType = ret → Q = (MQ below (va_Qi (fun (r : Int32) (_ : Unit) => r = iJ val) (fun _ _ => True) (fun _ => False)) args s 0 0 (fun _ => False)) →
      GG p l e rm s m args below meth c D cl (fun _ => True) (fun _ => False) s.heap maxL 0 0 Q [] lv 0 []) : MX l y wy rm D cl av b L xs val := by
  refine Met.ofW (cc := cc) (maxL := maxL) (ret := ret) hy hw ?_
  intro p e s m args below meth c s₁ B hml hv
  obtain ⟨rfl, ⟨hX, hbl⟩, hP, hK, hD, hNS⟩ := hv
  have hl := lv_entry av (n := maxL) hlen
  rw [lg_entry_eq]
  subst ho
  exact body p e s m _ below meth c _ hX hbl ⟨B.exec, B.bytes, hml, findClass_of_methodNamed B.named, atoms_spec (ws := wy) B.pre, hK, B.notSynchronized, hNS⟩ B.returns rfl s.heap [] _ hP hD va_S.rf (hlv ▸ hl)
section
variable {p : Program} {l : Launch} {e : Env} {R : Room} {s : State} {m : MethodId} {args : Array Value} {below : List Frame} {meth : Method} {c : Code} {D : va_G} {cl : List vw_C} {AD A : Nat → Prop} {H0 : Heap} {tys : List (ClassId × FieldType)} {nL cells slots : Nat} {Q : State → Prop} {ws : va_W} {lv : List (Nat × Value)} {pc : Nat} {st : List Value} {cc : ByteArray} {own : String} {Ts : List Cond}
theorem r_sX (E : EE p s m args meth c D cl tys nL cc own Ts) {y : MethodName} {bytes : ByteArray} {maxL : Nat} {ret : Option FieldType} {wy : List Cond} {rm : Room} {As : List Value} {index : Nat} {st0 : List Value} {val : Int} {b L : Nat} {xs : Nat → Int32} (hX : va_X b L xs s H0) (hbl : b < H0.size) (hbA : ¬ A b) (hM : MX l y wy rm D cl As b L xs val) (hG : GoodIn Ts (va_wsS own index y wy)) (n : Nat) (kf : KF y n wy bytes maxL ret) (hrc : rm.cells = 0 ∧ rm.slots = 0) (hR : rm.frames + 1 ≤ R.frames ∧ 8 + (maxL + 11) + rm.locals ≤ R.locals) (hdg : decode cc pc = .ok (.invokestatic index, 3)) (hn : As.length = n) (hst : st0 = As.reverse ++ st) (hcs : cells ≤ R.cells ∧ slots ≤ R.slots) (hsum : (st.map fun v => v.category).sum ≤ 8) (hsz : ∀ (H : Heap) (locs : List Loc), va_S A H0 H locs → b < H.size) (kk : GG p l e R s m args below meth c D cl AD A H0 nL cells slots Q (ws) (lv) (pc + 3) (.int (iJ val) :: st)) : GG p l e R s m args below meth c D cl AD A H0 nL cells slots Q (ws) (lv) (pc) (st0) :=
  fun H locs ls hP hD hS hl => by
    subst hst
    have hXH : va_X b L xs s H := hX.kept (hS.2.1 b hbl hbA)
    refine va_calli (va_runS (As := As) (rest := st) ⟨E.1, E.2.1, E.2.2.1, E.2.2.2.1, E.2.2.2.2.1⟩ hM (cw_S E.2.2.2.2.1 hG kf hrc hR) ⟨fun a U g mk q => ⟨q.1, ⟨va_X.moved (u := U) (U := U.calling g mk a) (Vm.Alike.refl U.vm) q.2.1.1, q.2.1.2⟩, q.2.2.moved g mk a⟩, fun U hU hW => ⟨rfl, ⟨by rw [hU]; exact hXH.moved hW.alike, by rw [hU]; exact hsz H locs hS⟩, by rw [hU]; exact pick_P (is := []) hP rfl, va_K.moved hW.alike (E.2.2.2.2.2.1.sub [] rfl), (hD.sub [] rfl rfl).weaken (fun _ _ _ _ => trivial), E.2.2.2.2.2.2.2.warm hW⟩⟩ rfl hn hl.1 rfl (lv_room hsum) hdg ⟨hcs.1, hcs.2⟩) hS (fun q _ h => h.elim) (fun q h => h.elim) (fun r u t H1 locs1 ht hvm hp hB hz hk hS1 => ?_)
    subst hp
    exact kk H1 locs1 ls (keep_P hP hk) hD hS1 hl
end
