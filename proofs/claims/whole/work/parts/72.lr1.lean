/-! the law's rules and the invariant -/
def XS (xs : Nat → Int32) (i : Int) : Int := (xs i.toNat).toInt
theorem and_31 (x : Int) : ∃ v : Int, (0 ≤ v ∧ v ≤ 31) ∧ iJ x &&& iJ 31 = iJ v := by
  have h1 : (iJ x &&& iJ 31).toBitVec.toNat ≤ 31 := by
    rw [Int32.toBitVec_and, BitVec.toNat_and]; exact Nat.and_le_right
  refine ⟨((iJ x &&& iJ 31).toBitVec.toNat : Int), by omega, ?_⟩
  generalize iJ x &&& iJ 31 = z at h1 ⊢
  have e : z.toInt = ((z.toBitVec.toNat : Nat) : Int) := by
    have c := BitVec.toInt_eq_toNat_cond z.toBitVec
    have e2 : z.toInt = z.toBitVec.toInt := rfl
    rw [e2, c, if_pos (by omega)]
  rw [← e]; exact iJ_of z
theorem iJ_N (n : Nat) : Int32.ofNat n = iJ (n : Int) := iJ_nI n
section
variable {p : Program} {l : Launch} {e : Env} {R : Room} {s : State} {m : MethodId} {args : Array Value} {below : List Frame} {meth : Method} {c : Code} {D : va_G} {cl : List vw_C} {AD A : Nat → Prop} {H0 : Heap} {tys : List (ClassId × FieldType)} {nL cells slots : Nat} {Q : State → Prop} {ws : va_W} {lv : List (Nat × Value)} {pc : Nat} {st : List Value} {cc : ByteArray} {own : String} {Ts : List Cond}
theorem r_sld (E : EE p s m args meth c D cl tys nL cc own Ts) {b L : Nat} {xs : Nat → Int32} (hX : va_X b L xs s H0) (hbl : b < H0.size) (hbA : ¬ A b) (hL : L ≤ 2560) {i : Int} (hi : 0 ≤ i ∧ i < (L : Int)) (v : Int) (hv : XS xs i = v) (hdg : decode cc pc = .ok (.iaload, 1)) (kk : GG p l e R s m args below meth c D cl AD A H0 nL cells slots Q ws lv (pc + 1) (.int (iJ v) :: st)) : GG p l e R s m args below meth c D cl AD A H0 nL cells slots Q ws lv pc (.int (iJ i) :: .ref b :: st) :=
  fun H locs ls hP hD hS hl => va_sld E.1 E.2.1 hX hbl hbA hS (iJ_in hi (by omega)) hdg (by
    have e : xs (iJ i).toNatClampNeg = iJ v := by
      rw [iJ_cl (jb_in hi (by omega)), ← hv]; exact iJ_of _
    rw [e]; exact kk H locs ls hP hD hS hl)
theorem r_slen (E : EE p s m args meth c D cl tys nL cc own Ts) {b L : Nat} {xs : Nat → Int32} (hX : va_X b L xs s H0) (hbl : b < H0.size) (hbA : ¬ A b) (hdg : decode cc pc = .ok (.arraylength, 1)) (kk : GG p l e R s m args below meth c D cl AD A H0 nL cells slots Q ws lv (pc + 1) (.int (iJ (L : Int)) :: st)) : GG p l e R s m args below meth c D cl AD A H0 nL cells slots Q ws lv pc (.ref b :: st) :=
  fun H locs ls hP hD hS hl => va_slen E.1 E.2.1 hX hbl hbA hS hdg (by rw [iJ_N]; exact kk H locs ls hP hD hS hl)
theorem r_same (E : EE p s m args meth c D cl tys nL cc own Ts) {a : Int} {off : Int} (tgt : Nat) (hdg : decode cc pc = .ok (.if_icmp .eq off, 3)) (ht : (pc : Int) + off = (tgt : Int)) (kk : GG p l e R s m args below meth c D cl AD A H0 nL cells slots Q ws lv tgt st) : GG p l e R s m args below meth c D cl AD A H0 nL cells slots Q ws lv pc (.int (iJ a) :: .int (iJ a) :: st) :=
  fun H locs ls hP hD hS hl => lv_icmp_eq E.1 E.2.1 hdg ht (fun _ => kk H locs ls hP hD hS hl) (fun q => absurd rfl q)
theorem r_bool (E : EE p s m args meth c D cl tys nL cc own Ts) {v : Int} (hv : jb v) (z : Int) (hz : b2 (¬ v = 0) = z) (h0 : decode cc pc = .ok (.ifCond .eq 7, 3)) (h1 : decode cc (pc + 3) = .ok (.iconst 1, 1)) (h2 : decode cc (pc + 4) = .ok (.goto 4, 3)) (h3 : decode cc (pc + 7) = .ok (.iconst 0, 1)) (kk : GG p l e R s m args below meth c D cl AD A H0 nL cells slots Q ws lv (pc + 8) (.int (iJ z) :: st)) : GG p l e R s m args below meth c D cl AD A H0 nL cells slots Q ws lv pc (.int (iJ v) :: st) := by
  refine r_if_eq E (pc + 7) h0 (by omega) hv (fun q => ?_) (fun q => ?_)
  · refine r_iconst E 0 rfl h3 ?_
    have e : z = 0 := by rw [← hz]; exact b2_f (fun y => y q)
    rw [e] at kk; exact kk
  · refine r_iconst E 1 rfl h1 ?_
    refine r_goto E (pc + 8) h2 (by omega) ?_
    have e : z = 1 := by rw [← hz]; exact b2_t q
    rw [e] at kk; exact kk
theorem r_topD {a : UInt64} (b : UInt64) (h : a = b) (kk : GG p l e R s m args below meth c D cl AD A H0 nL cells slots Q ws lv pc (.double b :: st)) : GG p l e R s m args below meth c D cl AD A H0 nL cells slots Q ws lv pc (.double a :: st) := h ▸ kk
theorem r_deq (E : EE p s m args meth c D cl tys nL cc own Ts) {x : UInt64} (hx : FP.dcmp x x = some .eq) (hdg : decode cc pc = .ok (.dcmp .l, 1)) (kk : GG p l e R s m args below meth c D cl AD A H0 nL cells slots Q ws lv (pc + 1) (.int (iJ 0) :: st)) : GG p l e R s m args below meth c D cl AD A H0 nL cells slots Q ws lv pc (.double x :: .double x :: st) :=
  fun H locs ls hP hD hS hl => lv_dcmp E.1 E.2.1 hdg (by rw [hx]; exact kk H locs ls hP hD hS hl)
end
/-! quotients are equal to themselves -/
def dvE (N : Nat) : Bool := (List.range N).all (fun b => (List.range (b + 1)).all (fun a => b == 0 || decide (FP.dcmp (ddv a b) (ddv a b) = some .eq)))
theorem dvE_161 : dvE 161 = true := by decide +kernel
theorem ddv_e {a b : Int} (ha : 0 ≤ a ∧ a ≤ b) (hb : 1 ≤ b ∧ b ≤ 160) : FP.dcmp (ddv a b) (ddv a b) = some .eq := by
  have h := List.all_eq_true.mp dvE_161 b.toNat (List.mem_range.mpr (by omega))
  have h2 := List.all_eq_true.mp h a.toNat (List.mem_range.mpr (by omega))
  rw [Int.toNat_of_nonneg ha.1, Int.toNat_of_nonneg (show 0 ≤ b by omega)] at h2
  rcases (Bool.or_eq_true _ _).mp h2 with z | z
  · have e : b.toNat = 0 := eq_of_beq z
    omega
  · exact of_decide_eq_true z
theorem rgM_e {s : Int → Int} {pr : Int} (h : 0 ≤ s 0 ∧ s 0 ≤ 32) : FP.dcmp (rgM s pr) (rgM s pr) = some .eq := by
  unfold rgM
  by_cases z : sm (fun j => mSu s 5 (s (2 + j))) (s 0) = 0 ∨ ¬ lsS s (-4) 0 2 < 1000
  · rw [if_pos z]; decide +kernel
  · rw [if_neg z]
    have m := mRs_le (s := s) (hd := fun j => mcB s pr (j + 1)) h
    have n0 : ¬ sm (fun j => mSu s 5 (s (2 + j))) (s 0) = 0 := fun t => z (Or.inl t)
    exact ddv_e m.1 (by omega)
/-! the pads -/
def PI (np : Int) (gp : Int → Int) (pn : Int) (p : Int → Int) : Prop := pn = np ∧ (0 ≤ np ∧ np ≤ 60) ∧ ∀ j : Int, 0 ≤ j → j < np → gp j = p j ∧ (33 ≤ p j ∧ p j ≤ 126)
theorem PI.add {np pn : Int} {gp p : Int → Int} (h : PI np gp pn p) (hf : np < 60) {c : Int} (hc : 33 ≤ c ∧ c ≤ 126) : PI (np + 1) (uJ gp np c) (pn + 1) (uJ p pn c) := by
  obtain ⟨rfl, h2, h3⟩ := h
  refine ⟨rfl, by omega, fun j a b => ?_⟩
  by_cases z : j = pn
  · rw [z, uJ_s, uJ_s]; exact ⟨rfl, hc⟩
  · rw [uJ_n z, uJ_n z]; exact h3 j a (by omega)
theorem PI.clr (gp p : Int → Int) : PI 0 gp 0 p := ⟨rfl, by omega, fun j a b => absurd b (by omega)⟩
theorem PI.pm {np pn : Int} {gp p : Int → Int} (h : PI np gp pn p) : mpN p pn.toNat 0 = pfN gp np.toNat 0 := by
  obtain ⟨rfl, h2, h3⟩ := h
  exact (pf_mp (fun j a b => (h3 j a b).1) pn.toNat 0 (by omega) (by omega)).symm
theorem PI.f0 {np pn : Int} {gp p : Int → Int} (h : PI np gp pn p) {T B X : Int → Int} {R : Int} {u : (Int → Int) × Int} (hR : rdM p pn 61 0 0 0 (T, 0) B X = (R, u)) : R = rfN gp np.toNat 0 0 0 := by
  obtain ⟨rfl, h2, h3⟩ := h
  have t := (rd_0 (fun j a b => (h3 j a b).1) h2 T B X).1
  rw [hR] at t; exact t.symm
theorem PI.rd {np pn : Int} {gp p : Int → Int} (h : PI np gp pn p) {T B X : Int → Int} {R : Int} {u : (Int → Int) × Int} (hR : rdM p pn 61 0 0 0 (T, 0) B X = (R, u)) (hf : rfN gp np.toNat 0 0 0 = -4) (gt S Y : Int → Int) : WR (wrC gp np.toNat 0 0 0 0 (gt, 0) S Y) u := by
  obtain ⟨rfl, h2, h3⟩ := h
  have t := (rd_0 (fun j a b => (h3 j a b).1) h2 T B X).2 hf gt S Y
  rw [hR] at t; exact t
theorem PI.rdN {np pn : Int} {gp p : Int → Int} (h : PI np gp pn p) {T B X : Int → Int} {R : Int} {u : (Int → Int) × Int} (hR : rdM p pn 61 0 0 0 (T, 0) B X = (R, u)) (hf : rfN gp np.toNat 0 0 0 = -4) {gt S Y : Int → Int} (hx : (wrC gp np.toNat 0 0 0 0 (gt, 0) S Y).1 = 0) : u.2 = 33 ∧ 0 ≤ (wrC gp np.toNat 0 0 0 0 (gt, 0) S Y).2.2 ∧ (wrC gp np.toNat 0 0 0 0 (gt, 0) S Y).2.2 ≤ 32 := by
  rcases h.rd hR hf gt S Y with z | z
  · omega
  · exact ⟨z.2.2, z.2.1.1⟩
theorem PI.rdO {np pn : Int} {gp p : Int → Int} (h : PI np gp pn p) {T B X : Int → Int} {R : Int} {u : (Int → Int) × Int} (hR : rdM p pn 61 0 0 0 (T, 0) B X = (R, u)) (hf : rfN gp np.toNat 0 0 0 = -4) {gt S Y : Int → Int} (hx : (wrC gp np.toNat 0 0 0 0 (gt, 0) S Y).1 = 1) : RU (wrC gp np.toNat 0 0 0 0 (gt, 0) S Y).2 u := by
  rcases h.rd hR hf gt S Y with z | z
  · exact z.2
  · omega
theorem wr_01 {np pn : Int} {gp p : Int → Int} (h : PI np gp pn p) (hf : rfN gp np.toNat 0 0 0 = -4) (gt S Y : Int → Int) : (wrC gp np.toNat 0 0 0 0 (gt, 0) S Y).1 = 0 ∨ (wrC gp np.toNat 0 0 0 0 (gt, 0) S Y).1 = 1 := by
  rcases h.rd (T := gt) (B := gt) (X := gt) rfl hf gt S Y with z | z
  · exact Or.inr z.1
  · exact Or.inl z.1
/-- the invariant of the law's loop -/
def IV (g : Int → Int) (n q : Int) (s : Int → Int) (m : Int) (kN kQ : Nat → Int) (kG : Nat → Int → Int) (kp : Int) (h : Int → Int) (hs ns qs : Int) (gs : Int → Int) (sv : Int) (sn : Int → Int) (np : Int) (gp : Int → Int) (pn : Int) (p : Int → Int) (rf rf7 nt : Int) : Prop :=
  RP g n q s ∧ HI m kN kQ kG kp h ∧ SI hs ns qs gs sv sn ∧ PI np gp pn p ∧ rf7 = rf ∧ (0 ≤ nt ∧ nt ≤ 32)
