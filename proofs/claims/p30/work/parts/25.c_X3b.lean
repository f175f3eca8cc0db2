theorem kf_X3_fewestFrom : KF yX3_fewestFrom 2 wsX3_fewestFrom cX3_fewestFrom 4 (some .int) := ⟨rfl, by decide +kernel, by decide +kernel, by decide +kernel⟩
def rm_X3_fewestFrom : Room := { frames := 0, cells := 0, slots := 0, locals := 0 }
set_option maxRecDepth 20000 in
theorem in_X3_fewestFrom_X3 : ∀ w ∈ u_ws RX3 TX3 7, w ∈ wsX3_fewestFrom := by decide +kernel
set_option maxRecDepth 20000 in
theorem lk_X3_fewestFrom_28 : Cond.fieldLink RX3 28 (TX3 5).1 (TX3 5).2.1 (TX3 5).2.2.1 ∈ wsX3_fewestFrom := by decide +kernel
set_option maxHeartbeats 1000000 in
set_option maxRecDepth 100000 in
theorem c_X3_fewestFrom (l : Launch) (D : va_G) (p0 : Nat) (p1 : Nat) (p2 : Nat) (p3 : Nat) (p4 : Nat) (p5 : Nat) (p6 : Nat) (cI : ClassId) (cZ : ClassId) (L : Int) (ow : Int → Int) (cA : Int → Int) (cU : Int → Int) (hd : Int → Int) (fw : Int → Int) (a : Int) (b : Int) (ha : 0 ≤ a ∧ a ≤ 32) (hb : 0 ≤ b ∧ b ≤ 3) : MP l yX3_fewestFrom wsX3_fewestFrom rm_X3_fewestFrom D vwCl [.ref p0, .int (iJ (a)), .int (iJ (b))] [(p0, .inr (3, [.ref p1, .ref p2, .ref p3, .ref p4, .ref p5, .ref p6, .int (iJ (L))])), (p1, cJ cI 32 (nrA)), (p2, cJ cI 32 (ow)), (p3, cJ cZ 32 (cA)), (p4, cJ cZ 32 (cU)), (p5, cJ cI 32 (hd)), (p6, cJ cI 132 (fw))] [(cI, .int), (cZ, .boolean)] (fw (a * 4 + b)) := by
  refine MP.mk (cc := cX3_fewestFrom) (maxL := 4) (ret := (some .int)) (by decide) rfl (Nat.le_of_ble_eq_true rfl) rfl RX3 rfl ?_
  intro p_ e_ s_ m_ ar_ bw_ mt_ cd_ Q_ E hr hQ
  refine r_iload_n E 1 dX3_fewestFrom_0 rfl rfl ?_
  refine r_iconst E 4 rfl dX3_fewestFrom_1 ?_
  refine r_imul E dX3_fewestFrom_2 ?_
  refine r_iload_n E 2 dX3_fewestFrom_3 rfl rfl ?_
  refine r_iadd E dX3_fewestFrom_4 ?_
  refine r_istore_n E [(3, .int (iJ (((a * 4) + b)))), (0, .ref p0), (1, .int (iJ (a))), (2, .int (iJ (b)))] dX3_fewestFrom_5 rfl (by decide) rfl ?_
  refine r_iload_n E 0 dX3_fewestFrom_6 rfl rfl ?_
  refine r_if_lt E 28 dX3_fewestFrom_7 (by decide) ⟨by omega, by omega⟩ (fun c_7 => absurd c_7 (by omega)) (fun c_7 => ?_)
  refine r_iload_n E 0 dX3_fewestFrom_10 rfl rfl ?_
  refine r_aload_n E 1 dX3_fewestFrom_11 rfl rfl ?_
  refine r_get E 3 0 5 dX3_fewestFrom_12 in_X3_fewestFrom_X3 lk_X3_fewestFrom_28 rfl rfl (by decide) rfl ?_
  refine r_alen E 6 0 132 dX3_fewestFrom_15 rfl rfl rfl ?_
  refine r_top (b := 132) (by rfl) ?_
  refine r_icmp_ge E 28 dX3_fewestFrom_16 (by decide) ⟨by omega, by omega⟩ ⟨by omega, by omega⟩ (fun c_16 => absurd c_16 (by omega)) (fun c_16 => ?_)
  refine r_aload_n E 1 dX3_fewestFrom_19 rfl rfl ?_
  refine r_get E 3 0 5 dX3_fewestFrom_20 in_X3_fewestFrom_X3 lk_X3_fewestFrom_28 rfl rfl (by decide) rfl ?_
  refine r_iload_n E 0 dX3_fewestFrom_23 rfl rfl ?_
  refine r_iald E (i := ((a * 4) + b)) 6 0 dX3_fewestFrom_24 rfl rfl (by decide) ⟨by omega, by omega⟩ ?_
  refine r_goto E 31 dX3_fewestFrom_25 (by decide) ?_
  exact r_retP E hr dX3_fewestFrom_31 (by first | rfl | exact (b2_t (by first | omega | assumption)).symm | exact (b2_f (by first | omega | assumption)).symm | omega | assumption) hQ
theorem kf_X3_keepFewest : KF yX3_keepFewest 3 wsX3_keepFewest cX3_keepFewest 5 none := ⟨rfl, by decide +kernel, by decide +kernel, by decide +kernel⟩
def rm_X3_keepFewest : Room := { frames := 0, cells := 0, slots := 0, locals := 0 }
set_option maxRecDepth 20000 in
theorem in_X3_keepFewest_X3 : ∀ w ∈ u_ws RX3 TX3 7, w ∈ wsX3_keepFewest := by decide +kernel
set_option maxRecDepth 20000 in
theorem lk_X3_keepFewest_28 : Cond.fieldLink RX3 28 (TX3 5).1 (TX3 5).2.1 (TX3 5).2.2.1 ∈ wsX3_keepFewest := by decide +kernel
set_option maxHeartbeats 1000000 in
set_option maxRecDepth 100000 in
theorem c_X3_keepFewest (l : Launch) (D : va_G) (p0 : Nat) (p1 : Nat) (p2 : Nat) (p3 : Nat) (p4 : Nat) (p5 : Nat) (p6 : Nat) (cI : ClassId) (cZ : ClassId) (L : Int) (ow : Int → Int) (cA : Int → Int) (cU : Int → Int) (hd : Int → Int) (fw : Int → Int) (a : Int) (b : Int) (v : Int) (ha : 0 ≤ a ∧ a ≤ 32) (hb : 0 ≤ b ∧ b ≤ 3) : MV (S := Unit) l yX3_keepFewest wsX3_keepFewest rm_X3_keepFewest D vwCl [.ref p0, .int (iJ (a)), .int (iJ (b)), .int (iJ (v))] [(p0, .inr (3, [.ref p1, .ref p2, .ref p3, .ref p4, .ref p5, .ref p6, .int (iJ (L))])), (p1, cJ cI 32 (nrA)), (p2, cJ cI 32 (ow)), (p3, cJ cZ 32 (cA)), (p4, cJ cZ 32 (cU)), (p5, cJ cI 32 (hd)), (p6, cJ cI 132 (fw))] [(cI, .int), (cZ, .boolean)] (fun (_ : Unit) => True) (fun (_ : Unit) => [(p0, .inr (3, [.ref p1, .ref p2, .ref p3, .ref p4, .ref p5, .ref p6, .int (iJ (L))])), (p1, cJ cI 32 (nrA)), (p2, cJ cI 32 (ow)), (p3, cJ cZ 32 (cA)), (p4, cJ cZ 32 (cU)), (p5, cJ cI 32 (hd)), (p6, cJ cI 132 (uJ fw (a * 4 + b) v))]) := by
  refine MV.mk (cc := cX3_keepFewest) (maxL := 5) (ret := none) (by decide) rfl (Nat.le_of_ble_eq_true rfl) rfl RX3 rfl ?_
  intro p_ e_ s_ m_ ar_ bw_ mt_ cd_ B_ Q_ hA E hr hQ
  refine r_iload_n E 1 dX3_keepFewest_0 rfl rfl ?_
  refine r_iconst E 4 rfl dX3_keepFewest_1 ?_
  refine r_imul E dX3_keepFewest_2 ?_
  refine r_iload_n E 2 dX3_keepFewest_3 rfl rfl ?_
  refine r_iadd E dX3_keepFewest_4 ?_
  refine r_istore E [(4, .int (iJ (((a * 4) + b)))), (0, .ref p0), (1, .int (iJ (a))), (2, .int (iJ (b))), (3, .int (iJ (v)))] dX3_keepFewest_5 (by decide) rfl ?_
  refine r_iload E 0 dX3_keepFewest_7 rfl ?_
  refine r_if_lt E 30 dX3_keepFewest_9 (by decide) ⟨by omega, by omega⟩ (fun c_9 => absurd c_9 (by omega)) (fun c_9 => ?_)
  refine r_iload E 0 dX3_keepFewest_12 rfl ?_
  refine r_aload_n E 1 dX3_keepFewest_14 rfl rfl ?_
  refine r_get E 3 0 5 dX3_keepFewest_15 in_X3_keepFewest_X3 lk_X3_keepFewest_28 rfl rfl (by decide) rfl ?_
  refine r_alen E 6 0 132 dX3_keepFewest_18 rfl rfl rfl ?_
  refine r_top (b := 132) (by rfl) ?_
  refine r_icmp_ge E 30 dX3_keepFewest_19 (by decide) ⟨by omega, by omega⟩ ⟨by omega, by omega⟩ (fun c_19 => absurd c_19 (by omega)) (fun c_19 => ?_)
  refine r_aload_n E 1 dX3_keepFewest_22 rfl rfl ?_
  refine r_get E 3 0 5 dX3_keepFewest_23 in_X3_keepFewest_X3 lk_X3_keepFewest_28 rfl rfl (by decide) rfl ?_
  refine r_iload E 0 dX3_keepFewest_26 rfl ?_
  refine r_iload_n E 4 dX3_keepFewest_28 rfl rfl ?_
  refine r_iast E (i := ((a * 4) + b)) 6 0 dX3_keepFewest_29 rfl rfl (by decide) ⟨by omega, by omega⟩ [(p0, .inr (3, [.ref p1, .ref p2, .ref p3, .ref p4, .ref p5, .ref p6, .int (iJ (L))])), (p1, cJ cI 32 (nrA)), (p2, cJ cI 32 (ow)), (p3, cJ cZ 32 (cA)), (p4, cJ cZ 32 (cU)), (p5, cJ cI 32 (hd)), (p6, cJ cI 132 (uJ fw ((a * 4) + b) v))] rfl ?_
  exact r_retMV E () hr dX3_keepFewest_30 trivial rfl hQ
theorem kf_X3_fewestWith : KF yX3_fewestWith 4 wsX3_fewestWith cX3_fewestWith 6 (some .int) := ⟨rfl, by decide +kernel, by decide +kernel, by decide +kernel⟩
def rm_X3_fewestWith : Room := { frames := 2, cells := 0, slots := 0, locals := 46 }
set_option maxRecDepth 20000 in
theorem mk_X3_fewestWith_53 : Cond.methodLink RX3 53 Lib.Math.min.name ∈ wsX3_fewestWith ∧ Cond.static Lib.Math.min.name ∈ wsX3_fewestWith ∧ Cond.initialized "java/lang/Math" ∈ wsX3_fewestWith ∧ Cond.code Lib.Math.min.name Lib.Math.min.code 2 (some .int) ∈ wsX3_fewestWith := by decide +kernel
set_option maxHeartbeats 1000000 in
set_option maxRecDepth 100000 in
theorem c_X3_fewestWith (l : Launch) (D : va_G) (p0 : Nat) (p1 : Nat) (p2 : Nat) (p3 : Nat) (p4 : Nat) (p5 : Nat) (p6 : Nat) (cI : ClassId) (cZ : ClassId) (L : Int) (ow : Int → Int) (cA : Int → Int) (cU : Int → Int) (hd : Int → Int) (fw : Int → Int) (a : Int) (b : Int) (h : Int) (pr : Int) (hL : 0 ≤ L ∧ L ≤ 32) (hA1 : ∀ j : Int, 0 ≤ j → j < L → cA j = 0 ∨ cA j = 1) (hU1 : ∀ j : Int, 0 ≤ j → j < L → cU j = 0 ∨ cU j = 1) (hO3 : ∀ j : Int, 0 ≤ j → j < L → 0 ≤ ow j ∧ ow j ≤ 3) (ha : 0 ≤ a ∧ a < L) (hb : 0 ≤ b ∧ b ≤ 3) (hh : 0 ≤ h ∧ h ≤ 1) (hpr : pr = 0 ∨ pr = 1) (hfw : 0 ≤ fw ((a + 1) * 4 + h) ∧ fw ((a + 1) * 4 + h) ≤ 1000) : MP l yX3_fewestWith wsX3_fewestWith rm_X3_fewestWith D vwCl [.ref p0, .int (iJ (a)), .int (iJ (b)), .int (iJ (h)), .int (iJ (pr))] [(p0, .inr (3, [.ref p1, .ref p2, .ref p3, .ref p4, .ref p5, .ref p6, .int (iJ (L))])), (p1, cJ cI 32 (nrA)), (p2, cJ cI 32 (ow)), (p3, cJ cZ 32 (cA)), (p4, cJ cZ 32 (cU)), (p5, cJ cI 32 (hd)), (p6, cJ cI 132 (fw))] [(cI, .int), (cZ, .boolean)] ((if fitP L ow cA cU a b h then (if fw ((a + 1) * 4 + h) + (if b = h then pr else 0) < 1000 then fw ((a + 1) * 4 + h) + (if b = h then pr else 0) else 1000) else 1000)) := by
  refine MP.mk (cc := cX3_fewestWith) (maxL := 6) (ret := (some .int)) (by decide) rfl (Nat.le_of_ble_eq_true rfl) rfl RX3 rfl ?_
  intro p_ e_ s_ m_ ar_ bw_ mt_ cd_ Q_ E hr hQ
  refine r_aload_n E 0 dX3_fewestWith_0 rfl rfl ?_
  refine r_iload_n E 1 dX3_fewestWith_1 rfl rfl ?_
  refine r_iload_n E 2 dX3_fewestWith_2 rfl rfl ?_
  refine r_iload_n E 3 dX3_fewestWith_3 rfl rfl ?_
  refine r_vP E (st := []) (c_X3_fits l D p0 p1 p2 p3 p4 p5 p6 cI cZ L ow cA cU hd fw a b h (by first | assumption | omega | exact ⟨by omega, by omega⟩) (by first | assumption | omega | exact ⟨by omega, by omega⟩) (by first | assumption | omega | exact ⟨by omega, by omega⟩) (by first | assumption | omega | exact ⟨by omega, by omega⟩) (by first | assumption | omega | exact ⟨by omega, by omega⟩) (by first | assumption | omega | exact ⟨by omega, by omega⟩) (by first | assumption | omega | exact ⟨by omega, by omega⟩)) gX3_fewestWith_X3_fits 3 kf_X3_fits ⟨rfl, rfl⟩ ⟨by decide, by decide⟩ dX3_fewestWith_4 rfl 0 rfl rfl rfl rfl ⟨Nat.zero_le _, Nat.zero_le _⟩ [0, 1, 2, 3, 4, 5, 6] rfl (by decide) [0, 1] rfl (Nat.le_of_ble_eq_true rfl) ?_
  refine r_ifne_b E 14 dX3_fewestWith_7 (by decide) (fun c_7 => ?_) (fun c_7 => ?_)
  · have K_25 : ∀ (v : Int), (v = (if b = h then pr else 0) ∧ 0 ≤ v ∧ v ≤ 1) → GG p_ l e_ rm_X3_fewestWith s_ m_ ar_ bw_ mt_ cd_ D vwCl (fun _ => True) (fun _ => False) s_.heap 6 0 0 Q_ [(p0, .inr (3, [.ref p1, .ref p2, .ref p3, .ref p4, .ref p5, .ref p6, .int (iJ (L))])), (p1, cJ cI 32 (nrA)), (p2, cJ cI 32 (ow)), (p3, cJ cZ 32 (cA)), (p4, cJ cZ 32 (cU)), (p5, cJ cI 32 (hd)), (p6, cJ cI 132 (fw))] [(0, .ref p0), (1, .int (iJ (a))), (2, .int (iJ (b))), (3, .int (iJ (h))), (4, .int (iJ (pr)))] 25 [.int (iJ (v))] := by
      intro v hv
      refine r_istore E [(5, .int (iJ (v))), (0, .ref p0), (1, .int (iJ (a))), (2, .int (iJ (b))), (3, .int (iJ (h))), (4, .int (iJ (pr)))] dX3_fewestWith_25 (by decide) rfl ?_
      refine r_sipush E 1000 rfl dX3_fewestWith_27 ?_
      refine r_aload_n E 1 dX3_fewestWith_30 rfl rfl ?_
      refine r_iload_n E 2 dX3_fewestWith_31 rfl rfl ?_
      refine r_iconst E 1 rfl dX3_fewestWith_32 ?_
      refine r_iadd E dX3_fewestWith_33 ?_
      refine r_iload_n E 4 dX3_fewestWith_34 rfl rfl ?_
      refine r_vP E (st := [.int (iJ (1000))]) (c_X3_fewestFrom l D p0 p1 p2 p3 p4 p5 p6 cI cZ L ow cA cU hd fw (a + 1) h (by first | assumption | omega | exact ⟨by omega, by omega⟩) (by first | assumption | omega | exact ⟨by omega, by omega⟩)) gX3_fewestWith_X3_fewestFrom 2 kf_X3_fewestFrom ⟨rfl, rfl⟩ ⟨by decide, by decide⟩ dX3_fewestWith_35 rfl 0 rfl rfl rfl rfl ⟨Nat.zero_le _, Nat.zero_le _⟩ [0, 1, 2, 3, 4, 5, 6] rfl (by decide) [0, 1] rfl (Nat.le_of_ble_eq_true rfl) ?_
      refine r_iload E 0 dX3_fewestWith_38 rfl ?_
      refine r_iadd E dX3_fewestWith_40 ?_
      refine r_imin E (if ((fw ((a + 1) * 4 + h)) + v) < 1000 then ((fw ((a + 1) * 4 + h)) + v) else 1000) dX3_fewestWith_41 ⟨⟨by omega, by omega⟩, ⟨by omega, by omega⟩, rfl⟩ mk_X3_fewestWith_53 ⟨by decide, by decide⟩ (Nat.le_of_ble_eq_true rfl) ⟨Nat.zero_le _, Nat.zero_le _⟩ ?_
      exact r_retP E hr dX3_fewestWith_44 (by rw [if_pos c_7, ← hv.1]) hQ
    refine r_iload_n E 2 dX3_fewestWith_14 rfl rfl ?_
    refine r_iload_n E 3 dX3_fewestWith_15 rfl rfl ?_
    refine r_icmp_ne E 24 dX3_fewestWith_16 (by decide) ⟨by omega, by omega⟩ ⟨by omega, by omega⟩ (fun c_16 => ?_) (fun c_16 => ?_)
    · refine r_iconst E 0 rfl dX3_fewestWith_24 ?_
      refine r_lv [0, 1, 2, 3, 4] [(0, .ref p0), (1, .int (iJ (a))), (2, .int (iJ (b))), (3, .int (iJ (h))), (4, .int (iJ (pr)))] rfl ?_
      exact K_25 0 (by first | (rw [if_pos c_16]; omega) | (rw [if_neg c_16]; omega))
    · refine r_iload E 4 dX3_fewestWith_19 rfl ?_
      refine r_goto E 25 dX3_fewestWith_21 (by decide) ?_
      refine r_lv [0, 1, 2, 3, 4] [(0, .ref p0), (1, .int (iJ (a))), (2, .int (iJ (b))), (3, .int (iJ (h))), (4, .int (iJ (pr)))] rfl ?_
      exact K_25 pr (by first | (rw [if_pos c_16]; omega) | (rw [if_neg c_16]; omega))
  · refine r_sipush E 1000 rfl dX3_fewestWith_10 ?_
    exact r_retP E hr dX3_fewestWith_13 (by rw [if_neg c_7]) hQ
theorem kf_X3_fillFewest : KF yX3_fillFewest 1 wsX3_fillFewest cX3_fillFewest 6 none := ⟨rfl, by decide +kernel, by decide +kernel, by decide +kernel⟩
def rm_X3_fillFewest : Room := { frames := 3, cells := 0, slots := 0, locals := 71 }
set_option maxRecDepth 20000 in
theorem in_X3_fillFewest_X3 : ∀ w ∈ u_ws RX3 TX3 7, w ∈ wsX3_fillFewest := by decide +kernel
set_option maxRecDepth 20000 in
theorem lk_X3_fillFewest_31 : Cond.fieldLink RX3 31 (TX3 6).1 (TX3 6).2.1 (TX3 6).2.2.1 ∈ wsX3_fillFewest := by decide +kernel
set_option maxRecDepth 20000 in
theorem lk_X3_fillFewest_15 : Cond.fieldLink RX3 15 (TX3 1).1 (TX3 1).2.1 (TX3 1).2.2.1 ∈ wsX3_fillFewest := by decide +kernel
set_option maxRecDepth 20000 in
theorem mk_X3_fillFewest_53 : Cond.methodLink RX3 53 Lib.Math.min.name ∈ wsX3_fillFewest ∧ Cond.static Lib.Math.min.name ∈ wsX3_fillFewest ∧ Cond.initialized "java/lang/Math" ∈ wsX3_fillFewest ∧ Cond.code Lib.Math.min.name Lib.Math.min.code 2 (some .int) ∈ wsX3_fillFewest := by decide +kernel
set_option maxHeartbeats 1000000 in
set_option maxRecDepth 100000 in
theorem c_X3_fillFewest (l : Launch) (D : va_G) (p0 : Nat) (p1 : Nat) (p2 : Nat) (p3 : Nat) (p4 : Nat) (p5 : Nat) (p6 : Nat) (cI : ClassId) (cZ : ClassId) (L : Int) (ow : Int → Int) (cA : Int → Int) (cU : Int → Int) (hd : Int → Int) (fw : Int → Int) (pr : Int) (hL : 0 ≤ L ∧ L ≤ 32) (hA1 : ∀ j : Int, 0 ≤ j → j < L → cA j = 0 ∨ cA j = 1) (hU1 : ∀ j : Int, 0 ≤ j → j < L → cU j = 0 ∨ cU j = 1) (hO3 : ∀ j : Int, 0 ≤ j → j < L → 0 ≤ ow j ∧ ow j ≤ 3) (hpr : pr = 0 ∨ pr = 1) : MV (S := Int → Int) l yX3_fillFewest wsX3_fillFewest rm_X3_fillFewest D vwCl [.ref p0, .int (iJ (pr))] [(p0, .inr (3, [.ref p1, .ref p2, .ref p3, .ref p4, .ref p5, .ref p6, .int (iJ (L))])), (p1, cJ cI 32 (nrA)), (p2, cJ cI 32 (ow)), (p3, cJ cZ 32 (cA)), (p4, cJ cZ 32 (cU)), (p5, cJ cI 32 (hd)), (p6, cJ cI 132 (fw))] [(cI, .int), (cZ, .boolean)] (fun (F : Int → Int) => (∀ a b : Int, 0 ≤ a → a ≤ L → 0 ≤ b → b ≤ 3 → F (a * 4 + b) = ffS L ow cA cU pr a b)) (fun (F : Int → Int) => [(p0, .inr (3, [.ref p1, .ref p2, .ref p3, .ref p4, .ref p5, .ref p6, .int (iJ (L))])), (p1, cJ cI 32 (nrA)), (p2, cJ cI 32 (ow)), (p3, cJ cZ 32 (cA)), (p4, cJ cZ 32 (cU)), (p5, cJ cI 32 (hd)), (p6, cJ cI 132 (F))]) := by
  refine MV.mk (cc := cX3_fillFewest) (maxL := 6) (ret := none) (by decide) rfl (Nat.le_of_ble_eq_true rfl) rfl RX3 rfl ?_
  intro p_ e_ s_ m_ ar_ bw_ mt_ cd_ B_ Q_ hA E hr hQ
  refine r_iconst E 0 rfl dX3_fillFewest_0 ?_
  refine r_istore_n E [(2, .int (iJ (0))), (0, .ref p0), (1, .int (iJ (pr)))] dX3_fillFewest_1 rfl (by decide) rfl ?_
  have loop_2 : ∀ (N : Nat) (k : Int) (G : Int → Int), (0 ≤ k ∧ k ≤ 4) → (∀ b : Int, 0 ≤ b → b < k → G (L * 4 + b) = 0) → (4 - k).toNat < N → GG p_ l e_ rm_X3_fillFewest s_ m_ ar_ bw_ mt_ cd_ D vwCl B_ B_ s_.heap 6 0 0 Q_ [(p0, .inr (3, [.ref p1, .ref p2, .ref p3, .ref p4, .ref p5, .ref p6, .int (iJ (L))])), (p1, cJ cI 32 (nrA)), (p2, cJ cI 32 (ow)), (p3, cJ cZ 32 (cA)), (p4, cJ cZ 32 (cU)), (p5, cJ cI 32 (hd)), (p6, cJ cI 132 (G))] [(0, .ref p0), (1, .int (iJ (pr))), (2, .int (iJ (k)))] 2 [] := by
    intro N; induction N with
    | zero => intro k G hk hG hN; exact absurd hN (Nat.not_lt_zero _)
    | succ N ih2 =>
      intro k G hk hG hN
      refine r_iload_n E 2 dX3_fillFewest_2 rfl rfl ?_
      refine r_iconst E 4 rfl dX3_fillFewest_3 ?_
      refine r_icmp_ge E 23 dX3_fillFewest_4 (by decide) ⟨by omega, by omega⟩ ⟨by omega, by omega⟩ (fun c_4 => ?_) (fun c_4 => ?_)
      · refine r_aload_n E 0 dX3_fillFewest_23 rfl rfl ?_
        refine r_get E 3 0 6 dX3_fillFewest_24 in_X3_fillFewest_X3 lk_X3_fillFewest_31 rfl rfl (by decide) rfl ?_
        refine r_iconst E 1 rfl dX3_fillFewest_27 ?_
        refine r_isub E dX3_fillFewest_28 ?_
        refine r_istore_n E [(2, .int (iJ ((L - 1)))), (0, .ref p0), (1, .int (iJ (pr)))] dX3_fillFewest_29 rfl (by decide) rfl ?_
        have loop_30 : ∀ (N : Nat) (a : Int) (G2 : Int → Int), (-1 ≤ a ∧ a < L) → (∀ x b : Int, a < x → x ≤ L → 0 ≤ b → b ≤ 3 → G2 (x * 4 + b) = ffS L ow cA cU pr x b) → (a + 1).toNat < N → GG p_ l e_ rm_X3_fillFewest s_ m_ ar_ bw_ mt_ cd_ D vwCl B_ B_ s_.heap 6 0 0 Q_ [(p0, .inr (3, [.ref p1, .ref p2, .ref p3, .ref p4, .ref p5, .ref p6, .int (iJ (L))])), (p1, cJ cI 32 (nrA)), (p2, cJ cI 32 (ow)), (p3, cJ cZ 32 (cA)), (p4, cJ cZ 32 (cU)), (p5, cJ cI 32 (hd)), (p6, cJ cI 132 (G2))] [(0, .ref p0), (1, .int (iJ (pr))), (2, .int (iJ (a)))] 30 [] := by
          intro N; induction N with
          | zero => intro a G2 ha hG2 hN; exact absurd hN (Nat.not_lt_zero _)
          | succ N ih30 =>
            intro a G2 ha hG2 hN
            refine r_iload_n E 2 dX3_fillFewest_30 rfl rfl ?_
            refine r_if_lt E 113 dX3_fillFewest_31 (by decide) ⟨by omega, by omega⟩ (fun c_31 => ?_) (fun c_31 => ?_)
            · exact r_retMV E G2 hr dX3_fillFewest_113 (fun x b h1 h2 h3 h4 => hG2 x b (by omega) h2 h3 h4) rfl hQ
            · refine r_iconst E 0 rfl dX3_fillFewest_34 ?_
              refine r_istore_n E [(3, .int (iJ (0))), (0, .ref p0), (1, .int (iJ (pr))), (2, .int (iJ (a)))] dX3_fillFewest_35 rfl (by decide) rfl ?_
              have loop_36 : ∀ (N : Nat) (b : Int) (G3 : Int → Int), (0 ≤ b ∧ b ≤ 4) → (∀ x y : Int, a ≤ x → x ≤ L → 0 ≤ y → y ≤ 3 → (a < x ∨ y < b) → G3 (x * 4 + y) = ffS L ow cA cU pr x y) → (4 - b).toNat < N → GG p_ l e_ rm_X3_fillFewest s_ m_ ar_ bw_ mt_ cd_ D vwCl B_ B_ s_.heap 6 0 0 Q_ [(p0, .inr (3, [.ref p1, .ref p2, .ref p3, .ref p4, .ref p5, .ref p6, .int (iJ (L))])), (p1, cJ cI 32 (nrA)), (p2, cJ cI 32 (ow)), (p3, cJ cZ 32 (cA)), (p4, cJ cZ 32 (cU)), (p5, cJ cI 32 (hd)), (p6, cJ cI 132 (G3))] [(0, .ref p0), (1, .int (iJ (pr))), (2, .int (iJ (a))), (3, .int (iJ (b)))] 36 [] := by
                intro N; induction N with
                | zero => intro b G3 hb hG3 hN; exact absurd hN (Nat.not_lt_zero _)
                | succ N ih36 =>
                  intro b G3 hb hG3 hN
                  refine r_iload_n E 3 dX3_fillFewest_36 rfl rfl ?_
                  refine r_iconst E 4 rfl dX3_fillFewest_37 ?_
                  refine r_icmp_ge E 107 dX3_fillFewest_38 (by decide) ⟨by omega, by omega⟩ ⟨by omega, by omega⟩ (fun c_38 => ?_) (fun c_38 => ?_)
                  · refine r_iinc E (k := 2) [(2, .int (iJ ((a + (-1))))), (0, .ref p0), (1, .int (iJ (pr))), (3, .int (iJ (b)))] dX3_fillFewest_107 rfl (by decide) rfl ?_
                    refine r_goto E 30 dX3_fillFewest_110 (by decide) ?_
                    refine r_lv [1, 2, 0] [(0, .ref p0), (1, .int (iJ (pr))), (2, .int (iJ ((a + (-1)))))] rfl ?_
                    exact ih30 (a + (-1)) G3 ⟨by omega, by omega⟩ (fun x b h1 h2 h3 h4 => hG3 x b (by omega) h2 h3 h4 (by omega)) (by omega)
                  · refine r_aload_n E 0 dX3_fillFewest_41 rfl rfl ?_
                    refine r_get E 3 0 1 dX3_fillFewest_42 in_X3_fillFewest_X3 lk_X3_fillFewest_15 rfl rfl (by decide) rfl ?_
                    refine r_iload_n E 2 dX3_fillFewest_45 rfl rfl ?_
                    refine r_iald E (i := a) 2 0 dX3_fillFewest_46 rfl rfl (by decide) ⟨by omega, by omega⟩ ?_
                    have f_1 := hO3 a (by omega) (by omega)
                    refine r_iconst E 3 rfl dX3_fillFewest_47 ?_
                    refine r_icmp_ne E 68 dX3_fillFewest_48 (by decide) ⟨by omega, by omega⟩ ⟨by omega, by omega⟩ (fun c_48 => ?_) (fun c_48 => ?_)
                    · refine r_aload_n E 0 dX3_fillFewest_68 rfl rfl ?_
                      refine r_iload_n E 2 dX3_fillFewest_69 rfl rfl ?_
                      refine r_iload_n E 3 dX3_fillFewest_70 rfl rfl ?_
                      refine r_iconst E 0 rfl dX3_fillFewest_71 ?_
                      refine r_iload_n E 1 dX3_fillFewest_72 rfl rfl ?_
                      have f_0 := ffS_in (L := L) (ow := ow) (cA := cA) (cU := cU) (a := a + 1) (b := 0) hpr
                      rw [← hG3 (a + 1) 0 (by omega) (by omega) (by omega) (by omega) (Or.inl (by omega))] at f_0
                      have f_1 := ffS_in (L := L) (ow := ow) (cA := cA) (cU := cU) (a := a + 1) (b := 1) hpr
                      rw [← hG3 (a + 1) 1 (by omega) (by omega) (by omega) (by omega) (Or.inl (by omega))] at f_1
                      refine r_vP E (st := []) (c_X3_fewestWith l D p0 p1 p2 p3 p4 p5 p6 cI cZ L ow cA cU hd G3 a b 0 pr (by first | assumption | omega | exact ⟨by omega, by omega⟩) (by first | assumption | omega | exact ⟨by omega, by omega⟩) (by first | assumption | omega | exact ⟨by omega, by omega⟩) (by first | assumption | omega | exact ⟨by omega, by omega⟩) (by first | assumption | omega | exact ⟨by omega, by omega⟩) (by first | assumption | omega | exact ⟨by omega, by omega⟩) (by first | assumption | omega | exact ⟨by omega, by omega⟩) (by first | assumption | omega | exact ⟨by omega, by omega⟩) (by first | assumption | omega | exact ⟨by omega, by omega⟩)) gX3_fillFewest_X3_fewestWith 4 kf_X3_fewestWith ⟨rfl, rfl⟩ ⟨by decide, by decide⟩ dX3_fillFewest_73 rfl 0 rfl rfl rfl rfl ⟨Nat.zero_le _, Nat.zero_le _⟩ [0, 1, 2, 3, 4, 5, 6] rfl (by decide) [0, 1] rfl (Nat.le_of_ble_eq_true rfl) ?_
                      refine r_istore E [(4, .int (iJ ((if fitP L ow cA cU a b 0 then (if G3 ((a + 1) * 4 + 0) + (if b = 0 then pr else 0) < 1000 then G3 ((a + 1) * 4 + 0) + (if b = 0 then pr else 0) else 1000) else 1000)))), (0, .ref p0), (1, .int (iJ (pr))), (2, .int (iJ (a))), (3, .int (iJ (b)))] dX3_fillFewest_76 (by decide) rfl ?_
                      refine r_aload_n E 1 dX3_fillFewest_78 rfl rfl ?_
                      refine r_iload_n E 3 dX3_fillFewest_79 rfl rfl ?_
                      refine r_iload_n E 4 dX3_fillFewest_80 rfl rfl ?_
                      refine r_iconst E 1 rfl dX3_fillFewest_81 ?_
                      refine r_iload_n E 2 dX3_fillFewest_82 rfl rfl ?_
                      refine r_vP E (st := []) (c_X3_fewestWith l D p0 p1 p2 p3 p4 p5 p6 cI cZ L ow cA cU hd G3 a b 1 pr (by first | assumption | omega | exact ⟨by omega, by omega⟩) (by first | assumption | omega | exact ⟨by omega, by omega⟩) (by first | assumption | omega | exact ⟨by omega, by omega⟩) (by first | assumption | omega | exact ⟨by omega, by omega⟩) (by first | assumption | omega | exact ⟨by omega, by omega⟩) (by first | assumption | omega | exact ⟨by omega, by omega⟩) (by first | assumption | omega | exact ⟨by omega, by omega⟩) (by first | assumption | omega | exact ⟨by omega, by omega⟩) (by first | assumption | omega | exact ⟨by omega, by omega⟩)) gX3_fillFewest_X3_fewestWith 4 kf_X3_fewestWith ⟨rfl, rfl⟩ ⟨by decide, by decide⟩ dX3_fillFewest_83 rfl 0 rfl rfl rfl rfl ⟨Nat.zero_le _, Nat.zero_le _⟩ [0, 1, 2, 3, 4, 5, 6] rfl (by decide) [0, 1] rfl (Nat.le_of_ble_eq_true rfl) ?_
                      refine r_istore E [(5, .int (iJ ((if fitP L ow cA cU a b 1 then (if G3 ((a + 1) * 4 + 1) + (if b = 1 then pr else 0) < 1000 then G3 ((a + 1) * 4 + 1) + (if b = 1 then pr else 0) else 1000) else 1000)))), (4, .int (iJ ((if fitP L ow cA cU a b 0 then (if G3 ((a + 1) * 4 + 0) + (if b = 0 then pr else 0) < 1000 then G3 ((a + 1) * 4 + 0) + (if b = 0 then pr else 0) else 1000) else 1000)))), (0, .ref p0), (1, .int (iJ (pr))), (2, .int (iJ (a))), (3, .int (iJ (b)))] dX3_fillFewest_86 (by decide) rfl ?_
                      refine r_aload_n E 2 dX3_fillFewest_88 rfl rfl ?_
                      refine r_iload_n E 4 dX3_fillFewest_89 rfl rfl ?_
                      refine r_iload_n E 5 dX3_fillFewest_90 rfl rfl ?_
                      refine r_iload E 1 dX3_fillFewest_91 rfl ?_
                      refine r_iload E 0 dX3_fillFewest_93 rfl ?_
                      refine r_imin E (if (if fitP L ow cA cU a b 1 then (if G3 ((a + 1) * 4 + 1) + (if b = 1 then pr else 0) < 1000 then G3 ((a + 1) * 4 + 1) + (if b = 1 then pr else 0) else 1000) else 1000) < (if fitP L ow cA cU a b 0 then (if G3 ((a + 1) * 4 + 0) + (if b = 0 then pr else 0) < 1000 then G3 ((a + 1) * 4 + 0) + (if b = 0 then pr else 0) else 1000) else 1000) then (if fitP L ow cA cU a b 1 then (if G3 ((a + 1) * 4 + 1) + (if b = 1 then pr else 0) < 1000 then G3 ((a + 1) * 4 + 1) + (if b = 1 then pr else 0) else 1000) else 1000) else (if fitP L ow cA cU a b 0 then (if G3 ((a + 1) * 4 + 0) + (if b = 0 then pr else 0) < 1000 then G3 ((a + 1) * 4 + 0) + (if b = 0 then pr else 0) else 1000) else 1000)) dX3_fillFewest_95 ⟨by (repeat' split) <;> exact ⟨by omega, by omega⟩, by (repeat' split) <;> exact ⟨by omega, by omega⟩, rfl⟩ mk_X3_fillFewest_53 ⟨by decide, by decide⟩ (Nat.le_of_ble_eq_true rfl) ⟨Nat.zero_le _, Nat.zero_le _⟩ ?_
                      refine r_vV E (st := []) (c_X3_keepFewest l D p0 p1 p2 p3 p4 p5 p6 cI cZ L ow cA cU hd G3 a b (if (if fitP L ow cA cU a b 1 then (if G3 ((a + 1) * 4 + 1) + (if b = 1 then pr else 0) < 1000 then G3 ((a + 1) * 4 + 1) + (if b = 1 then pr else 0) else 1000) else 1000) < (if fitP L ow cA cU a b 0 then (if G3 ((a + 1) * 4 + 0) + (if b = 0 then pr else 0) < 1000 then G3 ((a + 1) * 4 + 0) + (if b = 0 then pr else 0) else 1000) else 1000) then (if fitP L ow cA cU a b 1 then (if G3 ((a + 1) * 4 + 1) + (if b = 1 then pr else 0) < 1000 then G3 ((a + 1) * 4 + 1) + (if b = 1 then pr else 0) else 1000) else 1000) else (if fitP L ow cA cU a b 0 then (if G3 ((a + 1) * 4 + 0) + (if b = 0 then pr else 0) < 1000 then G3 ((a + 1) * 4 + 0) + (if b = 0 then pr else 0) else 1000) else 1000)) (by first | assumption | omega | exact ⟨by omega, by omega⟩) (by first | assumption | omega | exact ⟨by omega, by omega⟩)) gX3_fillFewest_X3_keepFewest 3 kf_X3_keepFewest ⟨rfl, rfl⟩ ⟨by decide, by decide⟩ dX3_fillFewest_98 rfl 0 rfl rfl rfl rfl ⟨Nat.zero_le _, Nat.zero_le _⟩ [0, 1, 2, 3, 4, 5, 6] rfl (by decide) [0, 1] rfl (Nat.le_of_ble_eq_true rfl) [] [] rfl (by decide) (by decide) hA [0, 1, 2, 3, 4, 5, 6] (by decide) (fun (_ : Unit) => [(p0, .inr (3, [.ref p1, .ref p2, .ref p3, .ref p4, .ref p5, .ref p6, .int (iJ (L))])), (p1, cJ cI 32 (nrA)), (p2, cJ cI 32 (ow)), (p3, cJ cZ 32 (cA)), (p4, cJ cZ 32 (cU)), (p5, cJ cI 32 (hd)), (p6, cJ cI 132 (uJ G3 (a * 4 + b) (if (if fitP L ow cA cU a b 1 then (if G3 ((a + 1) * 4 + 1) + (if b = 1 then pr else 0) < 1000 then G3 ((a + 1) * 4 + 1) + (if b = 1 then pr else 0) else 1000) else 1000) < (if fitP L ow cA cU a b 0 then (if G3 ((a + 1) * 4 + 0) + (if b = 0 then pr else 0) < 1000 then G3 ((a + 1) * 4 + 0) + (if b = 0 then pr else 0) else 1000) else 1000) then (if fitP L ow cA cU a b 1 then (if G3 ((a + 1) * 4 + 1) + (if b = 1 then pr else 0) < 1000 then G3 ((a + 1) * 4 + 1) + (if b = 1 then pr else 0) else 1000) else 1000) else (if fitP L ow cA cU a b 0 then (if G3 ((a + 1) * 4 + 0) + (if b = 0 then pr else 0) < 1000 then G3 ((a + 1) * 4 + 0) + (if b = 0 then pr else 0) else 1000) else 1000))))]) (fun _ => rfl) ?_
                      rintro ⟨⟩ hp_2
                      refine r_iinc E (k := 5) [(3, .int (iJ ((b + 1)))), (5, .int (iJ ((if fitP L ow cA cU a b 1 then (if G3 ((a + 1) * 4 + 1) + (if b = 1 then pr else 0) < 1000 then G3 ((a + 1) * 4 + 1) + (if b = 1 then pr else 0) else 1000) else 1000)))), (4, .int (iJ ((if fitP L ow cA cU a b 0 then (if G3 ((a + 1) * 4 + 0) + (if b = 0 then pr else 0) < 1000 then G3 ((a + 1) * 4 + 0) + (if b = 0 then pr else 0) else 1000) else 1000)))), (0, .ref p0), (1, .int (iJ (pr))), (2, .int (iJ (a)))] dX3_fillFewest_101 rfl (by decide) rfl ?_
                      refine r_goto E 36 dX3_fillFewest_104 (by decide) ?_
                      refine r_lv [3, 4, 5, 0] [(0, .ref p0), (1, .int (iJ (pr))), (2, .int (iJ (a))), (3, .int (iJ ((b + 1))))] rfl ?_
                      exact ih36 (b + 1) (uJ G3 (a * 4 + b) (if (if fitP L ow cA cU a b 1 then (if G3 ((a + 1) * 4 + 1) + (if b = 1 then pr else 0) < 1000 then G3 ((a + 1) * 4 + 1) + (if b = 1 then pr else 0) else 1000) else 1000) < (if fitP L ow cA cU a b 0 then (if G3 ((a + 1) * 4 + 0) + (if b = 0 then pr else 0) < 1000 then G3 ((a + 1) * 4 + 0) + (if b = 0 then pr else 0) else 1000) else 1000) then (if fitP L ow cA cU a b 1 then (if G3 ((a + 1) * 4 + 1) + (if b = 1 then pr else 0) < 1000 then G3 ((a + 1) * 4 + 1) + (if b = 1 then pr else 0) else 1000) else 1000) else (if fitP L ow cA cU a b 0 then (if G3 ((a + 1) * 4 + 0) + (if b = 0 then pr else 0) < 1000 then G3 ((a + 1) * 4 + 0) + (if b = 0 then pr else 0) else 1000) else 1000))) ⟨by omega, by omega⟩ (fun x y h1 h2 h3 h4 h5 => by
                            by_cases q : x = a ∧ y = b
                            · obtain ⟨rfl, rfl⟩ := q
                              rw [uJ_s, ffS_s _ _ _ _ _ _ (by omega)]
                              first
                              | (rw [if_pos c_48]; exact hG3 (x + 1) y (by omega) (by omega) h3 h4 (Or.inl (by omega)))
                              | (rw [if_neg c_48]; unfold ffV ffX; rw [← hG3 (x + 1) 0 (by omega) (by omega) (by omega) (by omega) (Or.inl (by omega)), ← hG3 (x + 1) 1 (by omega) (by omega) (by omega) (by omega) (Or.inl (by omega))])
                            · rw [uJ_n (by omega)]; exact hG3 x y h1 h2 h3 h4 (by omega)) (by omega)
                    · refine r_aload_n E 0 dX3_fillFewest_51 rfl rfl ?_
                      refine r_iload_n E 2 dX3_fillFewest_52 rfl rfl ?_
                      refine r_iload_n E 3 dX3_fillFewest_53 rfl rfl ?_
                      refine r_aload_n E 0 dX3_fillFewest_54 rfl rfl ?_
                      refine r_iload_n E 2 dX3_fillFewest_55 rfl rfl ?_
                      refine r_iconst E 1 rfl dX3_fillFewest_56 ?_
                      refine r_iadd E dX3_fillFewest_57 ?_
                      refine r_iload_n E 3 dX3_fillFewest_58 rfl rfl ?_
                      refine r_vP E (st := [.int (iJ (b)), .int (iJ (a)), .ref p0]) (c_X3_fewestFrom l D p0 p1 p2 p3 p4 p5 p6 cI cZ L ow cA cU hd G3 (a + 1) b (by first | assumption | omega | exact ⟨by omega, by omega⟩) (by first | assumption | omega | exact ⟨by omega, by omega⟩)) gX3_fillFewest_X3_fewestFrom 2 kf_X3_fewestFrom ⟨rfl, rfl⟩ ⟨by decide, by decide⟩ dX3_fillFewest_59 rfl 0 rfl rfl rfl rfl ⟨Nat.zero_le _, Nat.zero_le _⟩ [0, 1, 2, 3, 4, 5, 6] rfl (by decide) [0, 1] rfl (Nat.le_of_ble_eq_true rfl) ?_
                      refine r_vV E (st := []) (c_X3_keepFewest l D p0 p1 p2 p3 p4 p5 p6 cI cZ L ow cA cU hd G3 a b (G3 ((a + 1) * 4 + b)) (by first | assumption | omega | exact ⟨by omega, by omega⟩) (by first | assumption | omega | exact ⟨by omega, by omega⟩)) gX3_fillFewest_X3_keepFewest 3 kf_X3_keepFewest ⟨rfl, rfl⟩ ⟨by decide, by decide⟩ dX3_fillFewest_62 rfl 0 rfl rfl rfl rfl ⟨Nat.zero_le _, Nat.zero_le _⟩ [0, 1, 2, 3, 4, 5, 6] rfl (by decide) [0, 1] rfl (Nat.le_of_ble_eq_true rfl) [] [] rfl (by decide) (by decide) hA [0, 1, 2, 3, 4, 5, 6] (by decide) (fun (_ : Unit) => [(p0, .inr (3, [.ref p1, .ref p2, .ref p3, .ref p4, .ref p5, .ref p6, .int (iJ (L))])), (p1, cJ cI 32 (nrA)), (p2, cJ cI 32 (ow)), (p3, cJ cZ 32 (cA)), (p4, cJ cZ 32 (cU)), (p5, cJ cI 32 (hd)), (p6, cJ cI 132 (uJ G3 (a * 4 + b) (G3 ((a + 1) * 4 + b))))]) (fun _ => rfl) ?_
                      rintro ⟨⟩ hp_3
                      refine r_goto E 101 dX3_fillFewest_65 (by decide) ?_
                      refine r_iinc E (k := 3) [(3, .int (iJ ((b + 1)))), (0, .ref p0), (1, .int (iJ (pr))), (2, .int (iJ (a)))] dX3_fillFewest_101 rfl (by decide) rfl ?_
                      refine r_goto E 36 dX3_fillFewest_104 (by decide) ?_
                      refine r_lv [1, 2, 3, 0] [(0, .ref p0), (1, .int (iJ (pr))), (2, .int (iJ (a))), (3, .int (iJ ((b + 1))))] rfl ?_
                      exact ih36 (b + 1) (uJ G3 (a * 4 + b) (G3 ((a + 1) * 4 + b))) ⟨by omega, by omega⟩ (fun x y h1 h2 h3 h4 h5 => by
                            by_cases q : x = a ∧ y = b
                            · obtain ⟨rfl, rfl⟩ := q
                              rw [uJ_s, ffS_s _ _ _ _ _ _ (by omega)]
                              first
                              | (rw [if_pos c_48]; exact hG3 (x + 1) y (by omega) (by omega) h3 h4 (Or.inl (by omega)))
                              | (rw [if_neg c_48]; unfold ffV ffX; rw [← hG3 (x + 1) 0 (by omega) (by omega) (by omega) (by omega) (Or.inl (by omega)), ← hG3 (x + 1) 1 (by omega) (by omega) (by omega) (by omega) (Or.inl (by omega))])
                            · rw [uJ_n (by omega)]; exact hG3 x y h1 h2 h3 h4 (by omega)) (by omega)
              refine r_lv [1, 2, 3, 0] [(0, .ref p0), (1, .int (iJ (pr))), (2, .int (iJ (a))), (3, .int (iJ (0)))] rfl ?_
              exact loop_36 _ 0 G2 ⟨by omega, by omega⟩ (fun x y h1 h2 h3 h4 h5 => hG2 x y (by omega) h2 h3 h4) (Nat.lt_succ_self _)
        refine r_lv [1, 2, 0] [(0, .ref p0), (1, .int (iJ (pr))), (2, .int (iJ ((L - 1))))] rfl ?_
        exact loop_30 _ (L - 1) G ⟨by omega, by omega⟩ (fun x b h1 h2 h3 h4 => by
              have e : x = L := by omega
              rw [e, ffS_e]; exact hG b h3 (by omega)) (Nat.lt_succ_self _)
      · refine r_aload_n E 0 dX3_fillFewest_7 rfl rfl ?_
        refine r_aload_n E 0 dX3_fillFewest_8 rfl rfl ?_
        refine r_get E 3 0 6 dX3_fillFewest_9 in_X3_fillFewest_X3 lk_X3_fillFewest_31 rfl rfl (by decide) rfl ?_
        refine r_iload_n E 2 dX3_fillFewest_12 rfl rfl ?_
        refine r_iconst E 0 rfl dX3_fillFewest_13 ?_
        refine r_vV E (st := []) (c_X3_keepFewest l D p0 p1 p2 p3 p4 p5 p6 cI cZ L ow cA cU hd G L k 0 (by first | assumption | omega | exact ⟨by omega, by omega⟩) (by first | assumption | omega | exact ⟨by omega, by omega⟩)) gX3_fillFewest_X3_keepFewest 3 kf_X3_keepFewest ⟨rfl, rfl⟩ ⟨by decide, by decide⟩ dX3_fillFewest_14 rfl 0 rfl rfl rfl rfl ⟨Nat.zero_le _, Nat.zero_le _⟩ [0, 1, 2, 3, 4, 5, 6] rfl (by decide) [0, 1] rfl (Nat.le_of_ble_eq_true rfl) [] [] rfl (by decide) (by decide) hA [0, 1, 2, 3, 4, 5, 6] (by decide) (fun (_ : Unit) => [(p0, .inr (3, [.ref p1, .ref p2, .ref p3, .ref p4, .ref p5, .ref p6, .int (iJ (L))])), (p1, cJ cI 32 (nrA)), (p2, cJ cI 32 (ow)), (p3, cJ cZ 32 (cA)), (p4, cJ cZ 32 (cU)), (p5, cJ cI 32 (hd)), (p6, cJ cI 132 (uJ G (L * 4 + k) 0))]) (fun _ => rfl) ?_
        rintro ⟨⟩ hp_4
        refine r_iinc E (k := 2) [(2, .int (iJ ((k + 1)))), (0, .ref p0), (1, .int (iJ (pr)))] dX3_fillFewest_17 rfl (by decide) rfl ?_
        refine r_goto E 2 dX3_fillFewest_20 (by decide) ?_
        refine r_lv [1, 2, 0] [(0, .ref p0), (1, .int (iJ (pr))), (2, .int (iJ ((k + 1))))] rfl ?_
        exact ih2 (k + 1) (uJ G (L * 4 + k) 0) ⟨by omega, by omega⟩ (fun b h1 h2 => by
              by_cases q : b = k
              · subst q; exact uJ_s _ _ _
              · rw [uJ_n (by omega)]; exact hG b h1 (by omega)) (by omega)
  refine r_lv [1, 2, 0] [(0, .ref p0), (1, .int (iJ (pr))), (2, .int (iJ (0)))] rfl ?_
  exact loop_2 _ 0 fw ⟨by omega, by omega⟩ (fun b h1 h2 => absurd h2 (by omega)) (Nat.lt_succ_self _)
