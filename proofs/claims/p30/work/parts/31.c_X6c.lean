theorem kf_X6_playedHand : KF yX6_playedHand 2 wsX6_playedHand cX6_playedHand 3 (some .int) := ⟨rfl, by decide +kernel, by decide +kernel, by decide +kernel⟩
def rm_X6_playedHand : Room := { frames := 5, cells := 0, slots := 0, locals := 122 }
set_option maxRecDepth 20000 in
theorem in_X6_playedHand_X6 : ∀ w ∈ u_ws RX6 TX6 9, w ∈ wsX6_playedHand := by decide +kernel
set_option maxRecDepth 20000 in
theorem lk_X6_playedHand_10 : Cond.fieldLink RX6 10 (TX6 0).1 (TX6 0).2.1 (TX6 0).2.2.1 ∈ wsX6_playedHand := by decide +kernel
set_option maxRecDepth 20000 in
theorem lk_X6_playedHand_46 : Cond.fieldLink RX6 46 (TX6 6).1 (TX6 6).2.1 (TX6 6).2.2.1 ∈ wsX6_playedHand := by decide +kernel
set_option maxHeartbeats 1000000 in
set_option maxRecDepth 100000 in
theorem c_X6_playedHand (l : Launch) (D : va_G) (x0 : Nat) (h0 : Nat) (t0 : Nat) (n0 : Nat) (i0 : Nat) (d0 : Nat) (r0 : Nat) (p0 : Nat) (hs : Int) (rf : Int) (h1 : Nat) (cI : ClassId) (g : Int → Int) (n : Int) (q : Int) (p1 : Nat) (p2 : Nat) (p3 : Nat) (p4 : Nat) (p5 : Nat) (p6 : Nat) (cZ : ClassId) (L : Int) (ow : Int → Int) (cA : Int → Int) (cU : Int → Int) (hd : Int → Int) (fw : Int → Int) (a : Int) (pr : Int) (hn : 0 ≤ n ∧ n ≤ 32) (hg : ∀ j : Int, 0 ≤ j → j < n → 0 ≤ g j ∧ g j < 64) (hq : 1 ≤ q ∧ q ≤ 4) (hg3 : ∀ j : Int, 0 ≤ j → j < n → ¬ g j / 2 % 4 = 3) (ha : 0 ≤ a ∧ a < n) (hpr : pr = 0 ∨ pr = 1) : MM (S := Int × (Int → Int) × (Int → Int) × (Int → Int) × (Int → Int) × (Int → Int)) l yX6_playedHand wsX6_playedHand rm_X6_playedHand D vwCl [.ref x0, .int (iJ (a)), .int (iJ (pr))] [(x0, .inr (5, [.ref h0, .ref t0, .ref n0, .ref i0, .ref d0, .ref r0, .ref p0, .int (iJ (hs)), .int (iJ (rf))])), (h0, .inr (2, [.ref h1, .int (iJ (n)), .int (iJ (q))])), (h1, cJ cI 32 (g)), (p0, .inr (3, [.ref p1, .ref p2, .ref p3, .ref p4, .ref p5, .ref p6, .int (iJ (L))])), (p1, cJ cI 32 (nrA)), (p2, cJ cI 32 (ow)), (p3, cJ cZ 32 (cA)), (p4, cJ cZ 32 (cU)), (p5, cJ cI 32 (hd)), (p6, cJ cI 132 (fw))] [(cI, .int), (cZ, .boolean)] (fun (u : Int × (Int → Int) × (Int → Int) × (Int → Int) × (Int → Int) × (Int → Int)) => (if ¬ g a = 0 ∧ fcB g n q pr < 1000 then chP g n q pr a else -4)) (fun (u : Int × (Int → Int) × (Int → Int) × (Int → Int) × (Int → Int) × (Int → Int)) => True) (fun (u : Int × (Int → Int) × (Int → Int) × (Int → Int) × (Int → Int) × (Int → Int)) => [(x0, .inr (5, [.ref h0, .ref t0, .ref n0, .ref i0, .ref d0, .ref r0, .ref p0, .int (iJ (hs)), .int (iJ (rf))])), (h0, .inr (2, [.ref h1, .int (iJ (n)), .int (iJ (q))])), (h1, cJ cI 32 (g)), (p0, .inr (3, [.ref p1, .ref p2, .ref p3, .ref p4, .ref p5, .ref p6, .int (iJ (u.1))])), (p1, cJ cI 32 (nrA)), (p2, cJ cI 32 (u.2.1)), (p3, cJ cZ 32 (u.2.2.1)), (p4, cJ cZ 32 (u.2.2.2.1)), (p5, cJ cI 32 (u.2.2.2.2.1)), (p6, cJ cI 132 (u.2.2.2.2.2))]) := by
  refine MM.mk (cc := cX6_playedHand) (maxL := 3) (ret := (some .int)) (by decide) rfl (Nat.le_of_ble_eq_true rfl) rfl RX6 rfl ?_
  intro p_ e_ s_ m_ ar_ bw_ mt_ cd_ B_ Q_ hA E hr hQ
  have f_g := hg a ha.1 ha.2
  refine r_aload_n E 0 dX6_playedHand_0 rfl rfl ?_
  refine r_get E 5 0 0 dX6_playedHand_1 in_X6_playedHand_X6 lk_X6_playedHand_10 rfl rfl (by decide) rfl ?_
  refine r_iload_n E 1 dX6_playedHand_4 rfl rfl ?_
  refine r_vP E (st := []) (c_X2_at l D h0 h1 cI g n q a (by first | assumption | omega | exact ⟨by omega, by omega⟩) (by first | assumption | omega | exact ⟨by omega, by omega⟩)) gX6_playedHand_X2_at 1 kf_X2_at ⟨rfl, rfl⟩ ⟨by decide, by decide⟩ dX6_playedHand_5 rfl 1 rfl rfl rfl rfl ⟨Nat.zero_le _, Nat.zero_le _⟩ [1, 2] rfl (by decide) [0] rfl (Nat.le_of_ble_eq_true rfl) ?_
  refine r_top (b := (g a)) (pAt_t ⟨by omega, by omega⟩) ?_
  refine r_sP E (st := []) (c_X5_isStroke l D (g a) (by first | assumption | omega | exact ⟨by omega, by omega⟩)) gX6_playedHand_X5_isStroke 1 kf_X5_isStroke ⟨rfl, rfl⟩ ⟨by decide, by decide⟩ dX6_playedHand_8 rfl rfl ⟨Nat.zero_le _, Nat.zero_le _⟩ [] rfl (by decide) [] rfl (Nat.le_of_ble_eq_true rfl) ?_
  refine r_ifeq_n E 29 dX6_playedHand_11 (by decide) (fun c_11 => ?_) (fun c_11 => ?_)
  · refine r_bipush E (-4) rfl dX6_playedHand_29 ?_
    exact r_retM E (L, ow, cA, cU, hd, fw) hr dX6_playedHand_31 (by first | (rw [if_neg (fun z => z.1 c_11)]; done) | (rw [if_neg (fun z => c_26 z.2)]; done)) trivial rfl hQ
  · refine r_aload_n E 0 dX6_playedHand_14 rfl rfl ?_
    refine r_get E 5 0 6 dX6_playedHand_15 in_X6_playedHand_X6 lk_X6_playedHand_46 rfl rfl (by decide) rfl ?_
    refine r_aload_n E 0 dX6_playedHand_18 rfl rfl ?_
    refine r_get E 5 0 0 dX6_playedHand_19 in_X6_playedHand_X6 lk_X6_playedHand_10 rfl rfl (by decide) rfl ?_
    refine r_iload_n E 2 dX6_playedHand_22 rfl rfl ?_
    refine r_vM E (st := []) (c_X3_choose l D p0 p1 p2 p3 p4 p5 p6 cI cZ L ow cA cU hd fw h0 h1 g n q pr (by first | assumption | omega | exact ⟨by omega, by omega⟩) (by first | assumption | omega | exact ⟨by omega, by omega⟩) (by first | assumption | omega | exact ⟨by omega, by omega⟩) (by first | assumption | omega | exact ⟨by omega, by omega⟩) (by first | assumption | omega | exact ⟨by omega, by omega⟩)) gX6_playedHand_X3_canChoose 2 kf_X3_canChoose ⟨rfl, rfl⟩ ⟨by decide, by decide⟩ dX6_playedHand_23 rfl 3 rfl rfl rfl rfl ⟨Nat.zero_le _, Nat.zero_le _⟩ [3, 4, 5, 6, 7, 8, 9, 1, 2] rfl (by decide) [0, 1] rfl (Nat.le_of_ble_eq_true rfl) [(x0, .inr (5, [.ref h0, .ref t0, .ref n0, .ref i0, .ref d0, .ref r0, .ref p0, .int (iJ (hs)), .int (iJ (rf))]))] [0] rfl (by decide) (by decide) hA [0, 8, 9, 1, 2, 3, 4, 5, 6, 7] (by decide) (fun u : Int × (Int → Int) × (Int → Int) × (Int → Int) × (Int → Int) × (Int → Int) => [(x0, .inr (5, [.ref h0, .ref t0, .ref n0, .ref i0, .ref d0, .ref r0, .ref p0, .int (iJ (hs)), .int (iJ (rf))])), (h0, .inr (2, [.ref h1, .int (iJ (n)), .int (iJ (q))])), (h1, cJ cI 32 (g)), (p0, .inr (3, [.ref p1, .ref p2, .ref p3, .ref p4, .ref p5, .ref p6, .int (iJ (u.1))])), (p1, cJ cI 32 (nrA)), (p2, cJ cI 32 (u.2.1)), (p3, cJ cZ 32 (u.2.2.1)), (p4, cJ cZ 32 (u.2.2.2.1)), (p5, cJ cI 32 (u.2.2.2.2.1)), (p6, cJ cI 132 (u.2.2.2.2.2))]) (fun _ => rfl) ?_
    rintro ⟨Lc, Oc, Ac, Uc, Hc, Fc⟩ hp_1
    refine r_cv (ws2 := [(x0, .inr (5, [.ref h0, .ref t0, .ref n0, .ref i0, .ref d0, .ref r0, .ref p0, .int (iJ (hs)), .int (iJ (rf))])), (h0, .inr (2, [.ref h1, .int (iJ (n)), .int (iJ (q))])), (h1, cJ cI 32 (g)), (p0, .inr (3, [.ref p1, .ref p2, .ref p3, .ref p4, .ref p5, .ref p6, .int (iJ (Lc))])), (p1, cJ cI 32 (nrA)), (p2, cJ cI 32 (Oc)), (p3, cJ cZ 32 (Ac)), (p4, cJ cZ 32 (Uc)), (p5, cJ cI 32 (Hc)), (p6, cJ cI 132 (Fc))]) (st2 := [.int (iJ (b2 (fcB g n q pr < 1000)))]) rfl rfl rfl ?_
    obtain ⟨hFc, hHc, hLc⟩ := hp_1
    try dsimp only at hFc hHc hLc
    refine r_ifne_b E 32 dX6_playedHand_26 (by decide) (fun c_26 => ?_) (fun c_26 => ?_)
    · refine r_aload_n E 0 dX6_playedHand_32 rfl rfl ?_
      refine r_get E 5 0 6 dX6_playedHand_33 in_X6_playedHand_X6 lk_X6_playedHand_46 rfl rfl (by decide) rfl ?_
      refine r_iload_n E 1 dX6_playedHand_36 rfl rfl ?_
      refine r_vP E (st := []) (c_X3_handAt l D p0 p1 p2 p3 p4 p5 p6 cI cZ Lc Oc Ac Uc Hc Fc a (by first | assumption | omega | exact ⟨by omega, by omega⟩) (by first | assumption | omega | exact ⟨by omega, by omega⟩)) gX6_playedHand_X3_handAt 1 kf_X3_handAt ⟨rfl, rfl⟩ ⟨by decide, by decide⟩ dX6_playedHand_37 rfl 3 rfl rfl rfl rfl ⟨Nat.zero_le _, Nat.zero_le _⟩ [3, 4, 5, 6, 7, 8, 9] rfl (by decide) [0, 1] rfl (Nat.le_of_ble_eq_true rfl) ?_
      refine r_top (b := (chP g n q pr a)) (by
            subst hLc; rw [haA_t ha]; exact hHc c_26 a ha.1 ha.2 c_11) ?_
      exact r_retM E (Lc, Oc, Ac, Uc, Hc, Fc) hr dX6_playedHand_40 (by rw [if_pos ⟨c_11, c_26⟩]) trivial rfl hQ
    · refine r_bipush E (-4) rfl dX6_playedHand_29 ?_
      exact r_retM E (Lc, Oc, Ac, Uc, Hc, Fc) hr dX6_playedHand_31 (by first | (rw [if_neg (fun z => z.1 c_11)]; done) | (rw [if_neg (fun z => c_26 z.2)]; done)) trivial rfl hQ
theorem kf_X6_step : KF yX6_step 2 wsX6_step cX6_step 4 (some .int) := ⟨rfl, by decide +kernel, by decide +kernel, by decide +kernel⟩
def rm_X6_step : Room := { frames := 6, cells := 0, slots := 0, locals := 144 }
set_option maxRecDepth 20000 in
theorem in_X6_step_X6 : ∀ w ∈ u_ws RX6 TX6 9, w ∈ wsX6_step := by decide +kernel
set_option maxRecDepth 20000 in
theorem lk_X6_step_10 : Cond.fieldLink RX6 10 (TX6 0).1 (TX6 0).2.1 (TX6 0).2.2.1 ∈ wsX6_step := by decide +kernel
set_option maxHeartbeats 1000000 in
set_option maxRecDepth 100000 in
theorem c_X6_stepBad (l : Launch) (D : va_G) (x0 : Nat) (h0 : Nat) (t0 : Nat) (n0 : Nat) (i0 : Nat) (d0 : Nat) (r0 : Nat) (p0 : Nat) (hs : Int) (rf : Int) (h1 : Nat) (cI : ClassId) (g : Int → Int) (n : Int) (q : Int) (a : Int) (w : Int) (hn : 0 ≤ n ∧ n ≤ 32) (ha : jb a) (hx : ¬ (0 ≤ a ∧ a < n)) : MP l yX6_step wsX6_step rm_X6_step D vwCl [.ref x0, .int (iJ (a)), .int (iJ (w))] [(x0, .inr (5, [.ref h0, .ref t0, .ref n0, .ref i0, .ref d0, .ref r0, .ref p0, .int (iJ (hs)), .int (iJ (rf))])), (h0, .inr (2, [.ref h1, .int (iJ (n)), .int (iJ (q))])), (h1, cJ cI 32 (g))] [(cI, .int)] (-1) := by
  refine MP.mk (cc := cX6_step) (maxL := 4) (ret := (some .int)) (by decide) rfl (Nat.le_of_ble_eq_true rfl) rfl RX6 rfl ?_
  intro p_ e_ s_ m_ ar_ bw_ mt_ cd_ Q_ E hr hQ
  refine r_aload_n E 0 dX6_step_0 rfl rfl ?_
  refine r_get E 5 0 0 dX6_step_1 in_X6_step_X6 lk_X6_step_10 rfl rfl (by decide) rfl ?_
  refine r_iload_n E 1 dX6_step_4 rfl rfl ?_
  refine r_vP E (st := []) (c_X2_hasStep l D h0 h1 cI g n q a (by first | assumption | omega | exact ⟨by omega, by omega⟩) (by first | assumption | omega | exact ⟨by omega, by omega⟩)) gX6_step_X2_hasStep 1 kf_X2_hasStep ⟨rfl, rfl⟩ ⟨by decide, by decide⟩ dX6_step_5 rfl 1 rfl rfl rfl rfl ⟨Nat.zero_le _, Nat.zero_le _⟩ [1, 2] rfl (by decide) [0] rfl (Nat.le_of_ble_eq_true rfl) ?_
  refine r_ifne_b E 13 dX6_step_8 (by decide) (fun c_8 => absurd c_8 (by omega)) (fun c_8 => ?_)
  refine r_iconst E (-1) rfl dX6_step_11 ?_
  exact r_retP E hr dX6_step_12 rfl hQ
set_option maxHeartbeats 1000000 in
set_option maxRecDepth 100000 in
theorem c_X6_stepR (l : Launch) (D : va_G) (x0 : Nat) (h0 : Nat) (t0 : Nat) (n0 : Nat) (i0 : Nat) (d0 : Nat) (r0 : Nat) (p0 : Nat) (hs : Int) (rf : Int) (h1 : Nat) (cI : ClassId) (g : Int → Int) (n : Int) (q : Int) (a : Int) (w : Int) (hn : 0 ≤ n ∧ n ≤ 32) (hg : ∀ j : Int, 0 ≤ j → j < n → 0 ≤ g j ∧ g j < 64) (ha : 0 ≤ a ∧ a < n) (hw : jb w) (hx : ¬ (w = 5 ∨ w = 6)) : MP l yX6_step wsX6_step rm_X6_step D vwCl [.ref x0, .int (iJ (a)), .int (iJ (w))] [(x0, .inr (5, [.ref h0, .ref t0, .ref n0, .ref i0, .ref d0, .ref r0, .ref p0, .int (iJ (hs)), .int (iJ (rf))])), (h0, .inr (2, [.ref h1, .int (iJ (n)), .int (iJ (q))])), (h1, cJ cI 32 (g))] [(cI, .int)] ((if w = 0 then (if g a = 0 then -4 else g a / 2 % 4) else if w = 1 then b2 (g a / 8 % 2 = 1) else if w = 2 then g a / 16 % 4 else if w = 3 then sBl (g a) else if w = 4 then sFs (g a) else -1)) := by
  refine MP.mk (cc := cX6_step) (maxL := 4) (ret := (some .int)) (by decide) rfl (Nat.le_of_ble_eq_true rfl) rfl RX6 rfl ?_
  intro p_ e_ s_ m_ ar_ bw_ mt_ cd_ Q_ E hr hQ
  have f_g := hg a ha.1 ha.2
  refine r_aload_n E 0 dX6_step_0 rfl rfl ?_
  refine r_get E 5 0 0 dX6_step_1 in_X6_step_X6 lk_X6_step_10 rfl rfl (by decide) rfl ?_
  refine r_iload_n E 1 dX6_step_4 rfl rfl ?_
  refine r_vP E (st := []) (c_X2_hasStep l D h0 h1 cI g n q a (by first | assumption | omega | exact ⟨by omega, by omega⟩) (by first | assumption | omega | exact ⟨by omega, by omega⟩)) gX6_step_X2_hasStep 1 kf_X2_hasStep ⟨rfl, rfl⟩ ⟨by decide, by decide⟩ dX6_step_5 rfl 1 rfl rfl rfl rfl ⟨Nat.zero_le _, Nat.zero_le _⟩ [1, 2] rfl (by decide) [0] rfl (Nat.le_of_ble_eq_true rfl) ?_
  refine r_ifne_b E 13 dX6_step_8 (by decide) (fun c_8 => ?_) (fun c_8 => absurd c_8 (by omega))
  refine r_aload_n E 0 dX6_step_13 rfl rfl ?_
  refine r_get E 5 0 0 dX6_step_14 in_X6_step_X6 lk_X6_step_10 rfl rfl (by decide) rfl ?_
  refine r_iload_n E 1 dX6_step_17 rfl rfl ?_
  refine r_vP E (st := []) (c_X2_at l D h0 h1 cI g n q a (by first | assumption | omega | exact ⟨by omega, by omega⟩) (by first | assumption | omega | exact ⟨by omega, by omega⟩)) gX6_step_X2_at 1 kf_X2_at ⟨rfl, rfl⟩ ⟨by decide, by decide⟩ dX6_step_18 rfl 1 rfl rfl rfl rfl ⟨Nat.zero_le _, Nat.zero_le _⟩ [1, 2] rfl (by decide) [0] rfl (Nat.le_of_ble_eq_true rfl) ?_
  refine r_top (b := (g a)) (pAt_t ⟨by omega, by omega⟩) ?_
  refine r_istore_n E [(3, .int (iJ ((g a)))), (0, .ref x0), (1, .int (iJ (a))), (2, .int (iJ (w)))] dX6_step_21 rfl (by decide) rfl ?_
  refine r_iload_n E 3 dX6_step_22 rfl rfl ?_
  by_cases c_23_0 : w = 0
  · refine r_tabIn E 0 64 dX6_step_23 c_23_0 ⟨by decide, by decide⟩ (by decide) (by decide) rfl (by decide) ?_
    refine r_iload_n E 0 dX6_step_64 rfl rfl ?_
    refine r_sP E (st := []) (c_X5_isStroke l D (g a) (by first | assumption | omega | exact ⟨by omega, by omega⟩)) gX6_step_X5_isStroke 1 kf_X5_isStroke ⟨rfl, rfl⟩ ⟨by decide, by decide⟩ dX6_step_65 rfl rfl ⟨Nat.zero_le _, Nat.zero_le _⟩ [] rfl (by decide) [] rfl (Nat.le_of_ble_eq_true rfl) ?_
    refine r_ifeq_n E 78 dX6_step_68 (by decide) (fun c_68 => ?_) (fun c_68 => ?_)
    · refine r_bipush E (-4) rfl dX6_step_78 ?_
      exact r_retP E hr dX6_step_80 (by
            first | (subst w; simp [*]; done) | (subst w; simp [b2, *]; done) | (repeat' (first | rw [if_neg (by omega)] | rfl))) hQ
    · refine r_iload_n E 0 dX6_step_71 rfl rfl ?_
      refine r_sP E (st := []) (c_X5_hand l D (g a) (by first | assumption | omega | exact ⟨by omega, by omega⟩)) gX6_step_X5_hand 1 kf_X5_hand ⟨rfl, rfl⟩ ⟨by decide, by decide⟩ dX6_step_72 rfl rfl ⟨Nat.zero_le _, Nat.zero_le _⟩ [] rfl (by decide) [] rfl (Nat.le_of_ble_eq_true rfl) ?_
      refine r_goto E 80 dX6_step_75 (by decide) ?_
      exact r_retP E hr dX6_step_80 (by
            first | (subst w; simp [*]; done) | (subst w; simp [b2, *]; done) | (repeat' (first | rw [if_neg (by omega)] | rfl))) hQ
  by_cases c_23_1 : w = 1
  · refine r_tabIn E 1 81 dX6_step_23 c_23_1 ⟨by decide, by decide⟩ (by decide) (by decide) rfl (by decide) ?_
    refine r_iload_n E 0 dX6_step_81 rfl rfl ?_
    refine r_sP E (st := []) (c_X5_isAccented l D (g a) (by first | assumption | omega | exact ⟨by omega, by omega⟩)) gX6_step_X5_isAccented 1 kf_X5_isAccented ⟨rfl, rfl⟩ ⟨by decide, by decide⟩ dX6_step_82 rfl rfl ⟨Nat.zero_le _, Nat.zero_le _⟩ [] rfl (by decide) [] rfl (Nat.le_of_ble_eq_true rfl) ?_
    refine r_ifeq_b E 92 dX6_step_85 (by decide) (fun c_85 => ?_) (fun c_85 => ?_)
    · refine r_iconst E 0 rfl dX6_step_92 ?_
      exact r_retP E hr dX6_step_93 (by
            first | (subst w; simp [*]; done) | (subst w; simp [b2, *]; done) | (repeat' (first | rw [if_neg (by omega)] | rfl))) hQ
    · refine r_iconst E 1 rfl dX6_step_88 ?_
      refine r_goto E 93 dX6_step_89 (by decide) ?_
      exact r_retP E hr dX6_step_93 (by
            first | (subst w; simp [*]; done) | (subst w; simp [b2, *]; done) | (repeat' (first | rw [if_neg (by omega)] | rfl))) hQ
  by_cases c_23_2 : w = 2
  · refine r_tabIn E 2 94 dX6_step_23 c_23_2 ⟨by decide, by decide⟩ (by decide) (by decide) rfl (by decide) ?_
    refine r_iload_n E 0 dX6_step_94 rfl rfl ?_
    refine r_sP E (st := []) (c_X5_ornament l D (g a) (by first | assumption | omega | exact ⟨by omega, by omega⟩)) gX6_step_X5_ornament 1 kf_X5_ornament ⟨rfl, rfl⟩ ⟨by decide, by decide⟩ dX6_step_95 rfl rfl ⟨Nat.zero_le _, Nat.zero_le _⟩ [] rfl (by decide) [] rfl (Nat.le_of_ble_eq_true rfl) ?_
    exact r_retP E hr dX6_step_98 (by
          first | (subst w; simp [*]; done) | (subst w; simp [b2, *]; done) | (repeat' (first | rw [if_neg (by omega)] | rfl))) hQ
  by_cases c_23_3 : w = 3
  · refine r_tabIn E 3 99 dX6_step_23 c_23_3 ⟨by decide, by decide⟩ (by decide) (by decide) rfl (by decide) ?_
    refine r_iload_n E 0 dX6_step_99 rfl rfl ?_
    refine r_sP E (st := []) (c_X5_blows l D (g a) (by first | assumption | omega | exact ⟨by omega, by omega⟩)) gX6_step_X5_blows 1 kf_X5_blows ⟨rfl, rfl⟩ ⟨by decide, by decide⟩ dX6_step_100 rfl rfl ⟨Nat.zero_le _, Nat.zero_le _⟩ [] rfl (by decide) [] rfl (Nat.le_of_ble_eq_true rfl) ?_
    exact r_retP E hr dX6_step_103 (by
          first | (subst w; simp [*]; done) | (subst w; simp [b2, *]; done) | (repeat' (first | rw [if_neg (by omega)] | rfl))) hQ
  by_cases c_23_4 : w = 4
  · refine r_tabIn E 4 104 dX6_step_23 c_23_4 ⟨by decide, by decide⟩ (by decide) (by decide) rfl (by decide) ?_
    refine r_iload_n E 0 dX6_step_104 rfl rfl ?_
    refine r_sP E (st := []) (c_X5_forces l D (g a) (by first | assumption | omega | exact ⟨by omega, by omega⟩)) gX6_step_X5_forces 1 kf_X5_forces ⟨rfl, rfl⟩ ⟨by decide, by decide⟩ dX6_step_105 rfl rfl ⟨Nat.zero_le _, Nat.zero_le _⟩ [] rfl (by decide) [] rfl (Nat.le_of_ble_eq_true rfl) ?_
    exact r_retP E hr dX6_step_108 (by
          first | (subst w; simp [*]; done) | (subst w; simp [b2, *]; done) | (repeat' (first | rw [if_neg (by omega)] | rfl))) hQ
  have c_23_5 : ¬ w = 5 := by omega
  have c_23_6 : ¬ w = 6 := by omega
  refine r_tabOut E 123 dX6_step_23 hw (by omega) (by decide) ?_
  refine r_iconst E (-1) rfl dX6_step_123 ?_
  exact r_retP E hr dX6_step_124 (by
        first | (subst w; simp [*]; done) | (subst w; simp [b2, *]; done) | (repeat' (first | rw [if_neg (by omega)] | rfl))) hQ
set_option maxHeartbeats 1000000 in
set_option maxRecDepth 100000 in
theorem c_X6_stepS (l : Launch) (D : va_G) (x0 : Nat) (h0 : Nat) (t0 : Nat) (n0 : Nat) (i0 : Nat) (d0 : Nat) (r0 : Nat) (p0 : Nat) (hs : Int) (rf : Int) (h1 : Nat) (cI : ClassId) (g : Int → Int) (n : Int) (q : Int) (p1 : Nat) (p2 : Nat) (p3 : Nat) (p4 : Nat) (p5 : Nat) (p6 : Nat) (cZ : ClassId) (L : Int) (ow : Int → Int) (cA : Int → Int) (cU : Int → Int) (hd : Int → Int) (fw : Int → Int) (a : Int) (w : Int) (pr : Int) (hn : 0 ≤ n ∧ n ≤ 32) (hg : ∀ j : Int, 0 ≤ j → j < n → 0 ≤ g j ∧ g j < 64) (hq : 1 ≤ q ∧ q ≤ 4) (hg3 : ∀ j : Int, 0 ≤ j → j < n → ¬ g j / 2 % 4 = 3) (ha : 0 ≤ a ∧ a < n) (hpr : pr = 0 ∨ pr = 1) (hx : w = 5 + pr) : MM (S := Int × (Int → Int) × (Int → Int) × (Int → Int) × (Int → Int) × (Int → Int)) l yX6_step wsX6_step rm_X6_step D vwCl [.ref x0, .int (iJ (a)), .int (iJ (w))] [(x0, .inr (5, [.ref h0, .ref t0, .ref n0, .ref i0, .ref d0, .ref r0, .ref p0, .int (iJ (hs)), .int (iJ (rf))])), (h0, .inr (2, [.ref h1, .int (iJ (n)), .int (iJ (q))])), (h1, cJ cI 32 (g)), (p0, .inr (3, [.ref p1, .ref p2, .ref p3, .ref p4, .ref p5, .ref p6, .int (iJ (L))])), (p1, cJ cI 32 (nrA)), (p2, cJ cI 32 (ow)), (p3, cJ cZ 32 (cA)), (p4, cJ cZ 32 (cU)), (p5, cJ cI 32 (hd)), (p6, cJ cI 132 (fw))] [(cI, .int), (cZ, .boolean)] (fun (u : Int × (Int → Int) × (Int → Int) × (Int → Int) × (Int → Int) × (Int → Int)) => (if ¬ g a = 0 ∧ fcB g n q pr < 1000 then chP g n q pr a else -4)) (fun (u : Int × (Int → Int) × (Int → Int) × (Int → Int) × (Int → Int) × (Int → Int)) => True) (fun (u : Int × (Int → Int) × (Int → Int) × (Int → Int) × (Int → Int) × (Int → Int)) => [(x0, .inr (5, [.ref h0, .ref t0, .ref n0, .ref i0, .ref d0, .ref r0, .ref p0, .int (iJ (hs)), .int (iJ (rf))])), (h0, .inr (2, [.ref h1, .int (iJ (n)), .int (iJ (q))])), (h1, cJ cI 32 (g)), (p0, .inr (3, [.ref p1, .ref p2, .ref p3, .ref p4, .ref p5, .ref p6, .int (iJ (u.1))])), (p1, cJ cI 32 (nrA)), (p2, cJ cI 32 (u.2.1)), (p3, cJ cZ 32 (u.2.2.1)), (p4, cJ cZ 32 (u.2.2.2.1)), (p5, cJ cI 32 (u.2.2.2.2.1)), (p6, cJ cI 132 (u.2.2.2.2.2))]) := by
  refine MM.mk (cc := cX6_step) (maxL := 4) (ret := (some .int)) (by decide) rfl (Nat.le_of_ble_eq_true rfl) rfl RX6 rfl ?_
  intro p_ e_ s_ m_ ar_ bw_ mt_ cd_ B_ Q_ hA E hr hQ
  have f_g := hg a ha.1 ha.2
  refine r_aload_n E 0 dX6_step_0 rfl rfl ?_
  refine r_get E 5 0 0 dX6_step_1 in_X6_step_X6 lk_X6_step_10 rfl rfl (by decide) rfl ?_
  refine r_iload_n E 1 dX6_step_4 rfl rfl ?_
  refine r_vP E (st := []) (c_X2_hasStep l D h0 h1 cI g n q a (by first | assumption | omega | exact ⟨by omega, by omega⟩) (by first | assumption | omega | exact ⟨by omega, by omega⟩)) gX6_step_X2_hasStep 1 kf_X2_hasStep ⟨rfl, rfl⟩ ⟨by decide, by decide⟩ dX6_step_5 rfl 1 rfl rfl rfl rfl ⟨Nat.zero_le _, Nat.zero_le _⟩ [1, 2] rfl (by decide) [0] rfl (Nat.le_of_ble_eq_true rfl) ?_
  refine r_ifne_b E 13 dX6_step_8 (by decide) (fun c_8 => ?_) (fun c_8 => absurd c_8 (by omega))
  refine r_aload_n E 0 dX6_step_13 rfl rfl ?_
  refine r_get E 5 0 0 dX6_step_14 in_X6_step_X6 lk_X6_step_10 rfl rfl (by decide) rfl ?_
  refine r_iload_n E 1 dX6_step_17 rfl rfl ?_
  refine r_vP E (st := []) (c_X2_at l D h0 h1 cI g n q a (by first | assumption | omega | exact ⟨by omega, by omega⟩) (by first | assumption | omega | exact ⟨by omega, by omega⟩)) gX6_step_X2_at 1 kf_X2_at ⟨rfl, rfl⟩ ⟨by decide, by decide⟩ dX6_step_18 rfl 1 rfl rfl rfl rfl ⟨Nat.zero_le _, Nat.zero_le _⟩ [1, 2] rfl (by decide) [0] rfl (Nat.le_of_ble_eq_true rfl) ?_
  refine r_top (b := (g a)) (pAt_t ⟨by omega, by omega⟩) ?_
  refine r_istore_n E [(3, .int (iJ ((g a)))), (0, .ref x0), (1, .int (iJ (a))), (2, .int (iJ (w)))] dX6_step_21 rfl (by decide) rfl ?_
  refine r_iload_n E 3 dX6_step_22 rfl rfl ?_
  have c_23_0 : ¬ w = 0 := by omega
  have c_23_1 : ¬ w = 1 := by omega
  have c_23_2 : ¬ w = 2 := by omega
  have c_23_3 : ¬ w = 3 := by omega
  have c_23_4 : ¬ w = 4 := by omega
  by_cases c_23_5 : w = 5
  · refine r_tabIn E 5 109 dX6_step_23 c_23_5 ⟨by decide, by decide⟩ (by decide) (by decide) rfl (by decide) ?_
    refine r_aload_n E 1 dX6_step_109 rfl rfl ?_
    refine r_iload_n E 2 dX6_step_110 rfl rfl ?_
    refine r_iconst E 0 rfl dX6_step_111 ?_
    refine r_vM E (st := []) (c_X6_playedHand l D x0 h0 t0 n0 i0 d0 r0 p0 hs rf h1 cI g n q p1 p2 p3 p4 p5 p6 cZ L ow cA cU hd fw a 0 (by first | assumption | omega | exact ⟨by omega, by omega⟩) (by first | assumption | omega | exact ⟨by omega, by omega⟩) (by first | assumption | omega | exact ⟨by omega, by omega⟩) (by first | assumption | omega | exact ⟨by omega, by omega⟩) (by first | assumption | omega | exact ⟨by omega, by omega⟩) (by first | assumption | omega | exact ⟨by omega, by omega⟩)) gX6_step_X6_playedHand 2 kf_X6_playedHand ⟨rfl, rfl⟩ ⟨by decide, by decide⟩ dX6_step_112 rfl 0 rfl rfl rfl rfl ⟨Nat.zero_le _, Nat.zero_le _⟩ [0, 1, 2, 3, 4, 5, 6, 7, 8, 9] rfl (by decide) [0, 1] rfl (Nat.le_of_ble_eq_true rfl) [] [] rfl (by decide) (by decide) hA [0, 1, 2, 3, 4, 5, 6, 7, 8, 9] (by decide) (fun u : Int × (Int → Int) × (Int → Int) × (Int → Int) × (Int → Int) × (Int → Int) => [(x0, .inr (5, [.ref h0, .ref t0, .ref n0, .ref i0, .ref d0, .ref r0, .ref p0, .int (iJ (hs)), .int (iJ (rf))])), (h0, .inr (2, [.ref h1, .int (iJ (n)), .int (iJ (q))])), (h1, cJ cI 32 (g)), (p0, .inr (3, [.ref p1, .ref p2, .ref p3, .ref p4, .ref p5, .ref p6, .int (iJ (u.1))])), (p1, cJ cI 32 (nrA)), (p2, cJ cI 32 (u.2.1)), (p3, cJ cZ 32 (u.2.2.1)), (p4, cJ cZ 32 (u.2.2.2.1)), (p5, cJ cI 32 (u.2.2.2.2.1)), (p6, cJ cI 132 (u.2.2.2.2.2))]) (fun _ => rfl) ?_
    rintro ⟨Lc, Oc, Ac, Uc, Hc, Fc⟩ hp_1
    refine r_cv (ws2 := [(x0, .inr (5, [.ref h0, .ref t0, .ref n0, .ref i0, .ref d0, .ref r0, .ref p0, .int (iJ (hs)), .int (iJ (rf))])), (h0, .inr (2, [.ref h1, .int (iJ (n)), .int (iJ (q))])), (h1, cJ cI 32 (g)), (p0, .inr (3, [.ref p1, .ref p2, .ref p3, .ref p4, .ref p5, .ref p6, .int (iJ (Lc))])), (p1, cJ cI 32 (nrA)), (p2, cJ cI 32 (Oc)), (p3, cJ cZ 32 (Ac)), (p4, cJ cZ 32 (Uc)), (p5, cJ cI 32 (Hc)), (p6, cJ cI 132 (Fc))]) (st2 := [.int (iJ ((if ¬ g a = 0 ∧ fcB g n q 0 < 1000 then chP g n q 0 a else -4)))]) rfl rfl rfl ?_
    exact r_retM E (Lc, Oc, Ac, Uc, Hc, Fc) hr dX6_step_115 (by rw [show pr = 0 by omega]) trivial rfl hQ
  by_cases c_23_6 : w = 6
  · refine r_tabIn E 6 116 dX6_step_23 c_23_6 ⟨by decide, by decide⟩ (by decide) (by decide) rfl (by decide) ?_
    refine r_aload_n E 1 dX6_step_116 rfl rfl ?_
    refine r_iload_n E 2 dX6_step_117 rfl rfl ?_
    refine r_iconst E 1 rfl dX6_step_118 ?_
    refine r_vM E (st := []) (c_X6_playedHand l D x0 h0 t0 n0 i0 d0 r0 p0 hs rf h1 cI g n q p1 p2 p3 p4 p5 p6 cZ L ow cA cU hd fw a 1 (by first | assumption | omega | exact ⟨by omega, by omega⟩) (by first | assumption | omega | exact ⟨by omega, by omega⟩) (by first | assumption | omega | exact ⟨by omega, by omega⟩) (by first | assumption | omega | exact ⟨by omega, by omega⟩) (by first | assumption | omega | exact ⟨by omega, by omega⟩) (by first | assumption | omega | exact ⟨by omega, by omega⟩)) gX6_step_X6_playedHand 2 kf_X6_playedHand ⟨rfl, rfl⟩ ⟨by decide, by decide⟩ dX6_step_119 rfl 0 rfl rfl rfl rfl ⟨Nat.zero_le _, Nat.zero_le _⟩ [0, 1, 2, 3, 4, 5, 6, 7, 8, 9] rfl (by decide) [0, 1] rfl (Nat.le_of_ble_eq_true rfl) [] [] rfl (by decide) (by decide) hA [0, 1, 2, 3, 4, 5, 6, 7, 8, 9] (by decide) (fun u : Int × (Int → Int) × (Int → Int) × (Int → Int) × (Int → Int) × (Int → Int) => [(x0, .inr (5, [.ref h0, .ref t0, .ref n0, .ref i0, .ref d0, .ref r0, .ref p0, .int (iJ (hs)), .int (iJ (rf))])), (h0, .inr (2, [.ref h1, .int (iJ (n)), .int (iJ (q))])), (h1, cJ cI 32 (g)), (p0, .inr (3, [.ref p1, .ref p2, .ref p3, .ref p4, .ref p5, .ref p6, .int (iJ (u.1))])), (p1, cJ cI 32 (nrA)), (p2, cJ cI 32 (u.2.1)), (p3, cJ cZ 32 (u.2.2.1)), (p4, cJ cZ 32 (u.2.2.2.1)), (p5, cJ cI 32 (u.2.2.2.2.1)), (p6, cJ cI 132 (u.2.2.2.2.2))]) (fun _ => rfl) ?_
    rintro ⟨Lc, Oc, Ac, Uc, Hc, Fc⟩ hp_2
    refine r_cv (ws2 := [(x0, .inr (5, [.ref h0, .ref t0, .ref n0, .ref i0, .ref d0, .ref r0, .ref p0, .int (iJ (hs)), .int (iJ (rf))])), (h0, .inr (2, [.ref h1, .int (iJ (n)), .int (iJ (q))])), (h1, cJ cI 32 (g)), (p0, .inr (3, [.ref p1, .ref p2, .ref p3, .ref p4, .ref p5, .ref p6, .int (iJ (Lc))])), (p1, cJ cI 32 (nrA)), (p2, cJ cI 32 (Oc)), (p3, cJ cZ 32 (Ac)), (p4, cJ cZ 32 (Uc)), (p5, cJ cI 32 (Hc)), (p6, cJ cI 132 (Fc))]) (st2 := [.int (iJ ((if ¬ g a = 0 ∧ fcB g n q 1 < 1000 then chP g n q 1 a else -4)))]) rfl rfl rfl ?_
    exact r_retM E (Lc, Oc, Ac, Uc, Hc, Fc) hr dX6_step_122 (by rw [show pr = 1 by omega]) trivial rfl hQ
  exfalso; omega
theorem kf_X6_decide : KF yX6_decide 1 wsX6_decide cX6_decide 5 (some .int) := ⟨rfl, by decide +kernel, by decide +kernel, by decide +kernel⟩
def rm_X6_decide : Room := { frames := 5, cells := 0, slots := 0, locals := 122 }
set_option maxRecDepth 20000 in
theorem in_X6_decide_X6 : ∀ w ∈ u_ws RX6 TX6 9, w ∈ wsX6_decide := by decide +kernel
set_option maxRecDepth 20000 in
theorem lk_X6_decide_46 : Cond.fieldLink RX6 46 (TX6 6).1 (TX6 6).2.1 (TX6 6).2.2.1 ∈ wsX6_decide := by decide +kernel
set_option maxRecDepth 20000 in
theorem lk_X6_decide_10 : Cond.fieldLink RX6 10 (TX6 0).1 (TX6 0).2.1 (TX6 0).2.2.1 ∈ wsX6_decide := by decide +kernel
set_option maxHeartbeats 1000000 in
set_option maxRecDepth 100000 in
theorem c_X6_decideNo (l : Launch) (D : va_G) (x0 : Nat) (h0 : Nat) (t0 : Nat) (n0 : Nat) (i0 : Nat) (d0 : Nat) (r0 : Nat) (p0 : Nat) (hs : Int) (rf : Int) (h1 : Nat) (cI : ClassId) (g : Int → Int) (n : Int) (q : Int) (p1 : Nat) (p2 : Nat) (p3 : Nat) (p4 : Nat) (p5 : Nat) (p6 : Nat) (cZ : ClassId) (L : Int) (ow : Int → Int) (cA : Int → Int) (cU : Int → Int) (hd : Int → Int) (fw : Int → Int) (pr : Int) (hn : 0 ≤ n ∧ n ≤ 32) (hg : ∀ j : Int, 0 ≤ j → j < n → 0 ≤ g j ∧ g j < 64) (hq : 1 ≤ q ∧ q ≤ 4) (hg3 : ∀ j : Int, 0 ≤ j → j < n → ¬ g j / 2 % 4 = 3) (hpr : pr = 0 ∨ pr = 1) (hx : ¬ fcB g n q pr < 1000) : MM (S := Int × (Int → Int) × (Int → Int) × (Int → Int) × (Int → Int) × (Int → Int)) l yX6_decide wsX6_decide rm_X6_decide D vwCl [.ref x0, .int (iJ (pr))] [(x0, .inr (5, [.ref h0, .ref t0, .ref n0, .ref i0, .ref d0, .ref r0, .ref p0, .int (iJ (hs)), .int (iJ (rf))])), (h0, .inr (2, [.ref h1, .int (iJ (n)), .int (iJ (q))])), (h1, cJ cI 32 (g)), (p0, .inr (3, [.ref p1, .ref p2, .ref p3, .ref p4, .ref p5, .ref p6, .int (iJ (L))])), (p1, cJ cI 32 (nrA)), (p2, cJ cI 32 (ow)), (p3, cJ cZ 32 (cA)), (p4, cJ cZ 32 (cU)), (p5, cJ cI 32 (hd)), (p6, cJ cI 132 (fw))] [(cI, .int), (cZ, .boolean)] (fun (u : Int × (Int → Int) × (Int → Int) × (Int → Int) × (Int → Int) × (Int → Int)) => -2) (fun (u : Int × (Int → Int) × (Int → Int) × (Int → Int) × (Int → Int) × (Int → Int)) => True) (fun (u : Int × (Int → Int) × (Int → Int) × (Int → Int) × (Int → Int) × (Int → Int)) => [(x0, .inr (5, [.ref h0, .ref t0, .ref n0, .ref i0, .ref d0, .ref r0, .ref p0, .int (iJ (hs)), .int (iJ (rf))])), (h0, .inr (2, [.ref h1, .int (iJ (n)), .int (iJ (q))])), (h1, cJ cI 32 (g)), (p0, .inr (3, [.ref p1, .ref p2, .ref p3, .ref p4, .ref p5, .ref p6, .int (iJ (u.1))])), (p1, cJ cI 32 (nrA)), (p2, cJ cI 32 (u.2.1)), (p3, cJ cZ 32 (u.2.2.1)), (p4, cJ cZ 32 (u.2.2.2.1)), (p5, cJ cI 32 (u.2.2.2.2.1)), (p6, cJ cI 132 (u.2.2.2.2.2))]) := by
  refine MM.mk (cc := cX6_decide) (maxL := 5) (ret := (some .int)) (by decide) rfl (Nat.le_of_ble_eq_true rfl) rfl RX6 rfl ?_
  intro p_ e_ s_ m_ ar_ bw_ mt_ cd_ B_ Q_ hA E hr hQ
  refine r_aload_n E 0 dX6_decide_0 rfl rfl ?_
  refine r_get E 5 0 6 dX6_decide_1 in_X6_decide_X6 lk_X6_decide_46 rfl rfl (by decide) rfl ?_
  refine r_aload_n E 0 dX6_decide_4 rfl rfl ?_
  refine r_get E 5 0 0 dX6_decide_5 in_X6_decide_X6 lk_X6_decide_10 rfl rfl (by decide) rfl ?_
  refine r_iload_n E 1 dX6_decide_8 rfl rfl ?_
  refine r_vM E (st := []) (c_X3_choose l D p0 p1 p2 p3 p4 p5 p6 cI cZ L ow cA cU hd fw h0 h1 g n q pr (by first | assumption | omega | exact ⟨by omega, by omega⟩) (by first | assumption | omega | exact ⟨by omega, by omega⟩) (by first | assumption | omega | exact ⟨by omega, by omega⟩) (by first | assumption | omega | exact ⟨by omega, by omega⟩) (by first | assumption | omega | exact ⟨by omega, by omega⟩)) gX6_decide_X3_canChoose 2 kf_X3_canChoose ⟨rfl, rfl⟩ ⟨by decide, by decide⟩ dX6_decide_9 rfl 3 rfl rfl rfl rfl ⟨Nat.zero_le _, Nat.zero_le _⟩ [3, 4, 5, 6, 7, 8, 9, 1, 2] rfl (by decide) [0, 1] rfl (Nat.le_of_ble_eq_true rfl) [(x0, .inr (5, [.ref h0, .ref t0, .ref n0, .ref i0, .ref d0, .ref r0, .ref p0, .int (iJ (hs)), .int (iJ (rf))]))] [0] rfl (by decide) (by decide) hA [0, 8, 9, 1, 2, 3, 4, 5, 6, 7] (by decide) (fun u : Int × (Int → Int) × (Int → Int) × (Int → Int) × (Int → Int) × (Int → Int) => [(x0, .inr (5, [.ref h0, .ref t0, .ref n0, .ref i0, .ref d0, .ref r0, .ref p0, .int (iJ (hs)), .int (iJ (rf))])), (h0, .inr (2, [.ref h1, .int (iJ (n)), .int (iJ (q))])), (h1, cJ cI 32 (g)), (p0, .inr (3, [.ref p1, .ref p2, .ref p3, .ref p4, .ref p5, .ref p6, .int (iJ (u.1))])), (p1, cJ cI 32 (nrA)), (p2, cJ cI 32 (u.2.1)), (p3, cJ cZ 32 (u.2.2.1)), (p4, cJ cZ 32 (u.2.2.2.1)), (p5, cJ cI 32 (u.2.2.2.2.1)), (p6, cJ cI 132 (u.2.2.2.2.2))]) (fun _ => rfl) ?_
  rintro ⟨Lc, Oc, Ac, Uc, Hc, Fc⟩ hp_1
  refine r_cv (ws2 := [(x0, .inr (5, [.ref h0, .ref t0, .ref n0, .ref i0, .ref d0, .ref r0, .ref p0, .int (iJ (hs)), .int (iJ (rf))])), (h0, .inr (2, [.ref h1, .int (iJ (n)), .int (iJ (q))])), (h1, cJ cI 32 (g)), (p0, .inr (3, [.ref p1, .ref p2, .ref p3, .ref p4, .ref p5, .ref p6, .int (iJ (Lc))])), (p1, cJ cI 32 (nrA)), (p2, cJ cI 32 (Oc)), (p3, cJ cZ 32 (Ac)), (p4, cJ cZ 32 (Uc)), (p5, cJ cI 32 (Hc)), (p6, cJ cI 132 (Fc))]) (st2 := [.int (iJ (b2 (fcB g n q pr < 1000)))]) rfl rfl rfl ?_
  obtain ⟨hFc, hHc, hLc⟩ := hp_1
  try dsimp only at hFc hHc hLc
  refine r_ifne_b E 18 dX6_decide_12 (by decide) (fun c_12 => absurd c_12 (by omega)) (fun c_12 => ?_)
  refine r_bipush E (-2) rfl dX6_decide_15 ?_
  exact r_retM E (Lc, Oc, Ac, Uc, Hc, Fc) hr dX6_decide_17 rfl trivial rfl hQ
set_option maxRecDepth 20000 in
theorem lk_X6_decide_25 : Cond.fieldLink RX6 25 (TX6 3).1 (TX6 3).2.1 (TX6 3).2.2.1 ∈ wsX6_decide := by decide +kernel
set_option maxRecDepth 20000 in
theorem in_X6_decide_X2 : ∀ w ∈ u_ws RX2 TX2 3, w ∈ wsX6_decide := by decide +kernel
set_option maxHeartbeats 1000000 in
set_option maxRecDepth 100000 in
theorem c_X6_decide (l : Launch) (D : va_G) (x0 : Nat) (h0 : Nat) (t0 : Nat) (n0 : Nat) (i0 : Nat) (d0 : Nat) (r0 : Nat) (p0 : Nat) (hs : Int) (rf : Int) (h1 : Nat) (cI : ClassId) (g : Int → Int) (n : Int) (q : Int) (p1 : Nat) (p2 : Nat) (p3 : Nat) (p4 : Nat) (p5 : Nat) (p6 : Nat) (cZ : ClassId) (L : Int) (ow : Int → Int) (cA : Int → Int) (cU : Int → Int) (hd : Int → Int) (fw : Int → Int) (i1 : Nat) (cP : ClassId) (xa : Nat → Nat) (ya : Nat → Nat) (kN : Nat → Int) (kQ : Nat → Int) (kG : Nat → Int → Int) (m : Int) (pr : Int) (hn : 0 ≤ n ∧ n ≤ 32) (hg : ∀ j : Int, 0 ≤ j → j < n → 0 ≤ g j ∧ g j < 64) (hq : 1 ≤ q ∧ q ≤ 4) (hm : 0 ≤ m ∧ m ≤ 4) (hhN : ∀ i : Nat, 0 ≤ kN i ∧ kN i ≤ 32) (hg3 : ∀ j : Int, 0 ≤ j → j < n → ¬ g j / 2 % 4 = 3) (hpr : pr = 0 ∨ pr = 1) (hx : fcB g n q pr < 1000) : MM (S := Int × (Int → Int) × (Int → Int) × (Int → Int) × (Int → Int) × (Int → Int) × (Nat → Nat) × (Nat → Nat) × (Nat → Int) × (Nat → Int) × (Nat → Int → Int) × Int) l yX6_decide wsX6_decide rm_X6_decide D vwCl [.ref x0, .int (iJ (pr))] [(x0, .inr (5, [.ref h0, .ref t0, .ref n0, .ref i0, .ref d0, .ref r0, .ref p0, .int (iJ (hs)), .int (iJ (rf))])), (h0, .inr (2, [.ref h1, .int (iJ (n)), .int (iJ (q))])), (h1, cJ cI 32 (g)), (p0, .inr (3, [.ref p1, .ref p2, .ref p3, .ref p4, .ref p5, .ref p6, .int (iJ (L))])), (p1, cJ cI 32 (nrA)), (p2, cJ cI 32 (ow)), (p3, cJ cZ 32 (cA)), (p4, cJ cZ 32 (cU)), (p5, cJ cI 32 (hd)), (p6, cJ cI 132 (fw)), (i0, .inr (0, [.ref i1, .int (iJ (m))])), (i1, cR cP 4 (hF xa)), ((xa 0), .inr (2, [.ref (ya 0), .int (iJ (kN 0)), .int (iJ (kQ 0))])), ((ya 0), cJ cI 32 (kG 0)), ((xa 1), .inr (2, [.ref (ya 1), .int (iJ (kN 1)), .int (iJ (kQ 1))])), ((ya 1), cJ cI 32 (kG 1)), ((xa 2), .inr (2, [.ref (ya 2), .int (iJ (kN 2)), .int (iJ (kQ 2))])), ((ya 2), cJ cI 32 (kG 2)), ((xa 3), .inr (2, [.ref (ya 3), .int (iJ (kN 3)), .int (iJ (kQ 3))])), ((ya 3), cJ cI 32 (kG 3))] [(cI, .int), (cP, .object "LeanSticks$Piece"), (cZ, .boolean)] (fun (u : Int × (Int → Int) × (Int → Int) × (Int → Int) × (Int → Int) × (Int → Int) × (Nat → Nat) × (Nat → Nat) × (Nat → Int) × (Nat → Int) × (Nat → Int → Int) × Int) => sm (fun j => b2 (¬ g j = 0 ∧ g j / 2 % 4 = 2)) n) (fun (u : Int × (Int → Int) × (Int → Int) × (Int → Int) × (Int → Int) × (Int → Int) × (Nat → Nat) × (Nat → Nat) × (Nat → Int) × (Nat → Int) × (Nat → Int → Int) × Int) => (HPush m n q g kN kQ kG u.2.2.2.2.2.2.2.2.2.2.2 u.2.2.2.2.2.2.2.2.1 u.2.2.2.2.2.2.2.2.2.1 u.2.2.2.2.2.2.2.2.2.2.1)) (fun (u : Int × (Int → Int) × (Int → Int) × (Int → Int) × (Int → Int) × (Int → Int) × (Nat → Nat) × (Nat → Nat) × (Nat → Int) × (Nat → Int) × (Nat → Int → Int) × Int) => [(x0, .inr (5, [.ref h0, .ref t0, .ref n0, .ref i0, .ref d0, .ref r0, .ref p0, .int (iJ (hs)), .int (iJ (rf))])), (h0, .inr (2, [.ref h1, .int (iJ (n)), .int (iJ (q))])), (h1, cJ cI 32 (mpF (deC (fun j => chP g n q pr j)) g n)), (p0, .inr (3, [.ref p1, .ref p2, .ref p3, .ref p4, .ref p5, .ref p6, .int (iJ (u.1))])), (p1, cJ cI 32 (nrA)), (p2, cJ cI 32 (u.2.1)), (p3, cJ cZ 32 (u.2.2.1)), (p4, cJ cZ 32 (u.2.2.2.1)), (p5, cJ cI 32 (u.2.2.2.2.1)), (p6, cJ cI 132 (u.2.2.2.2.2.1)), (i0, .inr (0, [.ref i1, .int (iJ (u.2.2.2.2.2.2.2.2.2.2.2))])), (i1, cR cP 4 (hF u.2.2.2.2.2.2.1)), ((u.2.2.2.2.2.2.1 0), .inr (2, [.ref (u.2.2.2.2.2.2.2.1 0), .int (iJ (u.2.2.2.2.2.2.2.2.1 0)), .int (iJ (u.2.2.2.2.2.2.2.2.2.1 0))])), ((u.2.2.2.2.2.2.2.1 0), cJ cI 32 (u.2.2.2.2.2.2.2.2.2.2.1 0)), ((u.2.2.2.2.2.2.1 1), .inr (2, [.ref (u.2.2.2.2.2.2.2.1 1), .int (iJ (u.2.2.2.2.2.2.2.2.1 1)), .int (iJ (u.2.2.2.2.2.2.2.2.2.1 1))])), ((u.2.2.2.2.2.2.2.1 1), cJ cI 32 (u.2.2.2.2.2.2.2.2.2.2.1 1)), ((u.2.2.2.2.2.2.1 2), .inr (2, [.ref (u.2.2.2.2.2.2.2.1 2), .int (iJ (u.2.2.2.2.2.2.2.2.1 2)), .int (iJ (u.2.2.2.2.2.2.2.2.2.1 2))])), ((u.2.2.2.2.2.2.2.1 2), cJ cI 32 (u.2.2.2.2.2.2.2.2.2.2.1 2)), ((u.2.2.2.2.2.2.1 3), .inr (2, [.ref (u.2.2.2.2.2.2.2.1 3), .int (iJ (u.2.2.2.2.2.2.2.2.1 3)), .int (iJ (u.2.2.2.2.2.2.2.2.2.1 3))])), ((u.2.2.2.2.2.2.2.1 3), cJ cI 32 (u.2.2.2.2.2.2.2.2.2.2.1 3))]) := by
  refine MM.mk (cc := cX6_decide) (maxL := 5) (ret := (some .int)) (by decide) rfl (Nat.le_of_ble_eq_true rfl) rfl RX6 rfl ?_
  intro p_ e_ s_ m_ ar_ bw_ mt_ cd_ B_ Q_ hA E hr hQ
  refine r_aload_n E 0 dX6_decide_0 rfl rfl ?_
  refine r_get E 5 0 6 dX6_decide_1 in_X6_decide_X6 lk_X6_decide_46 rfl rfl (by decide) rfl ?_
  refine r_aload_n E 0 dX6_decide_4 rfl rfl ?_
  refine r_get E 5 0 0 dX6_decide_5 in_X6_decide_X6 lk_X6_decide_10 rfl rfl (by decide) rfl ?_
  refine r_iload_n E 1 dX6_decide_8 rfl rfl ?_
  refine r_vM E (st := []) (c_X3_choose l D p0 p1 p2 p3 p4 p5 p6 cI cZ L ow cA cU hd fw h0 h1 g n q pr (by first | assumption | omega | exact ⟨by omega, by omega⟩) (by first | assumption | omega | exact ⟨by omega, by omega⟩) (by first | assumption | omega | exact ⟨by omega, by omega⟩) (by first | assumption | omega | exact ⟨by omega, by omega⟩) (by first | assumption | omega | exact ⟨by omega, by omega⟩)) gX6_decide_X3_canChoose 2 kf_X3_canChoose ⟨rfl, rfl⟩ ⟨by decide, by decide⟩ dX6_decide_9 rfl 3 rfl rfl rfl rfl ⟨Nat.zero_le _, Nat.zero_le _⟩ [3, 4, 5, 6, 7, 8, 9, 1, 2] rfl (by decide) [0, 2] rfl (Nat.le_of_ble_eq_true rfl) [(x0, .inr (5, [.ref h0, .ref t0, .ref n0, .ref i0, .ref d0, .ref r0, .ref p0, .int (iJ (hs)), .int (iJ (rf))])), (i0, .inr (0, [.ref i1, .int (iJ (m))])), (i1, cR cP 4 (hF xa)), ((xa 0), .inr (2, [.ref (ya 0), .int (iJ (kN 0)), .int (iJ (kQ 0))])), ((ya 0), cJ cI 32 (kG 0)), ((xa 1), .inr (2, [.ref (ya 1), .int (iJ (kN 1)), .int (iJ (kQ 1))])), ((ya 1), cJ cI 32 (kG 1)), ((xa 2), .inr (2, [.ref (ya 2), .int (iJ (kN 2)), .int (iJ (kQ 2))])), ((ya 2), cJ cI 32 (kG 2)), ((xa 3), .inr (2, [.ref (ya 3), .int (iJ (kN 3)), .int (iJ (kQ 3))])), ((ya 3), cJ cI 32 (kG 3))] [0, 10, 11, 12, 13, 14, 15, 16, 17, 18, 19] rfl (by decide) (by decide) hA [0, 18, 19, 11, 12, 13, 14, 15, 16, 17, 1, 2, 3, 4, 5, 6, 7, 8, 9, 10] (by decide) (fun u : Int × (Int → Int) × (Int → Int) × (Int → Int) × (Int → Int) × (Int → Int) => [(x0, .inr (5, [.ref h0, .ref t0, .ref n0, .ref i0, .ref d0, .ref r0, .ref p0, .int (iJ (hs)), .int (iJ (rf))])), (h0, .inr (2, [.ref h1, .int (iJ (n)), .int (iJ (q))])), (h1, cJ cI 32 (g)), (p0, .inr (3, [.ref p1, .ref p2, .ref p3, .ref p4, .ref p5, .ref p6, .int (iJ (u.1))])), (p1, cJ cI 32 (nrA)), (p2, cJ cI 32 (u.2.1)), (p3, cJ cZ 32 (u.2.2.1)), (p4, cJ cZ 32 (u.2.2.2.1)), (p5, cJ cI 32 (u.2.2.2.2.1)), (p6, cJ cI 132 (u.2.2.2.2.2)), (i0, .inr (0, [.ref i1, .int (iJ (m))])), (i1, cR cP 4 (hF xa)), ((xa 0), .inr (2, [.ref (ya 0), .int (iJ (kN 0)), .int (iJ (kQ 0))])), ((ya 0), cJ cI 32 (kG 0)), ((xa 1), .inr (2, [.ref (ya 1), .int (iJ (kN 1)), .int (iJ (kQ 1))])), ((ya 1), cJ cI 32 (kG 1)), ((xa 2), .inr (2, [.ref (ya 2), .int (iJ (kN 2)), .int (iJ (kQ 2))])), ((ya 2), cJ cI 32 (kG 2)), ((xa 3), .inr (2, [.ref (ya 3), .int (iJ (kN 3)), .int (iJ (kQ 3))])), ((ya 3), cJ cI 32 (kG 3))]) (fun _ => rfl) ?_
  rintro ⟨Lc, Oc, Ac, Uc, Hc, Fc⟩ hp_1
  refine r_cv (ws2 := [(x0, .inr (5, [.ref h0, .ref t0, .ref n0, .ref i0, .ref d0, .ref r0, .ref p0, .int (iJ (hs)), .int (iJ (rf))])), (h0, .inr (2, [.ref h1, .int (iJ (n)), .int (iJ (q))])), (h1, cJ cI 32 (g)), (p0, .inr (3, [.ref p1, .ref p2, .ref p3, .ref p4, .ref p5, .ref p6, .int (iJ (Lc))])), (p1, cJ cI 32 (nrA)), (p2, cJ cI 32 (Oc)), (p3, cJ cZ 32 (Ac)), (p4, cJ cZ 32 (Uc)), (p5, cJ cI 32 (Hc)), (p6, cJ cI 132 (Fc)), (i0, .inr (0, [.ref i1, .int (iJ (m))])), (i1, cR cP 4 (hF xa)), ((xa 0), .inr (2, [.ref (ya 0), .int (iJ (kN 0)), .int (iJ (kQ 0))])), ((ya 0), cJ cI 32 (kG 0)), ((xa 1), .inr (2, [.ref (ya 1), .int (iJ (kN 1)), .int (iJ (kQ 1))])), ((ya 1), cJ cI 32 (kG 1)), ((xa 2), .inr (2, [.ref (ya 2), .int (iJ (kN 2)), .int (iJ (kQ 2))])), ((ya 2), cJ cI 32 (kG 2)), ((xa 3), .inr (2, [.ref (ya 3), .int (iJ (kN 3)), .int (iJ (kQ 3))])), ((ya 3), cJ cI 32 (kG 3))]) (st2 := [.int (iJ (b2 (fcB g n q pr < 1000)))]) rfl rfl rfl ?_
  obtain ⟨hFc, hHc, hLc⟩ := hp_1
  try dsimp only at hFc hHc hLc
  refine r_ifne_b E 18 dX6_decide_12 (by decide) (fun c_12 => ?_) (fun c_12 => absurd c_12 (by omega))
  refine r_aload_n E 0 dX6_decide_18 rfl rfl ?_
  refine r_get E 5 0 3 dX6_decide_19 in_X6_decide_X6 lk_X6_decide_25 rfl rfl (by decide) rfl ?_
  refine r_aload_n E 0 dX6_decide_22 rfl rfl ?_
  refine r_get E 5 0 0 dX6_decide_23 in_X6_decide_X6 lk_X6_decide_10 rfl rfl (by decide) rfl ?_
  refine r_vV E (st := []) (c_X0_remember l D i0 i1 cP xa ya kN kQ kG m h0 h1 cI g n q (by first | assumption | omega | exact ⟨by omega, by omega⟩) (by first | assumption | omega | exact ⟨by omega, by omega⟩) (by first | assumption | omega | exact ⟨by omega, by omega⟩)) gX6_decide_X0_remember 1 kf_X0_remember ⟨rfl, rfl⟩ ⟨by decide, by decide⟩ dX6_decide_26 rfl 10 rfl rfl rfl rfl ⟨Nat.zero_le _, Nat.zero_le _⟩ [10, 11, 12, 13, 14, 15, 16, 17, 18, 19, 1, 2] rfl (by decide) [0, 1] rfl (Nat.le_of_ble_eq_true rfl) [(x0, .inr (5, [.ref h0, .ref t0, .ref n0, .ref i0, .ref d0, .ref r0, .ref p0, .int (iJ (hs)), .int (iJ (rf))])), (p0, .inr (3, [.ref p1, .ref p2, .ref p3, .ref p4, .ref p5, .ref p6, .int (iJ (Lc))])), (p1, cJ cI 32 (nrA)), (p2, cJ cI 32 (Oc)), (p3, cJ cZ 32 (Ac)), (p4, cJ cZ 32 (Uc)), (p5, cJ cI 32 (Hc)), (p6, cJ cI 132 (Fc))] [0, 3, 4, 5, 6, 7, 8, 9] rfl (by decide) (by decide) hA [0, 18, 19, 1, 2, 3, 4, 5, 6, 7, 8, 9, 10, 11, 12, 13, 14, 15, 16, 17] (by decide) (fun u : (Nat → Nat) × (Nat → Nat) × (Nat → Int) × (Nat → Int) × (Nat → Int → Int) × Int => [(x0, .inr (5, [.ref h0, .ref t0, .ref n0, .ref i0, .ref d0, .ref r0, .ref p0, .int (iJ (hs)), .int (iJ (rf))])), (h0, .inr (2, [.ref h1, .int (iJ (n)), .int (iJ (q))])), (h1, cJ cI 32 (g)), (p0, .inr (3, [.ref p1, .ref p2, .ref p3, .ref p4, .ref p5, .ref p6, .int (iJ (Lc))])), (p1, cJ cI 32 (nrA)), (p2, cJ cI 32 (Oc)), (p3, cJ cZ 32 (Ac)), (p4, cJ cZ 32 (Uc)), (p5, cJ cI 32 (Hc)), (p6, cJ cI 132 (Fc)), (i0, .inr (0, [.ref i1, .int (iJ (u.2.2.2.2.2))])), (i1, cR cP 4 (hF u.1)), ((u.1 0), .inr (2, [.ref (u.2.1 0), .int (iJ (u.2.2.1 0)), .int (iJ (u.2.2.2.1 0))])), ((u.2.1 0), cJ cI 32 (u.2.2.2.2.1 0)), ((u.1 1), .inr (2, [.ref (u.2.1 1), .int (iJ (u.2.2.1 1)), .int (iJ (u.2.2.2.1 1))])), ((u.2.1 1), cJ cI 32 (u.2.2.2.2.1 1)), ((u.1 2), .inr (2, [.ref (u.2.1 2), .int (iJ (u.2.2.1 2)), .int (iJ (u.2.2.2.1 2))])), ((u.2.1 2), cJ cI 32 (u.2.2.2.2.1 2)), ((u.1 3), .inr (2, [.ref (u.2.1 3), .int (iJ (u.2.2.1 3)), .int (iJ (u.2.2.2.1 3))])), ((u.2.1 3), cJ cI 32 (u.2.2.2.2.1 3))]) (fun _ => rfl) ?_
  rintro ⟨xb, yb, lN, lQ, lG, mb⟩ hp_2
  refine r_cv (ws2 := [(x0, .inr (5, [.ref h0, .ref t0, .ref n0, .ref i0, .ref d0, .ref r0, .ref p0, .int (iJ (hs)), .int (iJ (rf))])), (h0, .inr (2, [.ref h1, .int (iJ (n)), .int (iJ (q))])), (h1, cJ cI 32 (g)), (p0, .inr (3, [.ref p1, .ref p2, .ref p3, .ref p4, .ref p5, .ref p6, .int (iJ (Lc))])), (p1, cJ cI 32 (nrA)), (p2, cJ cI 32 (Oc)), (p3, cJ cZ 32 (Ac)), (p4, cJ cZ 32 (Uc)), (p5, cJ cI 32 (Hc)), (p6, cJ cI 132 (Fc)), (i0, .inr (0, [.ref i1, .int (iJ (mb))])), (i1, cR cP 4 (hF xb)), ((xb 0), .inr (2, [.ref (yb 0), .int (iJ (lN 0)), .int (iJ (lQ 0))])), ((yb 0), cJ cI 32 (lG 0)), ((xb 1), .inr (2, [.ref (yb 1), .int (iJ (lN 1)), .int (iJ (lQ 1))])), ((yb 1), cJ cI 32 (lG 1)), ((xb 2), .inr (2, [.ref (yb 2), .int (iJ (lN 2)), .int (iJ (lQ 2))])), ((yb 2), cJ cI 32 (lG 2)), ((xb 3), .inr (2, [.ref (yb 3), .int (iJ (lN 3)), .int (iJ (lQ 3))])), ((yb 3), cJ cI 32 (lG 3))]) (st2 := []) rfl rfl rfl ?_
  have hp6 := hp_2
  try dsimp only at hp6
  refine r_iconst E 0 rfl dX6_decide_29 ?_
  refine r_istore_n E [(2, .int (iJ (0))), (0, .ref x0), (1, .int (iJ (pr)))] dX6_decide_30 rfl (by decide) rfl ?_
  refine r_iconst E 0 rfl dX6_decide_31 ?_
  refine r_istore_n E [(3, .int (iJ (0))), (2, .int (iJ (0))), (0, .ref x0), (1, .int (iJ (pr)))] dX6_decide_32 rfl (by decide) rfl ?_
  have loop_33 : ∀ (N : Nat) (k : Int) (x : Int) (G : Int → Int), (0 ≤ k ∧ k ≤ n) → (x = sm (fun j => b2 (¬ g j = 0 ∧ g j / 2 % 4 = 2)) k) → (G = mpF (deC (fun j => chP g n q pr j)) g k) → (n - k).toNat < N → GG p_ l e_ rm_X6_decide s_ m_ ar_ bw_ mt_ cd_ D vwCl B_ B_ s_.heap 5 0 0 Q_ [(x0, .inr (5, [.ref h0, .ref t0, .ref n0, .ref i0, .ref d0, .ref r0, .ref p0, .int (iJ (hs)), .int (iJ (rf))])), (h0, .inr (2, [.ref h1, .int (iJ (n)), .int (iJ (q))])), (h1, cJ cI 32 (G)), (p0, .inr (3, [.ref p1, .ref p2, .ref p3, .ref p4, .ref p5, .ref p6, .int (iJ (Lc))])), (p1, cJ cI 32 (nrA)), (p2, cJ cI 32 (Oc)), (p3, cJ cZ 32 (Ac)), (p4, cJ cZ 32 (Uc)), (p5, cJ cI 32 (Hc)), (p6, cJ cI 132 (Fc)), (i0, .inr (0, [.ref i1, .int (iJ (mb))])), (i1, cR cP 4 (hF xb)), ((xb 0), .inr (2, [.ref (yb 0), .int (iJ (lN 0)), .int (iJ (lQ 0))])), ((yb 0), cJ cI 32 (lG 0)), ((xb 1), .inr (2, [.ref (yb 1), .int (iJ (lN 1)), .int (iJ (lQ 1))])), ((yb 1), cJ cI 32 (lG 1)), ((xb 2), .inr (2, [.ref (yb 2), .int (iJ (lN 2)), .int (iJ (lQ 2))])), ((yb 2), cJ cI 32 (lG 2)), ((xb 3), .inr (2, [.ref (yb 3), .int (iJ (lN 3)), .int (iJ (lQ 3))])), ((yb 3), cJ cI 32 (lG 3))] [(0, .ref x0), (1, .int (iJ (pr))), (2, .int (iJ (x))), (3, .int (iJ (k)))] 33 [] := by
    intro N; induction N with
    | zero => intro k x G hk hx2 hG hN; exact absurd hN (Nat.not_lt_zero _)
    | succ N ih33 =>
      intro k x G hk hx2 hG hN
      refine r_iload_n E 3 dX6_decide_33 rfl rfl ?_
      refine r_aload_n E 0 dX6_decide_34 rfl rfl ?_
      refine r_get E 5 0 0 dX6_decide_35 in_X6_decide_X6 lk_X6_decide_10 rfl rfl (by decide) rfl ?_
      refine r_getN E 2 1 1 dX6_decide_38 in_X6_decide_X2 (by decide) rfl rfl rfl (by decide) rfl ?_
      refine r_icmp_ge E 101 dX6_decide_41 (by decide) ⟨by omega, by omega⟩ ⟨by omega, by omega⟩ (fun c_41 => ?_) (fun c_41 => ?_)
      · refine r_iload_n E 2 dX6_decide_101 rfl rfl ?_
        exact r_retM E (Lc, Oc, Ac, Uc, Hc, Fc, xb, yb, lN, lQ, lG, mb) hr dX6_decide_102 (by
              have e : k = n := by omega
              rw [hx2, e]) hp6 (by
              have e : k = n := by omega
              rw [hG, e]) hQ
      · refine r_aload_n E 0 dX6_decide_44 rfl rfl ?_
        refine r_get E 5 0 0 dX6_decide_45 in_X6_decide_X6 lk_X6_decide_10 rfl rfl (by decide) rfl ?_
        refine r_iload_n E 3 dX6_decide_48 rfl rfl ?_
        refine r_vP E (st := []) (c_X2_at l D h0 h1 cI G n q k (by first | assumption | omega | exact ⟨by omega, by omega⟩) (by first | assumption | omega | exact ⟨by omega, by omega⟩)) gX6_decide_X2_at 1 kf_X2_at ⟨rfl, rfl⟩ ⟨by decide, by decide⟩ dX6_decide_49 rfl 1 rfl rfl rfl rfl ⟨Nat.zero_le _, Nat.zero_le _⟩ [1, 2] rfl (by decide) [0] rfl (Nat.le_of_ble_eq_true rfl) ?_
        refine r_top (b := (g k)) (by rw [hG]; exact pAt_mp ⟨by omega, by omega⟩) ?_
        refine r_istore E [(4, .int (iJ ((g k)))), (0, .ref x0), (1, .int (iJ (pr))), (2, .int (iJ (x))), (3, .int (iJ (k)))] dX6_decide_52 (by decide) rfl ?_
        have f_g := hg k (by omega) (by omega)
        refine r_iload E 0 dX6_decide_54 rfl ?_
        refine r_sP E (st := []) (c_X5_isStroke l D (g k) (by first | assumption | omega | exact ⟨by omega, by omega⟩)) gX6_decide_X5_isStroke 1 kf_X5_isStroke ⟨rfl, rfl⟩ ⟨by decide, by decide⟩ dX6_decide_56 rfl rfl ⟨Nat.zero_le _, Nat.zero_le _⟩ [] rfl (by decide) [] rfl (Nat.le_of_ble_eq_true rfl) ?_
        refine r_ifeq_n E 95 dX6_decide_59 (by decide) (fun c_59 => ?_) (fun c_59 => ?_)
        · refine r_iinc E (k := 4) [(3, .int (iJ ((k + 1)))), (4, .int (iJ ((g k)))), (0, .ref x0), (1, .int (iJ (pr))), (2, .int (iJ (x)))] dX6_decide_95 rfl (by decide) rfl ?_
          refine r_goto E 33 dX6_decide_98 (by decide) ?_
          refine r_lv [2, 3, 4, 0] [(0, .ref x0), (1, .int (iJ (pr))), (2, .int (iJ (x))), (3, .int (iJ ((k + 1))))] rfl ?_
          exact ih33 (k + 1) x G ⟨by omega, by omega⟩ (by rw [sm_s _ (by omega), hx2]; first | (simp [b2, c_59, c_68]; done) | simp [b2, c_59]) (by
                rw [hG]
                first | exact mpF_s1 _ _ (by omega) (by unfold deC; rw [if_pos (show ¬ g k = 0 ∧ g k / 2 % 4 = 2 from ⟨c_59, c_68⟩)]) | exact mpF_s0 _ _ (by omega) (by unfold deC; rw [if_neg (fun z => by first | exact z.1 c_59 | exact c_68 z.2)])) (by omega)
        · refine r_iload E 0 dX6_decide_62 rfl ?_
          refine r_sP E (st := []) (c_X5_hand l D (g k) (by first | assumption | omega | exact ⟨by omega, by omega⟩)) gX6_decide_X5_hand 1 kf_X5_hand ⟨rfl, rfl⟩ ⟨by decide, by decide⟩ dX6_decide_64 rfl rfl ⟨Nat.zero_le _, Nat.zero_le _⟩ [] rfl (by decide) [] rfl (Nat.le_of_ble_eq_true rfl) ?_
          refine r_iconst E 2 rfl dX6_decide_67 ?_
          refine r_icmp_ne E 95 dX6_decide_68 (by decide) ⟨by omega, by omega⟩ ⟨by omega, by omega⟩ (fun c_68 => ?_) (fun c_68 => ?_)
          · refine r_iinc E (k := 4) [(3, .int (iJ ((k + 1)))), (4, .int (iJ ((g k)))), (0, .ref x0), (1, .int (iJ (pr))), (2, .int (iJ (x)))] dX6_decide_95 rfl (by decide) rfl ?_
            refine r_goto E 33 dX6_decide_98 (by decide) ?_
            refine r_lv [2, 3, 4, 0] [(0, .ref x0), (1, .int (iJ (pr))), (2, .int (iJ (x))), (3, .int (iJ ((k + 1))))] rfl ?_
            exact ih33 (k + 1) x G ⟨by omega, by omega⟩ (by rw [sm_s _ (by omega), hx2]; first | (simp [b2, c_59, c_68]; done) | simp [b2, c_59]) (by
                  rw [hG]
                  first | exact mpF_s1 _ _ (by omega) (by unfold deC; rw [if_pos (show ¬ g k = 0 ∧ g k / 2 % 4 = 2 from ⟨c_59, c_68⟩)]) | exact mpF_s0 _ _ (by omega) (by unfold deC; rw [if_neg (fun z => by first | exact z.1 c_59 | exact c_68 z.2)])) (by omega)
          · refine r_aload_n E 1 dX6_decide_71 rfl rfl ?_
            refine r_get E 5 0 0 dX6_decide_72 in_X6_decide_X6 lk_X6_decide_10 rfl rfl (by decide) rfl ?_
            refine r_iload_n E 4 dX6_decide_75 rfl rfl ?_
            refine r_iload E 0 dX6_decide_76 rfl ?_
            refine r_aload_n E 1 dX6_decide_78 rfl rfl ?_
            refine r_get E 5 0 6 dX6_decide_79 in_X6_decide_X6 lk_X6_decide_46 rfl rfl (by decide) rfl ?_
            refine r_iload_n E 4 dX6_decide_82 rfl rfl ?_
            refine r_vP E (st := [.int (iJ ((g k))), .int (iJ (k)), .ref h0]) (c_X3_handAt l D p0 p1 p2 p3 p4 p5 p6 cI cZ Lc Oc Ac Uc Hc Fc k ⟨by omega, by omega⟩ (by first | assumption | omega | exact ⟨by omega, by omega⟩)) gX6_decide_X3_handAt 1 kf_X3_handAt ⟨rfl, rfl⟩ ⟨by decide, by decide⟩ dX6_decide_83 rfl 3 rfl rfl rfl rfl ⟨Nat.zero_le _, Nat.zero_le _⟩ [3, 4, 5, 6, 7, 8, 9] rfl (by decide) [0, 2] rfl (Nat.le_of_ble_eq_true rfl) ?_
            have f_c := chP_in (g := g) (n := n) (q := q) (pr := pr) (k := k)
            refine r_top (b := (chP g n q pr k)) (by
                  rw [hLc, haA_t ⟨by omega, by omega⟩]; exact hHc hx k (by omega) (by omega) c_59) ?_
            refine r_sP E (st := [.int (iJ (k)), .ref h0]) (c_X5_withHand l D (g k) (chP g n q pr k) (by first | assumption | omega | exact ⟨by omega, by omega⟩) ⟨by omega, by omega⟩) gX6_decide_X5_withHand 2 kf_X5_withHand ⟨rfl, rfl⟩ ⟨by decide, by decide⟩ dX6_decide_86 rfl rfl ⟨Nat.zero_le _, Nat.zero_le _⟩ [] rfl (by decide) [] rfl (Nat.le_of_ble_eq_true rfl) ?_
            refine r_vV E (st := []) (c_X2_change l D h0 h1 cI G n q k (sOf (chP g n q pr k) (b2 ((g k) / 8 % 2 = 1)) ((g k) / 16 % 4)) (by first | assumption | omega | exact ⟨by omega, by omega⟩) (by first | assumption | omega | exact ⟨by omega, by omega⟩)) gX6_decide_X2_change 2 kf_X2_change ⟨rfl, rfl⟩ ⟨by decide, by decide⟩ dX6_decide_89 rfl 1 rfl rfl rfl rfl ⟨Nat.zero_le _, Nat.zero_le _⟩ [1, 2] rfl (by decide) [0] rfl (Nat.le_of_ble_eq_true rfl) [(x0, .inr (5, [.ref h0, .ref t0, .ref n0, .ref i0, .ref d0, .ref r0, .ref p0, .int (iJ (hs)), .int (iJ (rf))])), (p0, .inr (3, [.ref p1, .ref p2, .ref p3, .ref p4, .ref p5, .ref p6, .int (iJ (Lc))])), (p1, cJ cI 32 (nrA)), (p2, cJ cI 32 (Oc)), (p3, cJ cZ 32 (Ac)), (p4, cJ cZ 32 (Uc)), (p5, cJ cI 32 (Hc)), (p6, cJ cI 132 (Fc)), (i0, .inr (0, [.ref i1, .int (iJ (mb))])), (i1, cR cP 4 (hF xb)), ((xb 0), .inr (2, [.ref (yb 0), .int (iJ (lN 0)), .int (iJ (lQ 0))])), ((yb 0), cJ cI 32 (lG 0)), ((xb 1), .inr (2, [.ref (yb 1), .int (iJ (lN 1)), .int (iJ (lQ 1))])), ((yb 1), cJ cI 32 (lG 1)), ((xb 2), .inr (2, [.ref (yb 2), .int (iJ (lN 2)), .int (iJ (lQ 2))])), ((yb 2), cJ cI 32 (lG 2)), ((xb 3), .inr (2, [.ref (yb 3), .int (iJ (lN 3)), .int (iJ (lQ 3))])), ((yb 3), cJ cI 32 (lG 3))] [0, 3, 4, 5, 6, 7, 8, 9, 10, 11, 12, 13, 14, 15, 16, 17, 18, 19] rfl (by decide) (by decide) hA [0, 18, 19, 1, 2, 3, 4, 5, 6, 7, 8, 9, 10, 11, 12, 13, 14, 15, 16, 17] (by decide) (fun (_ : Unit) => [(x0, .inr (5, [.ref h0, .ref t0, .ref n0, .ref i0, .ref d0, .ref r0, .ref p0, .int (iJ (hs)), .int (iJ (rf))])), (h0, .inr (2, [.ref h1, .int (iJ (n)), .int (iJ (q))])), (h1, cJ cI 32 (uJ G k (sOf (chP g n q pr k) (b2 ((g k) / 8 % 2 = 1)) ((g k) / 16 % 4)))), (p0, .inr (3, [.ref p1, .ref p2, .ref p3, .ref p4, .ref p5, .ref p6, .int (iJ (Lc))])), (p1, cJ cI 32 (nrA)), (p2, cJ cI 32 (Oc)), (p3, cJ cZ 32 (Ac)), (p4, cJ cZ 32 (Uc)), (p5, cJ cI 32 (Hc)), (p6, cJ cI 132 (Fc)), (i0, .inr (0, [.ref i1, .int (iJ (mb))])), (i1, cR cP 4 (hF xb)), ((xb 0), .inr (2, [.ref (yb 0), .int (iJ (lN 0)), .int (iJ (lQ 0))])), ((yb 0), cJ cI 32 (lG 0)), ((xb 1), .inr (2, [.ref (yb 1), .int (iJ (lN 1)), .int (iJ (lQ 1))])), ((yb 1), cJ cI 32 (lG 1)), ((xb 2), .inr (2, [.ref (yb 2), .int (iJ (lN 2)), .int (iJ (lQ 2))])), ((yb 2), cJ cI 32 (lG 2)), ((xb 3), .inr (2, [.ref (yb 3), .int (iJ (lN 3)), .int (iJ (lQ 3))])), ((yb 3), cJ cI 32 (lG 3))]) (fun _ => rfl) ?_
            rintro ⟨⟩ hp_3
            refine r_iinc E (k := 3) [(2, .int (iJ ((x + 1)))), (4, .int (iJ ((g k)))), (0, .ref x0), (1, .int (iJ (pr))), (3, .int (iJ (k)))] dX6_decide_92 rfl (by decide) rfl ?_
            refine r_iinc E (k := 4) [(3, .int (iJ ((k + 1)))), (2, .int (iJ ((x + 1)))), (4, .int (iJ ((g k)))), (0, .ref x0), (1, .int (iJ (pr)))] dX6_decide_95 rfl (by decide) rfl ?_
            refine r_goto E 33 dX6_decide_98 (by decide) ?_
            refine r_lv [3, 4, 1, 0] [(0, .ref x0), (1, .int (iJ (pr))), (2, .int (iJ ((x + 1)))), (3, .int (iJ ((k + 1))))] rfl ?_
            exact ih33 (k + 1) (x + 1) (uJ G k (sOf (chP g n q pr k) (b2 ((g k) / 8 % 2 = 1)) ((g k) / 16 % 4))) ⟨by omega, by omega⟩ (by rw [sm_s _ (by omega), hx2]; first | (simp [b2, c_59, c_68]; done) | simp [b2, c_59]) (by
                  rw [hG]
                  first | exact mpF_s1 _ _ (by omega) (by unfold deC; rw [if_pos (show ¬ g k = 0 ∧ g k / 2 % 4 = 2 from ⟨c_59, c_68⟩)]) | exact mpF_s0 _ _ (by omega) (by unfold deC; rw [if_neg (fun z => by first | exact z.1 c_59 | exact c_68 z.2)])) (by omega)
  refine r_lv [2, 3, 1, 0] [(0, .ref x0), (1, .int (iJ (pr))), (2, .int (iJ (0))), (3, .int (iJ (0)))] rfl ?_
  exact loop_33 _ 0 0 g ⟨by omega, by omega⟩ (sm_0 _).symm (mpF_0 _ _) (Nat.lt_succ_self _)
theorem kf_X6_turn : KF yX6_turn 1 wsX6_turn cX6_turn 6 (some .int) := ⟨rfl, by decide +kernel, by decide +kernel, by decide +kernel⟩
def rm_X6_turn : Room := { frames := 3, cells := 0, slots := 0, locals := 64 }
set_option maxRecDepth 20000 in
theorem in_X6_turn_X6 : ∀ w ∈ u_ws RX6 TX6 9, w ∈ wsX6_turn := by decide +kernel
set_option maxRecDepth 20000 in
theorem lk_X6_turn_10 : Cond.fieldLink RX6 10 (TX6 0).1 (TX6 0).2.1 (TX6 0).2.2.1 ∈ wsX6_turn := by decide +kernel
set_option maxHeartbeats 1000000 in
set_option maxRecDepth 100000 in
theorem c_X6_turnBad (l : Launch) (D : va_G) (x0 : Nat) (h0 : Nat) (t0 : Nat) (n0 : Nat) (i0 : Nat) (d0 : Nat) (r0 : Nat) (p0 : Nat) (hs : Int) (rf : Int) (h1 : Nat) (cI : ClassId) (g : Int → Int) (n : Int) (q : Int) (a : Int) (hn : 0 ≤ n ∧ n ≤ 32) (ha : jb a) (hx : ¬ (0 ≤ a ∧ a ≤ n)) : MP l yX6_turn wsX6_turn rm_X6_turn D vwCl [.ref x0, .int (iJ (a))] [(x0, .inr (5, [.ref h0, .ref t0, .ref n0, .ref i0, .ref d0, .ref r0, .ref p0, .int (iJ (hs)), .int (iJ (rf))])), (h0, .inr (2, [.ref h1, .int (iJ (n)), .int (iJ (q))])), (h1, cJ cI 32 (g))] [(cI, .int)] (-1) := by
  refine MP.mk (cc := cX6_turn) (maxL := 6) (ret := (some .int)) (by decide) rfl (Nat.le_of_ble_eq_true rfl) rfl RX6 rfl ?_
  intro p_ e_ s_ m_ ar_ bw_ mt_ cd_ Q_ E hr hQ
  refine r_aload_n E 0 dX6_turn_0 rfl rfl ?_
  refine r_get E 5 0 0 dX6_turn_1 in_X6_turn_X6 lk_X6_turn_10 rfl rfl (by decide) rfl ?_
  refine r_iload_n E 1 dX6_turn_4 rfl rfl ?_
  refine r_vP E (st := []) (c_X2_hasGap l D h0 h1 cI g n q a (by first | assumption | omega | exact ⟨by omega, by omega⟩) (by first | assumption | omega | exact ⟨by omega, by omega⟩)) gX6_turn_X2_hasGap 1 kf_X2_hasGap ⟨rfl, rfl⟩ ⟨by decide, by decide⟩ dX6_turn_5 rfl 1 rfl rfl rfl rfl ⟨Nat.zero_le _, Nat.zero_le _⟩ [1, 2] rfl (by decide) [0] rfl (Nat.le_of_ble_eq_true rfl) ?_
  refine r_ifne_b E 13 dX6_turn_8 (by decide) (fun c_8 => absurd c_8 (by omega)) (fun c_8 => ?_)
  refine r_iconst E (-1) rfl dX6_turn_11 ?_
  exact r_retP E hr dX6_turn_12 rfl hQ
set_option maxRecDepth 20000 in
theorem lk_X6_turn_25 : Cond.fieldLink RX6 25 (TX6 3).1 (TX6 3).2.1 (TX6 3).2.2.1 ∈ wsX6_turn := by decide +kernel
set_option maxRecDepth 20000 in
theorem lk_X6_turn_16 : Cond.fieldLink RX6 16 (TX6 1).1 (TX6 1).2.1 (TX6 1).2.2.1 ∈ wsX6_turn := by decide +kernel
set_option maxRecDepth 20000 in
theorem in_X6_turn_X2 : ∀ w ∈ u_ws RX2 TX2 3, w ∈ wsX6_turn := by decide +kernel
set_option maxHeartbeats 1000000 in
set_option maxRecDepth 100000 in
theorem c_X6_turn (l : Launch) (D : va_G) (x0 : Nat) (h0 : Nat) (t0 : Nat) (n0 : Nat) (i0 : Nat) (d0 : Nat) (r0 : Nat) (p0 : Nat) (hs : Int) (rf : Int) (h1 : Nat) (cI : ClassId) (g : Int → Int) (n : Int) (q : Int) (i1 : Nat) (cP : ClassId) (xa : Nat → Nat) (ya : Nat → Nat) (kN : Nat → Int) (kQ : Nat → Int) (kG : Nat → Int → Int) (m : Int) (t1 : Nat) (gt : Int → Int) (nt : Int) (qt : Int) (a : Int) (hn : 0 ≤ n ∧ n ≤ 32) (hg : ∀ j : Int, 0 ≤ j → j < n → 0 ≤ g j ∧ g j < 64) (hm : 0 ≤ m ∧ m ≤ 4) (hhN : ∀ i : Nat, 0 ≤ kN i ∧ kN i ≤ 32) (hnt : 0 ≤ nt ∧ nt ≤ 32) (hx : 0 ≤ a ∧ a ≤ n) : MM (S := (Nat → Nat) × (Nat → Nat) × (Nat → Int) × (Nat → Int) × (Nat → Int → Int) × Int) l yX6_turn wsX6_turn rm_X6_turn D vwCl [.ref x0, .int (iJ (a))] [(x0, .inr (5, [.ref h0, .ref t0, .ref n0, .ref i0, .ref d0, .ref r0, .ref p0, .int (iJ (hs)), .int (iJ (rf))])), (h0, .inr (2, [.ref h1, .int (iJ (n)), .int (iJ (q))])), (h1, cJ cI 32 (g)), (t0, .inr (2, [.ref t1, .int (iJ (nt)), .int (iJ (qt))])), (t1, cJ cI 32 (gt)), (i0, .inr (0, [.ref i1, .int (iJ (m))])), (i1, cR cP 4 (hF xa)), ((xa 0), .inr (2, [.ref (ya 0), .int (iJ (kN 0)), .int (iJ (kQ 0))])), ((ya 0), cJ cI 32 (kG 0)), ((xa 1), .inr (2, [.ref (ya 1), .int (iJ (kN 1)), .int (iJ (kQ 1))])), ((ya 1), cJ cI 32 (kG 1)), ((xa 2), .inr (2, [.ref (ya 2), .int (iJ (kN 2)), .int (iJ (kQ 2))])), ((ya 2), cJ cI 32 (kG 2)), ((xa 3), .inr (2, [.ref (ya 3), .int (iJ (kN 3)), .int (iJ (kQ 3))])), ((ya 3), cJ cI 32 (kG 3))] [(cI, .int), (cP, .object "LeanSticks$Piece")] (fun (u : (Nat → Nat) × (Nat → Nat) × (Nat → Int) × (Nat → Int) × (Nat → Int → Int) × Int) => sm (fun j => b2 (¬ g (tuI n a j) = g j)) n) (fun (u : (Nat → Nat) × (Nat → Nat) × (Nat → Int) × (Nat → Int) × (Nat → Int → Int) × Int) => (HPush m n q g kN kQ kG u.2.2.2.2.2 u.2.2.1 u.2.2.2.1 u.2.2.2.2.1)) (fun (u : (Nat → Nat) × (Nat → Nat) × (Nat → Int) × (Nat → Int) × (Nat → Int → Int) × Int) => [(x0, .inr (5, [.ref h0, .ref t0, .ref n0, .ref i0, .ref d0, .ref r0, .ref p0, .int (iJ (hs)), .int (iJ (rf))])), (h0, .inr (2, [.ref h1, .int (iJ (n)), .int (iJ (q))])), (h1, cJ cI 32 (mpF (fun j _ => g (tuI n a j)) g n)), (t0, .inr (2, [.ref t1, .int (iJ (n)), .int (iJ (q))])), (t1, cJ cI 32 (pCp gt g n)), (i0, .inr (0, [.ref i1, .int (iJ (u.2.2.2.2.2))])), (i1, cR cP 4 (hF u.1)), ((u.1 0), .inr (2, [.ref (u.2.1 0), .int (iJ (u.2.2.1 0)), .int (iJ (u.2.2.2.1 0))])), ((u.2.1 0), cJ cI 32 (u.2.2.2.2.1 0)), ((u.1 1), .inr (2, [.ref (u.2.1 1), .int (iJ (u.2.2.1 1)), .int (iJ (u.2.2.2.1 1))])), ((u.2.1 1), cJ cI 32 (u.2.2.2.2.1 1)), ((u.1 2), .inr (2, [.ref (u.2.1 2), .int (iJ (u.2.2.1 2)), .int (iJ (u.2.2.2.1 2))])), ((u.2.1 2), cJ cI 32 (u.2.2.2.2.1 2)), ((u.1 3), .inr (2, [.ref (u.2.1 3), .int (iJ (u.2.2.1 3)), .int (iJ (u.2.2.2.1 3))])), ((u.2.1 3), cJ cI 32 (u.2.2.2.2.1 3))]) := by
  refine MM.mk (cc := cX6_turn) (maxL := 6) (ret := (some .int)) (by decide) rfl (Nat.le_of_ble_eq_true rfl) rfl RX6 rfl ?_
  intro p_ e_ s_ m_ ar_ bw_ mt_ cd_ B_ Q_ hA E hr hQ
  refine r_aload_n E 0 dX6_turn_0 rfl rfl ?_
  refine r_get E 5 0 0 dX6_turn_1 in_X6_turn_X6 lk_X6_turn_10 rfl rfl (by decide) rfl ?_
  refine r_iload_n E 1 dX6_turn_4 rfl rfl ?_
  refine r_vP E (st := []) (c_X2_hasGap l D h0 h1 cI g n q a (by first | assumption | omega | exact ⟨by omega, by omega⟩) (by first | assumption | omega | exact ⟨by omega, by omega⟩)) gX6_turn_X2_hasGap 1 kf_X2_hasGap ⟨rfl, rfl⟩ ⟨by decide, by decide⟩ dX6_turn_5 rfl 1 rfl rfl rfl rfl ⟨Nat.zero_le _, Nat.zero_le _⟩ [1, 2] rfl (by decide) [0] rfl (Nat.le_of_ble_eq_true rfl) ?_
  refine r_ifne_b E 13 dX6_turn_8 (by decide) (fun c_8 => ?_) (fun c_8 => absurd c_8 (by omega))
  refine r_aload_n E 0 dX6_turn_13 rfl rfl ?_
  refine r_get E 5 0 3 dX6_turn_14 in_X6_turn_X6 lk_X6_turn_25 rfl rfl (by decide) rfl ?_
  refine r_aload_n E 0 dX6_turn_17 rfl rfl ?_
  refine r_get E 5 0 0 dX6_turn_18 in_X6_turn_X6 lk_X6_turn_10 rfl rfl (by decide) rfl ?_
  refine r_vV E (st := []) (c_X0_remember l D i0 i1 cP xa ya kN kQ kG m h0 h1 cI g n q (by first | assumption | omega | exact ⟨by omega, by omega⟩) (by first | assumption | omega | exact ⟨by omega, by omega⟩) (by first | assumption | omega | exact ⟨by omega, by omega⟩)) gX6_turn_X0_remember 1 kf_X0_remember ⟨rfl, rfl⟩ ⟨by decide, by decide⟩ dX6_turn_21 rfl 5 rfl rfl rfl rfl ⟨Nat.zero_le _, Nat.zero_le _⟩ [5, 6, 7, 8, 9, 10, 11, 12, 13, 14, 1, 2] rfl (by decide) [0, 1] rfl (Nat.le_of_ble_eq_true rfl) [(x0, .inr (5, [.ref h0, .ref t0, .ref n0, .ref i0, .ref d0, .ref r0, .ref p0, .int (iJ (hs)), .int (iJ (rf))])), (t0, .inr (2, [.ref t1, .int (iJ (nt)), .int (iJ (qt))])), (t1, cJ cI 32 (gt))] [0, 3, 4] rfl (by decide) (by decide) hA [0, 13, 14, 1, 2, 3, 4, 5, 6, 7, 8, 9, 10, 11, 12] (by decide) (fun u : (Nat → Nat) × (Nat → Nat) × (Nat → Int) × (Nat → Int) × (Nat → Int → Int) × Int => [(x0, .inr (5, [.ref h0, .ref t0, .ref n0, .ref i0, .ref d0, .ref r0, .ref p0, .int (iJ (hs)), .int (iJ (rf))])), (h0, .inr (2, [.ref h1, .int (iJ (n)), .int (iJ (q))])), (h1, cJ cI 32 (g)), (t0, .inr (2, [.ref t1, .int (iJ (nt)), .int (iJ (qt))])), (t1, cJ cI 32 (gt)), (i0, .inr (0, [.ref i1, .int (iJ (u.2.2.2.2.2))])), (i1, cR cP 4 (hF u.1)), ((u.1 0), .inr (2, [.ref (u.2.1 0), .int (iJ (u.2.2.1 0)), .int (iJ (u.2.2.2.1 0))])), ((u.2.1 0), cJ cI 32 (u.2.2.2.2.1 0)), ((u.1 1), .inr (2, [.ref (u.2.1 1), .int (iJ (u.2.2.1 1)), .int (iJ (u.2.2.2.1 1))])), ((u.2.1 1), cJ cI 32 (u.2.2.2.2.1 1)), ((u.1 2), .inr (2, [.ref (u.2.1 2), .int (iJ (u.2.2.1 2)), .int (iJ (u.2.2.2.1 2))])), ((u.2.1 2), cJ cI 32 (u.2.2.2.2.1 2)), ((u.1 3), .inr (2, [.ref (u.2.1 3), .int (iJ (u.2.2.1 3)), .int (iJ (u.2.2.2.1 3))])), ((u.2.1 3), cJ cI 32 (u.2.2.2.2.1 3))]) (fun _ => rfl) ?_
  rintro ⟨xb, yb, lN, lQ, lG, mb⟩ hp_1
  refine r_cv (ws2 := [(x0, .inr (5, [.ref h0, .ref t0, .ref n0, .ref i0, .ref d0, .ref r0, .ref p0, .int (iJ (hs)), .int (iJ (rf))])), (h0, .inr (2, [.ref h1, .int (iJ (n)), .int (iJ (q))])), (h1, cJ cI 32 (g)), (t0, .inr (2, [.ref t1, .int (iJ (nt)), .int (iJ (qt))])), (t1, cJ cI 32 (gt)), (i0, .inr (0, [.ref i1, .int (iJ (mb))])), (i1, cR cP 4 (hF xb)), ((xb 0), .inr (2, [.ref (yb 0), .int (iJ (lN 0)), .int (iJ (lQ 0))])), ((yb 0), cJ cI 32 (lG 0)), ((xb 1), .inr (2, [.ref (yb 1), .int (iJ (lN 1)), .int (iJ (lQ 1))])), ((yb 1), cJ cI 32 (lG 1)), ((xb 2), .inr (2, [.ref (yb 2), .int (iJ (lN 2)), .int (iJ (lQ 2))])), ((yb 2), cJ cI 32 (lG 2)), ((xb 3), .inr (2, [.ref (yb 3), .int (iJ (lN 3)), .int (iJ (lQ 3))])), ((yb 3), cJ cI 32 (lG 3))]) (st2 := []) rfl rfl rfl ?_
  have hp6 := hp_1
  try dsimp only at hp6
  refine r_aload_n E 0 dX6_turn_24 rfl rfl ?_
  refine r_get E 5 0 1 dX6_turn_25 in_X6_turn_X6 lk_X6_turn_16 rfl rfl (by decide) rfl ?_
  refine r_aload_n E 0 dX6_turn_28 rfl rfl ?_
  refine r_get E 5 0 0 dX6_turn_29 in_X6_turn_X6 lk_X6_turn_10 rfl rfl (by decide) rfl ?_
  refine r_vV E (st := []) (c_X2_copy l D t0 t1 cI gt nt qt h0 h1 g n q hnt hn) gX6_turn_X2_copy 1 kf_X2_copy ⟨rfl, rfl⟩ ⟨by decide, by decide⟩ dX6_turn_32 rfl 3 rfl rfl rfl rfl ⟨Nat.zero_le _, Nat.zero_le _⟩ [3, 4, 1, 2] rfl (by decide) [0] rfl (Nat.le_of_ble_eq_true rfl) [(x0, .inr (5, [.ref h0, .ref t0, .ref n0, .ref i0, .ref d0, .ref r0, .ref p0, .int (iJ (hs)), .int (iJ (rf))])), (i0, .inr (0, [.ref i1, .int (iJ (mb))])), (i1, cR cP 4 (hF xb)), ((xb 0), .inr (2, [.ref (yb 0), .int (iJ (lN 0)), .int (iJ (lQ 0))])), ((yb 0), cJ cI 32 (lG 0)), ((xb 1), .inr (2, [.ref (yb 1), .int (iJ (lN 1)), .int (iJ (lQ 1))])), ((yb 1), cJ cI 32 (lG 1)), ((xb 2), .inr (2, [.ref (yb 2), .int (iJ (lN 2)), .int (iJ (lQ 2))])), ((yb 2), cJ cI 32 (lG 2)), ((xb 3), .inr (2, [.ref (yb 3), .int (iJ (lN 3)), .int (iJ (lQ 3))])), ((yb 3), cJ cI 32 (lG 3))] [0, 5, 6, 7, 8, 9, 10, 11, 12, 13, 14] rfl (by decide) (by decide) hA [0, 13, 14, 11, 12, 1, 2, 3, 4, 5, 6, 7, 8, 9, 10] (by decide) (fun (_ : Unit) => [(x0, .inr (5, [.ref h0, .ref t0, .ref n0, .ref i0, .ref d0, .ref r0, .ref p0, .int (iJ (hs)), .int (iJ (rf))])), (h0, .inr (2, [.ref h1, .int (iJ (n)), .int (iJ (q))])), (h1, cJ cI 32 (g)), (t0, .inr (2, [.ref t1, .int (iJ (n)), .int (iJ (q))])), (t1, cJ cI 32 (pCp gt g n)), (i0, .inr (0, [.ref i1, .int (iJ (mb))])), (i1, cR cP 4 (hF xb)), ((xb 0), .inr (2, [.ref (yb 0), .int (iJ (lN 0)), .int (iJ (lQ 0))])), ((yb 0), cJ cI 32 (lG 0)), ((xb 1), .inr (2, [.ref (yb 1), .int (iJ (lN 1)), .int (iJ (lQ 1))])), ((yb 1), cJ cI 32 (lG 1)), ((xb 2), .inr (2, [.ref (yb 2), .int (iJ (lN 2)), .int (iJ (lQ 2))])), ((yb 2), cJ cI 32 (lG 2)), ((xb 3), .inr (2, [.ref (yb 3), .int (iJ (lN 3)), .int (iJ (lQ 3))])), ((yb 3), cJ cI 32 (lG 3))]) (fun _ => rfl) ?_
  rintro ⟨⟩ hp_2
  refine r_iconst E 0 rfl dX6_turn_35 ?_
  refine r_istore_n E [(2, .int (iJ (0))), (0, .ref x0), (1, .int (iJ (a)))] dX6_turn_36 rfl (by decide) rfl ?_
  refine r_iconst E 0 rfl dX6_turn_37 ?_
  refine r_istore_n E [(3, .int (iJ (0))), (2, .int (iJ (0))), (0, .ref x0), (1, .int (iJ (a)))] dX6_turn_38 rfl (by decide) rfl ?_
  have loop_39 : ∀ (N : Nat) (k : Int) (x : Int) (G : Int → Int), (0 ≤ k ∧ k ≤ n) → (x = sm (fun j => b2 (¬ g (tuI n a j) = g j)) k) → (G = mpF (fun j _ => g (tuI n a j)) g k) → (n - k).toNat < N → GG p_ l e_ rm_X6_turn s_ m_ ar_ bw_ mt_ cd_ D vwCl B_ B_ s_.heap 6 0 0 Q_ [(x0, .inr (5, [.ref h0, .ref t0, .ref n0, .ref i0, .ref d0, .ref r0, .ref p0, .int (iJ (hs)), .int (iJ (rf))])), (h0, .inr (2, [.ref h1, .int (iJ (n)), .int (iJ (q))])), (h1, cJ cI 32 (G)), (t0, .inr (2, [.ref t1, .int (iJ (n)), .int (iJ (q))])), (t1, cJ cI 32 (pCp gt g n)), (i0, .inr (0, [.ref i1, .int (iJ (mb))])), (i1, cR cP 4 (hF xb)), ((xb 0), .inr (2, [.ref (yb 0), .int (iJ (lN 0)), .int (iJ (lQ 0))])), ((yb 0), cJ cI 32 (lG 0)), ((xb 1), .inr (2, [.ref (yb 1), .int (iJ (lN 1)), .int (iJ (lQ 1))])), ((yb 1), cJ cI 32 (lG 1)), ((xb 2), .inr (2, [.ref (yb 2), .int (iJ (lN 2)), .int (iJ (lQ 2))])), ((yb 2), cJ cI 32 (lG 2)), ((xb 3), .inr (2, [.ref (yb 3), .int (iJ (lN 3)), .int (iJ (lQ 3))])), ((yb 3), cJ cI 32 (lG 3))] [(0, .ref x0), (1, .int (iJ (a))), (2, .int (iJ (x))), (3, .int (iJ (k)))] 39 [] := by
    intro N; induction N with
    | zero => intro k x G hk hx2 hG hN; exact absurd hN (Nat.not_lt_zero _)
    | succ N ih39 =>
      intro k x G hk hx2 hG hN
      refine r_iload_n E 3 dX6_turn_39 rfl rfl ?_
      refine r_aload_n E 0 dX6_turn_40 rfl rfl ?_
      refine r_get E 5 0 0 dX6_turn_41 in_X6_turn_X6 lk_X6_turn_10 rfl rfl (by decide) rfl ?_
      refine r_getN E 2 1 1 dX6_turn_44 in_X6_turn_X2 (by decide) rfl rfl rfl (by decide) rfl ?_
      refine r_icmp_ge E 123 dX6_turn_47 (by decide) ⟨by omega, by omega⟩ ⟨by omega, by omega⟩ (fun c_47 => ?_) (fun c_47 => ?_)
      · refine r_iload_n E 2 dX6_turn_123 rfl rfl ?_
        exact r_retM E (xb, yb, lN, lQ, lG, mb) hr dX6_turn_124 (by
              have e : k = n := by omega
              rw [hx2, e]) hp6 (by
              have e : k = n := by omega
              rw [hG, e]) hQ
      · refine r_iload_n E 3 dX6_turn_50 rfl rfl ?_
        refine r_iload_n E 1 dX6_turn_51 rfl rfl ?_
        refine r_iadd E dX6_turn_52 ?_
        refine r_istore E [(4, .int (iJ ((k + a)))), (0, .ref x0), (1, .int (iJ (a))), (2, .int (iJ (x))), (3, .int (iJ (k)))] dX6_turn_53 (by decide) rfl ?_
        refine r_aload_n E 1 dX6_turn_55 rfl rfl ?_
        refine r_get E 5 0 1 dX6_turn_56 in_X6_turn_X6 lk_X6_turn_16 rfl rfl (by decide) rfl ?_
        refine r_iload E 0 dX6_turn_59 rfl ?_
        refine r_aload_n E 1 dX6_turn_61 rfl rfl ?_
        refine r_get E 5 0 1 dX6_turn_62 in_X6_turn_X6 lk_X6_turn_16 rfl rfl (by decide) rfl ?_
        refine r_getN E 2 3 1 dX6_turn_65 in_X6_turn_X2 (by decide) rfl rfl rfl (by decide) rfl ?_
        refine r_icmp_ge E 76 dX6_turn_68 (by decide) ⟨by omega, by omega⟩ ⟨by omega, by omega⟩ (fun c_68 => ?_) (fun c_68 => ?_)
        · refine r_iload E 0 dX6_turn_76 rfl ?_
          refine r_aload_n E 1 dX6_turn_78 rfl rfl ?_
          refine r_get E 5 0 1 dX6_turn_79 in_X6_turn_X6 lk_X6_turn_16 rfl rfl (by decide) rfl ?_
          refine r_getN E 2 3 1 dX6_turn_82 in_X6_turn_X2 (by decide) rfl rfl rfl (by decide) rfl ?_
          refine r_isub E dX6_turn_85 ?_
          refine r_vP E (st := []) (c_X2_at l D t0 t1 cI (pCp gt g n) n q ((k + a) - n) (by first | assumption | omega | exact ⟨by omega, by omega⟩) (by first | assumption | omega | exact ⟨by omega, by omega⟩)) gX6_turn_X2_at 1 kf_X2_at ⟨rfl, rfl⟩ ⟨by decide, by decide⟩ dX6_turn_86 rfl 3 rfl rfl rfl rfl ⟨Nat.zero_le _, Nat.zero_le _⟩ [3, 4] rfl (by decide) [0] rfl (Nat.le_of_ble_eq_true rfl) ?_
          have f_i : 0 ≤ tuI n a k ∧ tuI n a k < n := by unfold tuI; split <;> omega
          have f_t := hg (tuI n a k) f_i.1 f_i.2
          have f_g := hg k (by omega) (by omega)
          refine r_top (b := (g (tuI n a k))) (by
                have f_i : 0 ≤ tuI n a k ∧ tuI n a k < n := by unfold tuI; split <;> omega
                have e : pAt (pCp gt g n) n (tuI n a k) = g (tuI n a k) := by
                  rw [pAt_t f_i]; unfold pCp; rw [if_pos f_i]
                rw [← e]; congr 1; unfold tuI; first | (rw [if_pos (by omega)]; done) | (rw [if_neg (by omega)]; done)) ?_
          refine r_istore E [(5, .int (iJ ((g (tuI n a k))))), (4, .int (iJ ((k + a)))), (0, .ref x0), (1, .int (iJ (a))), (2, .int (iJ (x))), (3, .int (iJ (k)))] dX6_turn_89 (by decide) rfl ?_
          refine r_iload E 0 dX6_turn_91 rfl ?_
          refine r_aload_n E 2 dX6_turn_93 rfl rfl ?_
          refine r_get E 5 0 0 dX6_turn_94 in_X6_turn_X6 lk_X6_turn_10 rfl rfl (by decide) rfl ?_
          refine r_iload_n E 5 dX6_turn_97 rfl rfl ?_
          refine r_vP E (st := [.int (iJ ((g (tuI n a k))))]) (c_X2_at l D h0 h1 cI G n q k (by first | assumption | omega | exact ⟨by omega, by omega⟩) (by first | assumption | omega | exact ⟨by omega, by omega⟩)) gX6_turn_X2_at 1 kf_X2_at ⟨rfl, rfl⟩ ⟨by decide, by decide⟩ dX6_turn_98 rfl 1 rfl rfl rfl rfl ⟨Nat.zero_le _, Nat.zero_le _⟩ [1, 2] rfl (by decide) [0] rfl (Nat.le_of_ble_eq_true rfl) ?_
          refine r_top (b := (g k)) (by rw [hG]; exact pAt_mp ⟨by omega, by omega⟩) ?_
          refine r_icmp_eq E 117 dX6_turn_101 (by decide) ⟨by omega, by omega⟩ ⟨by omega, by omega⟩ (fun c_101 => ?_) (fun c_101 => ?_)
          · refine r_iinc E (k := 5) [(3, .int (iJ ((k + 1)))), (5, .int (iJ ((g (tuI n a k))))), (4, .int (iJ ((k + a)))), (0, .ref x0), (1, .int (iJ (a))), (2, .int (iJ (x)))] dX6_turn_117 rfl (by decide) rfl ?_
            refine r_goto E 39 dX6_turn_120 (by decide) ?_
            refine r_lv [3, 4, 5, 0] [(0, .ref x0), (1, .int (iJ (a))), (2, .int (iJ (x))), (3, .int (iJ ((k + 1))))] rfl ?_
            exact ih39 (k + 1) x G ⟨by omega, by omega⟩ (by rw [sm_s _ (by omega), hx2]; simp [b2, c_101]) (by
                  rw [hG]
                  first | exact mpF_s0 _ _ (by omega) c_101.symm | exact mpF_s1 _ _ (by omega) rfl) (by omega)
          · refine r_aload_n E 2 dX6_turn_104 rfl rfl ?_
            refine r_get E 5 0 0 dX6_turn_105 in_X6_turn_X6 lk_X6_turn_10 rfl rfl (by decide) rfl ?_
            refine r_iload_n E 5 dX6_turn_108 rfl rfl ?_
            refine r_iload E 0 dX6_turn_109 rfl ?_
            refine r_vV E (st := []) (c_X2_change l D h0 h1 cI G n q k (g (tuI n a k)) (by first | assumption | omega | exact ⟨by omega, by omega⟩) (by first | assumption | omega | exact ⟨by omega, by omega⟩)) gX6_turn_X2_change 2 kf_X2_change ⟨rfl, rfl⟩ ⟨by decide, by decide⟩ dX6_turn_111 rfl 1 rfl rfl rfl rfl ⟨Nat.zero_le _, Nat.zero_le _⟩ [1, 2] rfl (by decide) [0] rfl (Nat.le_of_ble_eq_true rfl) [(x0, .inr (5, [.ref h0, .ref t0, .ref n0, .ref i0, .ref d0, .ref r0, .ref p0, .int (iJ (hs)), .int (iJ (rf))])), (t0, .inr (2, [.ref t1, .int (iJ (n)), .int (iJ (q))])), (t1, cJ cI 32 (pCp gt g n)), (i0, .inr (0, [.ref i1, .int (iJ (mb))])), (i1, cR cP 4 (hF xb)), ((xb 0), .inr (2, [.ref (yb 0), .int (iJ (lN 0)), .int (iJ (lQ 0))])), ((yb 0), cJ cI 32 (lG 0)), ((xb 1), .inr (2, [.ref (yb 1), .int (iJ (lN 1)), .int (iJ (lQ 1))])), ((yb 1), cJ cI 32 (lG 1)), ((xb 2), .inr (2, [.ref (yb 2), .int (iJ (lN 2)), .int (iJ (lQ 2))])), ((yb 2), cJ cI 32 (lG 2)), ((xb 3), .inr (2, [.ref (yb 3), .int (iJ (lN 3)), .int (iJ (lQ 3))])), ((yb 3), cJ cI 32 (lG 3))] [0, 3, 4, 5, 6, 7, 8, 9, 10, 11, 12, 13, 14] rfl (by decide) (by decide) hA [0, 13, 14, 1, 2, 3, 4, 5, 6, 7, 8, 9, 10, 11, 12] (by decide) (fun (_ : Unit) => [(x0, .inr (5, [.ref h0, .ref t0, .ref n0, .ref i0, .ref d0, .ref r0, .ref p0, .int (iJ (hs)), .int (iJ (rf))])), (h0, .inr (2, [.ref h1, .int (iJ (n)), .int (iJ (q))])), (h1, cJ cI 32 (uJ G k (g (tuI n a k)))), (t0, .inr (2, [.ref t1, .int (iJ (n)), .int (iJ (q))])), (t1, cJ cI 32 (pCp gt g n)), (i0, .inr (0, [.ref i1, .int (iJ (mb))])), (i1, cR cP 4 (hF xb)), ((xb 0), .inr (2, [.ref (yb 0), .int (iJ (lN 0)), .int (iJ (lQ 0))])), ((yb 0), cJ cI 32 (lG 0)), ((xb 1), .inr (2, [.ref (yb 1), .int (iJ (lN 1)), .int (iJ (lQ 1))])), ((yb 1), cJ cI 32 (lG 1)), ((xb 2), .inr (2, [.ref (yb 2), .int (iJ (lN 2)), .int (iJ (lQ 2))])), ((yb 2), cJ cI 32 (lG 2)), ((xb 3), .inr (2, [.ref (yb 3), .int (iJ (lN 3)), .int (iJ (lQ 3))])), ((yb 3), cJ cI 32 (lG 3))]) (fun _ => rfl) ?_
            rintro ⟨⟩ hp_3
            refine r_iinc E (k := 4) [(2, .int (iJ ((x + 1)))), (5, .int (iJ ((g (tuI n a k))))), (4, .int (iJ ((k + a)))), (0, .ref x0), (1, .int (iJ (a))), (3, .int (iJ (k)))] dX6_turn_114 rfl (by decide) rfl ?_
            refine r_iinc E (k := 5) [(3, .int (iJ ((k + 1)))), (2, .int (iJ ((x + 1)))), (5, .int (iJ ((g (tuI n a k))))), (4, .int (iJ ((k + a)))), (0, .ref x0), (1, .int (iJ (a)))] dX6_turn_117 rfl (by decide) rfl ?_
            refine r_goto E 39 dX6_turn_120 (by decide) ?_
            refine r_lv [4, 5, 1, 0] [(0, .ref x0), (1, .int (iJ (a))), (2, .int (iJ ((x + 1)))), (3, .int (iJ ((k + 1))))] rfl ?_
            exact ih39 (k + 1) (x + 1) (uJ G k (g (tuI n a k))) ⟨by omega, by omega⟩ (by rw [sm_s _ (by omega), hx2]; simp [b2, c_101]) (by
                  rw [hG]
                  first | exact mpF_s0 _ _ (by omega) c_101.symm | exact mpF_s1 _ _ (by omega) rfl) (by omega)
        · refine r_iload E 0 dX6_turn_71 rfl ?_
          refine r_goto E 86 dX6_turn_73 (by decide) ?_
          refine r_vP E (st := []) (c_X2_at l D t0 t1 cI (pCp gt g n) n q (k + a) (by first | assumption | omega | exact ⟨by omega, by omega⟩) (by first | assumption | omega | exact ⟨by omega, by omega⟩)) gX6_turn_X2_at 1 kf_X2_at ⟨rfl, rfl⟩ ⟨by decide, by decide⟩ dX6_turn_86 rfl 3 rfl rfl rfl rfl ⟨Nat.zero_le _, Nat.zero_le _⟩ [3, 4] rfl (by decide) [0] rfl (Nat.le_of_ble_eq_true rfl) ?_
          have f_i : 0 ≤ tuI n a k ∧ tuI n a k < n := by unfold tuI; split <;> omega
          have f_t := hg (tuI n a k) f_i.1 f_i.2
          have f_g := hg k (by omega) (by omega)
          refine r_top (b := (g (tuI n a k))) (by
                have f_i : 0 ≤ tuI n a k ∧ tuI n a k < n := by unfold tuI; split <;> omega
                have e : pAt (pCp gt g n) n (tuI n a k) = g (tuI n a k) := by
                  rw [pAt_t f_i]; unfold pCp; rw [if_pos f_i]
                rw [← e]; congr 1; unfold tuI; first | (rw [if_pos (by omega)]; done) | (rw [if_neg (by omega)]; done)) ?_
          refine r_istore E [(5, .int (iJ ((g (tuI n a k))))), (4, .int (iJ ((k + a)))), (0, .ref x0), (1, .int (iJ (a))), (2, .int (iJ (x))), (3, .int (iJ (k)))] dX6_turn_89 (by decide) rfl ?_
          refine r_iload E 0 dX6_turn_91 rfl ?_
          refine r_aload_n E 2 dX6_turn_93 rfl rfl ?_
          refine r_get E 5 0 0 dX6_turn_94 in_X6_turn_X6 lk_X6_turn_10 rfl rfl (by decide) rfl ?_
          refine r_iload_n E 5 dX6_turn_97 rfl rfl ?_
          refine r_vP E (st := [.int (iJ ((g (tuI n a k))))]) (c_X2_at l D h0 h1 cI G n q k (by first | assumption | omega | exact ⟨by omega, by omega⟩) (by first | assumption | omega | exact ⟨by omega, by omega⟩)) gX6_turn_X2_at 1 kf_X2_at ⟨rfl, rfl⟩ ⟨by decide, by decide⟩ dX6_turn_98 rfl 1 rfl rfl rfl rfl ⟨Nat.zero_le _, Nat.zero_le _⟩ [1, 2] rfl (by decide) [0] rfl (Nat.le_of_ble_eq_true rfl) ?_
          refine r_top (b := (g k)) (by rw [hG]; exact pAt_mp ⟨by omega, by omega⟩) ?_
          refine r_icmp_eq E 117 dX6_turn_101 (by decide) ⟨by omega, by omega⟩ ⟨by omega, by omega⟩ (fun c_101 => ?_) (fun c_101 => ?_)
          · refine r_iinc E (k := 5) [(3, .int (iJ ((k + 1)))), (5, .int (iJ ((g (tuI n a k))))), (4, .int (iJ ((k + a)))), (0, .ref x0), (1, .int (iJ (a))), (2, .int (iJ (x)))] dX6_turn_117 rfl (by decide) rfl ?_
            refine r_goto E 39 dX6_turn_120 (by decide) ?_
            refine r_lv [3, 4, 5, 0] [(0, .ref x0), (1, .int (iJ (a))), (2, .int (iJ (x))), (3, .int (iJ ((k + 1))))] rfl ?_
            exact ih39 (k + 1) x G ⟨by omega, by omega⟩ (by rw [sm_s _ (by omega), hx2]; simp [b2, c_101]) (by
                  rw [hG]
                  first | exact mpF_s0 _ _ (by omega) c_101.symm | exact mpF_s1 _ _ (by omega) rfl) (by omega)
          · refine r_aload_n E 2 dX6_turn_104 rfl rfl ?_
            refine r_get E 5 0 0 dX6_turn_105 in_X6_turn_X6 lk_X6_turn_10 rfl rfl (by decide) rfl ?_
            refine r_iload_n E 5 dX6_turn_108 rfl rfl ?_
            refine r_iload E 0 dX6_turn_109 rfl ?_
            refine r_vV E (st := []) (c_X2_change l D h0 h1 cI G n q k (g (tuI n a k)) (by first | assumption | omega | exact ⟨by omega, by omega⟩) (by first | assumption | omega | exact ⟨by omega, by omega⟩)) gX6_turn_X2_change 2 kf_X2_change ⟨rfl, rfl⟩ ⟨by decide, by decide⟩ dX6_turn_111 rfl 1 rfl rfl rfl rfl ⟨Nat.zero_le _, Nat.zero_le _⟩ [1, 2] rfl (by decide) [0] rfl (Nat.le_of_ble_eq_true rfl) [(x0, .inr (5, [.ref h0, .ref t0, .ref n0, .ref i0, .ref d0, .ref r0, .ref p0, .int (iJ (hs)), .int (iJ (rf))])), (t0, .inr (2, [.ref t1, .int (iJ (n)), .int (iJ (q))])), (t1, cJ cI 32 (pCp gt g n)), (i0, .inr (0, [.ref i1, .int (iJ (mb))])), (i1, cR cP 4 (hF xb)), ((xb 0), .inr (2, [.ref (yb 0), .int (iJ (lN 0)), .int (iJ (lQ 0))])), ((yb 0), cJ cI 32 (lG 0)), ((xb 1), .inr (2, [.ref (yb 1), .int (iJ (lN 1)), .int (iJ (lQ 1))])), ((yb 1), cJ cI 32 (lG 1)), ((xb 2), .inr (2, [.ref (yb 2), .int (iJ (lN 2)), .int (iJ (lQ 2))])), ((yb 2), cJ cI 32 (lG 2)), ((xb 3), .inr (2, [.ref (yb 3), .int (iJ (lN 3)), .int (iJ (lQ 3))])), ((yb 3), cJ cI 32 (lG 3))] [0, 3, 4, 5, 6, 7, 8, 9, 10, 11, 12, 13, 14] rfl (by decide) (by decide) hA [0, 13, 14, 1, 2, 3, 4, 5, 6, 7, 8, 9, 10, 11, 12] (by decide) (fun (_ : Unit) => [(x0, .inr (5, [.ref h0, .ref t0, .ref n0, .ref i0, .ref d0, .ref r0, .ref p0, .int (iJ (hs)), .int (iJ (rf))])), (h0, .inr (2, [.ref h1, .int (iJ (n)), .int (iJ (q))])), (h1, cJ cI 32 (uJ G k (g (tuI n a k)))), (t0, .inr (2, [.ref t1, .int (iJ (n)), .int (iJ (q))])), (t1, cJ cI 32 (pCp gt g n)), (i0, .inr (0, [.ref i1, .int (iJ (mb))])), (i1, cR cP 4 (hF xb)), ((xb 0), .inr (2, [.ref (yb 0), .int (iJ (lN 0)), .int (iJ (lQ 0))])), ((yb 0), cJ cI 32 (lG 0)), ((xb 1), .inr (2, [.ref (yb 1), .int (iJ (lN 1)), .int (iJ (lQ 1))])), ((yb 1), cJ cI 32 (lG 1)), ((xb 2), .inr (2, [.ref (yb 2), .int (iJ (lN 2)), .int (iJ (lQ 2))])), ((yb 2), cJ cI 32 (lG 2)), ((xb 3), .inr (2, [.ref (yb 3), .int (iJ (lN 3)), .int (iJ (lQ 3))])), ((yb 3), cJ cI 32 (lG 3))]) (fun _ => rfl) ?_
            rintro ⟨⟩ hp_4
            refine r_iinc E (k := 4) [(2, .int (iJ ((x + 1)))), (5, .int (iJ ((g (tuI n a k))))), (4, .int (iJ ((k + a)))), (0, .ref x0), (1, .int (iJ (a))), (3, .int (iJ (k)))] dX6_turn_114 rfl (by decide) rfl ?_
            refine r_iinc E (k := 5) [(3, .int (iJ ((k + 1)))), (2, .int (iJ ((x + 1)))), (5, .int (iJ ((g (tuI n a k))))), (4, .int (iJ ((k + a)))), (0, .ref x0), (1, .int (iJ (a)))] dX6_turn_117 rfl (by decide) rfl ?_
            refine r_goto E 39 dX6_turn_120 (by decide) ?_
            refine r_lv [4, 5, 1, 0] [(0, .ref x0), (1, .int (iJ (a))), (2, .int (iJ ((x + 1)))), (3, .int (iJ ((k + 1))))] rfl ?_
            exact ih39 (k + 1) (x + 1) (uJ G k (g (tuI n a k))) ⟨by omega, by omega⟩ (by rw [sm_s _ (by omega), hx2]; simp [b2, c_101]) (by
                  rw [hG]
                  first | exact mpF_s0 _ _ (by omega) c_101.symm | exact mpF_s1 _ _ (by omega) rfl) (by omega)
  refine r_lv [2, 3, 1, 0] [(0, .ref x0), (1, .int (iJ (a))), (2, .int (iJ (0))), (3, .int (iJ (0)))] rfl ?_
  exact loop_39 _ 0 0 g ⟨by omega, by omega⟩ (sm_0 _).symm (mpF_0 _ _) (Nat.lt_succ_self _)
theorem kf_X6_undo : KF yX6_undo 0 wsX6_undo cX6_undo 1 (some .int) := ⟨rfl, by decide +kernel, by decide +kernel, by decide +kernel⟩
def rm_X6_undo : Room := { frames := 3, cells := 0, slots := 0, locals := 64 }
set_option maxRecDepth 20000 in
theorem in_X6_undo_X6 : ∀ w ∈ u_ws RX6 TX6 9, w ∈ wsX6_undo := by decide +kernel
set_option maxRecDepth 20000 in
theorem lk_X6_undo_25 : Cond.fieldLink RX6 25 (TX6 3).1 (TX6 3).2.1 (TX6 3).2.2.1 ∈ wsX6_undo := by decide +kernel
set_option maxRecDepth 20000 in
theorem lk_X6_undo_10 : Cond.fieldLink RX6 10 (TX6 0).1 (TX6 0).2.1 (TX6 0).2.2.1 ∈ wsX6_undo := by decide +kernel
set_option maxHeartbeats 1000000 in
set_option maxRecDepth 100000 in
theorem c_X6_undoNo (l : Launch) (D : va_G) (x0 : Nat) (h0 : Nat) (t0 : Nat) (n0 : Nat) (i0 : Nat) (d0 : Nat) (r0 : Nat) (p0 : Nat) (hs : Int) (rf : Int) (h1 : Nat) (cI : ClassId) (g : Int → Int) (n : Int) (q : Int) (i1 : Nat) (cP : ClassId) (xa : Nat → Nat) (ya : Nat → Nat) (kN : Nat → Int) (kQ : Nat → Int) (kG : Nat → Int → Int) (m : Int) (hx : m = 0) : MM (S := Unit) l yX6_undo wsX6_undo rm_X6_undo D vwCl [.ref x0] [(x0, .inr (5, [.ref h0, .ref t0, .ref n0, .ref i0, .ref d0, .ref r0, .ref p0, .int (iJ (hs)), .int (iJ (rf))])), (h0, .inr (2, [.ref h1, .int (iJ (n)), .int (iJ (q))])), (h1, cJ cI 32 (g)), (i0, .inr (0, [.ref i1, .int (iJ (m))])), (i1, cR cP 4 (hF xa)), ((xa 0), .inr (2, [.ref (ya 0), .int (iJ (kN 0)), .int (iJ (kQ 0))])), ((ya 0), cJ cI 32 (kG 0)), ((xa 1), .inr (2, [.ref (ya 1), .int (iJ (kN 1)), .int (iJ (kQ 1))])), ((ya 1), cJ cI 32 (kG 1)), ((xa 2), .inr (2, [.ref (ya 2), .int (iJ (kN 2)), .int (iJ (kQ 2))])), ((ya 2), cJ cI 32 (kG 2)), ((xa 3), .inr (2, [.ref (ya 3), .int (iJ (kN 3)), .int (iJ (kQ 3))])), ((ya 3), cJ cI 32 (kG 3))] [(cI, .int), (cP, .object "LeanSticks$Piece")] (fun (_ : Unit) => -2) (fun (_ : Unit) => True) (fun (_ : Unit) => [(x0, .inr (5, [.ref h0, .ref t0, .ref n0, .ref i0, .ref d0, .ref r0, .ref p0, .int (iJ (hs)), .int (iJ (rf))])), (h0, .inr (2, [.ref h1, .int (iJ (n)), .int (iJ (q))])), (h1, cJ cI 32 (g)), (i0, .inr (0, [.ref i1, .int (iJ (0))])), (i1, cR cP 4 (hF xa)), ((xa 0), .inr (2, [.ref (ya 0), .int (iJ (kN 0)), .int (iJ (kQ 0))])), ((ya 0), cJ cI 32 (kG 0)), ((xa 1), .inr (2, [.ref (ya 1), .int (iJ (kN 1)), .int (iJ (kQ 1))])), ((ya 1), cJ cI 32 (kG 1)), ((xa 2), .inr (2, [.ref (ya 2), .int (iJ (kN 2)), .int (iJ (kQ 2))])), ((ya 2), cJ cI 32 (kG 2)), ((xa 3), .inr (2, [.ref (ya 3), .int (iJ (kN 3)), .int (iJ (kQ 3))])), ((ya 3), cJ cI 32 (kG 3))]) := by
  refine MM.mk (cc := cX6_undo) (maxL := 1) (ret := (some .int)) (by decide) rfl (Nat.le_of_ble_eq_true rfl) rfl RX6 rfl ?_
  intro p_ e_ s_ m_ ar_ bw_ mt_ cd_ B_ Q_ hA E hr hQ
  refine r_cv (ws2 := [(x0, .inr (5, [.ref h0, .ref t0, .ref n0, .ref i0, .ref d0, .ref r0, .ref p0, .int (iJ (hs)), .int (iJ (rf))])), (h0, .inr (2, [.ref h1, .int (iJ (n)), .int (iJ (q))])), (h1, cJ cI 32 (g)), (i0, .inr (0, [.ref i1, .int (iJ (0))])), (i1, cR cP 4 (hF xa)), ((xa 0), .inr (2, [.ref (ya 0), .int (iJ (kN 0)), .int (iJ (kQ 0))])), ((ya 0), cJ cI 32 (kG 0)), ((xa 1), .inr (2, [.ref (ya 1), .int (iJ (kN 1)), .int (iJ (kQ 1))])), ((ya 1), cJ cI 32 (kG 1)), ((xa 2), .inr (2, [.ref (ya 2), .int (iJ (kN 2)), .int (iJ (kQ 2))])), ((ya 2), cJ cI 32 (kG 2)), ((xa 3), .inr (2, [.ref (ya 3), .int (iJ (kN 3)), .int (iJ (kQ 3))])), ((ya 3), cJ cI 32 (kG 3))]) (by rw [hx]) rfl rfl ?_
  refine r_aload_n E 0 dX6_undo_0 rfl rfl ?_
  refine r_get E 5 0 3 dX6_undo_1 in_X6_undo_X6 lk_X6_undo_25 rfl rfl (by decide) rfl ?_
  refine r_aload_n E 0 dX6_undo_4 rfl rfl ?_
  refine r_get E 5 0 0 dX6_undo_5 in_X6_undo_X6 lk_X6_undo_10 rfl rfl (by decide) rfl ?_
  refine r_vM E (st := []) (c_X0_takeBackNo l D i0 i1 cP xa ya kN kQ kG h0 h1 cI g n q) gX6_undo_X0_takeBack 1 kf_X0_takeBack ⟨rfl, rfl⟩ ⟨by decide, by decide⟩ dX6_undo_8 rfl 3 rfl rfl rfl rfl ⟨Nat.zero_le _, Nat.zero_le _⟩ [3, 4, 5, 6, 7, 8, 9, 10, 11, 12, 1, 2] rfl (by decide) [0, 1] rfl (Nat.le_of_ble_eq_true rfl) [(x0, .inr (5, [.ref h0, .ref t0, .ref n0, .ref i0, .ref d0, .ref r0, .ref p0, .int (iJ (hs)), .int (iJ (rf))]))] [0] rfl (by decide) (by decide) hA [0, 11, 12, 1, 2, 3, 4, 5, 6, 7, 8, 9, 10] (by decide) (fun (_ : Unit) => [(x0, .inr (5, [.ref h0, .ref t0, .ref n0, .ref i0, .ref d0, .ref r0, .ref p0, .int (iJ (hs)), .int (iJ (rf))])), (h0, .inr (2, [.ref h1, .int (iJ (n)), .int (iJ (q))])), (h1, cJ cI 32 (g)), (i0, .inr (0, [.ref i1, .int (iJ (0))])), (i1, cR cP 4 (hF xa)), ((xa 0), .inr (2, [.ref (ya 0), .int (iJ (kN 0)), .int (iJ (kQ 0))])), ((ya 0), cJ cI 32 (kG 0)), ((xa 1), .inr (2, [.ref (ya 1), .int (iJ (kN 1)), .int (iJ (kQ 1))])), ((ya 1), cJ cI 32 (kG 1)), ((xa 2), .inr (2, [.ref (ya 2), .int (iJ (kN 2)), .int (iJ (kQ 2))])), ((ya 2), cJ cI 32 (kG 2)), ((xa 3), .inr (2, [.ref (ya 3), .int (iJ (kN 3)), .int (iJ (kQ 3))])), ((ya 3), cJ cI 32 (kG 3))]) (fun _ => rfl) ?_
  rintro ⟨⟩ hp_1
  refine r_if_ne E 17 dX6_undo_11 (by decide) ⟨by omega, by omega⟩ (fun c_11 => absurd c_11 (by omega)) (fun c_11 => ?_)
  refine r_bipush E (-2) rfl dX6_undo_14 ?_
  exact r_retM E () hr dX6_undo_16 rfl trivial rfl hQ
set_option maxRecDepth 20000 in
theorem in_X6_undo_X0 : ∀ w ∈ u_ws RX0 TX0 2, w ∈ wsX6_undo := by decide +kernel
set_option maxHeartbeats 1000000 in
set_option maxRecDepth 100000 in
theorem c_X6_undo (l : Launch) (D : va_G) (x0 : Nat) (h0 : Nat) (t0 : Nat) (n0 : Nat) (i0 : Nat) (d0 : Nat) (r0 : Nat) (p0 : Nat) (hs : Int) (rf : Int) (h1 : Nat) (cI : ClassId) (g : Int → Int) (n : Int) (q : Int) (i1 : Nat) (cP : ClassId) (xa : Nat → Nat) (ya : Nat → Nat) (kN : Nat → Int) (kQ : Nat → Int) (kG : Nat → Int → Int) (m : Int) (hn : 0 ≤ n ∧ n ≤ 32) (hhN : ∀ i : Nat, 0 ≤ kN i ∧ kN i ≤ 32) (hm : 1 ≤ m ∧ m ≤ 4) : MM (S := Unit) l yX6_undo wsX6_undo rm_X6_undo D vwCl [.ref x0] [(x0, .inr (5, [.ref h0, .ref t0, .ref n0, .ref i0, .ref d0, .ref r0, .ref p0, .int (iJ (hs)), .int (iJ (rf))])), (h0, .inr (2, [.ref h1, .int (iJ (n)), .int (iJ (q))])), (h1, cJ cI 32 (g)), (i0, .inr (0, [.ref i1, .int (iJ (m))])), (i1, cR cP 4 (hF xa)), ((xa 0), .inr (2, [.ref (ya 0), .int (iJ (kN 0)), .int (iJ (kQ 0))])), ((ya 0), cJ cI 32 (kG 0)), ((xa 1), .inr (2, [.ref (ya 1), .int (iJ (kN 1)), .int (iJ (kQ 1))])), ((ya 1), cJ cI 32 (kG 1)), ((xa 2), .inr (2, [.ref (ya 2), .int (iJ (kN 2)), .int (iJ (kQ 2))])), ((ya 2), cJ cI 32 (kG 2)), ((xa 3), .inr (2, [.ref (ya 3), .int (iJ (kN 3)), .int (iJ (kQ 3))])), ((ya 3), cJ cI 32 (kG 3))] [(cI, .int), (cP, .object "LeanSticks$Piece")] (fun (_ : Unit) => m - 1) (fun (_ : Unit) => True) (fun (_ : Unit) => [(x0, .inr (5, [.ref h0, .ref t0, .ref n0, .ref i0, .ref d0, .ref r0, .ref p0, .int (iJ (hs)), .int (iJ (rf))])), (h0, .inr (2, [.ref h1, .int (iJ (kN (m - 1).toNat)), .int (iJ (kQ (m - 1).toNat))])), (h1, cJ cI 32 (pCp g (kG (m - 1).toNat) (kN (m - 1).toNat))), (i0, .inr (0, [.ref i1, .int (iJ ((m - 1)))])), (i1, cR cP 4 (hF xa)), ((xa 0), .inr (2, [.ref (ya 0), .int (iJ (kN 0)), .int (iJ (kQ 0))])), ((ya 0), cJ cI 32 (kG 0)), ((xa 1), .inr (2, [.ref (ya 1), .int (iJ (kN 1)), .int (iJ (kQ 1))])), ((ya 1), cJ cI 32 (kG 1)), ((xa 2), .inr (2, [.ref (ya 2), .int (iJ (kN 2)), .int (iJ (kQ 2))])), ((ya 2), cJ cI 32 (kG 2)), ((xa 3), .inr (2, [.ref (ya 3), .int (iJ (kN 3)), .int (iJ (kQ 3))])), ((ya 3), cJ cI 32 (kG 3))]) := by
  refine MM.mk (cc := cX6_undo) (maxL := 1) (ret := (some .int)) (by decide) rfl (Nat.le_of_ble_eq_true rfl) rfl RX6 rfl ?_
  intro p_ e_ s_ m_ ar_ bw_ mt_ cd_ B_ Q_ hA E hr hQ
  refine r_aload_n E 0 dX6_undo_0 rfl rfl ?_
  refine r_get E 5 0 3 dX6_undo_1 in_X6_undo_X6 lk_X6_undo_25 rfl rfl (by decide) rfl ?_
  refine r_aload_n E 0 dX6_undo_4 rfl rfl ?_
  refine r_get E 5 0 0 dX6_undo_5 in_X6_undo_X6 lk_X6_undo_10 rfl rfl (by decide) rfl ?_
  refine r_vM E (st := []) (c_X0_takeBack l D i0 i1 cP xa ya kN kQ kG m h0 h1 cI g n q (by first | assumption | omega | exact ⟨by omega, by omega⟩) (by first | assumption | omega | exact ⟨by omega, by omega⟩) (by first | assumption | omega | exact ⟨by omega, by omega⟩)) gX6_undo_X0_takeBack 1 kf_X0_takeBack ⟨rfl, rfl⟩ ⟨by decide, by decide⟩ dX6_undo_8 rfl 3 rfl rfl rfl rfl ⟨Nat.zero_le _, Nat.zero_le _⟩ [3, 4, 5, 6, 7, 8, 9, 10, 11, 12, 1, 2] rfl (by decide) [0, 1] rfl (Nat.le_of_ble_eq_true rfl) [(x0, .inr (5, [.ref h0, .ref t0, .ref n0, .ref i0, .ref d0, .ref r0, .ref p0, .int (iJ (hs)), .int (iJ (rf))]))] [0] rfl (by decide) (by decide) hA [0, 11, 12, 1, 2, 3, 4, 5, 6, 7, 8, 9, 10] (by decide) (fun (_ : Unit) => [(x0, .inr (5, [.ref h0, .ref t0, .ref n0, .ref i0, .ref d0, .ref r0, .ref p0, .int (iJ (hs)), .int (iJ (rf))])), (h0, .inr (2, [.ref h1, .int (iJ (kN (m - 1).toNat)), .int (iJ (kQ (m - 1).toNat))])), (h1, cJ cI 32 (pCp g (kG (m - 1).toNat) (kN (m - 1).toNat))), (i0, .inr (0, [.ref i1, .int (iJ ((m - 1)))])), (i1, cR cP 4 (hF xa)), ((xa 0), .inr (2, [.ref (ya 0), .int (iJ (kN 0)), .int (iJ (kQ 0))])), ((ya 0), cJ cI 32 (kG 0)), ((xa 1), .inr (2, [.ref (ya 1), .int (iJ (kN 1)), .int (iJ (kQ 1))])), ((ya 1), cJ cI 32 (kG 1)), ((xa 2), .inr (2, [.ref (ya 2), .int (iJ (kN 2)), .int (iJ (kQ 2))])), ((ya 2), cJ cI 32 (kG 2)), ((xa 3), .inr (2, [.ref (ya 3), .int (iJ (kN 3)), .int (iJ (kQ 3))])), ((ya 3), cJ cI 32 (kG 3))]) (fun _ => rfl) ?_
  rintro ⟨⟩ hp_1
  refine r_if_ne E 17 dX6_undo_11 (by decide) ⟨by omega, by omega⟩ (fun c_11 => ?_) (fun c_11 => absurd c_11 (by omega))
  refine r_aload_n E 0 dX6_undo_17 rfl rfl ?_
  refine r_get E 5 0 3 dX6_undo_18 in_X6_undo_X6 lk_X6_undo_25 rfl rfl (by decide) rfl ?_
  refine r_getN E 0 3 1 dX6_undo_21 in_X6_undo_X0 (by decide) rfl rfl rfl (by decide) rfl ?_
  exact r_retM E () hr dX6_undo_24 rfl trivial rfl hQ
