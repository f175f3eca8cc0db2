theorem kf_X6_ifStroke : KF yX6_ifStroke 4 wsX6_ifStroke cX6_ifStroke 5 (some .int) := ⟨rfl, by decide +kernel, by decide +kernel, by decide +kernel⟩
def rm_X6_ifStroke : Room := { frames := 5, cells := 0, slots := 0, locals := 125 }
set_option maxRecDepth 20000 in
theorem in_X6_ifStroke_X6 : ∀ w ∈ u_ws RX6 TX6 9, w ∈ wsX6_ifStroke := by decide +kernel
set_option maxRecDepth 20000 in
theorem lk_X6_ifStroke_10 : Cond.fieldLink RX6 10 (TX6 0).1 (TX6 0).2.1 (TX6 0).2.2.1 ∈ wsX6_ifStroke := by decide +kernel
set_option maxHeartbeats 1000000 in
set_option maxRecDepth 100000 in
theorem c_X6_ifBad (l : Launch) (D : va_G) (x0 : Nat) (h0 : Nat) (t0 : Nat) (n0 : Nat) (i0 : Nat) (d0 : Nat) (r0 : Nat) (p0 : Nat) (hs : Int) (rf : Int) (h1 : Nat) (cI : ClassId) (g : Int → Int) (n : Int) (q : Int) (a : Int) (h : Int) (o : Int) (w : Int) (hn : 0 ≤ n ∧ n ≤ 32) (ha : jb a) (hh : jb h) (ho : jb o) (hw : jb w) (hx : ¬ ((0 ≤ a ∧ a < n) ∧ (0 ≤ h ∧ h ≤ 2) ∧ (0 ≤ o ∧ o ≤ 3) ∧ (0 ≤ w ∧ w ≤ 2))) : MP l yX6_ifStroke wsX6_ifStroke rm_X6_ifStroke D vwCl [.ref x0, .int (iJ (a)), .int (iJ (h)), .int (iJ (o)), .int (iJ (w))] [(x0, .inr (5, [.ref h0, .ref t0, .ref n0, .ref i0, .ref d0, .ref r0, .ref p0, .int (iJ (hs)), .int (iJ (rf))])), (h0, .inr (2, [.ref h1, .int (iJ (n)), .int (iJ (q))])), (h1, cJ cI 32 (g))] [(cI, .int)] (-1) := by
  refine MP.mk (cc := cX6_ifStroke) (maxL := 5) (ret := (some .int)) (by decide) rfl (Nat.le_of_ble_eq_true rfl) rfl RX6 rfl ?_
  intro p_ e_ s_ m_ ar_ bw_ mt_ cd_ Q_ E hr hQ
  refine r_aload_n E 0 dX6_ifStroke_0 rfl rfl ?_
  refine r_get E 5 0 0 dX6_ifStroke_1 in_X6_ifStroke_X6 lk_X6_ifStroke_10 rfl rfl (by decide) rfl ?_
  refine r_iload_n E 1 dX6_ifStroke_4 rfl rfl ?_
  refine r_vP E (st := []) (c_X2_hasStep l D h0 h1 cI g n q a (by first | assumption | omega | exact ⟨by omega, by omega⟩) (by first | assumption | omega | exact ⟨by omega, by omega⟩)) gX6_ifStroke_X2_hasStep 1 kf_X2_hasStep ⟨rfl, rfl⟩ ⟨by decide, by decide⟩ dX6_ifStroke_5 rfl 1 rfl rfl rfl rfl ⟨Nat.zero_le _, Nat.zero_le _⟩ [1, 2] rfl (by decide) [0] rfl (Nat.le_of_ble_eq_true rfl) ?_
  refine r_ifeq_b E 36 dX6_ifStroke_8 (by decide) (fun c_8 => ?_) (fun c_8 => ?_)
  · refine r_iconst E (-1) rfl dX6_ifStroke_36 ?_
    exact r_retP E hr dX6_ifStroke_37 rfl hQ
  · refine r_iload_n E 2 dX6_ifStroke_11 rfl rfl ?_
    refine r_sP E (st := []) (c_X6_isHand l D h (by first | assumption | omega | exact ⟨by omega, by omega⟩)) gX6_ifStroke_X6_isHand 1 kf_X6_isHand ⟨rfl, rfl⟩ ⟨by decide, by decide⟩ dX6_ifStroke_12 rfl rfl ⟨Nat.zero_le _, Nat.zero_le _⟩ [] rfl (by decide) [] rfl (Nat.le_of_ble_eq_true rfl) ?_
    refine r_ifeq_b E 36 dX6_ifStroke_15 (by decide) (fun c_15 => ?_) (fun c_15 => ?_)
    · refine r_iconst E (-1) rfl dX6_ifStroke_36 ?_
      exact r_retP E hr dX6_ifStroke_37 rfl hQ
    · refine r_iload_n E 3 dX6_ifStroke_18 rfl rfl ?_
      refine r_sP E (st := []) (c_X6_isOrnament l D o (by first | assumption | omega | exact ⟨by omega, by omega⟩)) gX6_ifStroke_X6_isOrnament 1 kf_X6_isOrnament ⟨rfl, rfl⟩ ⟨by decide, by decide⟩ dX6_ifStroke_19 rfl rfl ⟨Nat.zero_le _, Nat.zero_le _⟩ [] rfl (by decide) [] rfl (Nat.le_of_ble_eq_true rfl) ?_
      refine r_ifeq_b E 36 dX6_ifStroke_22 (by decide) (fun c_22 => ?_) (fun c_22 => ?_)
      · refine r_iconst E (-1) rfl dX6_ifStroke_36 ?_
        exact r_retP E hr dX6_ifStroke_37 rfl hQ
      · refine r_iload E 4 dX6_ifStroke_25 rfl ?_
        refine r_if_lt E 36 dX6_ifStroke_27 (by decide) hw (fun c_27 => ?_) (fun c_27 => ?_)
        · refine r_iconst E (-1) rfl dX6_ifStroke_36 ?_
          exact r_retP E hr dX6_ifStroke_37 rfl hQ
        · refine r_iload E 4 dX6_ifStroke_30 rfl ?_
          refine r_iconst E 2 rfl dX6_ifStroke_32 ?_
          refine r_icmp_le E 38 dX6_ifStroke_33 (by decide) hw ⟨by omega, by omega⟩ (fun c_33 => absurd c_33 (by omega)) (fun c_33 => ?_)
          refine r_iconst E (-1) rfl dX6_ifStroke_36 ?_
          exact r_retP E hr dX6_ifStroke_37 rfl hQ
set_option maxRecDepth 20000 in
theorem lk_X6_ifStroke_16 : Cond.fieldLink RX6 16 (TX6 1).1 (TX6 1).2.1 (TX6 1).2.2.1 ∈ wsX6_ifStroke := by decide +kernel
set_option maxRecDepth 20000 in
theorem lk_X6_ifStroke_46 : Cond.fieldLink RX6 46 (TX6 6).1 (TX6 6).2.1 (TX6 6).2.2.1 ∈ wsX6_ifStroke := by decide +kernel
set_option maxHeartbeats 1000000 in
set_option maxRecDepth 100000 in
theorem c_X6_ifBest (l : Launch) (D : va_G) (x0 : Nat) (h0 : Nat) (t0 : Nat) (n0 : Nat) (i0 : Nat) (d0 : Nat) (r0 : Nat) (p0 : Nat) (hs : Int) (rf : Int) (h1 : Nat) (cI : ClassId) (g : Int → Int) (n : Int) (q : Int) (p1 : Nat) (p2 : Nat) (p3 : Nat) (p4 : Nat) (p5 : Nat) (p6 : Nat) (cZ : ClassId) (L : Int) (ow : Int → Int) (cA : Int → Int) (cU : Int → Int) (hd : Int → Int) (fw : Int → Int) (t1 : Nat) (gt : Int → Int) (nt : Int) (qt : Int) (a : Int) (h : Int) (o : Int) (w : Int) (hn : 0 ≤ n ∧ n ≤ 32) (hg : ∀ j : Int, 0 ≤ j → j < n → 0 ≤ g j ∧ g j < 64) (hg3 : ∀ j : Int, 0 ≤ j → j < n → ¬ g j / 2 % 4 = 3) (hq : 1 ≤ q ∧ q ≤ 4) (hnt : 0 ≤ nt ∧ nt ≤ 32) (hx : (0 ≤ a ∧ a < n) ∧ (0 ≤ h ∧ h ≤ 2) ∧ (0 ≤ o ∧ o ≤ 3) ∧ (0 ≤ w ∧ w ≤ 2)) (hw2 : w = 2) : MM (S := Int × (Int → Int) × (Int → Int) × (Int → Int) × (Int → Int) × (Int → Int) × (Int → Int)) l yX6_ifStroke wsX6_ifStroke rm_X6_ifStroke D vwCl [.ref x0, .int (iJ (a)), .int (iJ (h)), .int (iJ (o)), .int (iJ (w))] [(x0, .inr (5, [.ref h0, .ref t0, .ref n0, .ref i0, .ref d0, .ref r0, .ref p0, .int (iJ (hs)), .int (iJ (rf))])), (h0, .inr (2, [.ref h1, .int (iJ (n)), .int (iJ (q))])), (h1, cJ cI 32 (g)), (p0, .inr (3, [.ref p1, .ref p2, .ref p3, .ref p4, .ref p5, .ref p6, .int (iJ (L))])), (p1, cJ cI 32 (nrA)), (p2, cJ cI 32 (ow)), (p3, cJ cZ 32 (cA)), (p4, cJ cZ 32 (cU)), (p5, cJ cI 32 (hd)), (p6, cJ cI 132 (fw)), (t0, .inr (2, [.ref t1, .int (iJ (nt)), .int (iJ (qt))])), (t1, cJ cI 32 (gt))] [(cI, .int), (cZ, .boolean)] (fun (u : Int × (Int → Int) × (Int → Int) × (Int → Int) × (Int → Int) × (Int → Int) × (Int → Int)) => (if fcB (ifG g a h o) n q 1 < 1000 then fcB (ifG g a h o) n q 1 else -4)) (fun (u : Int × (Int → Int) × (Int → Int) × (Int → Int) × (Int → Int) × (Int → Int) × (Int → Int)) => True) (fun (u : Int × (Int → Int) × (Int → Int) × (Int → Int) × (Int → Int) × (Int → Int) × (Int → Int)) => [(x0, .inr (5, [.ref h0, .ref t0, .ref n0, .ref i0, .ref d0, .ref r0, .ref p0, .int (iJ (hs)), .int (iJ (rf))])), (h0, .inr (2, [.ref h1, .int (iJ (n)), .int (iJ (q))])), (h1, cJ cI 32 (g)), (p0, .inr (3, [.ref p1, .ref p2, .ref p3, .ref p4, .ref p5, .ref p6, .int (iJ (u.1))])), (p1, cJ cI 32 (nrA)), (p2, cJ cI 32 (u.2.1)), (p3, cJ cZ 32 (u.2.2.1)), (p4, cJ cZ 32 (u.2.2.2.1)), (p5, cJ cI 32 (u.2.2.2.2.1)), (p6, cJ cI 132 (u.2.2.2.2.2.1)), (t0, .inr (2, [.ref t1, .int (iJ (n)), .int (iJ (q))])), (t1, cJ cI 32 (u.2.2.2.2.2.2))]) := by
  refine MM.mk (cc := cX6_ifStroke) (maxL := 5) (ret := (some .int)) (by decide) rfl (Nat.le_of_ble_eq_true rfl) rfl RX6 rfl ?_
  intro p_ e_ s_ m_ ar_ bw_ mt_ cd_ B_ Q_ hA E hr hQ
  obtain ⟨⟨ha1, ha2⟩, hh1, ho1, hw1⟩ := hx
  have f_g := hg a ha1 ha2
  have f_o := sOf_in hh1 (b2_01 (g a / 8 % 2 = 1)) ho1
  have wE : agG n (uJ (pCp gt g n) a (sOf h (b2 (g a / 8 % 2 = 1)) o)) (ifG g a h o) := fun j h0 h1 => by
        unfold ifG; by_cases z : j = a
        · subst z; rw [uJ_s, uJ_s]
        · rw [uJ_n z, uJ_n z]; unfold pCp; rw [if_pos ⟨h0, h1⟩]
  have wG : ∀ j : Int, 0 ≤ j → j < n → 0 ≤ (uJ (pCp gt g n) a (sOf h (b2 (g a / 8 % 2 = 1)) o)) j ∧ (uJ (pCp gt g n) a (sOf h (b2 (g a / 8 % 2 = 1)) o)) j < 64 := fun j h0 h1 => by
        rw [wE j h0 h1]; unfold ifG; by_cases z : j = a
        · subst z; rw [uJ_s]; exact f_o.1
        · rw [uJ_n z]; exact hg j h0 h1
  have wG3 : ∀ j : Int, 0 ≤ j → j < n → ¬ (uJ (pCp gt g n) a (sOf h (b2 (g a / 8 % 2 = 1)) o)) j / 2 % 4 = 3 := fun j h0 h1 => by
        rw [wE j h0 h1]; unfold ifG; by_cases z : j = a
        · subst z; rw [uJ_s]; exact f_o.2.1
        · rw [uJ_n z]; exact hg3 j h0 h1
  refine r_aload_n E 0 dX6_ifStroke_0 rfl rfl ?_
  refine r_get E 5 0 0 dX6_ifStroke_1 in_X6_ifStroke_X6 lk_X6_ifStroke_10 rfl rfl (by decide) rfl ?_
  refine r_iload_n E 1 dX6_ifStroke_4 rfl rfl ?_
  refine r_vP E (st := []) (c_X2_hasStep l D h0 h1 cI g n q a (by first | assumption | omega | exact ⟨by omega, by omega⟩) (by first | assumption | omega | exact ⟨by omega, by omega⟩)) gX6_ifStroke_X2_hasStep 1 kf_X2_hasStep ⟨rfl, rfl⟩ ⟨by decide, by decide⟩ dX6_ifStroke_5 rfl 1 rfl rfl rfl rfl ⟨Nat.zero_le _, Nat.zero_le _⟩ [1, 2] rfl (by decide) [0] rfl (Nat.le_of_ble_eq_true rfl) ?_
  refine r_ifeq_b E 36 dX6_ifStroke_8 (by decide) (fun c_8 => absurd c_8 (by omega)) (fun c_8 => ?_)
  refine r_iload_n E 2 dX6_ifStroke_11 rfl rfl ?_
  refine r_sP E (st := []) (c_X6_isHand l D h (by first | assumption | omega | exact ⟨by omega, by omega⟩)) gX6_ifStroke_X6_isHand 1 kf_X6_isHand ⟨rfl, rfl⟩ ⟨by decide, by decide⟩ dX6_ifStroke_12 rfl rfl ⟨Nat.zero_le _, Nat.zero_le _⟩ [] rfl (by decide) [] rfl (Nat.le_of_ble_eq_true rfl) ?_
  refine r_ifeq_b E 36 dX6_ifStroke_15 (by decide) (fun c_15 => absurd c_15 (by omega)) (fun c_15 => ?_)
  refine r_iload_n E 3 dX6_ifStroke_18 rfl rfl ?_
  refine r_sP E (st := []) (c_X6_isOrnament l D o (by first | assumption | omega | exact ⟨by omega, by omega⟩)) gX6_ifStroke_X6_isOrnament 1 kf_X6_isOrnament ⟨rfl, rfl⟩ ⟨by decide, by decide⟩ dX6_ifStroke_19 rfl rfl ⟨Nat.zero_le _, Nat.zero_le _⟩ [] rfl (by decide) [] rfl (Nat.le_of_ble_eq_true rfl) ?_
  refine r_ifeq_b E 36 dX6_ifStroke_22 (by decide) (fun c_22 => absurd c_22 (by omega)) (fun c_22 => ?_)
  refine r_iload E 4 dX6_ifStroke_25 rfl ?_
  refine r_if_lt E 36 dX6_ifStroke_27 (by decide) ⟨by omega, by omega⟩ (fun c_27 => absurd c_27 (by omega)) (fun c_27 => ?_)
  refine r_iload E 4 dX6_ifStroke_30 rfl ?_
  refine r_iconst E 2 rfl dX6_ifStroke_32 ?_
  refine r_icmp_le E 38 dX6_ifStroke_33 (by decide) ⟨by omega, by omega⟩ ⟨by omega, by omega⟩ (fun c_33 => ?_) (fun c_33 => absurd c_33 (by omega))
  refine r_aload_n E 0 dX6_ifStroke_38 rfl rfl ?_
  refine r_get E 5 0 1 dX6_ifStroke_39 in_X6_ifStroke_X6 lk_X6_ifStroke_16 rfl rfl (by decide) rfl ?_
  refine r_aload_n E 0 dX6_ifStroke_42 rfl rfl ?_
  refine r_get E 5 0 0 dX6_ifStroke_43 in_X6_ifStroke_X6 lk_X6_ifStroke_10 rfl rfl (by decide) rfl ?_
  refine r_vV E (st := []) (c_X2_copy l D t0 t1 cI gt nt qt h0 h1 g n q hnt hn) gX6_ifStroke_X2_copy 1 kf_X2_copy ⟨rfl, rfl⟩ ⟨by decide, by decide⟩ dX6_ifStroke_46 rfl 10 rfl rfl rfl rfl ⟨Nat.zero_le _, Nat.zero_le _⟩ [10, 11, 1, 2] rfl (by decide) [0] rfl (Nat.le_of_ble_eq_true rfl) [(x0, .inr (5, [.ref h0, .ref t0, .ref n0, .ref i0, .ref d0, .ref r0, .ref p0, .int (iJ (hs)), .int (iJ (rf))])), (p0, .inr (3, [.ref p1, .ref p2, .ref p3, .ref p4, .ref p5, .ref p6, .int (iJ (L))])), (p1, cJ cI 32 (nrA)), (p2, cJ cI 32 (ow)), (p3, cJ cZ 32 (cA)), (p4, cJ cZ 32 (cU)), (p5, cJ cI 32 (hd)), (p6, cJ cI 132 (fw))] [0, 3, 4, 5, 6, 7, 8, 9] rfl (by decide) (by decide) hA [0, 10, 11, 1, 2, 3, 4, 5, 6, 7, 8, 9] (by decide) (fun (_ : Unit) => [(x0, .inr (5, [.ref h0, .ref t0, .ref n0, .ref i0, .ref d0, .ref r0, .ref p0, .int (iJ (hs)), .int (iJ (rf))])), (h0, .inr (2, [.ref h1, .int (iJ (n)), .int (iJ (q))])), (h1, cJ cI 32 (g)), (p0, .inr (3, [.ref p1, .ref p2, .ref p3, .ref p4, .ref p5, .ref p6, .int (iJ (L))])), (p1, cJ cI 32 (nrA)), (p2, cJ cI 32 (ow)), (p3, cJ cZ 32 (cA)), (p4, cJ cZ 32 (cU)), (p5, cJ cI 32 (hd)), (p6, cJ cI 132 (fw)), (t0, .inr (2, [.ref t1, .int (iJ (n)), .int (iJ (q))])), (t1, cJ cI 32 (pCp gt g n))]) (fun _ => rfl) ?_
  rintro ⟨⟩ hp_1
  refine r_aload_n E 0 dX6_ifStroke_49 rfl rfl ?_
  refine r_get E 5 0 1 dX6_ifStroke_50 in_X6_ifStroke_X6 lk_X6_ifStroke_16 rfl rfl (by decide) rfl ?_
  refine r_iload_n E 1 dX6_ifStroke_53 rfl rfl ?_
  refine r_iload_n E 2 dX6_ifStroke_54 rfl rfl ?_
  refine r_aload_n E 0 dX6_ifStroke_55 rfl rfl ?_
  refine r_get E 5 0 0 dX6_ifStroke_56 in_X6_ifStroke_X6 lk_X6_ifStroke_10 rfl rfl (by decide) rfl ?_
  refine r_iload_n E 1 dX6_ifStroke_59 rfl rfl ?_
  refine r_vP E (st := [.int (iJ (h)), .int (iJ (a)), .ref t0]) (c_X2_at l D h0 h1 cI g n q a (by first | assumption | omega | exact ⟨by omega, by omega⟩) (by first | assumption | omega | exact ⟨by omega, by omega⟩)) gX6_ifStroke_X2_at 1 kf_X2_at ⟨rfl, rfl⟩ ⟨by decide, by decide⟩ dX6_ifStroke_60 rfl 1 rfl rfl rfl rfl ⟨Nat.zero_le _, Nat.zero_le _⟩ [1, 2] rfl (by decide) [0] rfl (Nat.le_of_ble_eq_true rfl) ?_
  refine r_top (b := (g a)) (pAt_t ⟨ha1, ha2⟩) ?_
  refine r_sP E (st := [.int (iJ (h)), .int (iJ (a)), .ref t0]) (c_X5_isAccented l D (g a) (by first | assumption | omega | exact ⟨by omega, by omega⟩)) gX6_ifStroke_X5_isAccented 1 kf_X5_isAccented ⟨rfl, rfl⟩ ⟨by decide, by decide⟩ dX6_ifStroke_63 rfl rfl ⟨Nat.zero_le _, Nat.zero_le _⟩ [] rfl (by decide) [] rfl (Nat.le_of_ble_eq_true rfl) ?_
  refine r_iload_n E 3 dX6_ifStroke_66 rfl rfl ?_
  refine r_sP E (st := [.int (iJ (a)), .ref t0]) (c_X5_of l D h (b2 ((g a) / 8 % 2 = 1)) o (by first | assumption | omega | exact ⟨by omega, by omega⟩) (b2_01 _) (by first | assumption | omega | exact ⟨by omega, by omega⟩)) gX6_ifStroke_X5_of 3 kf_X5_of ⟨rfl, rfl⟩ ⟨by decide, by decide⟩ dX6_ifStroke_67 rfl rfl ⟨Nat.zero_le _, Nat.zero_le _⟩ [] rfl (by decide) [] rfl (Nat.le_of_ble_eq_true rfl) ?_
  refine r_vV E (st := []) (c_X2_change l D t0 t1 cI (pCp gt g n) n q a (sOf h (b2 ((g a) / 8 % 2 = 1)) o) (by first | assumption | omega | exact ⟨by omega, by omega⟩) (by first | assumption | omega | exact ⟨by omega, by omega⟩)) gX6_ifStroke_X2_change 2 kf_X2_change ⟨rfl, rfl⟩ ⟨by decide, by decide⟩ dX6_ifStroke_70 rfl 10 rfl rfl rfl rfl ⟨Nat.zero_le _, Nat.zero_le _⟩ [10, 11] rfl (by decide) [0] rfl (Nat.le_of_ble_eq_true rfl) [(x0, .inr (5, [.ref h0, .ref t0, .ref n0, .ref i0, .ref d0, .ref r0, .ref p0, .int (iJ (hs)), .int (iJ (rf))])), (h0, .inr (2, [.ref h1, .int (iJ (n)), .int (iJ (q))])), (h1, cJ cI 32 (g)), (p0, .inr (3, [.ref p1, .ref p2, .ref p3, .ref p4, .ref p5, .ref p6, .int (iJ (L))])), (p1, cJ cI 32 (nrA)), (p2, cJ cI 32 (ow)), (p3, cJ cZ 32 (cA)), (p4, cJ cZ 32 (cU)), (p5, cJ cI 32 (hd)), (p6, cJ cI 132 (fw))] [0, 1, 2, 3, 4, 5, 6, 7, 8, 9] rfl (by decide) (by decide) hA [0, 1, 2, 3, 4, 5, 6, 7, 8, 9, 10, 11] (by decide) (fun (_ : Unit) => [(x0, .inr (5, [.ref h0, .ref t0, .ref n0, .ref i0, .ref d0, .ref r0, .ref p0, .int (iJ (hs)), .int (iJ (rf))])), (h0, .inr (2, [.ref h1, .int (iJ (n)), .int (iJ (q))])), (h1, cJ cI 32 (g)), (p0, .inr (3, [.ref p1, .ref p2, .ref p3, .ref p4, .ref p5, .ref p6, .int (iJ (L))])), (p1, cJ cI 32 (nrA)), (p2, cJ cI 32 (ow)), (p3, cJ cZ 32 (cA)), (p4, cJ cZ 32 (cU)), (p5, cJ cI 32 (hd)), (p6, cJ cI 132 (fw)), (t0, .inr (2, [.ref t1, .int (iJ (n)), .int (iJ (q))])), (t1, cJ cI 32 (uJ (pCp gt g n) a (sOf h (b2 ((g a) / 8 % 2 = 1)) o)))]) (fun _ => rfl) ?_
  rintro ⟨⟩ hp_2
  refine r_iload E 4 dX6_ifStroke_73 rfl ?_
  refine r_iconst E 2 rfl dX6_ifStroke_75 ?_
  refine r_icmp_ne E 107 dX6_ifStroke_76 (by decide) ⟨by omega, by omega⟩ ⟨by omega, by omega⟩ (fun c_76 => absurd c_76 (by omega)) (fun c_76 => ?_)
  refine r_aload_n E 0 dX6_ifStroke_79 rfl rfl ?_
  refine r_get E 5 0 6 dX6_ifStroke_80 in_X6_ifStroke_X6 lk_X6_ifStroke_46 rfl rfl (by decide) rfl ?_
  refine r_aload_n E 0 dX6_ifStroke_83 rfl rfl ?_
  refine r_get E 5 0 1 dX6_ifStroke_84 in_X6_ifStroke_X6 lk_X6_ifStroke_16 rfl rfl (by decide) rfl ?_
  refine r_iconst E 1 rfl dX6_ifStroke_87 ?_
  refine r_vM E (st := []) (c_X3_choose l D p0 p1 p2 p3 p4 p5 p6 cI cZ L ow cA cU hd fw t0 t1 (uJ (pCp gt g n) a (sOf h (b2 ((g a) / 8 % 2 = 1)) o)) n q 1 (by first | assumption | omega | exact ⟨by omega, by omega⟩) wG wG3 (by first | assumption | omega | exact ⟨by omega, by omega⟩) (Or.inr rfl)) gX6_ifStroke_X3_canChoose 2 kf_X3_canChoose ⟨rfl, rfl⟩ ⟨by decide, by decide⟩ dX6_ifStroke_88 rfl 3 rfl rfl rfl rfl ⟨Nat.zero_le _, Nat.zero_le _⟩ [3, 4, 5, 6, 7, 8, 9, 10, 11] rfl (by decide) [0, 1] rfl (Nat.le_of_ble_eq_true rfl) [(x0, .inr (5, [.ref h0, .ref t0, .ref n0, .ref i0, .ref d0, .ref r0, .ref p0, .int (iJ (hs)), .int (iJ (rf))])), (h0, .inr (2, [.ref h1, .int (iJ (n)), .int (iJ (q))])), (h1, cJ cI 32 (g))] [0, 1, 2] rfl (by decide) (by decide) hA [0, 1, 2, 3, 4, 5, 6, 7, 8, 9, 10, 11] (by decide) (fun u : Int × (Int → Int) × (Int → Int) × (Int → Int) × (Int → Int) × (Int → Int) => [(x0, .inr (5, [.ref h0, .ref t0, .ref n0, .ref i0, .ref d0, .ref r0, .ref p0, .int (iJ (hs)), .int (iJ (rf))])), (h0, .inr (2, [.ref h1, .int (iJ (n)), .int (iJ (q))])), (h1, cJ cI 32 (g)), (p0, .inr (3, [.ref p1, .ref p2, .ref p3, .ref p4, .ref p5, .ref p6, .int (iJ (u.1))])), (p1, cJ cI 32 (nrA)), (p2, cJ cI 32 (u.2.1)), (p3, cJ cZ 32 (u.2.2.1)), (p4, cJ cZ 32 (u.2.2.2.1)), (p5, cJ cI 32 (u.2.2.2.2.1)), (p6, cJ cI 132 (u.2.2.2.2.2)), (t0, .inr (2, [.ref t1, .int (iJ (n)), .int (iJ (q))])), (t1, cJ cI 32 (uJ (pCp gt g n) a (sOf h (b2 ((g a) / 8 % 2 = 1)) o)))]) (fun _ => rfl) ?_
  rintro ⟨Lc, Oc, Ac, Uc, Hc, Fc⟩ hp_3
  refine r_cv (ws2 := [(x0, .inr (5, [.ref h0, .ref t0, .ref n0, .ref i0, .ref d0, .ref r0, .ref p0, .int (iJ (hs)), .int (iJ (rf))])), (h0, .inr (2, [.ref h1, .int (iJ (n)), .int (iJ (q))])), (h1, cJ cI 32 (g)), (p0, .inr (3, [.ref p1, .ref p2, .ref p3, .ref p4, .ref p5, .ref p6, .int (iJ (Lc))])), (p1, cJ cI 32 (nrA)), (p2, cJ cI 32 (Oc)), (p3, cJ cZ 32 (Ac)), (p4, cJ cZ 32 (Uc)), (p5, cJ cI 32 (Hc)), (p6, cJ cI 132 (Fc)), (t0, .inr (2, [.ref t1, .int (iJ (n)), .int (iJ (q))])), (t1, cJ cI 32 (uJ (pCp gt g n) a (sOf h (b2 ((g a) / 8 % 2 = 1)) o)))]) (st2 := [.int (iJ (b2 (fcB (uJ (pCp gt g n) a (sOf h (b2 ((g a) / 8 % 2 = 1)) o)) n q 1 < 1000)))]) rfl rfl rfl ?_
  obtain ⟨hFc, hHc, hLc⟩ := hp_3
  try dsimp only at hFc hHc hLc
  refine r_ifeq_b E 104 dX6_ifStroke_91 (by decide) (fun c_91 => ?_) (fun c_91 => ?_)
  · refine r_bipush E (-4) rfl dX6_ifStroke_104 ?_
    exact r_retM E (Lc, Oc, Ac, Uc, Hc, Fc, uJ (pCp gt g n) a (sOf h (b2 (g a / 8 % 2 = 1)) o)) hr dX6_ifStroke_106 (by
          rw [fcB_g wE hn.1] at c_91 hFc
          first | (rw [if_pos c_91]; exact hFc) | (rw [if_neg c_91])) trivial rfl hQ
  · refine r_aload_n E 0 dX6_ifStroke_94 rfl rfl ?_
    refine r_get E 5 0 6 dX6_ifStroke_95 in_X6_ifStroke_X6 lk_X6_ifStroke_46 rfl rfl (by decide) rfl ?_
    refine r_vP E (st := []) (c_X3_repeatedHands l D p0 p1 p2 p3 p4 p5 p6 cI cZ Lc Oc Ac Uc Hc Fc) gX6_ifStroke_X3_repeatedHands 0 kf_X3_repeatedHands ⟨rfl, rfl⟩ ⟨by decide, by decide⟩ dX6_ifStroke_98 rfl 3 rfl rfl rfl rfl ⟨Nat.zero_le _, Nat.zero_le _⟩ [3, 4, 5, 6, 7, 8, 9] rfl (by decide) [0, 1] rfl (Nat.le_of_ble_eq_true rfl) ?_
    refine r_goto E 106 dX6_ifStroke_101 (by decide) ?_
    exact r_retM E (Lc, Oc, Ac, Uc, Hc, Fc, uJ (pCp gt g n) a (sOf h (b2 (g a / 8 % 2 = 1)) o)) hr dX6_ifStroke_106 (by
          rw [fcB_g wE hn.1] at c_91 hFc
          first | (rw [if_pos c_91]; exact hFc) | (rw [if_neg c_91])) trivial rfl hQ
set_option maxHeartbeats 1000000 in
set_option maxRecDepth 100000 in
theorem c_X6_ifTell (l : Launch) (D : va_G) (x0 : Nat) (h0 : Nat) (t0 : Nat) (n0 : Nat) (i0 : Nat) (d0 : Nat) (r0 : Nat) (p0 : Nat) (hs : Int) (rf : Int) (h1 : Nat) (cI : ClassId) (g : Int → Int) (n : Int) (q : Int) (p1 : Nat) (p2 : Nat) (p3 : Nat) (p4 : Nat) (p5 : Nat) (p6 : Nat) (cZ : ClassId) (L : Int) (ow : Int → Int) (cA : Int → Int) (cU : Int → Int) (hd : Int → Int) (fw : Int → Int) (t1 : Nat) (gt : Int → Int) (nt : Int) (qt : Int) (a : Int) (h : Int) (o : Int) (w : Int) (hn : 0 ≤ n ∧ n ≤ 32) (hg : ∀ j : Int, 0 ≤ j → j < n → 0 ≤ g j ∧ g j < 64) (hg3 : ∀ j : Int, 0 ≤ j → j < n → ¬ g j / 2 % 4 = 3) (hq : 1 ≤ q ∧ q ≤ 4) (hnt : 0 ≤ nt ∧ nt ≤ 32) (hx : (0 ≤ a ∧ a < n) ∧ (0 ≤ h ∧ h ≤ 2) ∧ (0 ≤ o ∧ o ≤ 3) ∧ (0 ≤ w ∧ w ≤ 2)) (hw2 : w = 0 ∨ w = 1) : MM (S := Int × (Int → Int) × (Int → Int) × (Int → Int) × (Int → Int) × (Int → Int) × (Int → Int)) l yX6_ifStroke wsX6_ifStroke rm_X6_ifStroke D vwCl [.ref x0, .int (iJ (a)), .int (iJ (h)), .int (iJ (o)), .int (iJ (w))] [(x0, .inr (5, [.ref h0, .ref t0, .ref n0, .ref i0, .ref d0, .ref r0, .ref p0, .int (iJ (hs)), .int (iJ (rf))])), (h0, .inr (2, [.ref h1, .int (iJ (n)), .int (iJ (q))])), (h1, cJ cI 32 (g)), (p0, .inr (3, [.ref p1, .ref p2, .ref p3, .ref p4, .ref p5, .ref p6, .int (iJ (L))])), (p1, cJ cI 32 (nrA)), (p2, cJ cI 32 (ow)), (p3, cJ cZ 32 (cA)), (p4, cJ cZ 32 (cU)), (p5, cJ cI 32 (hd)), (p6, cJ cI 132 (fw)), (t0, .inr (2, [.ref t1, .int (iJ (nt)), .int (iJ (qt))])), (t1, cJ cI 32 (gt))] [(cI, .int), (cZ, .boolean)] (fun (u : Int × (Int → Int) × (Int → Int) × (Int → Int) × (Int → Int) × (Int → Int) × (Int → Int)) => (if sm (fun j => b2 (¬ ifG g a h o j = 0)) n = 0 then 1 else (if 1000000000 < tlP (ifG g a h o) n q w then 1000000000 else tlP (ifG g a h o) n q w))) (fun (u : Int × (Int → Int) × (Int → Int) × (Int → Int) × (Int → Int) × (Int → Int) × (Int → Int)) => True) (fun (u : Int × (Int → Int) × (Int → Int) × (Int → Int) × (Int → Int) × (Int → Int) × (Int → Int)) => [(x0, .inr (5, [.ref h0, .ref t0, .ref n0, .ref i0, .ref d0, .ref r0, .ref p0, .int (iJ (hs)), .int (iJ (rf))])), (h0, .inr (2, [.ref h1, .int (iJ (n)), .int (iJ (q))])), (h1, cJ cI 32 (g)), (p0, .inr (3, [.ref p1, .ref p2, .ref p3, .ref p4, .ref p5, .ref p6, .int (iJ (u.1))])), (p1, cJ cI 32 (nrA)), (p2, cJ cI 32 (u.2.1)), (p3, cJ cZ 32 (u.2.2.1)), (p4, cJ cZ 32 (u.2.2.2.1)), (p5, cJ cI 32 (u.2.2.2.2.1)), (p6, cJ cI 132 (u.2.2.2.2.2.1)), (t0, .inr (2, [.ref t1, .int (iJ (n)), .int (iJ (q))])), (t1, cJ cI 32 (u.2.2.2.2.2.2))]) := by
  refine MM.mk (cc := cX6_ifStroke) (maxL := 5) (ret := (some .int)) (by decide) rfl (Nat.le_of_ble_eq_true rfl) rfl RX6 rfl ?_
  intro p_ e_ s_ m_ ar_ bw_ mt_ cd_ B_ Q_ hA E hr hQ
  obtain ⟨⟨ha1, ha2⟩, hh1, ho1, hw1⟩ := hx
  have f_g := hg a ha1 ha2
  have f_o := sOf_in hh1 (b2_01 (g a / 8 % 2 = 1)) ho1
  have wE : agG n (uJ (pCp gt g n) a (sOf h (b2 (g a / 8 % 2 = 1)) o)) (ifG g a h o) := fun j h0 h1 => by
        unfold ifG; by_cases z : j = a
        · subst z; rw [uJ_s, uJ_s]
        · rw [uJ_n z, uJ_n z]; unfold pCp; rw [if_pos ⟨h0, h1⟩]
  have wG : ∀ j : Int, 0 ≤ j → j < n → 0 ≤ (uJ (pCp gt g n) a (sOf h (b2 (g a / 8 % 2 = 1)) o)) j ∧ (uJ (pCp gt g n) a (sOf h (b2 (g a / 8 % 2 = 1)) o)) j < 64 := fun j h0 h1 => by
        rw [wE j h0 h1]; unfold ifG; by_cases z : j = a
        · subst z; rw [uJ_s]; exact f_o.1
        · rw [uJ_n z]; exact hg j h0 h1
  have wG3 : ∀ j : Int, 0 ≤ j → j < n → ¬ (uJ (pCp gt g n) a (sOf h (b2 (g a / 8 % 2 = 1)) o)) j / 2 % 4 = 3 := fun j h0 h1 => by
        rw [wE j h0 h1]; unfold ifG; by_cases z : j = a
        · subst z; rw [uJ_s]; exact f_o.2.1
        · rw [uJ_n z]; exact hg3 j h0 h1
  refine r_aload_n E 0 dX6_ifStroke_0 rfl rfl ?_
  refine r_get E 5 0 0 dX6_ifStroke_1 in_X6_ifStroke_X6 lk_X6_ifStroke_10 rfl rfl (by decide) rfl ?_
  refine r_iload_n E 1 dX6_ifStroke_4 rfl rfl ?_
  refine r_vP E (st := []) (c_X2_hasStep l D h0 h1 cI g n q a (by first | assumption | omega | exact ⟨by omega, by omega⟩) (by first | assumption | omega | exact ⟨by omega, by omega⟩)) gX6_ifStroke_X2_hasStep 1 kf_X2_hasStep ⟨rfl, rfl⟩ ⟨by decide, by decide⟩ dX6_ifStroke_5 rfl 1 rfl rfl rfl rfl ⟨Nat.zero_le _, Nat.zero_le _⟩ [1, 2] rfl (by decide) [0] rfl (Nat.le_of_ble_eq_true rfl) ?_
  refine r_ifeq_b E 36 dX6_ifStroke_8 (by decide) (fun c_8 => absurd c_8 (by omega)) (fun c_8 => ?_)
  refine r_iload_n E 2 dX6_ifStroke_11 rfl rfl ?_
  refine r_sP E (st := []) (c_X6_isHand l D h (by first | assumption | omega | exact ⟨by omega, by omega⟩)) gX6_ifStroke_X6_isHand 1 kf_X6_isHand ⟨rfl, rfl⟩ ⟨by decide, by decide⟩ dX6_ifStroke_12 rfl rfl ⟨Nat.zero_le _, Nat.zero_le _⟩ [] rfl (by decide) [] rfl (Nat.le_of_ble_eq_true rfl) ?_
  refine r_ifeq_b E 36 dX6_ifStroke_15 (by decide) (fun c_15 => absurd c_15 (by omega)) (fun c_15 => ?_)
  refine r_iload_n E 3 dX6_ifStroke_18 rfl rfl ?_
  refine r_sP E (st := []) (c_X6_isOrnament l D o (by first | assumption | omega | exact ⟨by omega, by omega⟩)) gX6_ifStroke_X6_isOrnament 1 kf_X6_isOrnament ⟨rfl, rfl⟩ ⟨by decide, by decide⟩ dX6_ifStroke_19 rfl rfl ⟨Nat.zero_le _, Nat.zero_le _⟩ [] rfl (by decide) [] rfl (Nat.le_of_ble_eq_true rfl) ?_
  refine r_ifeq_b E 36 dX6_ifStroke_22 (by decide) (fun c_22 => absurd c_22 (by omega)) (fun c_22 => ?_)
  refine r_iload E 4 dX6_ifStroke_25 rfl ?_
  refine r_if_lt E 36 dX6_ifStroke_27 (by decide) ⟨by omega, by omega⟩ (fun c_27 => absurd c_27 (by omega)) (fun c_27 => ?_)
  refine r_iload E 4 dX6_ifStroke_30 rfl ?_
  refine r_iconst E 2 rfl dX6_ifStroke_32 ?_
  refine r_icmp_le E 38 dX6_ifStroke_33 (by decide) ⟨by omega, by omega⟩ ⟨by omega, by omega⟩ (fun c_33 => ?_) (fun c_33 => absurd c_33 (by omega))
  refine r_aload_n E 0 dX6_ifStroke_38 rfl rfl ?_
  refine r_get E 5 0 1 dX6_ifStroke_39 in_X6_ifStroke_X6 lk_X6_ifStroke_16 rfl rfl (by decide) rfl ?_
  refine r_aload_n E 0 dX6_ifStroke_42 rfl rfl ?_
  refine r_get E 5 0 0 dX6_ifStroke_43 in_X6_ifStroke_X6 lk_X6_ifStroke_10 rfl rfl (by decide) rfl ?_
  refine r_vV E (st := []) (c_X2_copy l D t0 t1 cI gt nt qt h0 h1 g n q hnt hn) gX6_ifStroke_X2_copy 1 kf_X2_copy ⟨rfl, rfl⟩ ⟨by decide, by decide⟩ dX6_ifStroke_46 rfl 10 rfl rfl rfl rfl ⟨Nat.zero_le _, Nat.zero_le _⟩ [10, 11, 1, 2] rfl (by decide) [0] rfl (Nat.le_of_ble_eq_true rfl) [(x0, .inr (5, [.ref h0, .ref t0, .ref n0, .ref i0, .ref d0, .ref r0, .ref p0, .int (iJ (hs)), .int (iJ (rf))])), (p0, .inr (3, [.ref p1, .ref p2, .ref p3, .ref p4, .ref p5, .ref p6, .int (iJ (L))])), (p1, cJ cI 32 (nrA)), (p2, cJ cI 32 (ow)), (p3, cJ cZ 32 (cA)), (p4, cJ cZ 32 (cU)), (p5, cJ cI 32 (hd)), (p6, cJ cI 132 (fw))] [0, 3, 4, 5, 6, 7, 8, 9] rfl (by decide) (by decide) hA [0, 10, 11, 1, 2, 3, 4, 5, 6, 7, 8, 9] (by decide) (fun (_ : Unit) => [(x0, .inr (5, [.ref h0, .ref t0, .ref n0, .ref i0, .ref d0, .ref r0, .ref p0, .int (iJ (hs)), .int (iJ (rf))])), (h0, .inr (2, [.ref h1, .int (iJ (n)), .int (iJ (q))])), (h1, cJ cI 32 (g)), (p0, .inr (3, [.ref p1, .ref p2, .ref p3, .ref p4, .ref p5, .ref p6, .int (iJ (L))])), (p1, cJ cI 32 (nrA)), (p2, cJ cI 32 (ow)), (p3, cJ cZ 32 (cA)), (p4, cJ cZ 32 (cU)), (p5, cJ cI 32 (hd)), (p6, cJ cI 132 (fw)), (t0, .inr (2, [.ref t1, .int (iJ (n)), .int (iJ (q))])), (t1, cJ cI 32 (pCp gt g n))]) (fun _ => rfl) ?_
  rintro ⟨⟩ hp_1
  refine r_aload_n E 0 dX6_ifStroke_49 rfl rfl ?_
  refine r_get E 5 0 1 dX6_ifStroke_50 in_X6_ifStroke_X6 lk_X6_ifStroke_16 rfl rfl (by decide) rfl ?_
  refine r_iload_n E 1 dX6_ifStroke_53 rfl rfl ?_
  refine r_iload_n E 2 dX6_ifStroke_54 rfl rfl ?_
  refine r_aload_n E 0 dX6_ifStroke_55 rfl rfl ?_
  refine r_get E 5 0 0 dX6_ifStroke_56 in_X6_ifStroke_X6 lk_X6_ifStroke_10 rfl rfl (by decide) rfl ?_
  refine r_iload_n E 1 dX6_ifStroke_59 rfl rfl ?_
  refine r_vP E (st := [.int (iJ (h)), .int (iJ (a)), .ref t0]) (c_X2_at l D h0 h1 cI g n q a (by first | assumption | omega | exact ⟨by omega, by omega⟩) (by first | assumption | omega | exact ⟨by omega, by omega⟩)) gX6_ifStroke_X2_at 1 kf_X2_at ⟨rfl, rfl⟩ ⟨by decide, by decide⟩ dX6_ifStroke_60 rfl 1 rfl rfl rfl rfl ⟨Nat.zero_le _, Nat.zero_le _⟩ [1, 2] rfl (by decide) [0] rfl (Nat.le_of_ble_eq_true rfl) ?_
  refine r_top (b := (g a)) (pAt_t ⟨ha1, ha2⟩) ?_
  refine r_sP E (st := [.int (iJ (h)), .int (iJ (a)), .ref t0]) (c_X5_isAccented l D (g a) (by first | assumption | omega | exact ⟨by omega, by omega⟩)) gX6_ifStroke_X5_isAccented 1 kf_X5_isAccented ⟨rfl, rfl⟩ ⟨by decide, by decide⟩ dX6_ifStroke_63 rfl rfl ⟨Nat.zero_le _, Nat.zero_le _⟩ [] rfl (by decide) [] rfl (Nat.le_of_ble_eq_true rfl) ?_
  refine r_iload_n E 3 dX6_ifStroke_66 rfl rfl ?_
  refine r_sP E (st := [.int (iJ (a)), .ref t0]) (c_X5_of l D h (b2 ((g a) / 8 % 2 = 1)) o (by first | assumption | omega | exact ⟨by omega, by omega⟩) (b2_01 _) (by first | assumption | omega | exact ⟨by omega, by omega⟩)) gX6_ifStroke_X5_of 3 kf_X5_of ⟨rfl, rfl⟩ ⟨by decide, by decide⟩ dX6_ifStroke_67 rfl rfl ⟨Nat.zero_le _, Nat.zero_le _⟩ [] rfl (by decide) [] rfl (Nat.le_of_ble_eq_true rfl) ?_
  refine r_vV E (st := []) (c_X2_change l D t0 t1 cI (pCp gt g n) n q a (sOf h (b2 ((g a) / 8 % 2 = 1)) o) (by first | assumption | omega | exact ⟨by omega, by omega⟩) (by first | assumption | omega | exact ⟨by omega, by omega⟩)) gX6_ifStroke_X2_change 2 kf_X2_change ⟨rfl, rfl⟩ ⟨by decide, by decide⟩ dX6_ifStroke_70 rfl 10 rfl rfl rfl rfl ⟨Nat.zero_le _, Nat.zero_le _⟩ [10, 11] rfl (by decide) [0] rfl (Nat.le_of_ble_eq_true rfl) [(x0, .inr (5, [.ref h0, .ref t0, .ref n0, .ref i0, .ref d0, .ref r0, .ref p0, .int (iJ (hs)), .int (iJ (rf))])), (h0, .inr (2, [.ref h1, .int (iJ (n)), .int (iJ (q))])), (h1, cJ cI 32 (g)), (p0, .inr (3, [.ref p1, .ref p2, .ref p3, .ref p4, .ref p5, .ref p6, .int (iJ (L))])), (p1, cJ cI 32 (nrA)), (p2, cJ cI 32 (ow)), (p3, cJ cZ 32 (cA)), (p4, cJ cZ 32 (cU)), (p5, cJ cI 32 (hd)), (p6, cJ cI 132 (fw))] [0, 1, 2, 3, 4, 5, 6, 7, 8, 9] rfl (by decide) (by decide) hA [0, 1, 2, 3, 4, 5, 6, 7, 8, 9, 10, 11] (by decide) (fun (_ : Unit) => [(x0, .inr (5, [.ref h0, .ref t0, .ref n0, .ref i0, .ref d0, .ref r0, .ref p0, .int (iJ (hs)), .int (iJ (rf))])), (h0, .inr (2, [.ref h1, .int (iJ (n)), .int (iJ (q))])), (h1, cJ cI 32 (g)), (p0, .inr (3, [.ref p1, .ref p2, .ref p3, .ref p4, .ref p5, .ref p6, .int (iJ (L))])), (p1, cJ cI 32 (nrA)), (p2, cJ cI 32 (ow)), (p3, cJ cZ 32 (cA)), (p4, cJ cZ 32 (cU)), (p5, cJ cI 32 (hd)), (p6, cJ cI 132 (fw)), (t0, .inr (2, [.ref t1, .int (iJ (n)), .int (iJ (q))])), (t1, cJ cI 32 (uJ (pCp gt g n) a (sOf h (b2 ((g a) / 8 % 2 = 1)) o)))]) (fun _ => rfl) ?_
  rintro ⟨⟩ hp_2
  refine r_iload E 4 dX6_ifStroke_73 rfl ?_
  refine r_iconst E 2 rfl dX6_ifStroke_75 ?_
  refine r_icmp_ne E 107 dX6_ifStroke_76 (by decide) ⟨by omega, by omega⟩ ⟨by omega, by omega⟩ (fun c_76 => ?_) (fun c_76 => absurd c_76 (by omega))
  refine r_aload_n E 0 dX6_ifStroke_107 rfl rfl ?_
  refine r_get E 5 0 6 dX6_ifStroke_108 in_X6_ifStroke_X6 lk_X6_ifStroke_46 rfl rfl (by decide) rfl ?_
  refine r_aload_n E 0 dX6_ifStroke_111 rfl rfl ?_
  refine r_get E 5 0 1 dX6_ifStroke_112 in_X6_ifStroke_X6 lk_X6_ifStroke_16 rfl rfl (by decide) rfl ?_
  refine r_iload E 4 dX6_ifStroke_115 rfl ?_
  refine r_iconst E 1 rfl dX6_ifStroke_117 ?_
  refine r_icmp_ne E 125 dX6_ifStroke_118 (by decide) ⟨by omega, by omega⟩ ⟨by omega, by omega⟩ (fun c_118 => ?_) (fun c_118 => ?_)
  · refine r_iconst E 0 rfl dX6_ifStroke_125 ?_
    refine r_vM E (st := []) (c_X3_tellP l D p0 p1 p2 p3 p4 p5 p6 cI cZ L ow cA cU hd fw t0 t1 (uJ (pCp gt g n) a (sOf h (b2 ((g a) / 8 % 2 = 1)) o)) n q 0 (by first | assumption | omega | exact ⟨by omega, by omega⟩) wG (by first | assumption | omega | exact ⟨by omega, by omega⟩) (by omega)) gX6_ifStroke_X3_tell 2 kf_X3_tell ⟨rfl, rfl⟩ ⟨by decide, by decide⟩ dX6_ifStroke_126 rfl 3 rfl rfl rfl rfl ⟨Nat.zero_le _, Nat.zero_le _⟩ [3, 4, 5, 6, 7, 8, 9, 10, 11] rfl (by decide) [0, 1] rfl (Nat.le_of_ble_eq_true rfl) [(x0, .inr (5, [.ref h0, .ref t0, .ref n0, .ref i0, .ref d0, .ref r0, .ref p0, .int (iJ (hs)), .int (iJ (rf))])), (h0, .inr (2, [.ref h1, .int (iJ (n)), .int (iJ (q))])), (h1, cJ cI 32 (g))] [0, 1, 2] rfl (by decide) (by decide) hA [0, 1, 2, 3, 4, 5, 6, 7, 8, 9, 10, 11] (by decide) (fun u : (Int → Int) × (Int → Int) × (Int → Int) × Int => [(x0, .inr (5, [.ref h0, .ref t0, .ref n0, .ref i0, .ref d0, .ref r0, .ref p0, .int (iJ (hs)), .int (iJ (rf))])), (h0, .inr (2, [.ref h1, .int (iJ (n)), .int (iJ (q))])), (h1, cJ cI 32 (g)), (p0, .inr (3, [.ref p1, .ref p2, .ref p3, .ref p4, .ref p5, .ref p6, .int (iJ (u.2.2.2))])), (p1, cJ cI 32 (nrA)), (p2, cJ cI 32 (u.1)), (p3, cJ cZ 32 (u.2.1)), (p4, cJ cZ 32 (u.2.2.1)), (p5, cJ cI 32 (hd)), (p6, cJ cI 132 (fw)), (t0, .inr (2, [.ref t1, .int (iJ (n)), .int (iJ (q))])), (t1, cJ cI 32 (uJ (pCp gt g n) a (sOf h (b2 ((g a) / 8 % 2 = 1)) o)))]) (fun _ => rfl) ?_
    rintro ⟨Oc, Ac, Uc, Lc⟩ hp_3
    refine r_cv (ws2 := [(x0, .inr (5, [.ref h0, .ref t0, .ref n0, .ref i0, .ref d0, .ref r0, .ref p0, .int (iJ (hs)), .int (iJ (rf))])), (h0, .inr (2, [.ref h1, .int (iJ (n)), .int (iJ (q))])), (h1, cJ cI 32 (g)), (p0, .inr (3, [.ref p1, .ref p2, .ref p3, .ref p4, .ref p5, .ref p6, .int (iJ (Lc))])), (p1, cJ cI 32 (nrA)), (p2, cJ cI 32 (Oc)), (p3, cJ cZ 32 (Ac)), (p4, cJ cZ 32 (Uc)), (p5, cJ cI 32 (hd)), (p6, cJ cI 132 (fw)), (t0, .inr (2, [.ref t1, .int (iJ (n)), .int (iJ (q))])), (t1, cJ cI 32 (uJ (pCp gt g n) a (sOf h (b2 ((g a) / 8 % 2 = 1)) o)))]) (st2 := [.int (iJ ((if sm (fun j => b2 (¬ (uJ (pCp gt g n) a (sOf h (b2 ((g a) / 8 % 2 = 1)) o)) j = 0)) n = 0 then 1 else (if 1000000000 < tlP (uJ (pCp gt g n) a (sOf h (b2 ((g a) / 8 % 2 = 1)) o)) n q 0 then 1000000000 else tlP (uJ (pCp gt g n) a (sOf h (b2 ((g a) / 8 % 2 = 1)) o)) n q 0))))]) rfl rfl rfl ?_
    exact r_retM E (Lc, Oc, Ac, Uc, hd, fw, uJ (pCp gt g n) a (sOf h (b2 (g a / 8 % 2 = 1)) o)) hr dX6_ifStroke_129 (by
          rw [tlP_g wE hn.1, smS_g wE (fun c => b2 (¬ c = 0))]; first | rw [show w = 1 by omega] | rw [show w = 0 by omega]) trivial rfl hQ
  · refine r_iconst E 1 rfl dX6_ifStroke_121 ?_
    refine r_goto E 126 dX6_ifStroke_122 (by decide) ?_
    refine r_vM E (st := []) (c_X3_tellP l D p0 p1 p2 p3 p4 p5 p6 cI cZ L ow cA cU hd fw t0 t1 (uJ (pCp gt g n) a (sOf h (b2 ((g a) / 8 % 2 = 1)) o)) n q 1 (by first | assumption | omega | exact ⟨by omega, by omega⟩) wG (by first | assumption | omega | exact ⟨by omega, by omega⟩) (by omega)) gX6_ifStroke_X3_tell 2 kf_X3_tell ⟨rfl, rfl⟩ ⟨by decide, by decide⟩ dX6_ifStroke_126 rfl 3 rfl rfl rfl rfl ⟨Nat.zero_le _, Nat.zero_le _⟩ [3, 4, 5, 6, 7, 8, 9, 10, 11] rfl (by decide) [0, 1] rfl (Nat.le_of_ble_eq_true rfl) [(x0, .inr (5, [.ref h0, .ref t0, .ref n0, .ref i0, .ref d0, .ref r0, .ref p0, .int (iJ (hs)), .int (iJ (rf))])), (h0, .inr (2, [.ref h1, .int (iJ (n)), .int (iJ (q))])), (h1, cJ cI 32 (g))] [0, 1, 2] rfl (by decide) (by decide) hA [0, 1, 2, 3, 4, 5, 6, 7, 8, 9, 10, 11] (by decide) (fun u : (Int → Int) × (Int → Int) × (Int → Int) × Int => [(x0, .inr (5, [.ref h0, .ref t0, .ref n0, .ref i0, .ref d0, .ref r0, .ref p0, .int (iJ (hs)), .int (iJ (rf))])), (h0, .inr (2, [.ref h1, .int (iJ (n)), .int (iJ (q))])), (h1, cJ cI 32 (g)), (p0, .inr (3, [.ref p1, .ref p2, .ref p3, .ref p4, .ref p5, .ref p6, .int (iJ (u.2.2.2))])), (p1, cJ cI 32 (nrA)), (p2, cJ cI 32 (u.1)), (p3, cJ cZ 32 (u.2.1)), (p4, cJ cZ 32 (u.2.2.1)), (p5, cJ cI 32 (hd)), (p6, cJ cI 132 (fw)), (t0, .inr (2, [.ref t1, .int (iJ (n)), .int (iJ (q))])), (t1, cJ cI 32 (uJ (pCp gt g n) a (sOf h (b2 ((g a) / 8 % 2 = 1)) o)))]) (fun _ => rfl) ?_
    rintro ⟨Oc, Ac, Uc, Lc⟩ hp_4
    refine r_cv (ws2 := [(x0, .inr (5, [.ref h0, .ref t0, .ref n0, .ref i0, .ref d0, .ref r0, .ref p0, .int (iJ (hs)), .int (iJ (rf))])), (h0, .inr (2, [.ref h1, .int (iJ (n)), .int (iJ (q))])), (h1, cJ cI 32 (g)), (p0, .inr (3, [.ref p1, .ref p2, .ref p3, .ref p4, .ref p5, .ref p6, .int (iJ (Lc))])), (p1, cJ cI 32 (nrA)), (p2, cJ cI 32 (Oc)), (p3, cJ cZ 32 (Ac)), (p4, cJ cZ 32 (Uc)), (p5, cJ cI 32 (hd)), (p6, cJ cI 132 (fw)), (t0, .inr (2, [.ref t1, .int (iJ (n)), .int (iJ (q))])), (t1, cJ cI 32 (uJ (pCp gt g n) a (sOf h (b2 ((g a) / 8 % 2 = 1)) o)))]) (st2 := [.int (iJ ((if sm (fun j => b2 (¬ (uJ (pCp gt g n) a (sOf h (b2 ((g a) / 8 % 2 = 1)) o)) j = 0)) n = 0 then 1 else (if 1000000000 < tlP (uJ (pCp gt g n) a (sOf h (b2 ((g a) / 8 % 2 = 1)) o)) n q 1 then 1000000000 else tlP (uJ (pCp gt g n) a (sOf h (b2 ((g a) / 8 % 2 = 1)) o)) n q 1))))]) rfl rfl rfl ?_
    exact r_retM E (Lc, Oc, Ac, Uc, hd, fw, uJ (pCp gt g n) a (sOf h (b2 (g a / 8 % 2 = 1)) o)) hr dX6_ifStroke_129 (by
          rw [tlP_g wE hn.1, smS_g wE (fun c => b2 (¬ c = 0))]; first | rw [show w = 1 by omega] | rw [show w = 0 by omega]) trivial rfl hQ
theorem kf_X6_quickest : KF yX6_quickest 0 wsX6_quickest cX6_quickest 2 (some .int) := ⟨rfl, by decide +kernel, by decide +kernel, by decide +kernel⟩
def rm_X6_quickest : Room := { frames := 5, cells := 0, slots := 0, locals := 122 }
set_option maxRecDepth 20000 in
theorem in_X6_quickest_X6 : ∀ w ∈ u_ws RX6 TX6 9, w ∈ wsX6_quickest := by decide +kernel
set_option maxRecDepth 20000 in
theorem lk_X6_quickest_16 : Cond.fieldLink RX6 16 (TX6 1).1 (TX6 1).2.1 (TX6 1).2.2.1 ∈ wsX6_quickest := by decide +kernel
set_option maxRecDepth 20000 in
theorem lk_X6_quickest_10 : Cond.fieldLink RX6 10 (TX6 0).1 (TX6 0).2.1 (TX6 0).2.2.1 ∈ wsX6_quickest := by decide +kernel
set_option maxRecDepth 20000 in
theorem in_X6_quickest_X2 : ∀ w ∈ u_ws RX2 TX2 3, w ∈ wsX6_quickest := by decide +kernel
set_option maxRecDepth 20000 in
theorem lk_X6_quickest_46 : Cond.fieldLink RX6 46 (TX6 6).1 (TX6 6).2.1 (TX6 6).2.2.1 ∈ wsX6_quickest := by decide +kernel
set_option maxHeartbeats 1000000 in
set_option maxRecDepth 100000 in
theorem c_X6_quickest (l : Launch) (D : va_G) (x0 : Nat) (h0 : Nat) (t0 : Nat) (n0 : Nat) (i0 : Nat) (d0 : Nat) (r0 : Nat) (p0 : Nat) (hs : Int) (rf : Int) (h1 : Nat) (cI : ClassId) (g : Int → Int) (n : Int) (q : Int) (p1 : Nat) (p2 : Nat) (p3 : Nat) (p4 : Nat) (p5 : Nat) (p6 : Nat) (cZ : ClassId) (L : Int) (ow : Int → Int) (cA : Int → Int) (cU : Int → Int) (hd : Int → Int) (fw : Int → Int) (t1 : Nat) (gt : Int → Int) (nt : Int) (qt : Int) (hn : 0 ≤ n ∧ n ≤ 32) (hg : ∀ j : Int, 0 ≤ j → j < n → 0 ≤ g j ∧ g j < 64) (hg3 : ∀ j : Int, 0 ≤ j → j < n → ¬ g j / 2 % 4 = 3) (hq : 1 ≤ q ∧ q ≤ 4) (hnt : 0 ≤ nt ∧ nt ≤ 32) : MM (S := Int × (Int → Int) × (Int → Int) × (Int → Int) × (Int → Int) × (Int → Int) × (Int → Int) × Int) l yX6_quickest wsX6_quickest rm_X6_quickest D vwCl [.ref x0] [(x0, .inr (5, [.ref h0, .ref t0, .ref n0, .ref i0, .ref d0, .ref r0, .ref p0, .int (iJ (hs)), .int (iJ (rf))])), (h0, .inr (2, [.ref h1, .int (iJ (n)), .int (iJ (q))])), (h1, cJ cI 32 (g)), (p0, .inr (3, [.ref p1, .ref p2, .ref p3, .ref p4, .ref p5, .ref p6, .int (iJ (L))])), (p1, cJ cI 32 (nrA)), (p2, cJ cI 32 (ow)), (p3, cJ cZ 32 (cA)), (p4, cJ cZ 32 (cU)), (p5, cJ cI 32 (hd)), (p6, cJ cI 132 (fw)), (t0, .inr (2, [.ref t1, .int (iJ (nt)), .int (iJ (qt))])), (t1, cJ cI 32 (gt))] [(cI, .int), (cZ, .boolean)] (fun (u : Int × (Int → Int) × (Int → Int) × (Int → Int) × (Int → Int) × (Int → Int) × (Int → Int) × Int) => (if fcB g n 4 0 < 1000 then 4 else if fcB g n 3 0 < 1000 then 3 else if fcB g n 2 0 < 1000 then 2 else if fcB g n 1 0 < 1000 then 1 else -4)) (fun (u : Int × (Int → Int) × (Int → Int) × (Int → Int) × (Int → Int) × (Int → Int) × (Int → Int) × Int) => (1 ≤ u.2.2.2.2.2.2.2 ∧ u.2.2.2.2.2.2.2 ≤ 4)) (fun (u : Int × (Int → Int) × (Int → Int) × (Int → Int) × (Int → Int) × (Int → Int) × (Int → Int) × Int) => [(x0, .inr (5, [.ref h0, .ref t0, .ref n0, .ref i0, .ref d0, .ref r0, .ref p0, .int (iJ (hs)), .int (iJ (rf))])), (h0, .inr (2, [.ref h1, .int (iJ (n)), .int (iJ (q))])), (h1, cJ cI 32 (g)), (p0, .inr (3, [.ref p1, .ref p2, .ref p3, .ref p4, .ref p5, .ref p6, .int (iJ (u.1))])), (p1, cJ cI 32 (nrA)), (p2, cJ cI 32 (u.2.1)), (p3, cJ cZ 32 (u.2.2.1)), (p4, cJ cZ 32 (u.2.2.2.1)), (p5, cJ cI 32 (u.2.2.2.2.1)), (p6, cJ cI 132 (u.2.2.2.2.2.1)), (t0, .inr (2, [.ref t1, .int (iJ (n)), .int (iJ (u.2.2.2.2.2.2.2))])), (t1, cJ cI 32 (u.2.2.2.2.2.2.1))]) := by
  refine MM.mk (cc := cX6_quickest) (maxL := 2) (ret := (some .int)) (by decide) rfl (Nat.le_of_ble_eq_true rfl) rfl RX6 rfl ?_
  intro p_ e_ s_ m_ ar_ bw_ mt_ cd_ B_ Q_ hA E hr hQ
  have wE : agG n (pCp gt g n) g := fun j h0 h1 => by
        unfold pCp; rw [if_pos ⟨h0, h1⟩]
  have wG : ∀ j : Int, 0 ≤ j → j < n → 0 ≤ (pCp gt g n) j ∧ (pCp gt g n) j < 64 := fun j h0 h1 => by
        rw [wE j h0 h1]; exact hg j h0 h1
  have wG3 : ∀ j : Int, 0 ≤ j → j < n → ¬ (pCp gt g n) j / 2 % 4 = 3 := fun j h0 h1 => by
        rw [wE j h0 h1]; exact hg3 j h0 h1
  refine r_aload_n E 0 dX6_quickest_0 rfl rfl ?_
  refine r_get E 5 0 1 dX6_quickest_1 in_X6_quickest_X6 lk_X6_quickest_16 rfl rfl (by decide) rfl ?_
  refine r_aload_n E 0 dX6_quickest_4 rfl rfl ?_
  refine r_get E 5 0 0 dX6_quickest_5 in_X6_quickest_X6 lk_X6_quickest_10 rfl rfl (by decide) rfl ?_
  refine r_vV E (st := []) (c_X2_copy l D t0 t1 cI gt nt qt h0 h1 g n q hnt hn) gX6_quickest_X2_copy 1 kf_X2_copy ⟨rfl, rfl⟩ ⟨by decide, by decide⟩ dX6_quickest_8 rfl 10 rfl rfl rfl rfl ⟨Nat.zero_le _, Nat.zero_le _⟩ [10, 11, 1, 2] rfl (by decide) [0] rfl (Nat.le_of_ble_eq_true rfl) [(x0, .inr (5, [.ref h0, .ref t0, .ref n0, .ref i0, .ref d0, .ref r0, .ref p0, .int (iJ (hs)), .int (iJ (rf))])), (p0, .inr (3, [.ref p1, .ref p2, .ref p3, .ref p4, .ref p5, .ref p6, .int (iJ (L))])), (p1, cJ cI 32 (nrA)), (p2, cJ cI 32 (ow)), (p3, cJ cZ 32 (cA)), (p4, cJ cZ 32 (cU)), (p5, cJ cI 32 (hd)), (p6, cJ cI 132 (fw))] [0, 3, 4, 5, 6, 7, 8, 9] rfl (by decide) (by decide) hA [0, 10, 11, 1, 2, 3, 4, 5, 6, 7, 8, 9] (by decide) (fun (_ : Unit) => [(x0, .inr (5, [.ref h0, .ref t0, .ref n0, .ref i0, .ref d0, .ref r0, .ref p0, .int (iJ (hs)), .int (iJ (rf))])), (h0, .inr (2, [.ref h1, .int (iJ (n)), .int (iJ (q))])), (h1, cJ cI 32 (g)), (p0, .inr (3, [.ref p1, .ref p2, .ref p3, .ref p4, .ref p5, .ref p6, .int (iJ (L))])), (p1, cJ cI 32 (nrA)), (p2, cJ cI 32 (ow)), (p3, cJ cZ 32 (cA)), (p4, cJ cZ 32 (cU)), (p5, cJ cI 32 (hd)), (p6, cJ cI 132 (fw)), (t0, .inr (2, [.ref t1, .int (iJ (n)), .int (iJ (q))])), (t1, cJ cI 32 (pCp gt g n))]) (fun _ => rfl) ?_
  rintro ⟨⟩ hp_1
  refine r_iconst E 4 rfl dX6_quickest_11 ?_
  refine r_istore_n E [(1, .int (iJ (4))), (0, .ref x0)] dX6_quickest_12 rfl (by decide) rfl ?_
  refine r_iload_n E 0 dX6_quickest_13 rfl rfl ?_
  refine r_iconst E 1 rfl dX6_quickest_14 ?_
  refine r_icmp_lt E 49 dX6_quickest_15 (by decide) ⟨by omega, by omega⟩ ⟨by omega, by omega⟩ (fun c_15 => absurd c_15 (by omega)) (fun c_15 => ?_)
  refine r_aload_n E 1 dX6_quickest_18 rfl rfl ?_
  refine r_get E 5 0 1 dX6_quickest_19 in_X6_quickest_X6 lk_X6_quickest_16 rfl rfl (by decide) rfl ?_
  refine r_iload_n E 0 dX6_quickest_22 rfl rfl ?_
  refine r_putN E (ty := .int) 2 10 2 tyX2 tyX2_ok nmX2 dX6_quickest_23 in_X6_quickest_X2 (by decide) rfl rfl rfl (by decide) rfl (by decide +kernel) rfl rfl (Nat.le_of_ble_eq_true rfl) [(x0, .inr (5, [.ref h0, .ref t0, .ref n0, .ref i0, .ref d0, .ref r0, .ref p0, .int (iJ (hs)), .int (iJ (rf))])), (h0, .inr (2, [.ref h1, .int (iJ (n)), .int (iJ (q))])), (h1, cJ cI 32 (g)), (p0, .inr (3, [.ref p1, .ref p2, .ref p3, .ref p4, .ref p5, .ref p6, .int (iJ (L))])), (p1, cJ cI 32 (nrA)), (p2, cJ cI 32 (ow)), (p3, cJ cZ 32 (cA)), (p4, cJ cZ 32 (cU)), (p5, cJ cI 32 (hd)), (p6, cJ cI 132 (fw)), (t0, .inr (2, [.ref t1, .int (iJ (n)), .int (iJ (4))])), (t1, cJ cI 32 (pCp gt g n))] rfl ?_
  refine r_aload_n E 1 dX6_quickest_26 rfl rfl ?_
  refine r_get E 5 0 6 dX6_quickest_27 in_X6_quickest_X6 lk_X6_quickest_46 rfl rfl (by decide) rfl ?_
  refine r_aload_n E 1 dX6_quickest_30 rfl rfl ?_
  refine r_get E 5 0 1 dX6_quickest_31 in_X6_quickest_X6 lk_X6_quickest_16 rfl rfl (by decide) rfl ?_
  refine r_iconst E 0 rfl dX6_quickest_34 ?_
  refine r_vM E (st := []) (c_X3_choose l D p0 p1 p2 p3 p4 p5 p6 cI cZ L ow cA cU hd fw t0 t1 (pCp gt g n) n 4 0 (by first | assumption | omega | exact ⟨by omega, by omega⟩) wG wG3 (by first | assumption | omega | exact ⟨by omega, by omega⟩) (Or.inl rfl)) gX6_quickest_X3_canChoose 2 kf_X3_canChoose ⟨rfl, rfl⟩ ⟨by decide, by decide⟩ dX6_quickest_35 rfl 3 rfl rfl rfl rfl ⟨Nat.zero_le _, Nat.zero_le _⟩ [3, 4, 5, 6, 7, 8, 9, 10, 11] rfl (by decide) [0, 1] rfl (Nat.le_of_ble_eq_true rfl) [(x0, .inr (5, [.ref h0, .ref t0, .ref n0, .ref i0, .ref d0, .ref r0, .ref p0, .int (iJ (hs)), .int (iJ (rf))])), (h0, .inr (2, [.ref h1, .int (iJ (n)), .int (iJ (q))])), (h1, cJ cI 32 (g))] [0, 1, 2] rfl (by decide) (by decide) hA [0, 1, 2, 3, 4, 5, 6, 7, 8, 9, 10, 11] (by decide) (fun u : Int × (Int → Int) × (Int → Int) × (Int → Int) × (Int → Int) × (Int → Int) => [(x0, .inr (5, [.ref h0, .ref t0, .ref n0, .ref i0, .ref d0, .ref r0, .ref p0, .int (iJ (hs)), .int (iJ (rf))])), (h0, .inr (2, [.ref h1, .int (iJ (n)), .int (iJ (q))])), (h1, cJ cI 32 (g)), (p0, .inr (3, [.ref p1, .ref p2, .ref p3, .ref p4, .ref p5, .ref p6, .int (iJ (u.1))])), (p1, cJ cI 32 (nrA)), (p2, cJ cI 32 (u.2.1)), (p3, cJ cZ 32 (u.2.2.1)), (p4, cJ cZ 32 (u.2.2.2.1)), (p5, cJ cI 32 (u.2.2.2.2.1)), (p6, cJ cI 132 (u.2.2.2.2.2)), (t0, .inr (2, [.ref t1, .int (iJ (n)), .int (iJ (4))])), (t1, cJ cI 32 (pCp gt g n))]) (fun _ => rfl) ?_
  rintro ⟨L2_2, O2_3, A2_4, U2_5, H2_6, F2_7⟩ hp_8
  refine r_cv (ws2 := [(x0, .inr (5, [.ref h0, .ref t0, .ref n0, .ref i0, .ref d0, .ref r0, .ref p0, .int (iJ (hs)), .int (iJ (rf))])), (h0, .inr (2, [.ref h1, .int (iJ (n)), .int (iJ (q))])), (h1, cJ cI 32 (g)), (p0, .inr (3, [.ref p1, .ref p2, .ref p3, .ref p4, .ref p5, .ref p6, .int (iJ (L2_2))])), (p1, cJ cI 32 (nrA)), (p2, cJ cI 32 (O2_3)), (p3, cJ cZ 32 (A2_4)), (p4, cJ cZ 32 (U2_5)), (p5, cJ cI 32 (H2_6)), (p6, cJ cI 132 (F2_7)), (t0, .inr (2, [.ref t1, .int (iJ (n)), .int (iJ (4))])), (t1, cJ cI 32 (pCp gt g n))]) (st2 := [.int (iJ (b2 (fcB (pCp gt g n) n 4 0 < 1000)))]) rfl rfl rfl ?_
  obtain ⟨hF_9, hH_10, hL_11⟩ := hp_8
  try dsimp only at hF_9 hH_10 hL_11
  refine r_ifeq_b E 43 dX6_quickest_38 (by decide) (fun c_38 => ?_) (fun c_38 => ?_)
  · refine r_iinc E (k := 0) [(1, .int (iJ (3))), (0, .ref x0)] dX6_quickest_43 rfl (by decide) rfl ?_
    refine r_goto E 13 dX6_quickest_46 (by decide) ?_
    refine r_iload_n E 0 dX6_quickest_13 rfl rfl ?_
    refine r_iconst E 1 rfl dX6_quickest_14 ?_
    refine r_icmp_lt E 49 dX6_quickest_15 (by decide) ⟨by omega, by omega⟩ ⟨by omega, by omega⟩ (fun c_15 => absurd c_15 (by omega)) (fun c_15 => ?_)
    refine r_aload_n E 1 dX6_quickest_18 rfl rfl ?_
    refine r_get E 5 0 1 dX6_quickest_19 in_X6_quickest_X6 lk_X6_quickest_16 rfl rfl (by decide) rfl ?_
    refine r_iload_n E 0 dX6_quickest_22 rfl rfl ?_
    refine r_putN E (ty := .int) 2 10 2 tyX2 tyX2_ok nmX2 dX6_quickest_23 in_X6_quickest_X2 (by decide) rfl rfl rfl (by decide) rfl (by decide +kernel) rfl rfl (Nat.le_of_ble_eq_true rfl) [(x0, .inr (5, [.ref h0, .ref t0, .ref n0, .ref i0, .ref d0, .ref r0, .ref p0, .int (iJ (hs)), .int (iJ (rf))])), (h0, .inr (2, [.ref h1, .int (iJ (n)), .int (iJ (q))])), (h1, cJ cI 32 (g)), (p0, .inr (3, [.ref p1, .ref p2, .ref p3, .ref p4, .ref p5, .ref p6, .int (iJ (L2_2))])), (p1, cJ cI 32 (nrA)), (p2, cJ cI 32 (O2_3)), (p3, cJ cZ 32 (A2_4)), (p4, cJ cZ 32 (U2_5)), (p5, cJ cI 32 (H2_6)), (p6, cJ cI 132 (F2_7)), (t0, .inr (2, [.ref t1, .int (iJ (n)), .int (iJ (3))])), (t1, cJ cI 32 (pCp gt g n))] rfl ?_
    refine r_aload_n E 1 dX6_quickest_26 rfl rfl ?_
    refine r_get E 5 0 6 dX6_quickest_27 in_X6_quickest_X6 lk_X6_quickest_46 rfl rfl (by decide) rfl ?_
    refine r_aload_n E 1 dX6_quickest_30 rfl rfl ?_
    refine r_get E 5 0 1 dX6_quickest_31 in_X6_quickest_X6 lk_X6_quickest_16 rfl rfl (by decide) rfl ?_
    refine r_iconst E 0 rfl dX6_quickest_34 ?_
    refine r_vM E (st := []) (c_X3_choose l D p0 p1 p2 p3 p4 p5 p6 cI cZ L2_2 O2_3 A2_4 U2_5 H2_6 F2_7 t0 t1 (pCp gt g n) n 3 0 (by first | assumption | omega | exact ⟨by omega, by omega⟩) wG wG3 (by first | assumption | omega | exact ⟨by omega, by omega⟩) (Or.inl rfl)) gX6_quickest_X3_canChoose 2 kf_X3_canChoose ⟨rfl, rfl⟩ ⟨by decide, by decide⟩ dX6_quickest_35 rfl 3 rfl rfl rfl rfl ⟨Nat.zero_le _, Nat.zero_le _⟩ [3, 4, 5, 6, 7, 8, 9, 10, 11] rfl (by decide) [0, 1] rfl (Nat.le_of_ble_eq_true rfl) [(x0, .inr (5, [.ref h0, .ref t0, .ref n0, .ref i0, .ref d0, .ref r0, .ref p0, .int (iJ (hs)), .int (iJ (rf))])), (h0, .inr (2, [.ref h1, .int (iJ (n)), .int (iJ (q))])), (h1, cJ cI 32 (g))] [0, 1, 2] rfl (by decide) (by decide) hA [0, 1, 2, 3, 4, 5, 6, 7, 8, 9, 10, 11] (by decide) (fun u : Int × (Int → Int) × (Int → Int) × (Int → Int) × (Int → Int) × (Int → Int) => [(x0, .inr (5, [.ref h0, .ref t0, .ref n0, .ref i0, .ref d0, .ref r0, .ref p0, .int (iJ (hs)), .int (iJ (rf))])), (h0, .inr (2, [.ref h1, .int (iJ (n)), .int (iJ (q))])), (h1, cJ cI 32 (g)), (p0, .inr (3, [.ref p1, .ref p2, .ref p3, .ref p4, .ref p5, .ref p6, .int (iJ (u.1))])), (p1, cJ cI 32 (nrA)), (p2, cJ cI 32 (u.2.1)), (p3, cJ cZ 32 (u.2.2.1)), (p4, cJ cZ 32 (u.2.2.2.1)), (p5, cJ cI 32 (u.2.2.2.2.1)), (p6, cJ cI 132 (u.2.2.2.2.2)), (t0, .inr (2, [.ref t1, .int (iJ (n)), .int (iJ (3))])), (t1, cJ cI 32 (pCp gt g n))]) (fun _ => rfl) ?_
    rintro ⟨L2_12, O2_13, A2_14, U2_15, H2_16, F2_17⟩ hp_18
    refine r_cv (ws2 := [(x0, .inr (5, [.ref h0, .ref t0, .ref n0, .ref i0, .ref d0, .ref r0, .ref p0, .int (iJ (hs)), .int (iJ (rf))])), (h0, .inr (2, [.ref h1, .int (iJ (n)), .int (iJ (q))])), (h1, cJ cI 32 (g)), (p0, .inr (3, [.ref p1, .ref p2, .ref p3, .ref p4, .ref p5, .ref p6, .int (iJ (L2_12))])), (p1, cJ cI 32 (nrA)), (p2, cJ cI 32 (O2_13)), (p3, cJ cZ 32 (A2_14)), (p4, cJ cZ 32 (U2_15)), (p5, cJ cI 32 (H2_16)), (p6, cJ cI 132 (F2_17)), (t0, .inr (2, [.ref t1, .int (iJ (n)), .int (iJ (3))])), (t1, cJ cI 32 (pCp gt g n))]) (st2 := [.int (iJ (b2 (fcB (pCp gt g n) n 3 0 < 1000)))]) rfl rfl rfl ?_
    obtain ⟨hF_19, hH_20, hL_21⟩ := hp_18
    try dsimp only at hF_19 hH_20 hL_21
    refine r_ifeq_b E 43 dX6_quickest_38 (by decide) (fun c_38 => ?_) (fun c_38 => ?_)
    · refine r_iinc E (k := 0) [(1, .int (iJ (2))), (0, .ref x0)] dX6_quickest_43 rfl (by decide) rfl ?_
      refine r_goto E 13 dX6_quickest_46 (by decide) ?_
      refine r_iload_n E 0 dX6_quickest_13 rfl rfl ?_
      refine r_iconst E 1 rfl dX6_quickest_14 ?_
      refine r_icmp_lt E 49 dX6_quickest_15 (by decide) ⟨by omega, by omega⟩ ⟨by omega, by omega⟩ (fun c_15 => absurd c_15 (by omega)) (fun c_15 => ?_)
      refine r_aload_n E 1 dX6_quickest_18 rfl rfl ?_
      refine r_get E 5 0 1 dX6_quickest_19 in_X6_quickest_X6 lk_X6_quickest_16 rfl rfl (by decide) rfl ?_
      refine r_iload_n E 0 dX6_quickest_22 rfl rfl ?_
      refine r_putN E (ty := .int) 2 10 2 tyX2 tyX2_ok nmX2 dX6_quickest_23 in_X6_quickest_X2 (by decide) rfl rfl rfl (by decide) rfl (by decide +kernel) rfl rfl (Nat.le_of_ble_eq_true rfl) [(x0, .inr (5, [.ref h0, .ref t0, .ref n0, .ref i0, .ref d0, .ref r0, .ref p0, .int (iJ (hs)), .int (iJ (rf))])), (h0, .inr (2, [.ref h1, .int (iJ (n)), .int (iJ (q))])), (h1, cJ cI 32 (g)), (p0, .inr (3, [.ref p1, .ref p2, .ref p3, .ref p4, .ref p5, .ref p6, .int (iJ (L2_12))])), (p1, cJ cI 32 (nrA)), (p2, cJ cI 32 (O2_13)), (p3, cJ cZ 32 (A2_14)), (p4, cJ cZ 32 (U2_15)), (p5, cJ cI 32 (H2_16)), (p6, cJ cI 132 (F2_17)), (t0, .inr (2, [.ref t1, .int (iJ (n)), .int (iJ (2))])), (t1, cJ cI 32 (pCp gt g n))] rfl ?_
      refine r_aload_n E 1 dX6_quickest_26 rfl rfl ?_
      refine r_get E 5 0 6 dX6_quickest_27 in_X6_quickest_X6 lk_X6_quickest_46 rfl rfl (by decide) rfl ?_
      refine r_aload_n E 1 dX6_quickest_30 rfl rfl ?_
      refine r_get E 5 0 1 dX6_quickest_31 in_X6_quickest_X6 lk_X6_quickest_16 rfl rfl (by decide) rfl ?_
      refine r_iconst E 0 rfl dX6_quickest_34 ?_
      refine r_vM E (st := []) (c_X3_choose l D p0 p1 p2 p3 p4 p5 p6 cI cZ L2_12 O2_13 A2_14 U2_15 H2_16 F2_17 t0 t1 (pCp gt g n) n 2 0 (by first | assumption | omega | exact ⟨by omega, by omega⟩) wG wG3 (by first | assumption | omega | exact ⟨by omega, by omega⟩) (Or.inl rfl)) gX6_quickest_X3_canChoose 2 kf_X3_canChoose ⟨rfl, rfl⟩ ⟨by decide, by decide⟩ dX6_quickest_35 rfl 3 rfl rfl rfl rfl ⟨Nat.zero_le _, Nat.zero_le _⟩ [3, 4, 5, 6, 7, 8, 9, 10, 11] rfl (by decide) [0, 1] rfl (Nat.le_of_ble_eq_true rfl) [(x0, .inr (5, [.ref h0, .ref t0, .ref n0, .ref i0, .ref d0, .ref r0, .ref p0, .int (iJ (hs)), .int (iJ (rf))])), (h0, .inr (2, [.ref h1, .int (iJ (n)), .int (iJ (q))])), (h1, cJ cI 32 (g))] [0, 1, 2] rfl (by decide) (by decide) hA [0, 1, 2, 3, 4, 5, 6, 7, 8, 9, 10, 11] (by decide) (fun u : Int × (Int → Int) × (Int → Int) × (Int → Int) × (Int → Int) × (Int → Int) => [(x0, .inr (5, [.ref h0, .ref t0, .ref n0, .ref i0, .ref d0, .ref r0, .ref p0, .int (iJ (hs)), .int (iJ (rf))])), (h0, .inr (2, [.ref h1, .int (iJ (n)), .int (iJ (q))])), (h1, cJ cI 32 (g)), (p0, .inr (3, [.ref p1, .ref p2, .ref p3, .ref p4, .ref p5, .ref p6, .int (iJ (u.1))])), (p1, cJ cI 32 (nrA)), (p2, cJ cI 32 (u.2.1)), (p3, cJ cZ 32 (u.2.2.1)), (p4, cJ cZ 32 (u.2.2.2.1)), (p5, cJ cI 32 (u.2.2.2.2.1)), (p6, cJ cI 132 (u.2.2.2.2.2)), (t0, .inr (2, [.ref t1, .int (iJ (n)), .int (iJ (2))])), (t1, cJ cI 32 (pCp gt g n))]) (fun _ => rfl) ?_
      rintro ⟨L2_22, O2_23, A2_24, U2_25, H2_26, F2_27⟩ hp_28
      refine r_cv (ws2 := [(x0, .inr (5, [.ref h0, .ref t0, .ref n0, .ref i0, .ref d0, .ref r0, .ref p0, .int (iJ (hs)), .int (iJ (rf))])), (h0, .inr (2, [.ref h1, .int (iJ (n)), .int (iJ (q))])), (h1, cJ cI 32 (g)), (p0, .inr (3, [.ref p1, .ref p2, .ref p3, .ref p4, .ref p5, .ref p6, .int (iJ (L2_22))])), (p1, cJ cI 32 (nrA)), (p2, cJ cI 32 (O2_23)), (p3, cJ cZ 32 (A2_24)), (p4, cJ cZ 32 (U2_25)), (p5, cJ cI 32 (H2_26)), (p6, cJ cI 132 (F2_27)), (t0, .inr (2, [.ref t1, .int (iJ (n)), .int (iJ (2))])), (t1, cJ cI 32 (pCp gt g n))]) (st2 := [.int (iJ (b2 (fcB (pCp gt g n) n 2 0 < 1000)))]) rfl rfl rfl ?_
      obtain ⟨hF_29, hH_30, hL_31⟩ := hp_28
      try dsimp only at hF_29 hH_30 hL_31
      refine r_ifeq_b E 43 dX6_quickest_38 (by decide) (fun c_38 => ?_) (fun c_38 => ?_)
      · refine r_iinc E (k := 0) [(1, .int (iJ (1))), (0, .ref x0)] dX6_quickest_43 rfl (by decide) rfl ?_
        refine r_goto E 13 dX6_quickest_46 (by decide) ?_
        refine r_iload_n E 0 dX6_quickest_13 rfl rfl ?_
        refine r_iconst E 1 rfl dX6_quickest_14 ?_
        refine r_icmp_lt E 49 dX6_quickest_15 (by decide) ⟨by omega, by omega⟩ ⟨by omega, by omega⟩ (fun c_15 => absurd c_15 (by omega)) (fun c_15 => ?_)
        refine r_aload_n E 1 dX6_quickest_18 rfl rfl ?_
        refine r_get E 5 0 1 dX6_quickest_19 in_X6_quickest_X6 lk_X6_quickest_16 rfl rfl (by decide) rfl ?_
        refine r_iload_n E 0 dX6_quickest_22 rfl rfl ?_
        refine r_putN E (ty := .int) 2 10 2 tyX2 tyX2_ok nmX2 dX6_quickest_23 in_X6_quickest_X2 (by decide) rfl rfl rfl (by decide) rfl (by decide +kernel) rfl rfl (Nat.le_of_ble_eq_true rfl) [(x0, .inr (5, [.ref h0, .ref t0, .ref n0, .ref i0, .ref d0, .ref r0, .ref p0, .int (iJ (hs)), .int (iJ (rf))])), (h0, .inr (2, [.ref h1, .int (iJ (n)), .int (iJ (q))])), (h1, cJ cI 32 (g)), (p0, .inr (3, [.ref p1, .ref p2, .ref p3, .ref p4, .ref p5, .ref p6, .int (iJ (L2_22))])), (p1, cJ cI 32 (nrA)), (p2, cJ cI 32 (O2_23)), (p3, cJ cZ 32 (A2_24)), (p4, cJ cZ 32 (U2_25)), (p5, cJ cI 32 (H2_26)), (p6, cJ cI 132 (F2_27)), (t0, .inr (2, [.ref t1, .int (iJ (n)), .int (iJ (1))])), (t1, cJ cI 32 (pCp gt g n))] rfl ?_
        refine r_aload_n E 1 dX6_quickest_26 rfl rfl ?_
        refine r_get E 5 0 6 dX6_quickest_27 in_X6_quickest_X6 lk_X6_quickest_46 rfl rfl (by decide) rfl ?_
        refine r_aload_n E 1 dX6_quickest_30 rfl rfl ?_
        refine r_get E 5 0 1 dX6_quickest_31 in_X6_quickest_X6 lk_X6_quickest_16 rfl rfl (by decide) rfl ?_
        refine r_iconst E 0 rfl dX6_quickest_34 ?_
        refine r_vM E (st := []) (c_X3_choose l D p0 p1 p2 p3 p4 p5 p6 cI cZ L2_22 O2_23 A2_24 U2_25 H2_26 F2_27 t0 t1 (pCp gt g n) n 1 0 (by first | assumption | omega | exact ⟨by omega, by omega⟩) wG wG3 (by first | assumption | omega | exact ⟨by omega, by omega⟩) (Or.inl rfl)) gX6_quickest_X3_canChoose 2 kf_X3_canChoose ⟨rfl, rfl⟩ ⟨by decide, by decide⟩ dX6_quickest_35 rfl 3 rfl rfl rfl rfl ⟨Nat.zero_le _, Nat.zero_le _⟩ [3, 4, 5, 6, 7, 8, 9, 10, 11] rfl (by decide) [0, 1] rfl (Nat.le_of_ble_eq_true rfl) [(x0, .inr (5, [.ref h0, .ref t0, .ref n0, .ref i0, .ref d0, .ref r0, .ref p0, .int (iJ (hs)), .int (iJ (rf))])), (h0, .inr (2, [.ref h1, .int (iJ (n)), .int (iJ (q))])), (h1, cJ cI 32 (g))] [0, 1, 2] rfl (by decide) (by decide) hA [0, 1, 2, 3, 4, 5, 6, 7, 8, 9, 10, 11] (by decide) (fun u : Int × (Int → Int) × (Int → Int) × (Int → Int) × (Int → Int) × (Int → Int) => [(x0, .inr (5, [.ref h0, .ref t0, .ref n0, .ref i0, .ref d0, .ref r0, .ref p0, .int (iJ (hs)), .int (iJ (rf))])), (h0, .inr (2, [.ref h1, .int (iJ (n)), .int (iJ (q))])), (h1, cJ cI 32 (g)), (p0, .inr (3, [.ref p1, .ref p2, .ref p3, .ref p4, .ref p5, .ref p6, .int (iJ (u.1))])), (p1, cJ cI 32 (nrA)), (p2, cJ cI 32 (u.2.1)), (p3, cJ cZ 32 (u.2.2.1)), (p4, cJ cZ 32 (u.2.2.2.1)), (p5, cJ cI 32 (u.2.2.2.2.1)), (p6, cJ cI 132 (u.2.2.2.2.2)), (t0, .inr (2, [.ref t1, .int (iJ (n)), .int (iJ (1))])), (t1, cJ cI 32 (pCp gt g n))]) (fun _ => rfl) ?_
        rintro ⟨L2_32, O2_33, A2_34, U2_35, H2_36, F2_37⟩ hp_38
        refine r_cv (ws2 := [(x0, .inr (5, [.ref h0, .ref t0, .ref n0, .ref i0, .ref d0, .ref r0, .ref p0, .int (iJ (hs)), .int (iJ (rf))])), (h0, .inr (2, [.ref h1, .int (iJ (n)), .int (iJ (q))])), (h1, cJ cI 32 (g)), (p0, .inr (3, [.ref p1, .ref p2, .ref p3, .ref p4, .ref p5, .ref p6, .int (iJ (L2_32))])), (p1, cJ cI 32 (nrA)), (p2, cJ cI 32 (O2_33)), (p3, cJ cZ 32 (A2_34)), (p4, cJ cZ 32 (U2_35)), (p5, cJ cI 32 (H2_36)), (p6, cJ cI 132 (F2_37)), (t0, .inr (2, [.ref t1, .int (iJ (n)), .int (iJ (1))])), (t1, cJ cI 32 (pCp gt g n))]) (st2 := [.int (iJ (b2 (fcB (pCp gt g n) n 1 0 < 1000)))]) rfl rfl rfl ?_
        obtain ⟨hF_39, hH_40, hL_41⟩ := hp_38
        try dsimp only at hF_39 hH_40 hL_41
        refine r_ifeq_b E 43 dX6_quickest_38 (by decide) (fun c_38 => ?_) (fun c_38 => ?_)
        · refine r_iinc E (k := 0) [(1, .int (iJ (0))), (0, .ref x0)] dX6_quickest_43 rfl (by decide) rfl ?_
          refine r_goto E 13 dX6_quickest_46 (by decide) ?_
          refine r_iload_n E 0 dX6_quickest_13 rfl rfl ?_
          refine r_iconst E 1 rfl dX6_quickest_14 ?_
          refine r_icmp_lt E 49 dX6_quickest_15 (by decide) ⟨by omega, by omega⟩ ⟨by omega, by omega⟩ (fun c_15 => ?_) (fun c_15 => absurd c_15 (by omega))
          refine r_bipush E (-4) rfl dX6_quickest_49 ?_
          exact r_retM E (L2_32, O2_33, A2_34, U2_35, H2_36, F2_37, pCp gt g n, 1) hr dX6_quickest_51 (by simp only [fcB_g wE hn.1] at *; simp [*]) (by dsimp only; omega) rfl hQ
        · refine r_iload_n E 0 dX6_quickest_41 rfl rfl ?_
          exact r_retM E (L2_32, O2_33, A2_34, U2_35, H2_36, F2_37, pCp gt g n, 1) hr dX6_quickest_42 (by simp only [fcB_g wE hn.1] at *; simp [*]) (by dsimp only; omega) rfl hQ
      · refine r_iload_n E 0 dX6_quickest_41 rfl rfl ?_
        exact r_retM E (L2_22, O2_23, A2_24, U2_25, H2_26, F2_27, pCp gt g n, 2) hr dX6_quickest_42 (by simp only [fcB_g wE hn.1] at *; simp [*]) (by dsimp only; omega) rfl hQ
    · refine r_iload_n E 0 dX6_quickest_41 rfl rfl ?_
      exact r_retM E (L2_12, O2_13, A2_14, U2_15, H2_16, F2_17, pCp gt g n, 3) hr dX6_quickest_42 (by simp only [fcB_g wE hn.1] at *; simp [*]) (by dsimp only; omega) rfl hQ
  · refine r_iload_n E 0 dX6_quickest_41 rfl rfl ?_
    exact r_retM E (L2_2, O2_3, A2_4, U2_5, H2_6, F2_7, pCp gt g n, 4) hr dX6_quickest_42 (by simp only [fcB_g wE hn.1] at *; simp [*]) (by dsimp only; omega) rfl hQ
