theorem kf_X7_stickings : KF yX7_stickings 2 wsX7_stickings cX7_stickings 3 (some .int) := ⟨rfl, by decide +kernel, by decide +kernel, by decide +kernel⟩
def rm_X7_stickings : Room := { frames := 10, cells := 0, slots := 0, locals := 233 }
set_option maxHeartbeats 1000000 in
set_option maxRecDepth 100000 in
theorem c_X7_stickings (l : Launch) (D : va_G) (m0 : Nat) (ms : Nat) (mh : Nat) (mn : Nat) (mp : Nat) (ml : Nat) (mm : Nat) (md : Nat) (mw : Nat) (mt : Nat) (mb : Nat) (mi : Nat) (mg : Nat) (cI : ClassId) (kp : Int) (sv : Int) (pn : Int) (rf : Int) (tl : Int) (cJ_ : ClassId) (s : Int → Int) (le : Int → Int) (my : Int → Int) (ov : Int) (w : Int) (hs0 : 0 ≤ s 0 ∧ s 0 ≤ 32) (hs1 : 1 ≤ s 1 ∧ s 1 ≤ 4) (hsv : ∀ j : Int, 0 ≤ j → j < s 0 → 0 ≤ s (2 + j) ∧ s (2 + j) ≤ 24) (hov : ov = 0 ∨ ov = 1) (hw : jb w) : MM (S := (Int → Int) × (Int → Int)) l yX7_stickings wsX7_stickings rm_X7_stickings D vwCl [.ref m0, .int (iJ (ov)), .int (iJ (w))] [(m0, .inr (6, [.ref ms, .ref mh, .int (iJ (kp)), .ref mn, .int (iJ (sv)), .ref mp, .int (iJ (pn)), .int (iJ (rf)), .ref ml, .ref mm, .ref md, .ref mw, .ref mt, .int (iJ (tl)), .ref mb, .ref mi, .ref mg])), (ms, cJ cI 34 (s)), (ml, cJ cI 99 (le)), (mm, cL cJ_ 99 (my))] [(cI, .int), (cJ_, .long)] (fun (u : (Int → Int) × (Int → Int)) => (if w < 0 ∨ 1 < w then -1 else if ov = 0 then cap9 (mnS s (-4) 0 2) else soV s)) (fun (u : (Int → Int) × (Int → Int)) => True) (fun (u : (Int → Int) × (Int → Int)) => [(m0, .inr (6, [.ref ms, .ref mh, .int (iJ (kp)), .ref mn, .int (iJ (sv)), .ref mp, .int (iJ (pn)), .int (iJ (rf)), .ref ml, .ref mm, .ref md, .ref mw, .ref mt, .int (iJ (tl)), .ref mb, .ref mi, .ref mg])), (ms, cJ cI 34 (s)), (ml, cJ cI 99 (u.1)), (mm, cL cJ_ 99 (u.2))]) := by
  refine MM.mk (cc := cX7_stickings) (maxL := 3) (ret := (some .int)) (by decide) rfl (Nat.le_of_ble_eq_true rfl) rfl RX7 rfl ?_
  intro p_ e_ s_ m_ ar_ bw_ mt_ cd_ B_ Q_ hA E hr hQ
  refine r_iload_n E 2 dX7_stickings_0 rfl rfl ?_
  refine r_iconst E 0 rfl dX7_stickings_1 ?_
  refine r_iconst E 1 rfl dX7_stickings_2 ?_
  refine r_sP E (st := []) (c_X7_in l D w 0 1 (by first | assumption | omega | exact ⟨by omega, by omega⟩) (by first | assumption | omega | exact ⟨by omega, by omega⟩) (by first | assumption | omega | exact ⟨by omega, by omega⟩)) gX7_stickings_X7_in 3 kf_X7_in ⟨rfl, rfl⟩ ⟨by decide, by decide⟩ dX7_stickings_3 rfl rfl ⟨Nat.zero_le _, Nat.zero_le _⟩ [] rfl (by decide) [] rfl (Nat.le_of_ble_eq_true rfl) ?_
  refine r_ifne_b E 13 dX7_stickings_6 (by decide) (fun c_6 => ?_) (fun c_6 => ?_)
  · refine r_iload_n E 1 dX7_stickings_13 rfl rfl ?_
    refine r_if_eq E 24 dX7_stickings_14 (by decide) ⟨by omega, by omega⟩ (fun c_14 => ?_) (fun c_14 => ?_)
    · refine r_aload_n E 0 dX7_stickings_24 rfl rfl ?_
      refine r_vM E (st := []) (c_X7_stickingsOnce l D m0 ms mh mn mp ml mm md mw mt mb mi mg cI kp sv pn rf tl cJ_ s le my (by first | assumption | omega | exact ⟨by omega, by omega⟩) (by first | assumption | omega | exact ⟨by omega, by omega⟩) (by first | assumption | omega | exact ⟨by omega, by omega⟩)) gX7_stickings_X7_stickingsOnce 0 kf_X7_stickingsOnce ⟨rfl, rfl⟩ ⟨by decide, by decide⟩ dX7_stickings_25 rfl 0 rfl rfl rfl rfl ⟨Nat.zero_le _, Nat.zero_le _⟩ [0, 1, 2, 3] rfl (by decide) [0, 1] rfl (Nat.le_of_ble_eq_true rfl) [] [] rfl (by decide) (by decide) hA [0, 1, 2, 3] (by decide) (fun u : (Int → Int) × (Int → Int) => [(m0, .inr (6, [.ref ms, .ref mh, .int (iJ (kp)), .ref mn, .int (iJ (sv)), .ref mp, .int (iJ (pn)), .int (iJ (rf)), .ref ml, .ref mm, .ref md, .ref mw, .ref mt, .int (iJ (tl)), .ref mb, .ref mi, .ref mg])), (ms, cJ cI 34 (s)), (ml, cJ cI 99 (u.1)), (mm, cL cJ_ 99 (u.2))]) (fun _ => rfl) ?_
      rintro ⟨LS_1, MN_2⟩ hp_3
      refine r_cv (ws2 := [(m0, .inr (6, [.ref ms, .ref mh, .int (iJ (kp)), .ref mn, .int (iJ (sv)), .ref mp, .int (iJ (pn)), .int (iJ (rf)), .ref ml, .ref mm, .ref md, .ref mw, .ref mt, .int (iJ (tl)), .ref mb, .ref mi, .ref mg])), (ms, cJ cI 34 (s)), (ml, cJ cI 99 (LS_1)), (mm, cL cJ_ 99 (MN_2))]) (st2 := [.int (iJ (cap9 (mnS s (-4) 0 2)))]) rfl rfl rfl ?_
      exact r_retM E (LS_1, MN_2) hr dX7_stickings_28 (by first | (rw [if_pos (by omega)]; done) | (rw [if_neg (by omega), if_pos c_14]; done) | (rw [if_neg (by omega), if_neg c_14]; done)) trivial rfl hQ
    · refine r_aload_n E 0 dX7_stickings_17 rfl rfl ?_
      refine r_vM E (st := []) (c_X7_stickingsOver l D m0 ms mh mn mp ml mm md mw mt mb mi mg cI kp sv pn rf tl cJ_ s le my (by first | assumption | omega | exact ⟨by omega, by omega⟩) (by first | assumption | omega | exact ⟨by omega, by omega⟩) (by first | assumption | omega | exact ⟨by omega, by omega⟩)) gX7_stickings_X7_stickingsOver 0 kf_X7_stickingsOver ⟨rfl, rfl⟩ ⟨by decide, by decide⟩ dX7_stickings_18 rfl 0 rfl rfl rfl rfl ⟨Nat.zero_le _, Nat.zero_le _⟩ [0, 1, 2, 3] rfl (by decide) [0, 1] rfl (Nat.le_of_ble_eq_true rfl) [] [] rfl (by decide) (by decide) hA [0, 1, 2, 3] (by decide) (fun u : (Int → Int) × (Int → Int) => [(m0, .inr (6, [.ref ms, .ref mh, .int (iJ (kp)), .ref mn, .int (iJ (sv)), .ref mp, .int (iJ (pn)), .int (iJ (rf)), .ref ml, .ref mm, .ref md, .ref mw, .ref mt, .int (iJ (tl)), .ref mb, .ref mi, .ref mg])), (ms, cJ cI 34 (s)), (ml, cJ cI 99 (u.1)), (mm, cL cJ_ 99 (u.2))]) (fun _ => rfl) ?_
      rintro ⟨LS_4, MN_5⟩ hp_6
      refine r_cv (ws2 := [(m0, .inr (6, [.ref ms, .ref mh, .int (iJ (kp)), .ref mn, .int (iJ (sv)), .ref mp, .int (iJ (pn)), .int (iJ (rf)), .ref ml, .ref mm, .ref md, .ref mw, .ref mt, .int (iJ (tl)), .ref mb, .ref mi, .ref mg])), (ms, cJ cI 34 (s)), (ml, cJ cI 99 (LS_4)), (mm, cL cJ_ 99 (MN_5))]) (st2 := [.int (iJ (soV s))]) rfl rfl rfl ?_
      refine r_goto E 28 dX7_stickings_21 (by decide) ?_
      exact r_retM E (LS_4, MN_5) hr dX7_stickings_28 (by first | (rw [if_pos (by omega)]; done) | (rw [if_neg (by omega), if_pos c_14]; done) | (rw [if_neg (by omega), if_neg c_14]; done)) trivial rfl hQ
  · refine r_iconst E (-1) rfl dX7_stickings_9 ?_
    refine r_goto E 28 dX7_stickings_10 (by decide) ?_
    exact r_retM E (le, my) hr dX7_stickings_28 (by first | (rw [if_pos (by omega)]; done) | (rw [if_neg (by omega), if_pos c_14]; done) | (rw [if_neg (by omega), if_neg c_14]; done)) trivial rfl hQ
theorem kf_X7_step : KF yX7_step 2 wsX7_step cX7_step 3 (some .int) := ⟨rfl, by decide +kernel, by decide +kernel, by decide +kernel⟩
def rm_X7_step : Room := { frames := 10, cells := 0, slots := 0, locals := 235 }
set_option maxHeartbeats 1000000 in
set_option maxRecDepth 100000 in
theorem c_X7_stepBad (l : Launch) (D : va_G) (m0 : Nat) (ms : Nat) (mh : Nat) (mn : Nat) (mp : Nat) (ml : Nat) (mm : Nat) (md : Nat) (mw : Nat) (mt : Nat) (mb : Nat) (mi : Nat) (mg : Nat) (cI : ClassId) (kp : Int) (sv : Int) (pn : Int) (rf : Int) (tl : Int) (s : Int → Int) (a : Int) (w : Int) (hs0 : 0 ≤ s 0 ∧ s 0 ≤ 32) (ha : jb a) (hx : ¬ (0 ≤ a ∧ a < s 0)) : MP l yX7_step wsX7_step rm_X7_step D vwCl [.ref m0, .int (iJ (a)), .int (iJ (w))] [(m0, .inr (6, [.ref ms, .ref mh, .int (iJ (kp)), .ref mn, .int (iJ (sv)), .ref mp, .int (iJ (pn)), .int (iJ (rf)), .ref ml, .ref mm, .ref md, .ref mw, .ref mt, .int (iJ (tl)), .ref mb, .ref mi, .ref mg])), (ms, cJ cI 34 (s))] [(cI, .int)] (-1) := by
  refine MP.mk (cc := cX7_step) (maxL := 3) (ret := (some .int)) (by decide) rfl (Nat.le_of_ble_eq_true rfl) rfl RX7 rfl ?_
  intro p_ e_ s_ m_ ar_ bw_ mt_ cd_ Q_ E hr hQ
  refine r_aload_n E 0 dX7_step_0 rfl rfl ?_
  refine r_iload_n E 1 dX7_step_1 rfl rfl ?_
  refine r_vP E (st := []) (c_X7_isStep l D m0 ms mh mn mp ml mm md mw mt mb mi mg cI kp sv pn rf tl s a (by first | assumption | omega | exact ⟨by omega, by omega⟩) (by first | assumption | omega | exact ⟨by omega, by omega⟩)) gX7_step_X7_isStep 1 kf_X7_isStep ⟨rfl, rfl⟩ ⟨by decide, by decide⟩ dX7_step_2 rfl 0 rfl rfl rfl rfl ⟨Nat.zero_le _, Nat.zero_le _⟩ [0, 1] rfl (by decide) [0] rfl (Nat.le_of_ble_eq_true rfl) ?_
  refine r_ifne_b E 10 dX7_step_5 (by decide) (fun c_5 => absurd c_5 (by omega)) (fun c_5 => ?_)
  refine r_iconst E (-1) rfl dX7_step_8 ?_
  exact r_retP E hr dX7_step_9 rfl hQ
set_option maxHeartbeats 1000000 in
set_option maxRecDepth 100000 in
theorem c_X7_stepR (l : Launch) (D : va_G) (m0 : Nat) (ms : Nat) (mh : Nat) (mn : Nat) (mp : Nat) (ml : Nat) (mm : Nat) (md : Nat) (mw : Nat) (mt : Nat) (mb : Nat) (mi : Nat) (mg : Nat) (cI : ClassId) (kp : Int) (sv : Int) (pn : Int) (rf : Int) (tl : Int) (s : Int → Int) (a : Int) (w : Int) (hs0 : 0 ≤ s 0 ∧ s 0 ≤ 32) (hsv : ∀ j : Int, 0 ≤ j → j < s 0 → 0 ≤ s (2 + j) ∧ s (2 + j) ≤ 24) (ha : 0 ≤ a ∧ a < s 0) (hw : jb w) (hx : ¬ (w = 5 ∨ w = 6)) : MP l yX7_step wsX7_step rm_X7_step D vwCl [.ref m0, .int (iJ (a)), .int (iJ (w))] [(m0, .inr (6, [.ref ms, .ref mh, .int (iJ (kp)), .ref mn, .int (iJ (sv)), .ref mp, .int (iJ (pn)), .int (iJ (rf)), .ref ml, .ref mm, .ref md, .ref mw, .ref mt, .int (iJ (tl)), .ref mb, .ref mi, .ref mg])), (ms, cJ cI 34 (s))] [(cI, .int)] ((if w = 0 then (if s (2 + a) = 0 then -4 else (s (2 + a) - 1) % 3) else if w = 1 then mAc (s (2 + a)) else if w = 2 then mOr (s (2 + a)) else if w = 3 then mBl (s (2 + a)) else if w = 4 then mFs (s (2 + a)) else -1)) := by
  refine MP.mk (cc := cX7_step) (maxL := 3) (ret := (some .int)) (by decide) rfl (Nat.le_of_ble_eq_true rfl) rfl RX7 rfl ?_
  intro p_ e_ s_ m_ ar_ bw_ mt_ cd_ Q_ E hr hQ
  have f_c := hsv a ha.1 ha.2
  refine r_aload_n E 0 dX7_step_0 rfl rfl ?_
  refine r_iload_n E 1 dX7_step_1 rfl rfl ?_
  refine r_vP E (st := []) (c_X7_isStep l D m0 ms mh mn mp ml mm md mw mt mb mi mg cI kp sv pn rf tl s a (by first | assumption | omega | exact ⟨by omega, by omega⟩) (by first | assumption | omega | exact ⟨by omega, by omega⟩)) gX7_step_X7_isStep 1 kf_X7_isStep ⟨rfl, rfl⟩ ⟨by decide, by decide⟩ dX7_step_2 rfl 0 rfl rfl rfl rfl ⟨Nat.zero_le _, Nat.zero_le _⟩ [0, 1] rfl (by decide) [0] rfl (Nat.le_of_ble_eq_true rfl) ?_
  refine r_ifne_b E 10 dX7_step_5 (by decide) (fun c_5 => ?_) (fun c_5 => absurd c_5 (by omega))
  refine r_iload_n E 2 dX7_step_10 rfl rfl ?_
  by_cases c_11_0 : w = 0
  · refine r_tabIn E 0 52 dX7_step_11 c_11_0 ⟨by decide, by decide⟩ (by decide) (by decide) rfl (by decide) ?_
    refine r_aload_n E 0 dX7_step_52 rfl rfl ?_
    refine r_iload_n E 1 dX7_step_53 rfl rfl ?_
    refine r_vP E (st := []) (c_X7_isStroke l D m0 ms mh mn mp ml mm md mw mt mb mi mg cI kp sv pn rf tl s a (by first | assumption | omega | exact ⟨by omega, by omega⟩) (by first | assumption | omega | exact ⟨by omega, by omega⟩)) gX7_step_X7_isStroke 1 kf_X7_isStroke ⟨rfl, rfl⟩ ⟨by decide, by decide⟩ dX7_step_54 rfl 0 rfl rfl rfl rfl ⟨Nat.zero_le _, Nat.zero_le _⟩ [0, 1] rfl (by decide) [0] rfl (Nat.le_of_ble_eq_true rfl) ?_
    refine r_ifeq_n E 68 dX7_step_57 (by decide) (fun c_57 => ?_) (fun c_57 => ?_)
    · refine r_bipush E (-4) rfl dX7_step_68 ?_
      exact r_retP E hr dX7_step_70 (by
            first | (subst w; simp [*]; done) | (repeat' (first | rw [if_neg (by omega)] | rfl))) hQ
    · refine r_aload_n E 0 dX7_step_60 rfl rfl ?_
      refine r_iload_n E 1 dX7_step_61 rfl rfl ?_
      refine r_vP E (st := []) (c_X7_hand l D m0 ms mh mn mp ml mm md mw mt mb mi mg cI kp sv pn rf tl s a (by first | assumption | omega | exact ⟨by omega, by omega⟩) ⟨by omega, by omega⟩) gX7_step_X7_hand 1 kf_X7_hand ⟨rfl, rfl⟩ ⟨by decide, by decide⟩ dX7_step_62 rfl 0 rfl rfl rfl rfl ⟨Nat.zero_le _, Nat.zero_le _⟩ [0, 1] rfl (by decide) [0] rfl (Nat.le_of_ble_eq_true rfl) ?_
      refine r_goto E 70 dX7_step_65 (by decide) ?_
      exact r_retP E hr dX7_step_70 (by
            first | (subst w; simp [*]; done) | (repeat' (first | rw [if_neg (by omega)] | rfl))) hQ
  by_cases c_11_1 : w = 1
  · refine r_tabIn E 1 71 dX7_step_11 c_11_1 ⟨by decide, by decide⟩ (by decide) (by decide) rfl (by decide) ?_
    refine r_aload_n E 0 dX7_step_71 rfl rfl ?_
    refine r_iload_n E 1 dX7_step_72 rfl rfl ?_
    refine r_vP E (st := []) (c_X7_accent l D m0 ms mh mn mp ml mm md mw mt mb mi mg cI kp sv pn rf tl s a (by first | assumption | omega | exact ⟨by omega, by omega⟩) (by first | assumption | omega | exact ⟨by omega, by omega⟩)) gX7_step_X7_accent 1 kf_X7_accent ⟨rfl, rfl⟩ ⟨by decide, by decide⟩ dX7_step_73 rfl 0 rfl rfl rfl rfl ⟨Nat.zero_le _, Nat.zero_le _⟩ [0, 1] rfl (by decide) [0] rfl (Nat.le_of_ble_eq_true rfl) ?_
    exact r_retP E hr dX7_step_76 (by
          first | (subst w; simp [*]; done) | (repeat' (first | rw [if_neg (by omega)] | rfl))) hQ
  by_cases c_11_2 : w = 2
  · refine r_tabIn E 2 77 dX7_step_11 c_11_2 ⟨by decide, by decide⟩ (by decide) (by decide) rfl (by decide) ?_
    refine r_aload_n E 0 dX7_step_77 rfl rfl ?_
    refine r_iload_n E 1 dX7_step_78 rfl rfl ?_
    refine r_vP E (st := []) (c_X7_ornament l D m0 ms mh mn mp ml mm md mw mt mb mi mg cI kp sv pn rf tl s a (by first | assumption | omega | exact ⟨by omega, by omega⟩) (by first | assumption | omega | exact ⟨by omega, by omega⟩)) gX7_step_X7_ornament 1 kf_X7_ornament ⟨rfl, rfl⟩ ⟨by decide, by decide⟩ dX7_step_79 rfl 0 rfl rfl rfl rfl ⟨Nat.zero_le _, Nat.zero_le _⟩ [0, 1] rfl (by decide) [0] rfl (Nat.le_of_ble_eq_true rfl) ?_
    exact r_retP E hr dX7_step_82 (by
          first | (subst w; simp [*]; done) | (repeat' (first | rw [if_neg (by omega)] | rfl))) hQ
  by_cases c_11_3 : w = 3
  · refine r_tabIn E 3 83 dX7_step_11 c_11_3 ⟨by decide, by decide⟩ (by decide) (by decide) rfl (by decide) ?_
    refine r_aload_n E 0 dX7_step_83 rfl rfl ?_
    refine r_iload_n E 1 dX7_step_84 rfl rfl ?_
    refine r_vP E (st := []) (c_X7_blows l D m0 ms mh mn mp ml mm md mw mt mb mi mg cI kp sv pn rf tl s a (by first | assumption | omega | exact ⟨by omega, by omega⟩) (by first | assumption | omega | exact ⟨by omega, by omega⟩)) gX7_step_X7_blows 1 kf_X7_blows ⟨rfl, rfl⟩ ⟨by decide, by decide⟩ dX7_step_85 rfl 0 rfl rfl rfl rfl ⟨Nat.zero_le _, Nat.zero_le _⟩ [0, 1] rfl (by decide) [0] rfl (Nat.le_of_ble_eq_true rfl) ?_
    exact r_retP E hr dX7_step_88 (by
          first | (subst w; simp [*]; done) | (repeat' (first | rw [if_neg (by omega)] | rfl))) hQ
  by_cases c_11_4 : w = 4
  · refine r_tabIn E 4 89 dX7_step_11 c_11_4 ⟨by decide, by decide⟩ (by decide) (by decide) rfl (by decide) ?_
    refine r_aload_n E 0 dX7_step_89 rfl rfl ?_
    refine r_iload_n E 1 dX7_step_90 rfl rfl ?_
    refine r_vP E (st := []) (c_X7_forces l D m0 ms mh mn mp ml mm md mw mt mb mi mg cI kp sv pn rf tl s a (by first | assumption | omega | exact ⟨by omega, by omega⟩) (by first | assumption | omega | exact ⟨by omega, by omega⟩)) gX7_step_X7_forces 1 kf_X7_forces ⟨rfl, rfl⟩ ⟨by decide, by decide⟩ dX7_step_91 rfl 0 rfl rfl rfl rfl ⟨Nat.zero_le _, Nat.zero_le _⟩ [0, 1] rfl (by decide) [0] rfl (Nat.le_of_ble_eq_true rfl) ?_
    exact r_retP E hr dX7_step_94 (by
          first | (subst w; simp [*]; done) | (repeat' (first | rw [if_neg (by omega)] | rfl))) hQ
  have c_11_5 : ¬ w = 5 := by omega
  have c_11_6 : ¬ w = 6 := by omega
  refine r_tabOut E 125 dX7_step_11 hw (by omega) (by decide) ?_
  refine r_iconst E (-1) rfl dX7_step_125 ?_
  exact r_retP E hr dX7_step_126 (by
        first | (subst w; simp [*]; done) | (repeat' (first | rw [if_neg (by omega)] | rfl))) hQ
set_option maxRecDepth 20000 in
theorem in_X7_step_X7 : ∀ w ∈ u_ws RX7 TX7 17, w ∈ wsX7_step := by decide +kernel
set_option maxRecDepth 20000 in
theorem lk_X7_step_29 : Cond.fieldLink RX7 29 (TX7 10).1 (TX7 10).2.1 (TX7 10).2.2.1 ∈ wsX7_step := by decide +kernel
set_option maxHeartbeats 1000000 in
set_option maxRecDepth 100000 in
theorem c_X7_stepS (l : Launch) (D : va_G) (m0 : Nat) (ms : Nat) (mh : Nat) (mn : Nat) (mp : Nat) (ml : Nat) (mm : Nat) (md : Nat) (mw : Nat) (mt : Nat) (mb : Nat) (mi : Nat) (mg : Nat) (cI : ClassId) (kp : Int) (sv : Int) (pn : Int) (rf : Int) (tl : Int) (cJ_ : ClassId) (s : Int → Int) (le : Int → Int) (my : Int → Int) (hd : Int → Int) (a : Int) (w : Int) (pr : Int) (hs0 : 0 ≤ s 0 ∧ s 0 ≤ 32) (hs1 : 1 ≤ s 1 ∧ s 1 ≤ 4) (hsv : ∀ j : Int, 0 ≤ j → j < s 0 → 0 ≤ s (2 + j) ∧ s (2 + j) ≤ 24) (ha : 0 ≤ a ∧ a < s 0) (hpr : pr = 0 ∨ pr = 1) (hx : w = 5 + pr) : MM (S := (Int → Int) × (Int → Int) × (Int → Int)) l yX7_step wsX7_step rm_X7_step D vwCl [.ref m0, .int (iJ (a)), .int (iJ (w))] [(m0, .inr (6, [.ref ms, .ref mh, .int (iJ (kp)), .ref mn, .int (iJ (sv)), .ref mp, .int (iJ (pn)), .int (iJ (rf)), .ref ml, .ref mm, .ref md, .ref mw, .ref mt, .int (iJ (tl)), .ref mb, .ref mi, .ref mg])), (ms, cJ cI 34 (s)), (ml, cJ cI 99 (le)), (mm, cL cJ_ 99 (my)), (md, cJ cI 32 (hd))] [(cI, .int), (cJ_, .long)] (fun (u : (Int → Int) × (Int → Int) × (Int → Int)) => (if lsS s (-4) 0 2 < 1000 then (if s (2 + a) = 0 then -4 else mcB s pr (a + 1)) else -4)) (fun (u : (Int → Int) × (Int → Int) × (Int → Int)) => True) (fun (u : (Int → Int) × (Int → Int) × (Int → Int)) => [(m0, .inr (6, [.ref ms, .ref mh, .int (iJ (kp)), .ref mn, .int (iJ (sv)), .ref mp, .int (iJ (pn)), .int (iJ (rf)), .ref ml, .ref mm, .ref md, .ref mw, .ref mt, .int (iJ (tl)), .ref mb, .ref mi, .ref mg])), (ms, cJ cI 34 (s)), (ml, cJ cI 99 (u.1)), (mm, cL cJ_ 99 (u.2.1)), (md, cJ cI 32 (u.2.2))]) := by
  refine MM.mk (cc := cX7_step) (maxL := 3) (ret := (some .int)) (by decide) rfl (Nat.le_of_ble_eq_true rfl) rfl RX7 rfl ?_
  intro p_ e_ s_ m_ ar_ bw_ mt_ cd_ B_ Q_ hA E hr hQ
  refine r_aload_n E 0 dX7_step_0 rfl rfl ?_
  refine r_iload_n E 1 dX7_step_1 rfl rfl ?_
  refine r_vP E (st := []) (c_X7_isStep l D m0 ms mh mn mp ml mm md mw mt mb mi mg cI kp sv pn rf tl s a (by first | assumption | omega | exact ⟨by omega, by omega⟩) (by first | assumption | omega | exact ⟨by omega, by omega⟩)) gX7_step_X7_isStep 1 kf_X7_isStep ⟨rfl, rfl⟩ ⟨by decide, by decide⟩ dX7_step_2 rfl 0 rfl rfl rfl rfl ⟨Nat.zero_le _, Nat.zero_le _⟩ [0, 1] rfl (by decide) [0] rfl (Nat.le_of_ble_eq_true rfl) ?_
  refine r_ifne_b E 10 dX7_step_5 (by decide) (fun c_5 => ?_) (fun c_5 => absurd c_5 (by omega))
  refine r_iload_n E 2 dX7_step_10 rfl rfl ?_
  have c_11_0 : ¬ w = 0 := by omega
  have c_11_1 : ¬ w = 1 := by omega
  have c_11_2 : ¬ w = 2 := by omega
  have c_11_3 : ¬ w = 3 := by omega
  have c_11_4 : ¬ w = 4 := by omega
  by_cases c_11_5 : w = 5
  · refine r_tabIn E 5 95 dX7_step_11 c_11_5 ⟨by decide, by decide⟩ (by decide) (by decide) rfl (by decide) ?_
    refine r_aload_n E 0 dX7_step_95 rfl rfl ?_
    refine r_iload_n E 2 dX7_step_96 rfl rfl ?_
    refine r_bipush E 6 rfl dX7_step_97 ?_
    refine r_icmp_ne E 106 dX7_step_99 (by decide) ⟨by omega, by omega⟩ ⟨by omega, by omega⟩ (fun c_99 => ?_) (fun c_99 => ?_)
    · refine r_iconst E 0 rfl dX7_step_106 ?_
      refine r_top (b := pr) (by omega) ?_
      refine r_vM E (st := []) (c_X7_stick l D m0 ms mh mn mp ml mm md mw mt mb mi mg cI kp sv pn rf tl cJ_ s le my hd pr (by first | assumption | omega | exact ⟨by omega, by omega⟩) (by first | assumption | omega | exact ⟨by omega, by omega⟩) (by first | assumption | omega | exact ⟨by omega, by omega⟩) (by first | assumption | omega | exact ⟨by omega, by omega⟩)) gX7_step_X7_stick 1 kf_X7_stick ⟨rfl, rfl⟩ ⟨by decide, by decide⟩ dX7_step_107 rfl 0 rfl rfl rfl rfl ⟨Nat.zero_le _, Nat.zero_le _⟩ [0, 1, 2, 3, 4] rfl (by decide) [0, 1] rfl (Nat.le_of_ble_eq_true rfl) [] [] rfl (by decide) (by decide) hA [0, 1, 2, 3, 4] (by decide) (fun u : (Int → Int) × (Int → Int) × (Int → Int) => [(m0, .inr (6, [.ref ms, .ref mh, .int (iJ (kp)), .ref mn, .int (iJ (sv)), .ref mp, .int (iJ (pn)), .int (iJ (rf)), .ref ml, .ref mm, .ref md, .ref mw, .ref mt, .int (iJ (tl)), .ref mb, .ref mi, .ref mg])), (ms, cJ cI 34 (s)), (ml, cJ cI 99 (u.1)), (mm, cL cJ_ 99 (u.2.1)), (md, cJ cI 32 (u.2.2))]) (fun _ => rfl) ?_
      rintro ⟨LT, MT, HT⟩ hp_1
      refine r_cv (ws2 := [(m0, .inr (6, [.ref ms, .ref mh, .int (iJ (kp)), .ref mn, .int (iJ (sv)), .ref mp, .int (iJ (pn)), .int (iJ (rf)), .ref ml, .ref mm, .ref md, .ref mw, .ref mt, .int (iJ (tl)), .ref mb, .ref mi, .ref mg])), (ms, cJ cI 34 (s)), (ml, cJ cI 99 (LT)), (mm, cL cJ_ 99 (MT)), (md, cJ cI 32 (HT))]) (st2 := [.int (iJ (b2 (lsS s (-4) 0 2 < 1000)))]) rfl rfl rfl ?_
      obtain ⟨hT1, hH1⟩ := hp_1
      try dsimp only at hT1 hH1
      refine r_ifeq_b E 122 dX7_step_110 (by decide) (fun c_110 => ?_) (fun c_110 => ?_)
      · refine r_bipush E (-4) rfl dX7_step_122 ?_
        exact r_retM E (LT, MT, HT) hr dX7_step_124 (by first | (rw [if_pos c_110]; exact hH1 c_110 a ha.1 ha.2) | (rw [if_neg c_110])) trivial rfl hQ
      · refine r_aload_n E 0 dX7_step_113 rfl rfl ?_
        refine r_get E 6 0 10 dX7_step_114 in_X7_step_X7 lk_X7_step_29 rfl rfl (by decide) rfl ?_
        refine r_iload_n E 1 dX7_step_117 rfl rfl ?_
        refine r_iald E (i := a) 4 0 dX7_step_118 rfl rfl (by decide) ⟨by omega, by omega⟩ ?_
        refine r_goto E 124 dX7_step_119 (by decide) ?_
        exact r_retM E (LT, MT, HT) hr dX7_step_124 (by first | (rw [if_pos c_110]; exact hH1 c_110 a ha.1 ha.2) | (rw [if_neg c_110])) trivial rfl hQ
    · refine r_iconst E 1 rfl dX7_step_102 ?_
      refine r_goto E 107 dX7_step_103 (by decide) ?_
      refine r_top (b := pr) (by omega) ?_
      refine r_vM E (st := []) (c_X7_stick l D m0 ms mh mn mp ml mm md mw mt mb mi mg cI kp sv pn rf tl cJ_ s le my hd pr (by first | assumption | omega | exact ⟨by omega, by omega⟩) (by first | assumption | omega | exact ⟨by omega, by omega⟩) (by first | assumption | omega | exact ⟨by omega, by omega⟩) (by first | assumption | omega | exact ⟨by omega, by omega⟩)) gX7_step_X7_stick 1 kf_X7_stick ⟨rfl, rfl⟩ ⟨by decide, by decide⟩ dX7_step_107 rfl 0 rfl rfl rfl rfl ⟨Nat.zero_le _, Nat.zero_le _⟩ [0, 1, 2, 3, 4] rfl (by decide) [0, 1] rfl (Nat.le_of_ble_eq_true rfl) [] [] rfl (by decide) (by decide) hA [0, 1, 2, 3, 4] (by decide) (fun u : (Int → Int) × (Int → Int) × (Int → Int) => [(m0, .inr (6, [.ref ms, .ref mh, .int (iJ (kp)), .ref mn, .int (iJ (sv)), .ref mp, .int (iJ (pn)), .int (iJ (rf)), .ref ml, .ref mm, .ref md, .ref mw, .ref mt, .int (iJ (tl)), .ref mb, .ref mi, .ref mg])), (ms, cJ cI 34 (s)), (ml, cJ cI 99 (u.1)), (mm, cL cJ_ 99 (u.2.1)), (md, cJ cI 32 (u.2.2))]) (fun _ => rfl) ?_
      rintro ⟨LT, MT, HT⟩ hp_2
      refine r_cv (ws2 := [(m0, .inr (6, [.ref ms, .ref mh, .int (iJ (kp)), .ref mn, .int (iJ (sv)), .ref mp, .int (iJ (pn)), .int (iJ (rf)), .ref ml, .ref mm, .ref md, .ref mw, .ref mt, .int (iJ (tl)), .ref mb, .ref mi, .ref mg])), (ms, cJ cI 34 (s)), (ml, cJ cI 99 (LT)), (mm, cL cJ_ 99 (MT)), (md, cJ cI 32 (HT))]) (st2 := [.int (iJ (b2 (lsS s (-4) 0 2 < 1000)))]) rfl rfl rfl ?_
      obtain ⟨hT1, hH1⟩ := hp_2
      try dsimp only at hT1 hH1
      refine r_ifeq_b E 122 dX7_step_110 (by decide) (fun c_110 => ?_) (fun c_110 => ?_)
      · refine r_bipush E (-4) rfl dX7_step_122 ?_
        exact r_retM E (LT, MT, HT) hr dX7_step_124 (by first | (rw [if_pos c_110]; exact hH1 c_110 a ha.1 ha.2) | (rw [if_neg c_110])) trivial rfl hQ
      · refine r_aload_n E 0 dX7_step_113 rfl rfl ?_
        refine r_get E 6 0 10 dX7_step_114 in_X7_step_X7 lk_X7_step_29 rfl rfl (by decide) rfl ?_
        refine r_iload_n E 1 dX7_step_117 rfl rfl ?_
        refine r_iald E (i := a) 4 0 dX7_step_118 rfl rfl (by decide) ⟨by omega, by omega⟩ ?_
        refine r_goto E 124 dX7_step_119 (by decide) ?_
        exact r_retM E (LT, MT, HT) hr dX7_step_124 (by first | (rw [if_pos c_110]; exact hH1 c_110 a ha.1 ha.2) | (rw [if_neg c_110])) trivial rfl hQ
  by_cases c_11_6 : w = 6
  · refine r_tabIn E 6 95 dX7_step_11 c_11_6 ⟨by decide, by decide⟩ (by decide) (by decide) rfl (by decide) ?_
    refine r_aload_n E 0 dX7_step_95 rfl rfl ?_
    refine r_iload_n E 2 dX7_step_96 rfl rfl ?_
    refine r_bipush E 6 rfl dX7_step_97 ?_
    refine r_icmp_ne E 106 dX7_step_99 (by decide) ⟨by omega, by omega⟩ ⟨by omega, by omega⟩ (fun c_99 => ?_) (fun c_99 => ?_)
    · refine r_iconst E 0 rfl dX7_step_106 ?_
      refine r_top (b := pr) (by omega) ?_
      refine r_vM E (st := []) (c_X7_stick l D m0 ms mh mn mp ml mm md mw mt mb mi mg cI kp sv pn rf tl cJ_ s le my hd pr (by first | assumption | omega | exact ⟨by omega, by omega⟩) (by first | assumption | omega | exact ⟨by omega, by omega⟩) (by first | assumption | omega | exact ⟨by omega, by omega⟩) (by first | assumption | omega | exact ⟨by omega, by omega⟩)) gX7_step_X7_stick 1 kf_X7_stick ⟨rfl, rfl⟩ ⟨by decide, by decide⟩ dX7_step_107 rfl 0 rfl rfl rfl rfl ⟨Nat.zero_le _, Nat.zero_le _⟩ [0, 1, 2, 3, 4] rfl (by decide) [0, 1] rfl (Nat.le_of_ble_eq_true rfl) [] [] rfl (by decide) (by decide) hA [0, 1, 2, 3, 4] (by decide) (fun u : (Int → Int) × (Int → Int) × (Int → Int) => [(m0, .inr (6, [.ref ms, .ref mh, .int (iJ (kp)), .ref mn, .int (iJ (sv)), .ref mp, .int (iJ (pn)), .int (iJ (rf)), .ref ml, .ref mm, .ref md, .ref mw, .ref mt, .int (iJ (tl)), .ref mb, .ref mi, .ref mg])), (ms, cJ cI 34 (s)), (ml, cJ cI 99 (u.1)), (mm, cL cJ_ 99 (u.2.1)), (md, cJ cI 32 (u.2.2))]) (fun _ => rfl) ?_
      rintro ⟨LT, MT, HT⟩ hp_3
      refine r_cv (ws2 := [(m0, .inr (6, [.ref ms, .ref mh, .int (iJ (kp)), .ref mn, .int (iJ (sv)), .ref mp, .int (iJ (pn)), .int (iJ (rf)), .ref ml, .ref mm, .ref md, .ref mw, .ref mt, .int (iJ (tl)), .ref mb, .ref mi, .ref mg])), (ms, cJ cI 34 (s)), (ml, cJ cI 99 (LT)), (mm, cL cJ_ 99 (MT)), (md, cJ cI 32 (HT))]) (st2 := [.int (iJ (b2 (lsS s (-4) 0 2 < 1000)))]) rfl rfl rfl ?_
      obtain ⟨hT1, hH1⟩ := hp_3
      try dsimp only at hT1 hH1
      refine r_ifeq_b E 122 dX7_step_110 (by decide) (fun c_110 => ?_) (fun c_110 => ?_)
      · refine r_bipush E (-4) rfl dX7_step_122 ?_
        exact r_retM E (LT, MT, HT) hr dX7_step_124 (by first | (rw [if_pos c_110]; exact hH1 c_110 a ha.1 ha.2) | (rw [if_neg c_110])) trivial rfl hQ
      · refine r_aload_n E 0 dX7_step_113 rfl rfl ?_
        refine r_get E 6 0 10 dX7_step_114 in_X7_step_X7 lk_X7_step_29 rfl rfl (by decide) rfl ?_
        refine r_iload_n E 1 dX7_step_117 rfl rfl ?_
        refine r_iald E (i := a) 4 0 dX7_step_118 rfl rfl (by decide) ⟨by omega, by omega⟩ ?_
        refine r_goto E 124 dX7_step_119 (by decide) ?_
        exact r_retM E (LT, MT, HT) hr dX7_step_124 (by first | (rw [if_pos c_110]; exact hH1 c_110 a ha.1 ha.2) | (rw [if_neg c_110])) trivial rfl hQ
    · refine r_iconst E 1 rfl dX7_step_102 ?_
      refine r_goto E 107 dX7_step_103 (by decide) ?_
      refine r_top (b := pr) (by omega) ?_
      refine r_vM E (st := []) (c_X7_stick l D m0 ms mh mn mp ml mm md mw mt mb mi mg cI kp sv pn rf tl cJ_ s le my hd pr (by first | assumption | omega | exact ⟨by omega, by omega⟩) (by first | assumption | omega | exact ⟨by omega, by omega⟩) (by first | assumption | omega | exact ⟨by omega, by omega⟩) (by first | assumption | omega | exact ⟨by omega, by omega⟩)) gX7_step_X7_stick 1 kf_X7_stick ⟨rfl, rfl⟩ ⟨by decide, by decide⟩ dX7_step_107 rfl 0 rfl rfl rfl rfl ⟨Nat.zero_le _, Nat.zero_le _⟩ [0, 1, 2, 3, 4] rfl (by decide) [0, 1] rfl (Nat.le_of_ble_eq_true rfl) [] [] rfl (by decide) (by decide) hA [0, 1, 2, 3, 4] (by decide) (fun u : (Int → Int) × (Int → Int) × (Int → Int) => [(m0, .inr (6, [.ref ms, .ref mh, .int (iJ (kp)), .ref mn, .int (iJ (sv)), .ref mp, .int (iJ (pn)), .int (iJ (rf)), .ref ml, .ref mm, .ref md, .ref mw, .ref mt, .int (iJ (tl)), .ref mb, .ref mi, .ref mg])), (ms, cJ cI 34 (s)), (ml, cJ cI 99 (u.1)), (mm, cL cJ_ 99 (u.2.1)), (md, cJ cI 32 (u.2.2))]) (fun _ => rfl) ?_
      rintro ⟨LT, MT, HT⟩ hp_4
      refine r_cv (ws2 := [(m0, .inr (6, [.ref ms, .ref mh, .int (iJ (kp)), .ref mn, .int (iJ (sv)), .ref mp, .int (iJ (pn)), .int (iJ (rf)), .ref ml, .ref mm, .ref md, .ref mw, .ref mt, .int (iJ (tl)), .ref mb, .ref mi, .ref mg])), (ms, cJ cI 34 (s)), (ml, cJ cI 99 (LT)), (mm, cL cJ_ 99 (MT)), (md, cJ cI 32 (HT))]) (st2 := [.int (iJ (b2 (lsS s (-4) 0 2 < 1000)))]) rfl rfl rfl ?_
      obtain ⟨hT1, hH1⟩ := hp_4
      try dsimp only at hT1 hH1
      refine r_ifeq_b E 122 dX7_step_110 (by decide) (fun c_110 => ?_) (fun c_110 => ?_)
      · refine r_bipush E (-4) rfl dX7_step_122 ?_
        exact r_retM E (LT, MT, HT) hr dX7_step_124 (by first | (rw [if_pos c_110]; exact hH1 c_110 a ha.1 ha.2) | (rw [if_neg c_110])) trivial rfl hQ
      · refine r_aload_n E 0 dX7_step_113 rfl rfl ?_
        refine r_get E 6 0 10 dX7_step_114 in_X7_step_X7 lk_X7_step_29 rfl rfl (by decide) rfl ?_
        refine r_iload_n E 1 dX7_step_117 rfl rfl ?_
        refine r_iald E (i := a) 4 0 dX7_step_118 rfl rfl (by decide) ⟨by omega, by omega⟩ ?_
        refine r_goto E 124 dX7_step_119 (by decide) ?_
        exact r_retM E (LT, MT, HT) hr dX7_step_124 (by first | (rw [if_pos c_110]; exact hH1 c_110 a ha.1 ha.2) | (rw [if_neg c_110])) trivial rfl hQ
  exfalso; omega
theorem kf_X7_decide : KF yX7_decide 1 wsX7_decide cX7_decide 4 (some .int) := ⟨rfl, by decide +kernel, by decide +kernel, by decide +kernel⟩
def rm_X7_decide : Room := { frames := 10, cells := 0, slots := 0, locals := 235 }
set_option maxHeartbeats 1000000 in
set_option maxRecDepth 100000 in
theorem c_X7_decideNo (l : Launch) (D : va_G) (m0 : Nat) (ms : Nat) (mh : Nat) (mn : Nat) (mp : Nat) (ml : Nat) (mm : Nat) (md : Nat) (mw : Nat) (mt : Nat) (mb : Nat) (mi : Nat) (mg : Nat) (cI : ClassId) (kp : Int) (sv : Int) (pn : Int) (rf : Int) (tl : Int) (cJ_ : ClassId) (s : Int → Int) (le : Int → Int) (my : Int → Int) (hd : Int → Int) (pr : Int) (hs0 : 0 ≤ s 0 ∧ s 0 ≤ 32) (hs1 : 1 ≤ s 1 ∧ s 1 ≤ 4) (hsv : ∀ j : Int, 0 ≤ j → j < s 0 → 0 ≤ s (2 + j) ∧ s (2 + j) ≤ 24) (hpr : pr = 0 ∨ pr = 1) (hx : ¬ lsS s (-4) 0 2 < 1000) : MM (S := (Int → Int) × (Int → Int) × (Int → Int)) l yX7_decide wsX7_decide rm_X7_decide D vwCl [.ref m0, .int (iJ (pr))] [(m0, .inr (6, [.ref ms, .ref mh, .int (iJ (kp)), .ref mn, .int (iJ (sv)), .ref mp, .int (iJ (pn)), .int (iJ (rf)), .ref ml, .ref mm, .ref md, .ref mw, .ref mt, .int (iJ (tl)), .ref mb, .ref mi, .ref mg])), (ms, cJ cI 34 (s)), (ml, cJ cI 99 (le)), (mm, cL cJ_ 99 (my)), (md, cJ cI 32 (hd))] [(cI, .int), (cJ_, .long)] (fun (u : (Int → Int) × (Int → Int) × (Int → Int)) => -2) (fun (u : (Int → Int) × (Int → Int) × (Int → Int)) => True) (fun (u : (Int → Int) × (Int → Int) × (Int → Int)) => [(m0, .inr (6, [.ref ms, .ref mh, .int (iJ (kp)), .ref mn, .int (iJ (sv)), .ref mp, .int (iJ (pn)), .int (iJ (rf)), .ref ml, .ref mm, .ref md, .ref mw, .ref mt, .int (iJ (tl)), .ref mb, .ref mi, .ref mg])), (ms, cJ cI 34 (s)), (ml, cJ cI 99 (u.1)), (mm, cL cJ_ 99 (u.2.1)), (md, cJ cI 32 (u.2.2))]) := by
  refine MM.mk (cc := cX7_decide) (maxL := 4) (ret := (some .int)) (by decide) rfl (Nat.le_of_ble_eq_true rfl) rfl RX7 rfl ?_
  intro p_ e_ s_ m_ ar_ bw_ mt_ cd_ B_ Q_ hA E hr hQ
  refine r_aload_n E 0 dX7_decide_0 rfl rfl ?_
  refine r_iload_n E 1 dX7_decide_1 rfl rfl ?_
  refine r_vM E (st := []) (c_X7_stick l D m0 ms mh mn mp ml mm md mw mt mb mi mg cI kp sv pn rf tl cJ_ s le my hd pr (by first | assumption | omega | exact ⟨by omega, by omega⟩) (by first | assumption | omega | exact ⟨by omega, by omega⟩) (by first | assumption | omega | exact ⟨by omega, by omega⟩) (by first | assumption | omega | exact ⟨by omega, by omega⟩)) gX7_decide_X7_stick 1 kf_X7_stick ⟨rfl, rfl⟩ ⟨by decide, by decide⟩ dX7_decide_2 rfl 0 rfl rfl rfl rfl ⟨Nat.zero_le _, Nat.zero_le _⟩ [0, 1, 2, 3, 4] rfl (by decide) [0, 1] rfl (Nat.le_of_ble_eq_true rfl) [] [] rfl (by decide) (by decide) hA [0, 1, 2, 3, 4] (by decide) (fun u : (Int → Int) × (Int → Int) × (Int → Int) => [(m0, .inr (6, [.ref ms, .ref mh, .int (iJ (kp)), .ref mn, .int (iJ (sv)), .ref mp, .int (iJ (pn)), .int (iJ (rf)), .ref ml, .ref mm, .ref md, .ref mw, .ref mt, .int (iJ (tl)), .ref mb, .ref mi, .ref mg])), (ms, cJ cI 34 (s)), (ml, cJ cI 99 (u.1)), (mm, cL cJ_ 99 (u.2.1)), (md, cJ cI 32 (u.2.2))]) (fun _ => rfl) ?_
  rintro ⟨LT, MT, HT⟩ hp_1
  refine r_cv (ws2 := [(m0, .inr (6, [.ref ms, .ref mh, .int (iJ (kp)), .ref mn, .int (iJ (sv)), .ref mp, .int (iJ (pn)), .int (iJ (rf)), .ref ml, .ref mm, .ref md, .ref mw, .ref mt, .int (iJ (tl)), .ref mb, .ref mi, .ref mg])), (ms, cJ cI 34 (s)), (ml, cJ cI 99 (LT)), (mm, cL cJ_ 99 (MT)), (md, cJ cI 32 (HT))]) (st2 := [.int (iJ (b2 (lsS s (-4) 0 2 < 1000)))]) rfl rfl rfl ?_
  obtain ⟨hT1, hH1⟩ := hp_1
  try dsimp only at hT1 hH1
  refine r_ifne_b E 11 dX7_decide_5 (by decide) (fun c_5 => absurd c_5 (by omega)) (fun c_5 => ?_)
  refine r_bipush E (-2) rfl dX7_decide_8 ?_
  exact r_retM E (LT, MT, HT) hr dX7_decide_10 rfl trivial rfl hQ
set_option maxRecDepth 20000 in
theorem in_X7_decide_X7 : ∀ w ∈ u_ws RX7 TX7 17, w ∈ wsX7_decide := by decide +kernel
set_option maxRecDepth 20000 in
theorem lk_X7_decide_7 : Cond.fieldLink RX7 7 (TX7 0).1 (TX7 0).2.1 (TX7 0).2.2.1 ∈ wsX7_decide := by decide +kernel
set_option maxRecDepth 20000 in
theorem lk_X7_decide_29 : Cond.fieldLink RX7 29 (TX7 10).1 (TX7 10).2.1 (TX7 10).2.2.1 ∈ wsX7_decide := by decide +kernel
set_option maxHeartbeats 1000000 in
set_option maxRecDepth 100000 in
theorem c_X7_decide (l : Launch) (D : va_G) (m0 : Nat) (ms : Nat) (mh : Nat) (mn : Nat) (mp : Nat) (ml : Nat) (mm : Nat) (md : Nat) (mw : Nat) (mt : Nat) (mb : Nat) (mi : Nat) (mg : Nat) (cI : ClassId) (kp : Int) (sv : Int) (pn : Int) (rf : Int) (tl : Int) (cJ_ : ClassId) (s : Int → Int) (le : Int → Int) (my : Int → Int) (hd : Int → Int) (h : Int → Int) (pr : Int) (hs0 : 0 ≤ s 0 ∧ s 0 ≤ 32) (hs1 : 1 ≤ s 1 ∧ s 1 ≤ 4) (hsv : ∀ j : Int, 0 ≤ j → j < s 0 → 0 ≤ s (2 + j) ∧ s (2 + j) ≤ 24) (hkp : 0 ≤ kp ∧ kp ≤ 4) (hpr : pr = 0 ∨ pr = 1) (hx : lsS s (-4) 0 2 < 1000) : MM (S := (Int → Int) × (Int → Int) × (Int → Int)) l yX7_decide wsX7_decide rm_X7_decide D vwCl [.ref m0, .int (iJ (pr))] [(m0, .inr (6, [.ref ms, .ref mh, .int (iJ (kp)), .ref mn, .int (iJ (sv)), .ref mp, .int (iJ (pn)), .int (iJ (rf)), .ref ml, .ref mm, .ref md, .ref mw, .ref mt, .int (iJ (tl)), .ref mb, .ref mi, .ref mg])), (ms, cJ cI 34 (s)), (ml, cJ cI 99 (le)), (mm, cL cJ_ 99 (my)), (md, cJ cI 32 (hd)), (mh, cJ cI 136 (h))] [(cI, .int), (cJ_, .long)] (fun (u : (Int → Int) × (Int → Int) × (Int → Int)) => sm (fun j => b2 (¬ s (2 + j) = 0 ∧ (s (2 + j) - 1) % 3 = 2)) (s 0)) (fun (u : (Int → Int) × (Int → Int) × (Int → Int)) => True) (fun (u : (Int → Int) × (Int → Int) × (Int → Int)) => [(m0, .inr (6, [.ref ms, .ref mh, .int (iJ (rcK kp)), .ref mn, .int (iJ (sv)), .ref mp, .int (iJ (pn)), .int (iJ (rf)), .ref ml, .ref mm, .ref md, .ref mw, .ref mt, .int (iJ (tl)), .ref mb, .ref mi, .ref mg])), (ms, cJ cI 34 (mpS (deM (fun j => mcB s pr (j + 1))) s (s 0))), (ml, cJ cI 99 (u.1)), (mm, cL cJ_ 99 (u.2.1)), (md, cJ cI 32 (u.2.2)), (mh, cJ cI 136 (rcH s h kp))]) := by
  refine MM.mk (cc := cX7_decide) (maxL := 4) (ret := (some .int)) (by decide) rfl (Nat.le_of_ble_eq_true rfl) rfl RX7 rfl ?_
  intro p_ e_ s_ m_ ar_ bw_ mt_ cd_ B_ Q_ hA E hr hQ
  refine r_aload_n E 0 dX7_decide_0 rfl rfl ?_
  refine r_iload_n E 1 dX7_decide_1 rfl rfl ?_
  refine r_vM E (st := []) (c_X7_stick l D m0 ms mh mn mp ml mm md mw mt mb mi mg cI kp sv pn rf tl cJ_ s le my hd pr (by first | assumption | omega | exact ⟨by omega, by omega⟩) (by first | assumption | omega | exact ⟨by omega, by omega⟩) (by first | assumption | omega | exact ⟨by omega, by omega⟩) (by first | assumption | omega | exact ⟨by omega, by omega⟩)) gX7_decide_X7_stick 1 kf_X7_stick ⟨rfl, rfl⟩ ⟨by decide, by decide⟩ dX7_decide_2 rfl 0 rfl rfl rfl rfl ⟨Nat.zero_le _, Nat.zero_le _⟩ [0, 1, 2, 3, 4] rfl (by decide) [0, 1] rfl (Nat.le_of_ble_eq_true rfl) [(mh, cJ cI 136 (h))] [5] rfl (by decide) (by decide) hA [1, 2, 3, 4, 5, 0] (by decide) (fun u : (Int → Int) × (Int → Int) × (Int → Int) => [(m0, .inr (6, [.ref ms, .ref mh, .int (iJ (kp)), .ref mn, .int (iJ (sv)), .ref mp, .int (iJ (pn)), .int (iJ (rf)), .ref ml, .ref mm, .ref md, .ref mw, .ref mt, .int (iJ (tl)), .ref mb, .ref mi, .ref mg])), (ms, cJ cI 34 (s)), (ml, cJ cI 99 (u.1)), (mm, cL cJ_ 99 (u.2.1)), (md, cJ cI 32 (u.2.2)), (mh, cJ cI 136 (h))]) (fun _ => rfl) ?_
  rintro ⟨LT, MT, HT⟩ hp_1
  refine r_cv (ws2 := [(m0, .inr (6, [.ref ms, .ref mh, .int (iJ (kp)), .ref mn, .int (iJ (sv)), .ref mp, .int (iJ (pn)), .int (iJ (rf)), .ref ml, .ref mm, .ref md, .ref mw, .ref mt, .int (iJ (tl)), .ref mb, .ref mi, .ref mg])), (ms, cJ cI 34 (s)), (ml, cJ cI 99 (LT)), (mm, cL cJ_ 99 (MT)), (md, cJ cI 32 (HT)), (mh, cJ cI 136 (h))]) (st2 := [.int (iJ (b2 (lsS s (-4) 0 2 < 1000)))]) rfl rfl rfl ?_
  obtain ⟨hT1, hH1⟩ := hp_1
  try dsimp only at hT1 hH1
  refine r_ifne_b E 11 dX7_decide_5 (by decide) (fun c_5 => ?_) (fun c_5 => absurd c_5 (by omega))
  refine r_aload_n E 0 dX7_decide_11 rfl rfl ?_
  refine r_vV E (st := []) (c_X7_record l D m0 ms mh mn mp ml mm md mw mt mb mi mg cI kp sv pn rf tl s h (by first | assumption | omega | exact ⟨by omega, by omega⟩)) gX7_decide_X7_record 0 kf_X7_record ⟨rfl, rfl⟩ ⟨by decide, by decide⟩ dX7_decide_12 rfl 0 rfl rfl rfl rfl ⟨Nat.zero_le _, Nat.zero_le _⟩ [0, 1, 5] rfl (by decide) [0] rfl (Nat.le_of_ble_eq_true rfl) [(ml, cJ cI 99 (LT)), (mm, cL cJ_ 99 (MT)), (md, cJ cI 32 (HT))] [2, 3, 4] rfl (by decide) (by decide) hA [3, 4, 0, 1, 2, 5] (by decide) (fun (_ : Unit) => [(m0, .inr (6, [.ref ms, .ref mh, .int (iJ (rcK kp)), .ref mn, .int (iJ (sv)), .ref mp, .int (iJ (pn)), .int (iJ (rf)), .ref ml, .ref mm, .ref md, .ref mw, .ref mt, .int (iJ (tl)), .ref mb, .ref mi, .ref mg])), (ms, cJ cI 34 (s)), (ml, cJ cI 99 (LT)), (mm, cL cJ_ 99 (MT)), (md, cJ cI 32 (HT)), (mh, cJ cI 136 (rcH s h kp))]) (fun _ => rfl) ?_
  rintro ⟨⟩ hp_2
  refine r_iconst E 0 rfl dX7_decide_15 ?_
  refine r_istore_n E [(2, .int (iJ (0))), (0, .ref m0), (1, .int (iJ (pr)))] dX7_decide_16 rfl (by decide) rfl ?_
  refine r_iconst E 0 rfl dX7_decide_17 ?_
  refine r_istore_n E [(3, .int (iJ (0))), (2, .int (iJ (0))), (0, .ref m0), (1, .int (iJ (pr)))] dX7_decide_18 rfl (by decide) rfl ?_
  have loop_19 : ∀ (N : Nat) (k : Int) (x : Int) (G : Int → Int), (0 ≤ k ∧ k ≤ s 0) → (x = sm (fun j => b2 (¬ s (2 + j) = 0 ∧ (s (2 + j) - 1) % 3 = 2)) k) → (G = mpS (deM (fun j => mcB s pr (j + 1))) s k) → (s 0 - k).toNat < N → GG p_ l e_ rm_X7_decide s_ m_ ar_ bw_ mt_ cd_ D vwCl B_ B_ s_.heap 4 0 0 Q_ [(m0, .inr (6, [.ref ms, .ref mh, .int (iJ (rcK kp)), .ref mn, .int (iJ (sv)), .ref mp, .int (iJ (pn)), .int (iJ (rf)), .ref ml, .ref mm, .ref md, .ref mw, .ref mt, .int (iJ (tl)), .ref mb, .ref mi, .ref mg])), (ms, cJ cI 34 (G)), (ml, cJ cI 99 (LT)), (mm, cL cJ_ 99 (MT)), (md, cJ cI 32 (HT)), (mh, cJ cI 136 (rcH s h kp))] [(0, .ref m0), (1, .int (iJ (pr))), (2, .int (iJ (x))), (3, .int (iJ (k)))] 19 [] := by
    intro N; induction N with
    | zero => intro k x G hk hx2 hG hN; exact absurd hN (Nat.not_lt_zero _)
    | succ N ih19 =>
      intro k x G hk hx2 hG hN
      refine r_iload_n E 3 dX7_decide_19 rfl rfl ?_
      refine r_aload_n E 0 dX7_decide_20 rfl rfl ?_
      refine r_get E 6 0 0 dX7_decide_21 in_X7_decide_X7 lk_X7_decide_7 rfl rfl (by decide) rfl ?_
      refine r_iconst E 0 rfl dX7_decide_24 ?_
      refine r_iald E (i := 0) 1 0 dX7_decide_25 rfl rfl (by decide) ⟨by omega, by omega⟩ ?_
      refine r_top (b := (s 0)) (by rw [hG]; exact mpS_n.1) ?_
      refine r_icmp_ge E 82 dX7_decide_26 (by decide) ⟨by omega, by omega⟩ ⟨by omega, by omega⟩ (fun c_26 => ?_) (fun c_26 => ?_)
      · refine r_iload_n E 2 dX7_decide_82 rfl rfl ?_
        exact r_retM E (LT, MT, HT) hr dX7_decide_83 (by
              have e : k = s 0 := by omega
              rw [hx2, e]) trivial (by
              have e : k = s 0 := by omega
              rw [hG, e]) hQ
      · have f_k : G (2 + k) = s (2 + k) := by rw [hG]; exact mpS_at
        have f_c := hsv k (by omega) (by omega)
        have f_o := mOr_in (c := s (2 + k)) f_c
        refine r_aload_n E 0 dX7_decide_29 rfl rfl ?_
        refine r_iload_n E 3 dX7_decide_30 rfl rfl ?_
        refine r_vP E (st := []) (c_X7_isStroke l D m0 ms mh mn mp ml mm md mw mt mb mi mg cI (rcK kp) sv pn rf tl G k (by first | assumption | omega | exact ⟨by omega, by omega⟩) (by rw [f_k]; omega)) gX7_decide_X7_isStroke 1 kf_X7_isStroke ⟨rfl, rfl⟩ ⟨by decide, by decide⟩ dX7_decide_31 rfl 0 rfl rfl rfl rfl ⟨Nat.zero_le _, Nat.zero_le _⟩ [0, 1] rfl (by decide) [0] rfl (Nat.le_of_ble_eq_true rfl) ?_
        refine r_ifeq_n E 76 dX7_decide_34 (by decide) (fun c_34 => ?_) (fun c_34 => ?_)
        · refine r_iinc E (k := 3) [(3, .int (iJ ((k + 1)))), (0, .ref m0), (1, .int (iJ (pr))), (2, .int (iJ (x)))] dX7_decide_76 rfl (by decide) rfl ?_
          refine r_goto E 19 dX7_decide_79 (by decide) ?_
          refine r_lv [1, 2, 3, 0] [(0, .ref m0), (1, .int (iJ (pr))), (2, .int (iJ (x))), (3, .int (iJ ((k + 1))))] rfl ?_
          exact ih19 (k + 1) x G ⟨by omega, by omega⟩ (by
                rw [sm_s _ (by omega), hx2]; rw [f_k] at c_34; try rw [f_k] at c_43
                first | (simp [b2, c_34, c_43]; done) | simp [b2, c_34]) (by
                rw [f_k] at c_34
                first
                | (rw [f_k] at c_43; rw [hG]; exact mpS_s1 _ _ (by omega) (by rw [mpS_at, f_h]; exact (if_pos (show ¬ s (2 + k) = 0 ∧ (s (2 + k) - 1) % 3 = 2 from ⟨c_34, c_43⟩)).symm))
                | (rw [hG]; exact mpS_s0 _ _ (by omega) (by unfold deM; rw [if_neg (fun z => by first | exact z.1 c_34 | (rw [f_k] at c_43; exact c_43 z.2))]))) (by omega)
        · refine r_aload_n E 0 dX7_decide_37 rfl rfl ?_
          refine r_iload_n E 3 dX7_decide_38 rfl rfl ?_
          refine r_vP E (st := []) (c_X7_hand l D m0 ms mh mn mp ml mm md mw mt mb mi mg cI (rcK kp) sv pn rf tl G k (by first | assumption | omega | exact ⟨by omega, by omega⟩) (by rw [f_k]; omega)) gX7_decide_X7_hand 1 kf_X7_hand ⟨rfl, rfl⟩ ⟨by decide, by decide⟩ dX7_decide_39 rfl 0 rfl rfl rfl rfl ⟨Nat.zero_le _, Nat.zero_le _⟩ [0, 1] rfl (by decide) [0] rfl (Nat.le_of_ble_eq_true rfl) ?_
          refine r_iconst E 2 rfl dX7_decide_42 ?_
          refine r_icmp_ne E 76 dX7_decide_43 (by decide) ⟨by omega, by omega⟩ ⟨by omega, by omega⟩ (fun c_43 => ?_) (fun c_43 => ?_)
          · refine r_iinc E (k := 3) [(3, .int (iJ ((k + 1)))), (0, .ref m0), (1, .int (iJ (pr))), (2, .int (iJ (x)))] dX7_decide_76 rfl (by decide) rfl ?_
            refine r_goto E 19 dX7_decide_79 (by decide) ?_
            refine r_lv [1, 2, 3, 0] [(0, .ref m0), (1, .int (iJ (pr))), (2, .int (iJ (x))), (3, .int (iJ ((k + 1))))] rfl ?_
            exact ih19 (k + 1) x G ⟨by omega, by omega⟩ (by
                  rw [sm_s _ (by omega), hx2]; rw [f_k] at c_34; try rw [f_k] at c_43
                  first | (simp [b2, c_34, c_43]; done) | simp [b2, c_34]) (by
                  rw [f_k] at c_34
                  first
                  | (rw [f_k] at c_43; rw [hG]; exact mpS_s1 _ _ (by omega) (by rw [mpS_at, f_h]; exact (if_pos (show ¬ s (2 + k) = 0 ∧ (s (2 + k) - 1) % 3 = 2 from ⟨c_34, c_43⟩)).symm))
                  | (rw [hG]; exact mpS_s0 _ _ (by omega) (by unfold deM; rw [if_neg (fun z => by first | exact z.1 c_34 | (rw [f_k] at c_43; exact c_43 z.2))]))) (by omega)
          · refine r_aload_n E 0 dX7_decide_46 rfl rfl ?_
            refine r_get E 6 0 0 dX7_decide_47 in_X7_decide_X7 lk_X7_decide_7 rfl rfl (by decide) rfl ?_
            refine r_iconst E 2 rfl dX7_decide_50 ?_
            refine r_iload_n E 3 dX7_decide_51 rfl rfl ?_
            refine r_iadd E dX7_decide_52 ?_
            refine r_aload_n E 0 dX7_decide_53 rfl rfl ?_
            refine r_get E 6 0 10 dX7_decide_54 in_X7_decide_X7 lk_X7_decide_29 rfl rfl (by decide) rfl ?_
            refine r_iload_n E 3 dX7_decide_57 rfl rfl ?_
            refine r_iald E (i := k) 4 0 dX7_decide_58 rfl rfl (by decide) ⟨by omega, by omega⟩ ?_
            have f_h : HT k = mcB s pr (k + 1) := (hH1 hx k (by omega) (by omega)).trans (if_neg (by rw [← f_k]; exact c_34))
            have f_b := mcB_in (s := s) (be := pr) (k := k + 1)
            refine r_aload_n E 0 dX7_decide_59 rfl rfl ?_
            refine r_iload_n E 3 dX7_decide_60 rfl rfl ?_
            refine r_vP E (st := [.int (iJ (HT k)), .int (iJ ((2 + k))), .ref ms]) (c_X7_accent l D m0 ms mh mn mp ml mm md mw mt mb mi mg cI (rcK kp) sv pn rf tl G k (by first | assumption | omega | exact ⟨by omega, by omega⟩) (by rw [f_k]; omega)) gX7_decide_X7_accent 1 kf_X7_accent ⟨rfl, rfl⟩ ⟨by decide, by decide⟩ dX7_decide_61 rfl 0 rfl rfl rfl rfl ⟨Nat.zero_le _, Nat.zero_le _⟩ [0, 1] rfl (by decide) [0] rfl (Nat.le_of_ble_eq_true rfl) ?_
            refine r_aload_n E 0 dX7_decide_64 rfl rfl ?_
            refine r_iload_n E 3 dX7_decide_65 rfl rfl ?_
            refine r_vP E (st := [.int (iJ (mAc (G (2 + k)))), .int (iJ (HT k)), .int (iJ ((2 + k))), .ref ms]) (c_X7_ornament l D m0 ms mh mn mp ml mm md mw mt mb mi mg cI (rcK kp) sv pn rf tl G k (by first | assumption | omega | exact ⟨by omega, by omega⟩) (by rw [f_k]; omega)) gX7_decide_X7_ornament 1 kf_X7_ornament ⟨rfl, rfl⟩ ⟨by decide, by decide⟩ dX7_decide_66 rfl 0 rfl rfl rfl rfl ⟨Nat.zero_le _, Nat.zero_le _⟩ [0, 1] rfl (by decide) [0] rfl (Nat.le_of_ble_eq_true rfl) ?_
            refine r_sP E (st := [.int (iJ ((2 + k))), .ref ms]) (c_X7_code l D (HT k) (mAc (G (2 + k))) (mOr (G (2 + k)))) gX7_decide_X7_code 3 kf_X7_code ⟨rfl, rfl⟩ ⟨by decide, by decide⟩ dX7_decide_69 rfl rfl ⟨Nat.zero_le _, Nat.zero_le _⟩ [] rfl (by decide) [] rfl (Nat.le_of_ble_eq_true rfl) ?_
            refine r_iast E (i := (2 + k)) 1 0 dX7_decide_72 rfl rfl (by decide) ⟨by omega, by omega⟩ [(m0, .inr (6, [.ref ms, .ref mh, .int (iJ (rcK kp)), .ref mn, .int (iJ (sv)), .ref mp, .int (iJ (pn)), .int (iJ (rf)), .ref ml, .ref mm, .ref md, .ref mw, .ref mt, .int (iJ (tl)), .ref mb, .ref mi, .ref mg])), (ms, cJ cI 34 (uJ G (2 + k) (1 + (HT k) + 3 * (mAc (G (2 + k))) + 6 * (mOr (G (2 + k)))))), (ml, cJ cI 99 (LT)), (mm, cL cJ_ 99 (MT)), (md, cJ cI 32 (HT)), (mh, cJ cI 136 (rcH s h kp))] rfl ?_
            refine r_iinc E (k := 2) [(2, .int (iJ ((x + 1)))), (0, .ref m0), (1, .int (iJ (pr))), (3, .int (iJ (k)))] dX7_decide_73 rfl (by decide) rfl ?_
            refine r_iinc E (k := 3) [(3, .int (iJ ((k + 1)))), (2, .int (iJ ((x + 1)))), (0, .ref m0), (1, .int (iJ (pr)))] dX7_decide_76 rfl (by decide) rfl ?_
            refine r_goto E 19 dX7_decide_79 (by decide) ?_
            refine r_lv [2, 3, 1, 0] [(0, .ref m0), (1, .int (iJ (pr))), (2, .int (iJ ((x + 1)))), (3, .int (iJ ((k + 1))))] rfl ?_
            exact ih19 (k + 1) (x + 1) (uJ G (2 + k) (1 + (HT k) + 3 * (mAc (G (2 + k))) + 6 * (mOr (G (2 + k))))) ⟨by omega, by omega⟩ (by
                  rw [sm_s _ (by omega), hx2]; rw [f_k] at c_34; try rw [f_k] at c_43
                  first | (simp [b2, c_34, c_43]; done) | simp [b2, c_34]) (by
                  rw [f_k] at c_34
                  first
                  | (rw [f_k] at c_43; rw [hG]; exact mpS_s1 _ _ (by omega) (by rw [mpS_at, f_h]; exact (if_pos (show ¬ s (2 + k) = 0 ∧ (s (2 + k) - 1) % 3 = 2 from ⟨c_34, c_43⟩)).symm))
                  | (rw [hG]; exact mpS_s0 _ _ (by omega) (by unfold deM; rw [if_neg (fun z => by first | exact z.1 c_34 | (rw [f_k] at c_43; exact c_43 z.2))]))) (by omega)
  refine r_lv [2, 3, 1, 0] [(0, .ref m0), (1, .int (iJ (pr))), (2, .int (iJ (0))), (3, .int (iJ (0)))] rfl ?_
  exact loop_19 _ 0 0 s ⟨by omega, by omega⟩ (sm_0 _).symm (mpS_0 _ _) (Nat.lt_succ_self _)
theorem kf_X7_ifStroke : KF yX7_ifStroke 4 wsX7_ifStroke cX7_ifStroke 7 (some .int) := ⟨rfl, by decide +kernel, by decide +kernel, by decide +kernel⟩
def rm_X7_ifStroke : Room := { frames := 10, cells := 0, slots := 0, locals := 233 }
set_option maxHeartbeats 1000000 in
set_option maxRecDepth 100000 in
theorem c_X7_ifBad (l : Launch) (D : va_G) (m0 : Nat) (ms : Nat) (mh : Nat) (mn : Nat) (mp : Nat) (ml : Nat) (mm : Nat) (md : Nat) (mw : Nat) (mt : Nat) (mb : Nat) (mi : Nat) (mg : Nat) (cI : ClassId) (kp : Int) (sv : Int) (pn : Int) (rf : Int) (tl : Int) (s : Int → Int) (a : Int) (h9 : Int) (o : Int) (w : Int) (hs0 : 0 ≤ s 0 ∧ s 0 ≤ 32) (ha : jb a) (hh : jb h9) (ho : jb o) (hw : jb w) (hx : ¬ ((0 ≤ a ∧ a < s 0) ∧ (0 ≤ h9 ∧ h9 ≤ 2) ∧ (0 ≤ o ∧ o ≤ 3) ∧ (0 ≤ w ∧ w ≤ 2))) : MP l yX7_ifStroke wsX7_ifStroke rm_X7_ifStroke D vwCl [.ref m0, .int (iJ (a)), .int (iJ (h9)), .int (iJ (o)), .int (iJ (w))] [(m0, .inr (6, [.ref ms, .ref mh, .int (iJ (kp)), .ref mn, .int (iJ (sv)), .ref mp, .int (iJ (pn)), .int (iJ (rf)), .ref ml, .ref mm, .ref md, .ref mw, .ref mt, .int (iJ (tl)), .ref mb, .ref mi, .ref mg])), (ms, cJ cI 34 (s))] [(cI, .int)] (-1) := by
  refine MP.mk (cc := cX7_ifStroke) (maxL := 7) (ret := (some .int)) (by decide) rfl (Nat.le_of_ble_eq_true rfl) rfl RX7 rfl ?_
  intro p_ e_ s_ m_ ar_ bw_ mt_ cd_ Q_ E hr hQ
  refine r_aload_n E 0 dX7_ifStroke_0 rfl rfl ?_
  refine r_iload_n E 1 dX7_ifStroke_1 rfl rfl ?_
  refine r_vP E (st := []) (c_X7_isStep l D m0 ms mh mn mp ml mm md mw mt mb mi mg cI kp sv pn rf tl s a (by first | assumption | omega | exact ⟨by omega, by omega⟩) (by first | assumption | omega | exact ⟨by omega, by omega⟩)) gX7_ifStroke_X7_isStep 1 kf_X7_isStep ⟨rfl, rfl⟩ ⟨by decide, by decide⟩ dX7_ifStroke_2 rfl 0 rfl rfl rfl rfl ⟨Nat.zero_le _, Nat.zero_le _⟩ [0, 1] rfl (by decide) [0] rfl (Nat.le_of_ble_eq_true rfl) ?_
  refine r_ifeq_b E 36 dX7_ifStroke_5 (by decide) (fun c_5 => ?_) (fun c_5 => ?_)
  · refine r_iconst E (-1) rfl dX7_ifStroke_36 ?_
    exact r_retP E hr dX7_ifStroke_37 rfl hQ
  · refine r_iload_n E 2 dX7_ifStroke_8 rfl rfl ?_
    refine r_iconst E 0 rfl dX7_ifStroke_9 ?_
    refine r_iconst E 2 rfl dX7_ifStroke_10 ?_
    refine r_sP E (st := []) (c_X7_in l D h9 0 2 (by first | assumption | omega | exact ⟨by omega, by omega⟩) (by first | assumption | omega | exact ⟨by omega, by omega⟩) (by first | assumption | omega | exact ⟨by omega, by omega⟩)) gX7_ifStroke_X7_in 3 kf_X7_in ⟨rfl, rfl⟩ ⟨by decide, by decide⟩ dX7_ifStroke_11 rfl rfl ⟨Nat.zero_le _, Nat.zero_le _⟩ [] rfl (by decide) [] rfl (Nat.le_of_ble_eq_true rfl) ?_
    refine r_ifeq_b E 36 dX7_ifStroke_14 (by decide) (fun c_14 => ?_) (fun c_14 => ?_)
    · refine r_iconst E (-1) rfl dX7_ifStroke_36 ?_
      exact r_retP E hr dX7_ifStroke_37 rfl hQ
    · refine r_iload_n E 3 dX7_ifStroke_17 rfl rfl ?_
      refine r_iconst E 0 rfl dX7_ifStroke_18 ?_
      refine r_iconst E 3 rfl dX7_ifStroke_19 ?_
      refine r_sP E (st := []) (c_X7_in l D o 0 3 (by first | assumption | omega | exact ⟨by omega, by omega⟩) (by first | assumption | omega | exact ⟨by omega, by omega⟩) (by first | assumption | omega | exact ⟨by omega, by omega⟩)) gX7_ifStroke_X7_in 3 kf_X7_in ⟨rfl, rfl⟩ ⟨by decide, by decide⟩ dX7_ifStroke_20 rfl rfl ⟨Nat.zero_le _, Nat.zero_le _⟩ [] rfl (by decide) [] rfl (Nat.le_of_ble_eq_true rfl) ?_
      refine r_ifeq_b E 36 dX7_ifStroke_23 (by decide) (fun c_23 => ?_) (fun c_23 => ?_)
      · refine r_iconst E (-1) rfl dX7_ifStroke_36 ?_
        exact r_retP E hr dX7_ifStroke_37 rfl hQ
      · refine r_iload E 4 dX7_ifStroke_26 rfl ?_
        refine r_iconst E 0 rfl dX7_ifStroke_28 ?_
        refine r_iconst E 2 rfl dX7_ifStroke_29 ?_
        refine r_sP E (st := []) (c_X7_in l D w 0 2 (by first | assumption | omega | exact ⟨by omega, by omega⟩) (by first | assumption | omega | exact ⟨by omega, by omega⟩) (by first | assumption | omega | exact ⟨by omega, by omega⟩)) gX7_ifStroke_X7_in 3 kf_X7_in ⟨rfl, rfl⟩ ⟨by decide, by decide⟩ dX7_ifStroke_30 rfl rfl ⟨Nat.zero_le _, Nat.zero_le _⟩ [] rfl (by decide) [] rfl (Nat.le_of_ble_eq_true rfl) ?_
        refine r_ifne_b E 38 dX7_ifStroke_33 (by decide) (fun c_33 => absurd c_33 (by omega)) (fun c_33 => ?_)
        refine r_iconst E (-1) rfl dX7_ifStroke_36 ?_
        exact r_retP E hr dX7_ifStroke_37 rfl hQ
set_option maxRecDepth 20000 in
theorem in_X7_ifStroke_X7 : ∀ w ∈ u_ws RX7 TX7 17, w ∈ wsX7_ifStroke := by decide +kernel
set_option maxRecDepth 20000 in
theorem lk_X7_ifStroke_7 : Cond.fieldLink RX7 7 (TX7 0).1 (TX7 0).2.1 (TX7 0).2.2.1 ∈ wsX7_ifStroke := by decide +kernel
set_option maxHeartbeats 1000000 in
set_option maxRecDepth 100000 in
theorem c_X7_ifOnce (l : Launch) (D : va_G) (m0 : Nat) (ms : Nat) (mh : Nat) (mn : Nat) (mp : Nat) (ml : Nat) (mm : Nat) (md : Nat) (mw : Nat) (mt : Nat) (mb : Nat) (mi : Nat) (mg : Nat) (cI : ClassId) (kp : Int) (sv : Int) (pn : Int) (rf : Int) (tl : Int) (cJ_ : ClassId) (s : Int → Int) (le : Int → Int) (my : Int → Int) (a : Int) (h9 : Int) (o : Int) (w : Int) (hs0 : 0 ≤ s 0 ∧ s 0 ≤ 32) (hs1 : 1 ≤ s 1 ∧ s 1 ≤ 4) (hsv : ∀ j : Int, 0 ≤ j → j < s 0 → 0 ≤ s (2 + j) ∧ s (2 + j) ≤ 24) (hx : (0 ≤ a ∧ a < s 0) ∧ (0 ≤ h9 ∧ h9 ≤ 2) ∧ (0 ≤ o ∧ o ≤ 3) ∧ (0 ≤ w ∧ w ≤ 2)) (hw2 : w = 0) : MM (S := (Int → Int) × (Int → Int)) l yX7_ifStroke wsX7_ifStroke rm_X7_ifStroke D vwCl [.ref m0, .int (iJ (a)), .int (iJ (h9)), .int (iJ (o)), .int (iJ (w))] [(m0, .inr (6, [.ref ms, .ref mh, .int (iJ (kp)), .ref mn, .int (iJ (sv)), .ref mp, .int (iJ (pn)), .int (iJ (rf)), .ref ml, .ref mm, .ref md, .ref mw, .ref mt, .int (iJ (tl)), .ref mb, .ref mi, .ref mg])), (ms, cJ cI 34 (s)), (ml, cJ cI 99 (le)), (mm, cL cJ_ 99 (my))] [(cI, .int), (cJ_, .long)] (fun (u : (Int → Int) × (Int → Int)) => cap9 (mnS (uJ s (2 + a) (1 + h9 + 3 * mAc (s (2 + a)) + 6 * o)) (-4) 0 2)) (fun (u : (Int → Int) × (Int → Int)) => True) (fun (u : (Int → Int) × (Int → Int)) => [(m0, .inr (6, [.ref ms, .ref mh, .int (iJ (kp)), .ref mn, .int (iJ (sv)), .ref mp, .int (iJ (pn)), .int (iJ (rf)), .ref ml, .ref mm, .ref md, .ref mw, .ref mt, .int (iJ (tl)), .ref mb, .ref mi, .ref mg])), (ms, cJ cI 34 (s)), (ml, cJ cI 99 (u.1)), (mm, cL cJ_ 99 (u.2))]) := by
  refine MM.mk (cc := cX7_ifStroke) (maxL := 7) (ret := (some .int)) (by decide) rfl (Nat.le_of_ble_eq_true rfl) rfl RX7 rfl ?_
  intro p_ e_ s_ m_ ar_ bw_ mt_ cd_ B_ Q_ hA E hr hQ
  obtain ⟨⟨ha1, ha2⟩, hh1, ho1, hw1⟩ := hx
  have f_c := hsv a ha1 ha2
  have f_a := mAc_in (c := s (2 + a))
  have wv : ∀ j : Int, 0 ≤ j → j < (uJ s (2 + a) (1 + h9 + 3 * mAc (s (2 + a)) + 6 * o)) 0 → 0 ≤ (uJ s (2 + a) (1 + h9 + 3 * mAc (s (2 + a)) + 6 * o)) (2 + j) ∧ (uJ s (2 + a) (1 + h9 + 3 * mAc (s (2 + a)) + 6 * o)) (2 + j) ≤ 24 := fun j h0 h1 => by
        rw [uJ_n (by omega)] at h1
        by_cases z : j = a
        · subst z; rw [uJ_s]; omega
        · rw [uJ_n (by omega)]; exact hsv j h0 h1
  have w0 : (uJ s (2 + a) (1 + h9 + 3 * mAc (s (2 + a)) + 6 * o)) 0 = s 0 := uJ_n (by omega)
  have w1_ : (uJ s (2 + a) (1 + h9 + 3 * mAc (s (2 + a)) + 6 * o)) 1 = s 1 := uJ_n (by omega)
  refine r_aload_n E 0 dX7_ifStroke_0 rfl rfl ?_
  refine r_iload_n E 1 dX7_ifStroke_1 rfl rfl ?_
  refine r_vP E (st := []) (c_X7_isStep l D m0 ms mh mn mp ml mm md mw mt mb mi mg cI kp sv pn rf tl s a (by first | assumption | omega | exact ⟨by omega, by omega⟩) (by first | assumption | omega | exact ⟨by omega, by omega⟩)) gX7_ifStroke_X7_isStep 1 kf_X7_isStep ⟨rfl, rfl⟩ ⟨by decide, by decide⟩ dX7_ifStroke_2 rfl 0 rfl rfl rfl rfl ⟨Nat.zero_le _, Nat.zero_le _⟩ [0, 1] rfl (by decide) [0] rfl (Nat.le_of_ble_eq_true rfl) ?_
  refine r_ifeq_b E 36 dX7_ifStroke_5 (by decide) (fun c_5 => absurd c_5 (by omega)) (fun c_5 => ?_)
  refine r_iload_n E 2 dX7_ifStroke_8 rfl rfl ?_
  refine r_iconst E 0 rfl dX7_ifStroke_9 ?_
  refine r_iconst E 2 rfl dX7_ifStroke_10 ?_
  refine r_sP E (st := []) (c_X7_in l D h9 0 2 (by first | assumption | omega | exact ⟨by omega, by omega⟩) (by first | assumption | omega | exact ⟨by omega, by omega⟩) (by first | assumption | omega | exact ⟨by omega, by omega⟩)) gX7_ifStroke_X7_in 3 kf_X7_in ⟨rfl, rfl⟩ ⟨by decide, by decide⟩ dX7_ifStroke_11 rfl rfl ⟨Nat.zero_le _, Nat.zero_le _⟩ [] rfl (by decide) [] rfl (Nat.le_of_ble_eq_true rfl) ?_
  refine r_ifeq_b E 36 dX7_ifStroke_14 (by decide) (fun c_14 => absurd c_14 (by omega)) (fun c_14 => ?_)
  refine r_iload_n E 3 dX7_ifStroke_17 rfl rfl ?_
  refine r_iconst E 0 rfl dX7_ifStroke_18 ?_
  refine r_iconst E 3 rfl dX7_ifStroke_19 ?_
  refine r_sP E (st := []) (c_X7_in l D o 0 3 (by first | assumption | omega | exact ⟨by omega, by omega⟩) (by first | assumption | omega | exact ⟨by omega, by omega⟩) (by first | assumption | omega | exact ⟨by omega, by omega⟩)) gX7_ifStroke_X7_in 3 kf_X7_in ⟨rfl, rfl⟩ ⟨by decide, by decide⟩ dX7_ifStroke_20 rfl rfl ⟨Nat.zero_le _, Nat.zero_le _⟩ [] rfl (by decide) [] rfl (Nat.le_of_ble_eq_true rfl) ?_
  refine r_ifeq_b E 36 dX7_ifStroke_23 (by decide) (fun c_23 => absurd c_23 (by omega)) (fun c_23 => ?_)
  refine r_iload E 4 dX7_ifStroke_26 rfl ?_
  refine r_iconst E 0 rfl dX7_ifStroke_28 ?_
  refine r_iconst E 2 rfl dX7_ifStroke_29 ?_
  refine r_sP E (st := []) (c_X7_in l D w 0 2 (by first | assumption | omega | exact ⟨by omega, by omega⟩) (by first | assumption | omega | exact ⟨by omega, by omega⟩) (by first | assumption | omega | exact ⟨by omega, by omega⟩)) gX7_ifStroke_X7_in 3 kf_X7_in ⟨rfl, rfl⟩ ⟨by decide, by decide⟩ dX7_ifStroke_30 rfl rfl ⟨Nat.zero_le _, Nat.zero_le _⟩ [] rfl (by decide) [] rfl (Nat.le_of_ble_eq_true rfl) ?_
  refine r_ifne_b E 38 dX7_ifStroke_33 (by decide) (fun c_33 => ?_) (fun c_33 => absurd c_33 (by omega))
  refine r_aload_n E 0 dX7_ifStroke_38 rfl rfl ?_
  refine r_iload_n E 1 dX7_ifStroke_39 rfl rfl ?_
  refine r_vP E (st := []) (c_X7_at l D m0 ms mh mn mp ml mm md mw mt mb mi mg cI kp sv pn rf tl s a (by first | assumption | omega | exact ⟨by omega, by omega⟩)) gX7_ifStroke_X7_at 1 kf_X7_at ⟨rfl, rfl⟩ ⟨by decide, by decide⟩ dX7_ifStroke_40 rfl 0 rfl rfl rfl rfl ⟨Nat.zero_le _, Nat.zero_le _⟩ [0, 1] rfl (by decide) [0] rfl (Nat.le_of_ble_eq_true rfl) ?_
  refine r_istore E [(5, .int (iJ (s (2 + a)))), (0, .ref m0), (1, .int (iJ (a))), (2, .int (iJ (h9))), (3, .int (iJ (o))), (4, .int (iJ (w)))] dX7_ifStroke_43 (by decide) rfl ?_
  refine r_aload_n E 1 dX7_ifStroke_45 rfl rfl ?_
  refine r_get E 6 0 0 dX7_ifStroke_46 in_X7_ifStroke_X7 lk_X7_ifStroke_7 rfl rfl (by decide) rfl ?_
  refine r_iconst E 2 rfl dX7_ifStroke_49 ?_
  refine r_iload_n E 2 dX7_ifStroke_50 rfl rfl ?_
  refine r_iadd E dX7_ifStroke_51 ?_
  refine r_iload_n E 3 dX7_ifStroke_52 rfl rfl ?_
  refine r_aload_n E 1 dX7_ifStroke_53 rfl rfl ?_
  refine r_iload_n E 2 dX7_ifStroke_54 rfl rfl ?_
  refine r_vP E (st := [.int (iJ (h9)), .int (iJ ((2 + a))), .ref ms]) (c_X7_accent l D m0 ms mh mn mp ml mm md mw mt mb mi mg cI kp sv pn rf tl s a (by first | assumption | omega | exact ⟨by omega, by omega⟩) f_c) gX7_ifStroke_X7_accent 1 kf_X7_accent ⟨rfl, rfl⟩ ⟨by decide, by decide⟩ dX7_ifStroke_55 rfl 0 rfl rfl rfl rfl ⟨Nat.zero_le _, Nat.zero_le _⟩ [0, 1] rfl (by decide) [0] rfl (Nat.le_of_ble_eq_true rfl) ?_
  refine r_iload_n E 4 dX7_ifStroke_58 rfl rfl ?_
  refine r_sP E (st := [.int (iJ ((2 + a))), .ref ms]) (c_X7_code l D h9 (mAc (s (2 + a))) o) gX7_ifStroke_X7_code 3 kf_X7_code ⟨rfl, rfl⟩ ⟨by decide, by decide⟩ dX7_ifStroke_59 rfl rfl ⟨Nat.zero_le _, Nat.zero_le _⟩ [] rfl (by decide) [] rfl (Nat.le_of_ble_eq_true rfl) ?_
  refine r_top (b := (1 + h9 + 3 * mAc (s (2 + a)) + 6 * o)) (by omega) ?_
  refine r_iast E (i := (2 + a)) 1 0 dX7_ifStroke_62 rfl rfl (by decide) ⟨by omega, by omega⟩ [(m0, .inr (6, [.ref ms, .ref mh, .int (iJ (kp)), .ref mn, .int (iJ (sv)), .ref mp, .int (iJ (pn)), .int (iJ (rf)), .ref ml, .ref mm, .ref md, .ref mw, .ref mt, .int (iJ (tl)), .ref mb, .ref mi, .ref mg])), (ms, cJ cI 34 (uJ s (2 + a) (1 + h9 + 3 * mAc (s (2 + a)) + 6 * o))), (ml, cJ cI 99 (le)), (mm, cL cJ_ 99 (my))] rfl ?_
  refine r_iload E 5 dX7_ifStroke_63 rfl ?_
  refine r_if_ne E 75 dX7_ifStroke_65 (by decide) ⟨by omega, by omega⟩ (fun c_65 => absurd c_65 (by omega)) (fun c_65 => ?_)
  refine r_aload_n E 1 dX7_ifStroke_68 rfl rfl ?_
  refine r_vM E (st := []) (c_X7_stickingsOnce l D m0 ms mh mn mp ml mm md mw mt mb mi mg cI kp sv pn rf tl cJ_ (uJ s (2 + a) (1 + h9 + 3 * mAc (s (2 + a)) + 6 * o)) le my (by rw [w0]; exact hs0) (by rw [w1_]; exact hs1) wv) gX7_ifStroke_X7_stickingsOnce 0 kf_X7_stickingsOnce ⟨rfl, rfl⟩ ⟨by decide, by decide⟩ dX7_ifStroke_69 rfl 0 rfl rfl rfl rfl ⟨Nat.zero_le _, Nat.zero_le _⟩ [0, 1, 2, 3] rfl (by decide) [0, 1] rfl (Nat.le_of_ble_eq_true rfl) [] [] rfl (by decide) (by decide) hA [0, 1, 2, 3] (by decide) (fun u : (Int → Int) × (Int → Int) => [(m0, .inr (6, [.ref ms, .ref mh, .int (iJ (kp)), .ref mn, .int (iJ (sv)), .ref mp, .int (iJ (pn)), .int (iJ (rf)), .ref ml, .ref mm, .ref md, .ref mw, .ref mt, .int (iJ (tl)), .ref mb, .ref mi, .ref mg])), (ms, cJ cI 34 (uJ s (2 + a) (1 + h9 + 3 * mAc (s (2 + a)) + 6 * o))), (ml, cJ cI 99 (u.1)), (mm, cL cJ_ 99 (u.2))]) (fun _ => rfl) ?_
  rintro ⟨LS_1, MN_2⟩ hp_3
  refine r_cv (ws2 := [(m0, .inr (6, [.ref ms, .ref mh, .int (iJ (kp)), .ref mn, .int (iJ (sv)), .ref mp, .int (iJ (pn)), .int (iJ (rf)), .ref ml, .ref mm, .ref md, .ref mw, .ref mt, .int (iJ (tl)), .ref mb, .ref mi, .ref mg])), (ms, cJ cI 34 (uJ s (2 + a) (1 + h9 + 3 * mAc (s (2 + a)) + 6 * o))), (ml, cJ cI 99 (LS_1)), (mm, cL cJ_ 99 (MN_2))]) (st2 := [.int (iJ (cap9 (mnS (uJ s (2 + a) (1 + h9 + 3 * mAc (s (2 + a)) + 6 * o)) (-4) 0 2)))]) rfl rfl rfl ?_
  refine r_goto E 106 dX7_ifStroke_72 (by decide) ?_
  refine r_istore E [(6, .int (iJ (cap9 (mnS (uJ s (2 + a) (1 + h9 + 3 * mAc (s (2 + a)) + 6 * o)) (-4) 0 2)))), (5, .int (iJ (s (2 + a)))), (0, .ref m0), (1, .int (iJ (a))), (2, .int (iJ (h9))), (3, .int (iJ (o))), (4, .int (iJ (w)))] dX7_ifStroke_106 (by decide) rfl ?_
  refine r_aload_n E 2 dX7_ifStroke_108 rfl rfl ?_
  refine r_get E 6 0 0 dX7_ifStroke_109 in_X7_ifStroke_X7 lk_X7_ifStroke_7 rfl rfl (by decide) rfl ?_
  refine r_iconst E 2 rfl dX7_ifStroke_112 ?_
  refine r_iload_n E 3 dX7_ifStroke_113 rfl rfl ?_
  refine r_iadd E dX7_ifStroke_114 ?_
  refine r_iload E 1 dX7_ifStroke_115 rfl ?_
  refine r_iast E (i := (2 + a)) 1 0 dX7_ifStroke_117 rfl rfl (by decide) ⟨by omega, by omega⟩ [(m0, .inr (6, [.ref ms, .ref mh, .int (iJ (kp)), .ref mn, .int (iJ (sv)), .ref mp, .int (iJ (pn)), .int (iJ (rf)), .ref ml, .ref mm, .ref md, .ref mw, .ref mt, .int (iJ (tl)), .ref mb, .ref mi, .ref mg])), (ms, cJ cI 34 (uJ (uJ s (2 + a) (1 + h9 + 3 * mAc (s (2 + a)) + 6 * o)) (2 + a) (s (2 + a)))), (ml, cJ cI 99 (LS_1)), (mm, cL cJ_ 99 (MN_2))] rfl ?_
  refine r_iload E 0 dX7_ifStroke_118 rfl ?_
  exact r_retM E (LS_1, MN_2) hr dX7_ifStroke_120 rfl trivial (by
        have e : uJ (uJ s (2 + a) (1 + h9 + 3 * mAc (s (2 + a)) + 6 * o)) (2 + a) (s (2 + a)) = s := by
          rw [uJ_u]; funext j; by_cases z : j = 2 + a
          · subst z; rw [uJ_s]
          · rw [uJ_n z]
        rw [e]) hQ
set_option maxHeartbeats 1000000 in
set_option maxRecDepth 100000 in
theorem c_X7_ifOver (l : Launch) (D : va_G) (m0 : Nat) (ms : Nat) (mh : Nat) (mn : Nat) (mp : Nat) (ml : Nat) (mm : Nat) (md : Nat) (mw : Nat) (mt : Nat) (mb : Nat) (mi : Nat) (mg : Nat) (cI : ClassId) (kp : Int) (sv : Int) (pn : Int) (rf : Int) (tl : Int) (cJ_ : ClassId) (s : Int → Int) (le : Int → Int) (my : Int → Int) (a : Int) (h9 : Int) (o : Int) (w : Int) (hs0 : 0 ≤ s 0 ∧ s 0 ≤ 32) (hs1 : 1 ≤ s 1 ∧ s 1 ≤ 4) (hsv : ∀ j : Int, 0 ≤ j → j < s 0 → 0 ≤ s (2 + j) ∧ s (2 + j) ≤ 24) (hx : (0 ≤ a ∧ a < s 0) ∧ (0 ≤ h9 ∧ h9 ≤ 2) ∧ (0 ≤ o ∧ o ≤ 3) ∧ (0 ≤ w ∧ w ≤ 2)) (hw2 : w = 1) : MM (S := (Int → Int) × (Int → Int)) l yX7_ifStroke wsX7_ifStroke rm_X7_ifStroke D vwCl [.ref m0, .int (iJ (a)), .int (iJ (h9)), .int (iJ (o)), .int (iJ (w))] [(m0, .inr (6, [.ref ms, .ref mh, .int (iJ (kp)), .ref mn, .int (iJ (sv)), .ref mp, .int (iJ (pn)), .int (iJ (rf)), .ref ml, .ref mm, .ref md, .ref mw, .ref mt, .int (iJ (tl)), .ref mb, .ref mi, .ref mg])), (ms, cJ cI 34 (s)), (ml, cJ cI 99 (le)), (mm, cL cJ_ 99 (my))] [(cI, .int), (cJ_, .long)] (fun (u : (Int → Int) × (Int → Int)) => soV (uJ s (2 + a) (1 + h9 + 3 * mAc (s (2 + a)) + 6 * o))) (fun (u : (Int → Int) × (Int → Int)) => True) (fun (u : (Int → Int) × (Int → Int)) => [(m0, .inr (6, [.ref ms, .ref mh, .int (iJ (kp)), .ref mn, .int (iJ (sv)), .ref mp, .int (iJ (pn)), .int (iJ (rf)), .ref ml, .ref mm, .ref md, .ref mw, .ref mt, .int (iJ (tl)), .ref mb, .ref mi, .ref mg])), (ms, cJ cI 34 (s)), (ml, cJ cI 99 (u.1)), (mm, cL cJ_ 99 (u.2))]) := by
  refine MM.mk (cc := cX7_ifStroke) (maxL := 7) (ret := (some .int)) (by decide) rfl (Nat.le_of_ble_eq_true rfl) rfl RX7 rfl ?_
  intro p_ e_ s_ m_ ar_ bw_ mt_ cd_ B_ Q_ hA E hr hQ
  obtain ⟨⟨ha1, ha2⟩, hh1, ho1, hw1⟩ := hx
  have f_c := hsv a ha1 ha2
  have f_a := mAc_in (c := s (2 + a))
  have wv : ∀ j : Int, 0 ≤ j → j < (uJ s (2 + a) (1 + h9 + 3 * mAc (s (2 + a)) + 6 * o)) 0 → 0 ≤ (uJ s (2 + a) (1 + h9 + 3 * mAc (s (2 + a)) + 6 * o)) (2 + j) ∧ (uJ s (2 + a) (1 + h9 + 3 * mAc (s (2 + a)) + 6 * o)) (2 + j) ≤ 24 := fun j h0 h1 => by
        rw [uJ_n (by omega)] at h1
        by_cases z : j = a
        · subst z; rw [uJ_s]; omega
        · rw [uJ_n (by omega)]; exact hsv j h0 h1
  have w0 : (uJ s (2 + a) (1 + h9 + 3 * mAc (s (2 + a)) + 6 * o)) 0 = s 0 := uJ_n (by omega)
  have w1_ : (uJ s (2 + a) (1 + h9 + 3 * mAc (s (2 + a)) + 6 * o)) 1 = s 1 := uJ_n (by omega)
  refine r_aload_n E 0 dX7_ifStroke_0 rfl rfl ?_
  refine r_iload_n E 1 dX7_ifStroke_1 rfl rfl ?_
  refine r_vP E (st := []) (c_X7_isStep l D m0 ms mh mn mp ml mm md mw mt mb mi mg cI kp sv pn rf tl s a (by first | assumption | omega | exact ⟨by omega, by omega⟩) (by first | assumption | omega | exact ⟨by omega, by omega⟩)) gX7_ifStroke_X7_isStep 1 kf_X7_isStep ⟨rfl, rfl⟩ ⟨by decide, by decide⟩ dX7_ifStroke_2 rfl 0 rfl rfl rfl rfl ⟨Nat.zero_le _, Nat.zero_le _⟩ [0, 1] rfl (by decide) [0] rfl (Nat.le_of_ble_eq_true rfl) ?_
  refine r_ifeq_b E 36 dX7_ifStroke_5 (by decide) (fun c_5 => absurd c_5 (by omega)) (fun c_5 => ?_)
  refine r_iload_n E 2 dX7_ifStroke_8 rfl rfl ?_
  refine r_iconst E 0 rfl dX7_ifStroke_9 ?_
  refine r_iconst E 2 rfl dX7_ifStroke_10 ?_
  refine r_sP E (st := []) (c_X7_in l D h9 0 2 (by first | assumption | omega | exact ⟨by omega, by omega⟩) (by first | assumption | omega | exact ⟨by omega, by omega⟩) (by first | assumption | omega | exact ⟨by omega, by omega⟩)) gX7_ifStroke_X7_in 3 kf_X7_in ⟨rfl, rfl⟩ ⟨by decide, by decide⟩ dX7_ifStroke_11 rfl rfl ⟨Nat.zero_le _, Nat.zero_le _⟩ [] rfl (by decide) [] rfl (Nat.le_of_ble_eq_true rfl) ?_
  refine r_ifeq_b E 36 dX7_ifStroke_14 (by decide) (fun c_14 => absurd c_14 (by omega)) (fun c_14 => ?_)
  refine r_iload_n E 3 dX7_ifStroke_17 rfl rfl ?_
  refine r_iconst E 0 rfl dX7_ifStroke_18 ?_
  refine r_iconst E 3 rfl dX7_ifStroke_19 ?_
  refine r_sP E (st := []) (c_X7_in l D o 0 3 (by first | assumption | omega | exact ⟨by omega, by omega⟩) (by first | assumption | omega | exact ⟨by omega, by omega⟩) (by first | assumption | omega | exact ⟨by omega, by omega⟩)) gX7_ifStroke_X7_in 3 kf_X7_in ⟨rfl, rfl⟩ ⟨by decide, by decide⟩ dX7_ifStroke_20 rfl rfl ⟨Nat.zero_le _, Nat.zero_le _⟩ [] rfl (by decide) [] rfl (Nat.le_of_ble_eq_true rfl) ?_
  refine r_ifeq_b E 36 dX7_ifStroke_23 (by decide) (fun c_23 => absurd c_23 (by omega)) (fun c_23 => ?_)
  refine r_iload E 4 dX7_ifStroke_26 rfl ?_
  refine r_iconst E 0 rfl dX7_ifStroke_28 ?_
  refine r_iconst E 2 rfl dX7_ifStroke_29 ?_
  refine r_sP E (st := []) (c_X7_in l D w 0 2 (by first | assumption | omega | exact ⟨by omega, by omega⟩) (by first | assumption | omega | exact ⟨by omega, by omega⟩) (by first | assumption | omega | exact ⟨by omega, by omega⟩)) gX7_ifStroke_X7_in 3 kf_X7_in ⟨rfl, rfl⟩ ⟨by decide, by decide⟩ dX7_ifStroke_30 rfl rfl ⟨Nat.zero_le _, Nat.zero_le _⟩ [] rfl (by decide) [] rfl (Nat.le_of_ble_eq_true rfl) ?_
  refine r_ifne_b E 38 dX7_ifStroke_33 (by decide) (fun c_33 => ?_) (fun c_33 => absurd c_33 (by omega))
  refine r_aload_n E 0 dX7_ifStroke_38 rfl rfl ?_
  refine r_iload_n E 1 dX7_ifStroke_39 rfl rfl ?_
  refine r_vP E (st := []) (c_X7_at l D m0 ms mh mn mp ml mm md mw mt mb mi mg cI kp sv pn rf tl s a (by first | assumption | omega | exact ⟨by omega, by omega⟩)) gX7_ifStroke_X7_at 1 kf_X7_at ⟨rfl, rfl⟩ ⟨by decide, by decide⟩ dX7_ifStroke_40 rfl 0 rfl rfl rfl rfl ⟨Nat.zero_le _, Nat.zero_le _⟩ [0, 1] rfl (by decide) [0] rfl (Nat.le_of_ble_eq_true rfl) ?_
  refine r_istore E [(5, .int (iJ (s (2 + a)))), (0, .ref m0), (1, .int (iJ (a))), (2, .int (iJ (h9))), (3, .int (iJ (o))), (4, .int (iJ (w)))] dX7_ifStroke_43 (by decide) rfl ?_
  refine r_aload_n E 1 dX7_ifStroke_45 rfl rfl ?_
  refine r_get E 6 0 0 dX7_ifStroke_46 in_X7_ifStroke_X7 lk_X7_ifStroke_7 rfl rfl (by decide) rfl ?_
  refine r_iconst E 2 rfl dX7_ifStroke_49 ?_
  refine r_iload_n E 2 dX7_ifStroke_50 rfl rfl ?_
  refine r_iadd E dX7_ifStroke_51 ?_
  refine r_iload_n E 3 dX7_ifStroke_52 rfl rfl ?_
  refine r_aload_n E 1 dX7_ifStroke_53 rfl rfl ?_
  refine r_iload_n E 2 dX7_ifStroke_54 rfl rfl ?_
  refine r_vP E (st := [.int (iJ (h9)), .int (iJ ((2 + a))), .ref ms]) (c_X7_accent l D m0 ms mh mn mp ml mm md mw mt mb mi mg cI kp sv pn rf tl s a (by first | assumption | omega | exact ⟨by omega, by omega⟩) f_c) gX7_ifStroke_X7_accent 1 kf_X7_accent ⟨rfl, rfl⟩ ⟨by decide, by decide⟩ dX7_ifStroke_55 rfl 0 rfl rfl rfl rfl ⟨Nat.zero_le _, Nat.zero_le _⟩ [0, 1] rfl (by decide) [0] rfl (Nat.le_of_ble_eq_true rfl) ?_
  refine r_iload_n E 4 dX7_ifStroke_58 rfl rfl ?_
  refine r_sP E (st := [.int (iJ ((2 + a))), .ref ms]) (c_X7_code l D h9 (mAc (s (2 + a))) o) gX7_ifStroke_X7_code 3 kf_X7_code ⟨rfl, rfl⟩ ⟨by decide, by decide⟩ dX7_ifStroke_59 rfl rfl ⟨Nat.zero_le _, Nat.zero_le _⟩ [] rfl (by decide) [] rfl (Nat.le_of_ble_eq_true rfl) ?_
  refine r_top (b := (1 + h9 + 3 * mAc (s (2 + a)) + 6 * o)) (by omega) ?_
  refine r_iast E (i := (2 + a)) 1 0 dX7_ifStroke_62 rfl rfl (by decide) ⟨by omega, by omega⟩ [(m0, .inr (6, [.ref ms, .ref mh, .int (iJ (kp)), .ref mn, .int (iJ (sv)), .ref mp, .int (iJ (pn)), .int (iJ (rf)), .ref ml, .ref mm, .ref md, .ref mw, .ref mt, .int (iJ (tl)), .ref mb, .ref mi, .ref mg])), (ms, cJ cI 34 (uJ s (2 + a) (1 + h9 + 3 * mAc (s (2 + a)) + 6 * o))), (ml, cJ cI 99 (le)), (mm, cL cJ_ 99 (my))] rfl ?_
  refine r_iload E 5 dX7_ifStroke_63 rfl ?_
  refine r_if_ne E 75 dX7_ifStroke_65 (by decide) ⟨by omega, by omega⟩ (fun c_65 => ?_) (fun c_65 => absurd c_65 (by omega))
  refine r_iload E 5 dX7_ifStroke_75 rfl ?_
  refine r_iconst E 1 rfl dX7_ifStroke_77 ?_
  refine r_icmp_ne E 88 dX7_ifStroke_78 (by decide) ⟨by omega, by omega⟩ ⟨by omega, by omega⟩ (fun c_78 => absurd c_78 (by omega)) (fun c_78 => ?_)
  refine r_aload_n E 1 dX7_ifStroke_81 rfl rfl ?_
  refine r_vM E (st := []) (c_X7_stickingsOver l D m0 ms mh mn mp ml mm md mw mt mb mi mg cI kp sv pn rf tl cJ_ (uJ s (2 + a) (1 + h9 + 3 * mAc (s (2 + a)) + 6 * o)) le my (by rw [w0]; exact hs0) (by rw [w1_]; exact hs1) wv) gX7_ifStroke_X7_stickingsOver 0 kf_X7_stickingsOver ⟨rfl, rfl⟩ ⟨by decide, by decide⟩ dX7_ifStroke_82 rfl 0 rfl rfl rfl rfl ⟨Nat.zero_le _, Nat.zero_le _⟩ [0, 1, 2, 3] rfl (by decide) [0, 1] rfl (Nat.le_of_ble_eq_true rfl) [] [] rfl (by decide) (by decide) hA [0, 1, 2, 3] (by decide) (fun u : (Int → Int) × (Int → Int) => [(m0, .inr (6, [.ref ms, .ref mh, .int (iJ (kp)), .ref mn, .int (iJ (sv)), .ref mp, .int (iJ (pn)), .int (iJ (rf)), .ref ml, .ref mm, .ref md, .ref mw, .ref mt, .int (iJ (tl)), .ref mb, .ref mi, .ref mg])), (ms, cJ cI 34 (uJ s (2 + a) (1 + h9 + 3 * mAc (s (2 + a)) + 6 * o))), (ml, cJ cI 99 (u.1)), (mm, cL cJ_ 99 (u.2))]) (fun _ => rfl) ?_
  rintro ⟨LS_1, MN_2⟩ hp_3
  refine r_cv (ws2 := [(m0, .inr (6, [.ref ms, .ref mh, .int (iJ (kp)), .ref mn, .int (iJ (sv)), .ref mp, .int (iJ (pn)), .int (iJ (rf)), .ref ml, .ref mm, .ref md, .ref mw, .ref mt, .int (iJ (tl)), .ref mb, .ref mi, .ref mg])), (ms, cJ cI 34 (uJ s (2 + a) (1 + h9 + 3 * mAc (s (2 + a)) + 6 * o))), (ml, cJ cI 99 (LS_1)), (mm, cL cJ_ 99 (MN_2))]) (st2 := [.int (iJ (soV (uJ s (2 + a) (1 + h9 + 3 * mAc (s (2 + a)) + 6 * o))))]) rfl rfl rfl ?_
  refine r_goto E 106 dX7_ifStroke_85 (by decide) ?_
  refine r_istore E [(6, .int (iJ (soV (uJ s (2 + a) (1 + h9 + 3 * mAc (s (2 + a)) + 6 * o))))), (5, .int (iJ (s (2 + a)))), (0, .ref m0), (1, .int (iJ (a))), (2, .int (iJ (h9))), (3, .int (iJ (o))), (4, .int (iJ (w)))] dX7_ifStroke_106 (by decide) rfl ?_
  refine r_aload_n E 2 dX7_ifStroke_108 rfl rfl ?_
  refine r_get E 6 0 0 dX7_ifStroke_109 in_X7_ifStroke_X7 lk_X7_ifStroke_7 rfl rfl (by decide) rfl ?_
  refine r_iconst E 2 rfl dX7_ifStroke_112 ?_
  refine r_iload_n E 3 dX7_ifStroke_113 rfl rfl ?_
  refine r_iadd E dX7_ifStroke_114 ?_
  refine r_iload E 1 dX7_ifStroke_115 rfl ?_
  refine r_iast E (i := (2 + a)) 1 0 dX7_ifStroke_117 rfl rfl (by decide) ⟨by omega, by omega⟩ [(m0, .inr (6, [.ref ms, .ref mh, .int (iJ (kp)), .ref mn, .int (iJ (sv)), .ref mp, .int (iJ (pn)), .int (iJ (rf)), .ref ml, .ref mm, .ref md, .ref mw, .ref mt, .int (iJ (tl)), .ref mb, .ref mi, .ref mg])), (ms, cJ cI 34 (uJ (uJ s (2 + a) (1 + h9 + 3 * mAc (s (2 + a)) + 6 * o)) (2 + a) (s (2 + a)))), (ml, cJ cI 99 (LS_1)), (mm, cL cJ_ 99 (MN_2))] rfl ?_
  refine r_iload E 0 dX7_ifStroke_118 rfl ?_
  exact r_retM E (LS_1, MN_2) hr dX7_ifStroke_120 rfl trivial (by
        have e : uJ (uJ s (2 + a) (1 + h9 + 3 * mAc (s (2 + a)) + 6 * o)) (2 + a) (s (2 + a)) = s := by
          rw [uJ_u]; funext j; by_cases z : j = 2 + a
          · subst z; rw [uJ_s]
          · rw [uJ_n z]
        rw [e]) hQ
set_option maxRecDepth 20000 in
theorem lk_X7_ifStroke_22 : Cond.fieldLink RX7 22 (TX7 8).1 (TX7 8).2.1 (TX7 8).2.2.1 ∈ wsX7_ifStroke := by decide +kernel
set_option maxHeartbeats 1000000 in
set_option maxRecDepth 100000 in
theorem c_X7_ifBest (l : Launch) (D : va_G) (m0 : Nat) (ms : Nat) (mh : Nat) (mn : Nat) (mp : Nat) (ml : Nat) (mm : Nat) (md : Nat) (mw : Nat) (mt : Nat) (mb : Nat) (mi : Nat) (mg : Nat) (cI : ClassId) (kp : Int) (sv : Int) (pn : Int) (rf : Int) (tl : Int) (cJ_ : ClassId) (s : Int → Int) (le : Int → Int) (my : Int → Int) (a : Int) (h9 : Int) (o : Int) (w : Int) (hs0 : 0 ≤ s 0 ∧ s 0 ≤ 32) (hs1 : 1 ≤ s 1 ∧ s 1 ≤ 4) (hsv : ∀ j : Int, 0 ≤ j → j < s 0 → 0 ≤ s (2 + j) ∧ s (2 + j) ≤ 24) (hx : (0 ≤ a ∧ a < s 0) ∧ (0 ≤ h9 ∧ h9 ≤ 2) ∧ (0 ≤ o ∧ o ≤ 3) ∧ (0 ≤ w ∧ w ≤ 2)) (hw2 : w = 2) : MM (S := (Int → Int) × (Int → Int)) l yX7_ifStroke wsX7_ifStroke rm_X7_ifStroke D vwCl [.ref m0, .int (iJ (a)), .int (iJ (h9)), .int (iJ (o)), .int (iJ (w))] [(m0, .inr (6, [.ref ms, .ref mh, .int (iJ (kp)), .ref mn, .int (iJ (sv)), .ref mp, .int (iJ (pn)), .int (iJ (rf)), .ref ml, .ref mm, .ref md, .ref mw, .ref mt, .int (iJ (tl)), .ref mb, .ref mi, .ref mg])), (ms, cJ cI 34 (s)), (ml, cJ cI 99 (le)), (mm, cL cJ_ 99 (my))] [(cI, .int), (cJ_, .long)] (fun (u : (Int → Int) × (Int → Int)) => (if lsS (uJ s (2 + a) (1 + h9 + 3 * mAc (s (2 + a)) + 6 * o)) (-4) 0 2 < 1000 then lsS (uJ s (2 + a) (1 + h9 + 3 * mAc (s (2 + a)) + 6 * o)) (-4) 0 2 else -4)) (fun (u : (Int → Int) × (Int → Int)) => True) (fun (u : (Int → Int) × (Int → Int)) => [(m0, .inr (6, [.ref ms, .ref mh, .int (iJ (kp)), .ref mn, .int (iJ (sv)), .ref mp, .int (iJ (pn)), .int (iJ (rf)), .ref ml, .ref mm, .ref md, .ref mw, .ref mt, .int (iJ (tl)), .ref mb, .ref mi, .ref mg])), (ms, cJ cI 34 (s)), (ml, cJ cI 99 (u.1)), (mm, cL cJ_ 99 (u.2))]) := by
  refine MM.mk (cc := cX7_ifStroke) (maxL := 7) (ret := (some .int)) (by decide) rfl (Nat.le_of_ble_eq_true rfl) rfl RX7 rfl ?_
  intro p_ e_ s_ m_ ar_ bw_ mt_ cd_ B_ Q_ hA E hr hQ
  obtain ⟨⟨ha1, ha2⟩, hh1, ho1, hw1⟩ := hx
  have f_c := hsv a ha1 ha2
  have f_a := mAc_in (c := s (2 + a))
  have wv : ∀ j : Int, 0 ≤ j → j < (uJ s (2 + a) (1 + h9 + 3 * mAc (s (2 + a)) + 6 * o)) 0 → 0 ≤ (uJ s (2 + a) (1 + h9 + 3 * mAc (s (2 + a)) + 6 * o)) (2 + j) ∧ (uJ s (2 + a) (1 + h9 + 3 * mAc (s (2 + a)) + 6 * o)) (2 + j) ≤ 24 := fun j h0 h1 => by
        rw [uJ_n (by omega)] at h1
        by_cases z : j = a
        · subst z; rw [uJ_s]; omega
        · rw [uJ_n (by omega)]; exact hsv j h0 h1
  have w0 : (uJ s (2 + a) (1 + h9 + 3 * mAc (s (2 + a)) + 6 * o)) 0 = s 0 := uJ_n (by omega)
  have w1_ : (uJ s (2 + a) (1 + h9 + 3 * mAc (s (2 + a)) + 6 * o)) 1 = s 1 := uJ_n (by omega)
  refine r_aload_n E 0 dX7_ifStroke_0 rfl rfl ?_
  refine r_iload_n E 1 dX7_ifStroke_1 rfl rfl ?_
  refine r_vP E (st := []) (c_X7_isStep l D m0 ms mh mn mp ml mm md mw mt mb mi mg cI kp sv pn rf tl s a (by first | assumption | omega | exact ⟨by omega, by omega⟩) (by first | assumption | omega | exact ⟨by omega, by omega⟩)) gX7_ifStroke_X7_isStep 1 kf_X7_isStep ⟨rfl, rfl⟩ ⟨by decide, by decide⟩ dX7_ifStroke_2 rfl 0 rfl rfl rfl rfl ⟨Nat.zero_le _, Nat.zero_le _⟩ [0, 1] rfl (by decide) [0] rfl (Nat.le_of_ble_eq_true rfl) ?_
  refine r_ifeq_b E 36 dX7_ifStroke_5 (by decide) (fun c_5 => absurd c_5 (by omega)) (fun c_5 => ?_)
  refine r_iload_n E 2 dX7_ifStroke_8 rfl rfl ?_
  refine r_iconst E 0 rfl dX7_ifStroke_9 ?_
  refine r_iconst E 2 rfl dX7_ifStroke_10 ?_
  refine r_sP E (st := []) (c_X7_in l D h9 0 2 (by first | assumption | omega | exact ⟨by omega, by omega⟩) (by first | assumption | omega | exact ⟨by omega, by omega⟩) (by first | assumption | omega | exact ⟨by omega, by omega⟩)) gX7_ifStroke_X7_in 3 kf_X7_in ⟨rfl, rfl⟩ ⟨by decide, by decide⟩ dX7_ifStroke_11 rfl rfl ⟨Nat.zero_le _, Nat.zero_le _⟩ [] rfl (by decide) [] rfl (Nat.le_of_ble_eq_true rfl) ?_
  refine r_ifeq_b E 36 dX7_ifStroke_14 (by decide) (fun c_14 => absurd c_14 (by omega)) (fun c_14 => ?_)
  refine r_iload_n E 3 dX7_ifStroke_17 rfl rfl ?_
  refine r_iconst E 0 rfl dX7_ifStroke_18 ?_
  refine r_iconst E 3 rfl dX7_ifStroke_19 ?_
  refine r_sP E (st := []) (c_X7_in l D o 0 3 (by first | assumption | omega | exact ⟨by omega, by omega⟩) (by first | assumption | omega | exact ⟨by omega, by omega⟩) (by first | assumption | omega | exact ⟨by omega, by omega⟩)) gX7_ifStroke_X7_in 3 kf_X7_in ⟨rfl, rfl⟩ ⟨by decide, by decide⟩ dX7_ifStroke_20 rfl rfl ⟨Nat.zero_le _, Nat.zero_le _⟩ [] rfl (by decide) [] rfl (Nat.le_of_ble_eq_true rfl) ?_
  refine r_ifeq_b E 36 dX7_ifStroke_23 (by decide) (fun c_23 => absurd c_23 (by omega)) (fun c_23 => ?_)
  refine r_iload E 4 dX7_ifStroke_26 rfl ?_
  refine r_iconst E 0 rfl dX7_ifStroke_28 ?_
  refine r_iconst E 2 rfl dX7_ifStroke_29 ?_
  refine r_sP E (st := []) (c_X7_in l D w 0 2 (by first | assumption | omega | exact ⟨by omega, by omega⟩) (by first | assumption | omega | exact ⟨by omega, by omega⟩) (by first | assumption | omega | exact ⟨by omega, by omega⟩)) gX7_ifStroke_X7_in 3 kf_X7_in ⟨rfl, rfl⟩ ⟨by decide, by decide⟩ dX7_ifStroke_30 rfl rfl ⟨Nat.zero_le _, Nat.zero_le _⟩ [] rfl (by decide) [] rfl (Nat.le_of_ble_eq_true rfl) ?_
  refine r_ifne_b E 38 dX7_ifStroke_33 (by decide) (fun c_33 => ?_) (fun c_33 => absurd c_33 (by omega))
  refine r_aload_n E 0 dX7_ifStroke_38 rfl rfl ?_
  refine r_iload_n E 1 dX7_ifStroke_39 rfl rfl ?_
  refine r_vP E (st := []) (c_X7_at l D m0 ms mh mn mp ml mm md mw mt mb mi mg cI kp sv pn rf tl s a (by first | assumption | omega | exact ⟨by omega, by omega⟩)) gX7_ifStroke_X7_at 1 kf_X7_at ⟨rfl, rfl⟩ ⟨by decide, by decide⟩ dX7_ifStroke_40 rfl 0 rfl rfl rfl rfl ⟨Nat.zero_le _, Nat.zero_le _⟩ [0, 1] rfl (by decide) [0] rfl (Nat.le_of_ble_eq_true rfl) ?_
  refine r_istore E [(5, .int (iJ (s (2 + a)))), (0, .ref m0), (1, .int (iJ (a))), (2, .int (iJ (h9))), (3, .int (iJ (o))), (4, .int (iJ (w)))] dX7_ifStroke_43 (by decide) rfl ?_
  refine r_aload_n E 1 dX7_ifStroke_45 rfl rfl ?_
  refine r_get E 6 0 0 dX7_ifStroke_46 in_X7_ifStroke_X7 lk_X7_ifStroke_7 rfl rfl (by decide) rfl ?_
  refine r_iconst E 2 rfl dX7_ifStroke_49 ?_
  refine r_iload_n E 2 dX7_ifStroke_50 rfl rfl ?_
  refine r_iadd E dX7_ifStroke_51 ?_
  refine r_iload_n E 3 dX7_ifStroke_52 rfl rfl ?_
  refine r_aload_n E 1 dX7_ifStroke_53 rfl rfl ?_
  refine r_iload_n E 2 dX7_ifStroke_54 rfl rfl ?_
  refine r_vP E (st := [.int (iJ (h9)), .int (iJ ((2 + a))), .ref ms]) (c_X7_accent l D m0 ms mh mn mp ml mm md mw mt mb mi mg cI kp sv pn rf tl s a (by first | assumption | omega | exact ⟨by omega, by omega⟩) f_c) gX7_ifStroke_X7_accent 1 kf_X7_accent ⟨rfl, rfl⟩ ⟨by decide, by decide⟩ dX7_ifStroke_55 rfl 0 rfl rfl rfl rfl ⟨Nat.zero_le _, Nat.zero_le _⟩ [0, 1] rfl (by decide) [0] rfl (Nat.le_of_ble_eq_true rfl) ?_
  refine r_iload_n E 4 dX7_ifStroke_58 rfl rfl ?_
  refine r_sP E (st := [.int (iJ ((2 + a))), .ref ms]) (c_X7_code l D h9 (mAc (s (2 + a))) o) gX7_ifStroke_X7_code 3 kf_X7_code ⟨rfl, rfl⟩ ⟨by decide, by decide⟩ dX7_ifStroke_59 rfl rfl ⟨Nat.zero_le _, Nat.zero_le _⟩ [] rfl (by decide) [] rfl (Nat.le_of_ble_eq_true rfl) ?_
  refine r_top (b := (1 + h9 + 3 * mAc (s (2 + a)) + 6 * o)) (by omega) ?_
  refine r_iast E (i := (2 + a)) 1 0 dX7_ifStroke_62 rfl rfl (by decide) ⟨by omega, by omega⟩ [(m0, .inr (6, [.ref ms, .ref mh, .int (iJ (kp)), .ref mn, .int (iJ (sv)), .ref mp, .int (iJ (pn)), .int (iJ (rf)), .ref ml, .ref mm, .ref md, .ref mw, .ref mt, .int (iJ (tl)), .ref mb, .ref mi, .ref mg])), (ms, cJ cI 34 (uJ s (2 + a) (1 + h9 + 3 * mAc (s (2 + a)) + 6 * o))), (ml, cJ cI 99 (le)), (mm, cL cJ_ 99 (my))] rfl ?_
  refine r_iload E 5 dX7_ifStroke_63 rfl ?_
  refine r_if_ne E 75 dX7_ifStroke_65 (by decide) ⟨by omega, by omega⟩ (fun c_65 => ?_) (fun c_65 => absurd c_65 (by omega))
  refine r_iload E 5 dX7_ifStroke_75 rfl ?_
  refine r_iconst E 1 rfl dX7_ifStroke_77 ?_
  refine r_icmp_ne E 88 dX7_ifStroke_78 (by decide) ⟨by omega, by omega⟩ ⟨by omega, by omega⟩ (fun c_78 => ?_) (fun c_78 => absurd c_78 (by omega))
  refine r_aload_n E 1 dX7_ifStroke_88 rfl rfl ?_
  refine r_vM E (st := []) (c_X7_canBePlayed l D m0 ms mh mn mp ml mm md mw mt mb mi mg cI kp sv pn rf tl cJ_ (uJ s (2 + a) (1 + h9 + 3 * mAc (s (2 + a)) + 6 * o)) le my (by rw [w0]; exact hs0) (by rw [w1_]; exact hs1) wv) gX7_ifStroke_X7_canBePlayed 0 kf_X7_canBePlayed ⟨rfl, rfl⟩ ⟨by decide, by decide⟩ dX7_ifStroke_89 rfl 0 rfl rfl rfl rfl ⟨Nat.zero_le _, Nat.zero_le _⟩ [0, 1, 2, 3] rfl (by decide) [0, 1] rfl (Nat.le_of_ble_eq_true rfl) [] [] rfl (by decide) (by decide) hA [0, 1, 2, 3] (by decide) (fun u : (Int → Int) × (Int → Int) => [(m0, .inr (6, [.ref ms, .ref mh, .int (iJ (kp)), .ref mn, .int (iJ (sv)), .ref mp, .int (iJ (pn)), .int (iJ (rf)), .ref ml, .ref mm, .ref md, .ref mw, .ref mt, .int (iJ (tl)), .ref mb, .ref mi, .ref mg])), (ms, cJ cI 34 (uJ s (2 + a) (1 + h9 + 3 * mAc (s (2 + a)) + 6 * o))), (ml, cJ cI 99 (u.1)), (mm, cL cJ_ 99 (u.2))]) (fun _ => rfl) ?_
  rintro ⟨LT, MT⟩ hp_1
  refine r_cv (ws2 := [(m0, .inr (6, [.ref ms, .ref mh, .int (iJ (kp)), .ref mn, .int (iJ (sv)), .ref mp, .int (iJ (pn)), .int (iJ (rf)), .ref ml, .ref mm, .ref md, .ref mw, .ref mt, .int (iJ (tl)), .ref mb, .ref mi, .ref mg])), (ms, cJ cI 34 (uJ s (2 + a) (1 + h9 + 3 * mAc (s (2 + a)) + 6 * o))), (ml, cJ cI 99 (LT)), (mm, cL cJ_ 99 (MT))]) (st2 := [.int (iJ (b2 (lsS (uJ s (2 + a) (1 + h9 + 3 * mAc (s (2 + a)) + 6 * o)) (-4) 0 2 < 1000)))]) rfl rfl rfl ?_
  have hT1 := hp_1
  try dsimp only at hT1
  refine r_ifeq_b E 104 dX7_ifStroke_92 (by decide) (fun c_92 => ?_) (fun c_92 => ?_)
  · refine r_bipush E (-4) rfl dX7_ifStroke_104 ?_
    refine r_istore E [(6, .int (iJ ((-4)))), (5, .int (iJ (s (2 + a)))), (0, .ref m0), (1, .int (iJ (a))), (2, .int (iJ (h9))), (3, .int (iJ (o))), (4, .int (iJ (w)))] dX7_ifStroke_106 (by decide) rfl ?_
    refine r_aload_n E 2 dX7_ifStroke_108 rfl rfl ?_
    refine r_get E 6 0 0 dX7_ifStroke_109 in_X7_ifStroke_X7 lk_X7_ifStroke_7 rfl rfl (by decide) rfl ?_
    refine r_iconst E 2 rfl dX7_ifStroke_112 ?_
    refine r_iload_n E 3 dX7_ifStroke_113 rfl rfl ?_
    refine r_iadd E dX7_ifStroke_114 ?_
    refine r_iload E 1 dX7_ifStroke_115 rfl ?_
    refine r_iast E (i := (2 + a)) 1 0 dX7_ifStroke_117 rfl rfl (by decide) ⟨by omega, by omega⟩ [(m0, .inr (6, [.ref ms, .ref mh, .int (iJ (kp)), .ref mn, .int (iJ (sv)), .ref mp, .int (iJ (pn)), .int (iJ (rf)), .ref ml, .ref mm, .ref md, .ref mw, .ref mt, .int (iJ (tl)), .ref mb, .ref mi, .ref mg])), (ms, cJ cI 34 (uJ (uJ s (2 + a) (1 + h9 + 3 * mAc (s (2 + a)) + 6 * o)) (2 + a) (s (2 + a)))), (ml, cJ cI 99 (LT)), (mm, cL cJ_ 99 (MT))] rfl ?_
    refine r_iload E 0 dX7_ifStroke_118 rfl ?_
    exact r_retM E (LT, MT) hr dX7_ifStroke_120 (by first | (rw [if_pos c_92]; done) | (rw [if_neg c_92]; done)) trivial (by
          have e : uJ (uJ s (2 + a) (1 + h9 + 3 * mAc (s (2 + a)) + 6 * o)) (2 + a) (s (2 + a)) = s := by
            rw [uJ_u]; funext j; by_cases z : j = 2 + a
            · subst z; rw [uJ_s]
            · rw [uJ_n z]
          rw [e]) hQ
  · refine r_aload_n E 1 dX7_ifStroke_95 rfl rfl ?_
    refine r_get E 6 0 8 dX7_ifStroke_96 in_X7_ifStroke_X7 lk_X7_ifStroke_22 rfl rfl (by decide) rfl ?_
    refine r_iconst E 2 rfl dX7_ifStroke_99 ?_
    refine r_iald E (i := 2) 2 0 dX7_ifStroke_100 rfl rfl (by decide) ⟨by omega, by omega⟩ ?_
    refine r_top (b := (lsS (uJ s (2 + a) (1 + h9 + 3 * mAc (s (2 + a)) + 6 * o)) (-4) 0 2)) ((hT1 0 2 (by omega) (by rw [w0]; omega) (by omega) (by omega)).1) ?_
    refine r_goto E 106 dX7_ifStroke_101 (by decide) ?_
    refine r_istore E [(6, .int (iJ ((lsS (uJ s (2 + a) (1 + h9 + 3 * mAc (s (2 + a)) + 6 * o)) (-4) 0 2)))), (5, .int (iJ (s (2 + a)))), (0, .ref m0), (1, .int (iJ (a))), (2, .int (iJ (h9))), (3, .int (iJ (o))), (4, .int (iJ (w)))] dX7_ifStroke_106 (by decide) rfl ?_
    refine r_aload_n E 2 dX7_ifStroke_108 rfl rfl ?_
    refine r_get E 6 0 0 dX7_ifStroke_109 in_X7_ifStroke_X7 lk_X7_ifStroke_7 rfl rfl (by decide) rfl ?_
    refine r_iconst E 2 rfl dX7_ifStroke_112 ?_
    refine r_iload_n E 3 dX7_ifStroke_113 rfl rfl ?_
    refine r_iadd E dX7_ifStroke_114 ?_
    refine r_iload E 1 dX7_ifStroke_115 rfl ?_
    refine r_iast E (i := (2 + a)) 1 0 dX7_ifStroke_117 rfl rfl (by decide) ⟨by omega, by omega⟩ [(m0, .inr (6, [.ref ms, .ref mh, .int (iJ (kp)), .ref mn, .int (iJ (sv)), .ref mp, .int (iJ (pn)), .int (iJ (rf)), .ref ml, .ref mm, .ref md, .ref mw, .ref mt, .int (iJ (tl)), .ref mb, .ref mi, .ref mg])), (ms, cJ cI 34 (uJ (uJ s (2 + a) (1 + h9 + 3 * mAc (s (2 + a)) + 6 * o)) (2 + a) (s (2 + a)))), (ml, cJ cI 99 (LT)), (mm, cL cJ_ 99 (MT))] rfl ?_
    refine r_iload E 0 dX7_ifStroke_118 rfl ?_
    exact r_retM E (LT, MT) hr dX7_ifStroke_120 (by first | (rw [if_pos c_92]; done) | (rw [if_neg c_92]; done)) trivial (by
          have e : uJ (uJ s (2 + a) (1 + h9 + 3 * mAc (s (2 + a)) + 6 * o)) (2 + a) (s (2 + a)) = s := by
            rw [uJ_u]; funext j; by_cases z : j = 2 + a
            · subst z; rw [uJ_s]
            · rw [uJ_n z]
          rw [e]) hQ
