theorem kf_X7_canBePlayed : KF yX7_canBePlayed 0 wsX7_canBePlayed cX7_canBePlayed 1 (some .boolean) := ⟨rfl, by decide +kernel, by decide +kernel, by decide +kernel⟩
def rm_X7_canBePlayed : Room := { frames := 8, cells := 0, slots := 0, locals := 189 }
set_option maxRecDepth 20000 in
theorem in_X7_canBePlayed_X7 : ∀ w ∈ u_ws RX7 TX7 17, w ∈ wsX7_canBePlayed := by decide +kernel
set_option maxRecDepth 20000 in
theorem lk_X7_canBePlayed_22 : Cond.fieldLink RX7 22 (TX7 8).1 (TX7 8).2.1 (TX7 8).2.2.1 ∈ wsX7_canBePlayed := by decide +kernel
set_option maxHeartbeats 1000000 in
set_option maxRecDepth 100000 in
theorem c_X7_canBePlayed (l : Launch) (D : va_G) (m0 : Nat) (ms : Nat) (mh : Nat) (mn : Nat) (mp : Nat) (ml : Nat) (mm : Nat) (md : Nat) (mw : Nat) (mt : Nat) (mb : Nat) (mi : Nat) (mg : Nat) (cI : ClassId) (kp : Int) (sv : Int) (pn : Int) (rf : Int) (tl : Int) (cJ_ : ClassId) (s : Int → Int) (le : Int → Int) (my : Int → Int) (hs0 : 0 ≤ s 0 ∧ s 0 ≤ 32) (hs1 : 1 ≤ s 1 ∧ s 1 ≤ 4) (hsv : ∀ j : Int, 0 ≤ j → j < s 0 → 0 ≤ s (2 + j) ∧ s (2 + j) ≤ 24) : MM (S := (Int → Int) × (Int → Int)) l yX7_canBePlayed wsX7_canBePlayed rm_X7_canBePlayed D vwCl [.ref m0] [(m0, .inr (6, [.ref ms, .ref mh, .int (iJ (kp)), .ref mn, .int (iJ (sv)), .ref mp, .int (iJ (pn)), .int (iJ (rf)), .ref ml, .ref mm, .ref md, .ref mw, .ref mt, .int (iJ (tl)), .ref mb, .ref mi, .ref mg])), (ms, cJ cI 34 (s)), (ml, cJ cI 99 (le)), (mm, cL cJ_ 99 (my))] [(cI, .int), (cJ_, .long)] (fun (u : (Int → Int) × (Int → Int)) => b2 (lsS s (-4) 0 2 < 1000)) (fun (u : (Int → Int) × (Int → Int)) => (∀ a b : Int, 0 ≤ a → a ≤ s 0 → 0 ≤ b → b ≤ 2 → u.1 (3 * a + b) = lsS s (-4) a b ∧ u.2 (3 * a + b) = mnS s (-4) a b)) (fun (u : (Int → Int) × (Int → Int)) => [(m0, .inr (6, [.ref ms, .ref mh, .int (iJ (kp)), .ref mn, .int (iJ (sv)), .ref mp, .int (iJ (pn)), .int (iJ (rf)), .ref ml, .ref mm, .ref md, .ref mw, .ref mt, .int (iJ (tl)), .ref mb, .ref mi, .ref mg])), (ms, cJ cI 34 (s)), (ml, cJ cI 99 (u.1)), (mm, cL cJ_ 99 (u.2))]) := by
  refine MM.mk (cc := cX7_canBePlayed) (maxL := 1) (ret := (some .boolean)) (by decide) rfl (Nat.le_of_ble_eq_true rfl) rfl RX7 rfl ?_
  intro p_ e_ s_ m_ ar_ bw_ mt_ cd_ B_ Q_ hA E hr hQ
  refine r_aload_n E 0 dX7_canBePlayed_0 rfl rfl ?_
  refine r_bipush E (-4) rfl dX7_canBePlayed_1 ?_
  refine r_vV E (st := []) (c_X7_lay l D m0 ms mh mn mp ml mm md mw mt mb mi mg cI kp sv pn rf tl cJ_ s le my (-4) (by first | assumption | omega | exact ⟨by omega, by omega⟩) (by first | assumption | omega | exact ⟨by omega, by omega⟩) (by first | assumption | omega | exact ⟨by omega, by omega⟩) (Or.inl rfl)) gX7_canBePlayed_X7_lay 1 kf_X7_lay ⟨rfl, rfl⟩ ⟨by decide, by decide⟩ dX7_canBePlayed_3 rfl 0 rfl rfl rfl rfl ⟨Nat.zero_le _, Nat.zero_le _⟩ [0, 1, 2, 3] rfl (by decide) [0, 1] rfl (Nat.le_of_ble_eq_true rfl) [] [] rfl (by decide) (by decide) hA [0, 1, 2, 3] (by decide) (fun u : (Int → Int) × (Int → Int) => [(m0, .inr (6, [.ref ms, .ref mh, .int (iJ (kp)), .ref mn, .int (iJ (sv)), .ref mp, .int (iJ (pn)), .int (iJ (rf)), .ref ml, .ref mm, .ref md, .ref mw, .ref mt, .int (iJ (tl)), .ref mb, .ref mi, .ref mg])), (ms, cJ cI 34 (s)), (ml, cJ cI 99 (u.1)), (mm, cL cJ_ 99 (u.2))]) (fun _ => rfl) ?_
  rintro ⟨LT, MT⟩ hp_1
  refine r_cv (ws2 := [(m0, .inr (6, [.ref ms, .ref mh, .int (iJ (kp)), .ref mn, .int (iJ (sv)), .ref mp, .int (iJ (pn)), .int (iJ (rf)), .ref ml, .ref mm, .ref md, .ref mw, .ref mt, .int (iJ (tl)), .ref mb, .ref mi, .ref mg])), (ms, cJ cI 34 (s)), (ml, cJ cI 99 (LT)), (mm, cL cJ_ 99 (MT))]) (st2 := []) rfl rfl rfl ?_
  have hT1 := hp_1
  try dsimp only at hT1
  refine r_aload_n E 0 dX7_canBePlayed_6 rfl rfl ?_
  refine r_get E 6 0 8 dX7_canBePlayed_7 in_X7_canBePlayed_X7 lk_X7_canBePlayed_22 rfl rfl (by decide) rfl ?_
  refine r_iconst E 2 rfl dX7_canBePlayed_10 ?_
  refine r_iald E (i := 2) 2 0 dX7_canBePlayed_11 rfl rfl (by decide) ⟨by omega, by omega⟩ ?_
  have f_s := lsS_in (s := s) (nx := -4) (a := 0) (b := 2)
  refine r_top (b := (lsS s (-4) 0 2)) ((hT1 0 2 (by omega) (by omega) (by omega) (by omega)).1) ?_
  refine r_sipush E 1000 rfl dX7_canBePlayed_12 ?_
  refine r_icmp_ge E 22 dX7_canBePlayed_15 (by decide) ⟨by omega, by omega⟩ ⟨by omega, by omega⟩ (fun c_15 => ?_) (fun c_15 => ?_)
  · refine r_iconst E 0 rfl dX7_canBePlayed_22 ?_
    exact r_retMZ E (LT, MT) hr dX7_canBePlayed_23 (by omega) (by first | rfl | exact (b2_t (by first | omega | assumption)).symm | exact (b2_f (by first | omega | assumption)).symm | omega | assumption) hT1 rfl hQ
  · refine r_iconst E 1 rfl dX7_canBePlayed_18 ?_
    refine r_goto E 23 dX7_canBePlayed_19 (by decide) ?_
    exact r_retMZ E (LT, MT) hr dX7_canBePlayed_23 (by omega) (by first | rfl | exact (b2_t (by first | omega | assumption)).symm | exact (b2_f (by first | omega | assumption)).symm | omega | assumption) hT1 rfl hQ
theorem kf_X7_stickingsOnce : KF yX7_stickingsOnce 0 wsX7_stickingsOnce cX7_stickingsOnce 1 (some .int) := ⟨rfl, by decide +kernel, by decide +kernel, by decide +kernel⟩
def rm_X7_stickingsOnce : Room := { frames := 8, cells := 0, slots := 0, locals := 189 }
set_option maxRecDepth 20000 in
theorem in_X7_stickingsOnce_X7 : ∀ w ∈ u_ws RX7 TX7 17, w ∈ wsX7_stickingsOnce := by decide +kernel
set_option maxRecDepth 20000 in
theorem lk_X7_stickingsOnce_25 : Cond.fieldLink RX7 25 (TX7 9).1 (TX7 9).2.1 (TX7 9).2.2.1 ∈ wsX7_stickingsOnce := by decide +kernel
set_option maxHeartbeats 1000000 in
set_option maxRecDepth 100000 in
theorem c_X7_stickingsOnce (l : Launch) (D : va_G) (m0 : Nat) (ms : Nat) (mh : Nat) (mn : Nat) (mp : Nat) (ml : Nat) (mm : Nat) (md : Nat) (mw : Nat) (mt : Nat) (mb : Nat) (mi : Nat) (mg : Nat) (cI : ClassId) (kp : Int) (sv : Int) (pn : Int) (rf : Int) (tl : Int) (cJ_ : ClassId) (s : Int → Int) (le : Int → Int) (my : Int → Int) (hs0 : 0 ≤ s 0 ∧ s 0 ≤ 32) (hs1 : 1 ≤ s 1 ∧ s 1 ≤ 4) (hsv : ∀ j : Int, 0 ≤ j → j < s 0 → 0 ≤ s (2 + j) ∧ s (2 + j) ≤ 24) : MM (S := (Int → Int) × (Int → Int)) l yX7_stickingsOnce wsX7_stickingsOnce rm_X7_stickingsOnce D vwCl [.ref m0] [(m0, .inr (6, [.ref ms, .ref mh, .int (iJ (kp)), .ref mn, .int (iJ (sv)), .ref mp, .int (iJ (pn)), .int (iJ (rf)), .ref ml, .ref mm, .ref md, .ref mw, .ref mt, .int (iJ (tl)), .ref mb, .ref mi, .ref mg])), (ms, cJ cI 34 (s)), (ml, cJ cI 99 (le)), (mm, cL cJ_ 99 (my))] [(cI, .int), (cJ_, .long)] (fun (u : (Int → Int) × (Int → Int)) => cap9 (mnS s (-4) 0 2)) (fun (u : (Int → Int) × (Int → Int)) => True) (fun (u : (Int → Int) × (Int → Int)) => [(m0, .inr (6, [.ref ms, .ref mh, .int (iJ (kp)), .ref mn, .int (iJ (sv)), .ref mp, .int (iJ (pn)), .int (iJ (rf)), .ref ml, .ref mm, .ref md, .ref mw, .ref mt, .int (iJ (tl)), .ref mb, .ref mi, .ref mg])), (ms, cJ cI 34 (s)), (ml, cJ cI 99 (u.1)), (mm, cL cJ_ 99 (u.2))]) := by
  refine MM.mk (cc := cX7_stickingsOnce) (maxL := 1) (ret := (some .int)) (by decide) rfl (Nat.le_of_ble_eq_true rfl) rfl RX7 rfl ?_
  intro p_ e_ s_ m_ ar_ bw_ mt_ cd_ B_ Q_ hA E hr hQ
  refine r_aload_n E 0 dX7_stickingsOnce_0 rfl rfl ?_
  refine r_bipush E (-4) rfl dX7_stickingsOnce_1 ?_
  refine r_vV E (st := []) (c_X7_lay l D m0 ms mh mn mp ml mm md mw mt mb mi mg cI kp sv pn rf tl cJ_ s le my (-4) (by first | assumption | omega | exact ⟨by omega, by omega⟩) (by first | assumption | omega | exact ⟨by omega, by omega⟩) (by first | assumption | omega | exact ⟨by omega, by omega⟩) (Or.inl rfl)) gX7_stickingsOnce_X7_lay 1 kf_X7_lay ⟨rfl, rfl⟩ ⟨by decide, by decide⟩ dX7_stickingsOnce_3 rfl 0 rfl rfl rfl rfl ⟨Nat.zero_le _, Nat.zero_le _⟩ [0, 1, 2, 3] rfl (by decide) [0, 1] rfl (Nat.le_of_ble_eq_true rfl) [] [] rfl (by decide) (by decide) hA [0, 1, 2, 3] (by decide) (fun u : (Int → Int) × (Int → Int) => [(m0, .inr (6, [.ref ms, .ref mh, .int (iJ (kp)), .ref mn, .int (iJ (sv)), .ref mp, .int (iJ (pn)), .int (iJ (rf)), .ref ml, .ref mm, .ref md, .ref mw, .ref mt, .int (iJ (tl)), .ref mb, .ref mi, .ref mg])), (ms, cJ cI 34 (s)), (ml, cJ cI 99 (u.1)), (mm, cL cJ_ 99 (u.2))]) (fun _ => rfl) ?_
  rintro ⟨LT, MT⟩ hp_1
  refine r_cv (ws2 := [(m0, .inr (6, [.ref ms, .ref mh, .int (iJ (kp)), .ref mn, .int (iJ (sv)), .ref mp, .int (iJ (pn)), .int (iJ (rf)), .ref ml, .ref mm, .ref md, .ref mw, .ref mt, .int (iJ (tl)), .ref mb, .ref mi, .ref mg])), (ms, cJ cI 34 (s)), (ml, cJ cI 99 (LT)), (mm, cL cJ_ 99 (MT))]) (st2 := []) rfl rfl rfl ?_
  have hT1 := hp_1
  try dsimp only at hT1
  refine r_aload_n E 0 dX7_stickingsOnce_6 rfl rfl ?_
  refine r_get E 6 0 9 dX7_stickingsOnce_7 in_X7_stickingsOnce_X7 lk_X7_stickingsOnce_25 rfl rfl (by decide) rfl ?_
  refine r_iconst E 2 rfl dX7_stickingsOnce_10 ?_
  refine r_lald E (i := 2) 3 1 dX7_stickingsOnce_11 rfl rfl (by decide) ⟨by omega, by omega⟩ ?_
  refine r_topL (b := (mnS s (-4) 0 2)) ((hT1 0 2 (by omega) (by omega) (by omega) (by omega)).2) ?_
  refine r_sP E (st := []) (c_X7_capped l D (mnS s (-4) 0 2) (by have := mnS_in (s := s) (nx := -4) (a := 0) (b := 2) (by omega) hs0.2; exact ⟨by omega, by omega⟩)) gX7_stickingsOnce_X7_capped 1 kf_X7_capped ⟨rfl, rfl⟩ ⟨by decide, by decide⟩ dX7_stickingsOnce_12 rfl rfl ⟨Nat.zero_le _, Nat.zero_le _⟩ [] rfl (by decide) [] rfl (Nat.le_of_ble_eq_true rfl) ?_
  exact r_retM E (LT, MT) hr dX7_stickingsOnce_15 rfl trivial rfl hQ
theorem kf_X7_stickingsOver : KF yX7_stickingsOver 0 wsX7_stickingsOver cX7_stickingsOver 5 (some .int) := ⟨rfl, by decide +kernel, by decide +kernel, by decide +kernel⟩
def rm_X7_stickingsOver : Room := { frames := 9, cells := 0, slots := 0, locals := 209 }
set_option maxRecDepth 20000 in
theorem in_X7_stickingsOver_X7 : ∀ w ∈ u_ws RX7 TX7 17, w ∈ wsX7_stickingsOver := by decide +kernel
set_option maxRecDepth 20000 in
theorem lk_X7_stickingsOver_7 : Cond.fieldLink RX7 7 (TX7 0).1 (TX7 0).2.1 (TX7 0).2.2.1 ∈ wsX7_stickingsOver := by decide +kernel
set_option maxRecDepth 20000 in
theorem lk_X7_stickingsOver_25 : Cond.fieldLink RX7 25 (TX7 9).1 (TX7 9).2.1 (TX7 9).2.2.1 ∈ wsX7_stickingsOver := by decide +kernel
set_option maxHeartbeats 1000000 in
set_option maxRecDepth 100000 in
theorem c_X7_stickingsOver (l : Launch) (D : va_G) (m0 : Nat) (ms : Nat) (mh : Nat) (mn : Nat) (mp : Nat) (ml : Nat) (mm : Nat) (md : Nat) (mw : Nat) (mt : Nat) (mb : Nat) (mi : Nat) (mg : Nat) (cI : ClassId) (kp : Int) (sv : Int) (pn : Int) (rf : Int) (tl : Int) (cJ_ : ClassId) (s : Int → Int) (le : Int → Int) (my : Int → Int) (hs0 : 0 ≤ s 0 ∧ s 0 ≤ 32) (hs1 : 1 ≤ s 1 ∧ s 1 ≤ 4) (hsv : ∀ j : Int, 0 ≤ j → j < s 0 → 0 ≤ s (2 + j) ∧ s (2 + j) ≤ 24) : MM (S := (Int → Int) × (Int → Int)) l yX7_stickingsOver wsX7_stickingsOver rm_X7_stickingsOver D vwCl [.ref m0] [(m0, .inr (6, [.ref ms, .ref mh, .int (iJ (kp)), .ref mn, .int (iJ (sv)), .ref mp, .int (iJ (pn)), .int (iJ (rf)), .ref ml, .ref mm, .ref md, .ref mw, .ref mt, .int (iJ (tl)), .ref mb, .ref mi, .ref mg])), (ms, cJ cI 34 (s)), (ml, cJ cI 99 (le)), (mm, cL cJ_ 99 (my))] [(cI, .int), (cJ_, .long)] (fun (u : (Int → Int) × (Int → Int)) => soV s) (fun (u : (Int → Int) × (Int → Int)) => True) (fun (u : (Int → Int) × (Int → Int)) => [(m0, .inr (6, [.ref ms, .ref mh, .int (iJ (kp)), .ref mn, .int (iJ (sv)), .ref mp, .int (iJ (pn)), .int (iJ (rf)), .ref ml, .ref mm, .ref md, .ref mw, .ref mt, .int (iJ (tl)), .ref mb, .ref mi, .ref mg])), (ms, cJ cI 34 (s)), (ml, cJ cI 99 (u.1)), (mm, cL cJ_ 99 (u.2))]) := by
  refine MM.mk (cc := cX7_stickingsOver) (maxL := 5) (ret := (some .int)) (by decide) rfl (Nat.le_of_ble_eq_true rfl) rfl RX7 rfl ?_
  intro p_ e_ s_ m_ ar_ bw_ mt_ cd_ B_ Q_ hA E hr hQ
  refine r_aload_n E 0 dX7_stickingsOver_0 rfl rfl ?_
  refine r_get E 6 0 0 dX7_stickingsOver_1 in_X7_stickingsOver_X7 lk_X7_stickingsOver_7 rfl rfl (by decide) rfl ?_
  refine r_iconst E 0 rfl dX7_stickingsOver_4 ?_
  refine r_iald E (i := 0) 1 0 dX7_stickingsOver_5 rfl rfl (by decide) ⟨by omega, by omega⟩ ?_
  refine r_istore_n E [(1, .int (iJ (s 0))), (0, .ref m0)] dX7_stickingsOver_6 rfl (by decide) rfl ?_
  refine r_iload_n E 0 dX7_stickingsOver_7 rfl rfl ?_
  refine r_if_eq E 29 dX7_stickingsOver_8 (by decide) ⟨by omega, by omega⟩ (fun c_8 => ?_) (fun c_8 => ?_)
  · refine r_aload_n E 1 dX7_stickingsOver_29 rfl rfl ?_
    refine r_vM E (st := []) (c_X7_stickingsOnce l D m0 ms mh mn mp ml mm md mw mt mb mi mg cI kp sv pn rf tl cJ_ s le my (by first | assumption | omega | exact ⟨by omega, by omega⟩) (by first | assumption | omega | exact ⟨by omega, by omega⟩) (by first | assumption | omega | exact ⟨by omega, by omega⟩)) gX7_stickingsOver_X7_stickingsOnce 0 kf_X7_stickingsOnce ⟨rfl, rfl⟩ ⟨by decide, by decide⟩ dX7_stickingsOver_30 rfl 0 rfl rfl rfl rfl ⟨Nat.zero_le _, Nat.zero_le _⟩ [0, 1, 2, 3] rfl (by decide) [0, 1] rfl (Nat.le_of_ble_eq_true rfl) [] [] rfl (by decide) (by decide) hA [0, 1, 2, 3] (by decide) (fun u : (Int → Int) × (Int → Int) => [(m0, .inr (6, [.ref ms, .ref mh, .int (iJ (kp)), .ref mn, .int (iJ (sv)), .ref mp, .int (iJ (pn)), .int (iJ (rf)), .ref ml, .ref mm, .ref md, .ref mw, .ref mt, .int (iJ (tl)), .ref mb, .ref mi, .ref mg])), (ms, cJ cI 34 (s)), (ml, cJ cI 99 (u.1)), (mm, cL cJ_ 99 (u.2))]) (fun _ => rfl) ?_
    rintro ⟨LT, MT⟩ hp_1
    refine r_cv (ws2 := [(m0, .inr (6, [.ref ms, .ref mh, .int (iJ (kp)), .ref mn, .int (iJ (sv)), .ref mp, .int (iJ (pn)), .int (iJ (rf)), .ref ml, .ref mm, .ref md, .ref mw, .ref mt, .int (iJ (tl)), .ref mb, .ref mi, .ref mg])), (ms, cJ cI 34 (s)), (ml, cJ cI 99 (LT)), (mm, cL cJ_ 99 (MT))]) (st2 := [.int (iJ (cap9 (mnS s (-4) 0 2)))]) rfl rfl rfl ?_
    exact r_retM E (LT, MT) hr dX7_stickingsOver_33 (by unfold soV; rw [if_pos (by first | exact Or.inl (by omega) | exact Or.inr (Or.inl (by assumption)) | exact Or.inr (Or.inr (by assumption)))]) trivial rfl hQ
  · refine r_aload_n E 1 dX7_stickingsOver_11 rfl rfl ?_
    have f_0 := hsv 0 (by omega) (by omega)
    have f_n := hsv (s 0 - 1) (by omega) (by omega)
    refine r_iconst E 0 rfl dX7_stickingsOver_12 ?_
    refine r_vP E (st := []) (c_X7_isStroke l D m0 ms mh mn mp ml mm md mw mt mb mi mg cI kp sv pn rf tl s 0 (by first | assumption | omega | exact ⟨by omega, by omega⟩) f_0) gX7_stickingsOver_X7_isStroke 1 kf_X7_isStroke ⟨rfl, rfl⟩ ⟨by decide, by decide⟩ dX7_stickingsOver_13 rfl 0 rfl rfl rfl rfl ⟨Nat.zero_le _, Nat.zero_le _⟩ [0, 1] rfl (by decide) [0] rfl (Nat.le_of_ble_eq_true rfl) ?_
    refine r_ifeq_n E 29 dX7_stickingsOver_16 (by decide) (fun c_16 => ?_) (fun c_16 => ?_)
    · refine r_aload_n E 1 dX7_stickingsOver_29 rfl rfl ?_
      refine r_vM E (st := []) (c_X7_stickingsOnce l D m0 ms mh mn mp ml mm md mw mt mb mi mg cI kp sv pn rf tl cJ_ s le my (by first | assumption | omega | exact ⟨by omega, by omega⟩) (by first | assumption | omega | exact ⟨by omega, by omega⟩) (by first | assumption | omega | exact ⟨by omega, by omega⟩)) gX7_stickingsOver_X7_stickingsOnce 0 kf_X7_stickingsOnce ⟨rfl, rfl⟩ ⟨by decide, by decide⟩ dX7_stickingsOver_30 rfl 0 rfl rfl rfl rfl ⟨Nat.zero_le _, Nat.zero_le _⟩ [0, 1, 2, 3] rfl (by decide) [0, 1] rfl (Nat.le_of_ble_eq_true rfl) [] [] rfl (by decide) (by decide) hA [0, 1, 2, 3] (by decide) (fun u : (Int → Int) × (Int → Int) => [(m0, .inr (6, [.ref ms, .ref mh, .int (iJ (kp)), .ref mn, .int (iJ (sv)), .ref mp, .int (iJ (pn)), .int (iJ (rf)), .ref ml, .ref mm, .ref md, .ref mw, .ref mt, .int (iJ (tl)), .ref mb, .ref mi, .ref mg])), (ms, cJ cI 34 (s)), (ml, cJ cI 99 (u.1)), (mm, cL cJ_ 99 (u.2))]) (fun _ => rfl) ?_
      rintro ⟨LT, MT⟩ hp_2
      refine r_cv (ws2 := [(m0, .inr (6, [.ref ms, .ref mh, .int (iJ (kp)), .ref mn, .int (iJ (sv)), .ref mp, .int (iJ (pn)), .int (iJ (rf)), .ref ml, .ref mm, .ref md, .ref mw, .ref mt, .int (iJ (tl)), .ref mb, .ref mi, .ref mg])), (ms, cJ cI 34 (s)), (ml, cJ cI 99 (LT)), (mm, cL cJ_ 99 (MT))]) (st2 := [.int (iJ (cap9 (mnS s (-4) 0 2)))]) rfl rfl rfl ?_
      exact r_retM E (LT, MT) hr dX7_stickingsOver_33 (by unfold soV; rw [if_pos (by first | exact Or.inl (by omega) | exact Or.inr (Or.inl (by assumption)) | exact Or.inr (Or.inr (by assumption)))]) trivial rfl hQ
    · refine r_aload_n E 1 dX7_stickingsOver_19 rfl rfl ?_
      refine r_iload_n E 0 dX7_stickingsOver_20 rfl rfl ?_
      refine r_iconst E 1 rfl dX7_stickingsOver_21 ?_
      refine r_isub E dX7_stickingsOver_22 ?_
      refine r_vP E (st := []) (c_X7_isStroke l D m0 ms mh mn mp ml mm md mw mt mb mi mg cI kp sv pn rf tl s ((s 0) - 1) (by first | assumption | omega | exact ⟨by omega, by omega⟩) f_n) gX7_stickingsOver_X7_isStroke 1 kf_X7_isStroke ⟨rfl, rfl⟩ ⟨by decide, by decide⟩ dX7_stickingsOver_23 rfl 0 rfl rfl rfl rfl ⟨Nat.zero_le _, Nat.zero_le _⟩ [0, 1] rfl (by decide) [0] rfl (Nat.le_of_ble_eq_true rfl) ?_
      refine r_ifne_n E 34 dX7_stickingsOver_26 (by decide) (fun c_26 => ?_) (fun c_26 => ?_)
      · refine r_lconst E 0 rfl dX7_stickingsOver_34 ?_
        refine r_lstore_n E [(2, .long (lJ (0))), (1, .int (iJ (s 0))), (0, .ref m0)] dX7_stickingsOver_35 rfl (by decide) rfl ?_
        refine r_iconst E 0 rfl dX7_stickingsOver_36 ?_
        refine r_istore E [(4, .int (iJ (0))), (2, .long (lJ (0))), (1, .int (iJ (s 0))), (0, .ref m0)] dX7_stickingsOver_37 (by decide) rfl ?_
        refine r_iload E 0 dX7_stickingsOver_39 rfl ?_
        refine r_iconst E 2 rfl dX7_stickingsOver_41 ?_
        refine r_icmp_ge E 79 dX7_stickingsOver_42 (by decide) ⟨by omega, by omega⟩ ⟨by omega, by omega⟩ (fun c_42 => absurd c_42 (by omega)) (fun c_42 => ?_)
        refine r_aload_n E 3 dX7_stickingsOver_45 rfl rfl ?_
        refine r_iconst E 0 rfl dX7_stickingsOver_46 ?_
        refine r_iload E 0 dX7_stickingsOver_47 rfl ?_
        refine r_vP E (st := []) (c_X7_allows l D m0 ms mh mn mp ml mm md mw mt mb mi mg cI kp sv pn rf tl s 0 0 (by first | assumption | omega | exact ⟨by omega, by omega⟩) ⟨by omega, by omega⟩ (by first | assumption | omega | exact ⟨by omega, by omega⟩)) gX7_stickingsOver_X7_allows 2 kf_X7_allows ⟨rfl, rfl⟩ ⟨by decide, by decide⟩ dX7_stickingsOver_49 rfl 0 rfl rfl rfl rfl ⟨Nat.zero_le _, Nat.zero_le _⟩ [0, 1] rfl (by decide) [0] rfl (Nat.le_of_ble_eq_true rfl) ?_
        refine r_ifeq_b E 73 dX7_stickingsOver_52 (by decide) (fun c_52 => ?_) (fun c_52 => ?_)
        · refine r_iinc E (k := 0) [(4, .int (iJ (1))), (2, .long (lJ (0))), (1, .int (iJ (s 0))), (0, .ref m0)] dX7_stickingsOver_73 rfl (by decide) rfl ?_
          refine r_goto E 39 dX7_stickingsOver_76 (by decide) ?_
          refine r_iload E 0 dX7_stickingsOver_39 rfl ?_
          refine r_iconst E 2 rfl dX7_stickingsOver_41 ?_
          refine r_icmp_ge E 79 dX7_stickingsOver_42 (by decide) ⟨by omega, by omega⟩ ⟨by omega, by omega⟩ (fun c_42 => absurd c_42 (by omega)) (fun c_42 => ?_)
          refine r_aload_n E 3 dX7_stickingsOver_45 rfl rfl ?_
          refine r_iconst E 0 rfl dX7_stickingsOver_46 ?_
          refine r_iload E 0 dX7_stickingsOver_47 rfl ?_
          refine r_vP E (st := []) (c_X7_allows l D m0 ms mh mn mp ml mm md mw mt mb mi mg cI kp sv pn rf tl s 0 1 (by first | assumption | omega | exact ⟨by omega, by omega⟩) ⟨by omega, by omega⟩ (by first | assumption | omega | exact ⟨by omega, by omega⟩)) gX7_stickingsOver_X7_allows 2 kf_X7_allows ⟨rfl, rfl⟩ ⟨by decide, by decide⟩ dX7_stickingsOver_49 rfl 0 rfl rfl rfl rfl ⟨Nat.zero_le _, Nat.zero_le _⟩ [0, 1] rfl (by decide) [0] rfl (Nat.le_of_ble_eq_true rfl) ?_
          refine r_ifeq_b E 73 dX7_stickingsOver_52 (by decide) (fun c_52 => ?_) (fun c_52 => ?_)
          · refine r_iinc E (k := 0) [(4, .int (iJ (2))), (2, .long (lJ (0))), (1, .int (iJ (s 0))), (0, .ref m0)] dX7_stickingsOver_73 rfl (by decide) rfl ?_
            refine r_goto E 39 dX7_stickingsOver_76 (by decide) ?_
            refine r_iload E 0 dX7_stickingsOver_39 rfl ?_
            refine r_iconst E 2 rfl dX7_stickingsOver_41 ?_
            refine r_icmp_ge E 79 dX7_stickingsOver_42 (by decide) ⟨by omega, by omega⟩ ⟨by omega, by omega⟩ (fun c_42 => ?_) (fun c_42 => absurd c_42 (by omega))
            refine r_lload_n E 1 dX7_stickingsOver_79 rfl rfl ?_
            refine r_sP E (st := []) (c_X7_capped l D 0 (by
                  have g0 := mnS_in (s := s) (nx := 0) (a := 1) (b := 0) (by omega) hs0.2
                  have g1 := mnS_in (s := s) (nx := 1) (a := 1) (b := 1) (by omega) hs0.2
                  exact ⟨by omega, by omega⟩)) gX7_stickingsOver_X7_capped 1 kf_X7_capped ⟨rfl, rfl⟩ ⟨by decide, by decide⟩ dX7_stickingsOver_80 rfl rfl ⟨Nat.zero_le _, Nat.zero_le _⟩ [] rfl (by decide) [] rfl (Nat.le_of_ble_eq_true rfl) ?_
            exact r_retM E (le, my) hr dX7_stickingsOver_83 (by
                  have e : soV s = cap9 ((if mAl (s (2 + 0)) 0 then mnS s 0 1 0 else 0) + (if mAl (s (2 + 0)) 1 then mnS s 1 1 1 else 0)) := by
                    unfold soV; exact if_neg (fun z => z.elim (fun y => absurd y (by omega)) (fun y => y.elim c_16 c_26))
                  rw [e]
                  rcases Decidable.em (mAl (s (2 + 0)) 0) with y0 | y0 <;> rcases Decidable.em (mAl (s (2 + 0)) 1) with y1 | y1 <;> first | contradiction | ((first | rw [if_pos y0] | rw [if_neg y0]); (first | rw [if_pos y1] | rw [if_neg y1]); unfold cap9; simp)) trivial rfl hQ
          · refine r_aload_n E 3 dX7_stickingsOver_55 rfl rfl ?_
            refine r_iload E 0 dX7_stickingsOver_56 rfl ?_
            refine r_vV E (st := []) (c_X7_lay l D m0 ms mh mn mp ml mm md mw mt mb mi mg cI kp sv pn rf tl cJ_ s le my 1 (by first | assumption | omega | exact ⟨by omega, by omega⟩) (by first | assumption | omega | exact ⟨by omega, by omega⟩) (by first | assumption | omega | exact ⟨by omega, by omega⟩) (Or.inr ⟨by omega, by omega, by omega⟩)) gX7_stickingsOver_X7_lay 1 kf_X7_lay ⟨rfl, rfl⟩ ⟨by decide, by decide⟩ dX7_stickingsOver_58 rfl 0 rfl rfl rfl rfl ⟨Nat.zero_le _, Nat.zero_le _⟩ [0, 1, 2, 3] rfl (by decide) [0, 1] rfl (Nat.le_of_ble_eq_true rfl) [] [] rfl (by decide) (by decide) hA [0, 1, 2, 3] (by decide) (fun u : (Int → Int) × (Int → Int) => [(m0, .inr (6, [.ref ms, .ref mh, .int (iJ (kp)), .ref mn, .int (iJ (sv)), .ref mp, .int (iJ (pn)), .int (iJ (rf)), .ref ml, .ref mm, .ref md, .ref mw, .ref mt, .int (iJ (tl)), .ref mb, .ref mi, .ref mg])), (ms, cJ cI 34 (s)), (ml, cJ cI 99 (u.1)), (mm, cL cJ_ 99 (u.2))]) (fun _ => rfl) ?_
            rintro ⟨LS_3, MN_4⟩ hp_5
            refine r_cv (ws2 := [(m0, .inr (6, [.ref ms, .ref mh, .int (iJ (kp)), .ref mn, .int (iJ (sv)), .ref mp, .int (iJ (pn)), .int (iJ (rf)), .ref ml, .ref mm, .ref md, .ref mw, .ref mt, .int (iJ (tl)), .ref mb, .ref mi, .ref mg])), (ms, cJ cI 34 (s)), (ml, cJ cI 99 (LS_3)), (mm, cL cJ_ 99 (MN_4))]) (st2 := []) rfl rfl rfl ?_
            have hT_6 := hp_5
            try dsimp only at hT_6
            have hT_MN_4 := hT_6
            refine r_lload_n E 1 dX7_stickingsOver_61 rfl rfl ?_
            refine r_aload_n E 3 dX7_stickingsOver_62 rfl rfl ?_
            refine r_get E 6 0 9 dX7_stickingsOver_63 in_X7_stickingsOver_X7 lk_X7_stickingsOver_25 rfl rfl (by decide) rfl ?_
            refine r_iconst E 3 rfl dX7_stickingsOver_66 ?_
            refine r_iload E 0 dX7_stickingsOver_67 rfl ?_
            refine r_iadd E dX7_stickingsOver_69 ?_
            refine r_top 4 rfl ?_
            refine r_lald E (i := 4) 3 1 dX7_stickingsOver_70 rfl rfl (by decide) ⟨by omega, by omega⟩ ?_
            refine r_topL (b := (mnS s 1 1 1)) (by exact (hT_MN_4 1 1 (by omega) (by omega) (by omega) (by omega)).2) ?_
            refine r_ladd E dX7_stickingsOver_71 ?_
            refine r_lstore_n E [(2, .long (lJ ((0 + (mnS s 1 1 1))))), (4, .int (iJ (1))), (1, .int (iJ (s 0))), (0, .ref m0)] dX7_stickingsOver_72 rfl (by decide) rfl ?_
            refine r_iinc E (k := 1) [(4, .int (iJ (2))), (2, .long (lJ ((0 + (mnS s 1 1 1))))), (1, .int (iJ (s 0))), (0, .ref m0)] dX7_stickingsOver_73 rfl (by decide) rfl ?_
            refine r_goto E 39 dX7_stickingsOver_76 (by decide) ?_
            refine r_iload E 0 dX7_stickingsOver_39 rfl ?_
            refine r_iconst E 2 rfl dX7_stickingsOver_41 ?_
            refine r_icmp_ge E 79 dX7_stickingsOver_42 (by decide) ⟨by omega, by omega⟩ ⟨by omega, by omega⟩ (fun c_42 => ?_) (fun c_42 => absurd c_42 (by omega))
            refine r_lload_n E 1 dX7_stickingsOver_79 rfl rfl ?_
            refine r_sP E (st := []) (c_X7_capped l D (0 + (mnS s 1 1 1)) (by
                  have g0 := mnS_in (s := s) (nx := 0) (a := 1) (b := 0) (by omega) hs0.2
                  have g1 := mnS_in (s := s) (nx := 1) (a := 1) (b := 1) (by omega) hs0.2
                  exact ⟨by omega, by omega⟩)) gX7_stickingsOver_X7_capped 1 kf_X7_capped ⟨rfl, rfl⟩ ⟨by decide, by decide⟩ dX7_stickingsOver_80 rfl rfl ⟨Nat.zero_le _, Nat.zero_le _⟩ [] rfl (by decide) [] rfl (Nat.le_of_ble_eq_true rfl) ?_
            exact r_retM E (LS_3, MN_4) hr dX7_stickingsOver_83 (by
                  have e : soV s = cap9 ((if mAl (s (2 + 0)) 0 then mnS s 0 1 0 else 0) + (if mAl (s (2 + 0)) 1 then mnS s 1 1 1 else 0)) := by
                    unfold soV; exact if_neg (fun z => z.elim (fun y => absurd y (by omega)) (fun y => y.elim c_16 c_26))
                  rw [e]
                  rcases Decidable.em (mAl (s (2 + 0)) 0) with y0 | y0 <;> rcases Decidable.em (mAl (s (2 + 0)) 1) with y1 | y1 <;> first | contradiction | ((first | rw [if_pos y0] | rw [if_neg y0]); (first | rw [if_pos y1] | rw [if_neg y1]); unfold cap9; simp)) trivial rfl hQ
        · refine r_aload_n E 3 dX7_stickingsOver_55 rfl rfl ?_
          refine r_iload E 0 dX7_stickingsOver_56 rfl ?_
          refine r_vV E (st := []) (c_X7_lay l D m0 ms mh mn mp ml mm md mw mt mb mi mg cI kp sv pn rf tl cJ_ s le my 0 (by first | assumption | omega | exact ⟨by omega, by omega⟩) (by first | assumption | omega | exact ⟨by omega, by omega⟩) (by first | assumption | omega | exact ⟨by omega, by omega⟩) (Or.inr ⟨by omega, by omega, by omega⟩)) gX7_stickingsOver_X7_lay 1 kf_X7_lay ⟨rfl, rfl⟩ ⟨by decide, by decide⟩ dX7_stickingsOver_58 rfl 0 rfl rfl rfl rfl ⟨Nat.zero_le _, Nat.zero_le _⟩ [0, 1, 2, 3] rfl (by decide) [0, 1] rfl (Nat.le_of_ble_eq_true rfl) [] [] rfl (by decide) (by decide) hA [0, 1, 2, 3] (by decide) (fun u : (Int → Int) × (Int → Int) => [(m0, .inr (6, [.ref ms, .ref mh, .int (iJ (kp)), .ref mn, .int (iJ (sv)), .ref mp, .int (iJ (pn)), .int (iJ (rf)), .ref ml, .ref mm, .ref md, .ref mw, .ref mt, .int (iJ (tl)), .ref mb, .ref mi, .ref mg])), (ms, cJ cI 34 (s)), (ml, cJ cI 99 (u.1)), (mm, cL cJ_ 99 (u.2))]) (fun _ => rfl) ?_
          rintro ⟨LS_7, MN_8⟩ hp_9
          refine r_cv (ws2 := [(m0, .inr (6, [.ref ms, .ref mh, .int (iJ (kp)), .ref mn, .int (iJ (sv)), .ref mp, .int (iJ (pn)), .int (iJ (rf)), .ref ml, .ref mm, .ref md, .ref mw, .ref mt, .int (iJ (tl)), .ref mb, .ref mi, .ref mg])), (ms, cJ cI 34 (s)), (ml, cJ cI 99 (LS_7)), (mm, cL cJ_ 99 (MN_8))]) (st2 := []) rfl rfl rfl ?_
          have hT_10 := hp_9
          try dsimp only at hT_10
          have hT_MN_8 := hT_10
          refine r_lload_n E 1 dX7_stickingsOver_61 rfl rfl ?_
          refine r_aload_n E 3 dX7_stickingsOver_62 rfl rfl ?_
          refine r_get E 6 0 9 dX7_stickingsOver_63 in_X7_stickingsOver_X7 lk_X7_stickingsOver_25 rfl rfl (by decide) rfl ?_
          refine r_iconst E 3 rfl dX7_stickingsOver_66 ?_
          refine r_iload E 0 dX7_stickingsOver_67 rfl ?_
          refine r_iadd E dX7_stickingsOver_69 ?_
          refine r_top 3 rfl ?_
          refine r_lald E (i := 3) 3 1 dX7_stickingsOver_70 rfl rfl (by decide) ⟨by omega, by omega⟩ ?_
          refine r_topL (b := (mnS s 0 1 0)) (by exact (hT_MN_8 1 0 (by omega) (by omega) (by omega) (by omega)).2) ?_
          refine r_ladd E dX7_stickingsOver_71 ?_
          refine r_lstore_n E [(2, .long (lJ ((0 + (mnS s 0 1 0))))), (4, .int (iJ (0))), (1, .int (iJ (s 0))), (0, .ref m0)] dX7_stickingsOver_72 rfl (by decide) rfl ?_
          refine r_iinc E (k := 1) [(4, .int (iJ (1))), (2, .long (lJ ((0 + (mnS s 0 1 0))))), (1, .int (iJ (s 0))), (0, .ref m0)] dX7_stickingsOver_73 rfl (by decide) rfl ?_
          refine r_goto E 39 dX7_stickingsOver_76 (by decide) ?_
          refine r_iload E 0 dX7_stickingsOver_39 rfl ?_
          refine r_iconst E 2 rfl dX7_stickingsOver_41 ?_
          refine r_icmp_ge E 79 dX7_stickingsOver_42 (by decide) ⟨by omega, by omega⟩ ⟨by omega, by omega⟩ (fun c_42 => absurd c_42 (by omega)) (fun c_42 => ?_)
          refine r_aload_n E 3 dX7_stickingsOver_45 rfl rfl ?_
          refine r_iconst E 0 rfl dX7_stickingsOver_46 ?_
          refine r_iload E 0 dX7_stickingsOver_47 rfl ?_
          refine r_vP E (st := []) (c_X7_allows l D m0 ms mh mn mp ml mm md mw mt mb mi mg cI kp sv pn rf tl s 0 1 (by first | assumption | omega | exact ⟨by omega, by omega⟩) ⟨by omega, by omega⟩ (by first | assumption | omega | exact ⟨by omega, by omega⟩)) gX7_stickingsOver_X7_allows 2 kf_X7_allows ⟨rfl, rfl⟩ ⟨by decide, by decide⟩ dX7_stickingsOver_49 rfl 0 rfl rfl rfl rfl ⟨Nat.zero_le _, Nat.zero_le _⟩ [0, 1] rfl (by decide) [0] rfl (Nat.le_of_ble_eq_true rfl) ?_
          refine r_ifeq_b E 73 dX7_stickingsOver_52 (by decide) (fun c_52 => ?_) (fun c_52 => ?_)
          · refine r_iinc E (k := 0) [(4, .int (iJ (2))), (2, .long (lJ ((0 + (mnS s 0 1 0))))), (1, .int (iJ (s 0))), (0, .ref m0)] dX7_stickingsOver_73 rfl (by decide) rfl ?_
            refine r_goto E 39 dX7_stickingsOver_76 (by decide) ?_
            refine r_iload E 0 dX7_stickingsOver_39 rfl ?_
            refine r_iconst E 2 rfl dX7_stickingsOver_41 ?_
            refine r_icmp_ge E 79 dX7_stickingsOver_42 (by decide) ⟨by omega, by omega⟩ ⟨by omega, by omega⟩ (fun c_42 => ?_) (fun c_42 => absurd c_42 (by omega))
            refine r_lload_n E 1 dX7_stickingsOver_79 rfl rfl ?_
            refine r_sP E (st := []) (c_X7_capped l D (0 + (mnS s 0 1 0)) (by
                  have g0 := mnS_in (s := s) (nx := 0) (a := 1) (b := 0) (by omega) hs0.2
                  have g1 := mnS_in (s := s) (nx := 1) (a := 1) (b := 1) (by omega) hs0.2
                  exact ⟨by omega, by omega⟩)) gX7_stickingsOver_X7_capped 1 kf_X7_capped ⟨rfl, rfl⟩ ⟨by decide, by decide⟩ dX7_stickingsOver_80 rfl rfl ⟨Nat.zero_le _, Nat.zero_le _⟩ [] rfl (by decide) [] rfl (Nat.le_of_ble_eq_true rfl) ?_
            exact r_retM E (LS_7, MN_8) hr dX7_stickingsOver_83 (by
                  have e : soV s = cap9 ((if mAl (s (2 + 0)) 0 then mnS s 0 1 0 else 0) + (if mAl (s (2 + 0)) 1 then mnS s 1 1 1 else 0)) := by
                    unfold soV; exact if_neg (fun z => z.elim (fun y => absurd y (by omega)) (fun y => y.elim c_16 c_26))
                  rw [e]
                  rcases Decidable.em (mAl (s (2 + 0)) 0) with y0 | y0 <;> rcases Decidable.em (mAl (s (2 + 0)) 1) with y1 | y1 <;> first | contradiction | ((first | rw [if_pos y0] | rw [if_neg y0]); (first | rw [if_pos y1] | rw [if_neg y1]); unfold cap9; simp)) trivial rfl hQ
          · refine r_aload_n E 3 dX7_stickingsOver_55 rfl rfl ?_
            refine r_iload E 0 dX7_stickingsOver_56 rfl ?_
            refine r_vV E (st := []) (c_X7_lay l D m0 ms mh mn mp ml mm md mw mt mb mi mg cI kp sv pn rf tl cJ_ s LS_7 MN_8 1 (by first | assumption | omega | exact ⟨by omega, by omega⟩) (by first | assumption | omega | exact ⟨by omega, by omega⟩) (by first | assumption | omega | exact ⟨by omega, by omega⟩) (Or.inr ⟨by omega, by omega, by omega⟩)) gX7_stickingsOver_X7_lay 1 kf_X7_lay ⟨rfl, rfl⟩ ⟨by decide, by decide⟩ dX7_stickingsOver_58 rfl 0 rfl rfl rfl rfl ⟨Nat.zero_le _, Nat.zero_le _⟩ [0, 1, 2, 3] rfl (by decide) [0, 1] rfl (Nat.le_of_ble_eq_true rfl) [] [] rfl (by decide) (by decide) hA [0, 1, 2, 3] (by decide) (fun u : (Int → Int) × (Int → Int) => [(m0, .inr (6, [.ref ms, .ref mh, .int (iJ (kp)), .ref mn, .int (iJ (sv)), .ref mp, .int (iJ (pn)), .int (iJ (rf)), .ref ml, .ref mm, .ref md, .ref mw, .ref mt, .int (iJ (tl)), .ref mb, .ref mi, .ref mg])), (ms, cJ cI 34 (s)), (ml, cJ cI 99 (u.1)), (mm, cL cJ_ 99 (u.2))]) (fun _ => rfl) ?_
            rintro ⟨LS_11, MN_12⟩ hp_13
            refine r_cv (ws2 := [(m0, .inr (6, [.ref ms, .ref mh, .int (iJ (kp)), .ref mn, .int (iJ (sv)), .ref mp, .int (iJ (pn)), .int (iJ (rf)), .ref ml, .ref mm, .ref md, .ref mw, .ref mt, .int (iJ (tl)), .ref mb, .ref mi, .ref mg])), (ms, cJ cI 34 (s)), (ml, cJ cI 99 (LS_11)), (mm, cL cJ_ 99 (MN_12))]) (st2 := []) rfl rfl rfl ?_
            have hT_14 := hp_13
            try dsimp only at hT_14
            have hT_MN_12 := hT_14
            refine r_lload_n E 1 dX7_stickingsOver_61 rfl rfl ?_
            refine r_aload_n E 3 dX7_stickingsOver_62 rfl rfl ?_
            refine r_get E 6 0 9 dX7_stickingsOver_63 in_X7_stickingsOver_X7 lk_X7_stickingsOver_25 rfl rfl (by decide) rfl ?_
            refine r_iconst E 3 rfl dX7_stickingsOver_66 ?_
            refine r_iload E 0 dX7_stickingsOver_67 rfl ?_
            refine r_iadd E dX7_stickingsOver_69 ?_
            refine r_top 4 rfl ?_
            refine r_lald E (i := 4) 3 1 dX7_stickingsOver_70 rfl rfl (by decide) ⟨by omega, by omega⟩ ?_
            refine r_topL (b := (mnS s 1 1 1)) (by exact (hT_MN_12 1 1 (by omega) (by omega) (by omega) (by omega)).2) ?_
            refine r_ladd E dX7_stickingsOver_71 ?_
            refine r_lstore_n E [(2, .long (lJ (((0 + (mnS s 0 1 0)) + (mnS s 1 1 1))))), (4, .int (iJ (1))), (1, .int (iJ (s 0))), (0, .ref m0)] dX7_stickingsOver_72 rfl (by decide) rfl ?_
            refine r_iinc E (k := 1) [(4, .int (iJ (2))), (2, .long (lJ (((0 + (mnS s 0 1 0)) + (mnS s 1 1 1))))), (1, .int (iJ (s 0))), (0, .ref m0)] dX7_stickingsOver_73 rfl (by decide) rfl ?_
            refine r_goto E 39 dX7_stickingsOver_76 (by decide) ?_
            refine r_iload E 0 dX7_stickingsOver_39 rfl ?_
            refine r_iconst E 2 rfl dX7_stickingsOver_41 ?_
            refine r_icmp_ge E 79 dX7_stickingsOver_42 (by decide) ⟨by omega, by omega⟩ ⟨by omega, by omega⟩ (fun c_42 => ?_) (fun c_42 => absurd c_42 (by omega))
            refine r_lload_n E 1 dX7_stickingsOver_79 rfl rfl ?_
            refine r_sP E (st := []) (c_X7_capped l D ((0 + (mnS s 0 1 0)) + (mnS s 1 1 1)) (by
                  have g0 := mnS_in (s := s) (nx := 0) (a := 1) (b := 0) (by omega) hs0.2
                  have g1 := mnS_in (s := s) (nx := 1) (a := 1) (b := 1) (by omega) hs0.2
                  exact ⟨by omega, by omega⟩)) gX7_stickingsOver_X7_capped 1 kf_X7_capped ⟨rfl, rfl⟩ ⟨by decide, by decide⟩ dX7_stickingsOver_80 rfl rfl ⟨Nat.zero_le _, Nat.zero_le _⟩ [] rfl (by decide) [] rfl (Nat.le_of_ble_eq_true rfl) ?_
            exact r_retM E (LS_11, MN_12) hr dX7_stickingsOver_83 (by
                  have e : soV s = cap9 ((if mAl (s (2 + 0)) 0 then mnS s 0 1 0 else 0) + (if mAl (s (2 + 0)) 1 then mnS s 1 1 1 else 0)) := by
                    unfold soV; exact if_neg (fun z => z.elim (fun y => absurd y (by omega)) (fun y => y.elim c_16 c_26))
                  rw [e]
                  rcases Decidable.em (mAl (s (2 + 0)) 0) with y0 | y0 <;> rcases Decidable.em (mAl (s (2 + 0)) 1) with y1 | y1 <;> first | contradiction | ((first | rw [if_pos y0] | rw [if_neg y0]); (first | rw [if_pos y1] | rw [if_neg y1]); unfold cap9; simp)) trivial rfl hQ
      · refine r_aload_n E 1 dX7_stickingsOver_29 rfl rfl ?_
        refine r_vM E (st := []) (c_X7_stickingsOnce l D m0 ms mh mn mp ml mm md mw mt mb mi mg cI kp sv pn rf tl cJ_ s le my (by first | assumption | omega | exact ⟨by omega, by omega⟩) (by first | assumption | omega | exact ⟨by omega, by omega⟩) (by first | assumption | omega | exact ⟨by omega, by omega⟩)) gX7_stickingsOver_X7_stickingsOnce 0 kf_X7_stickingsOnce ⟨rfl, rfl⟩ ⟨by decide, by decide⟩ dX7_stickingsOver_30 rfl 0 rfl rfl rfl rfl ⟨Nat.zero_le _, Nat.zero_le _⟩ [0, 1, 2, 3] rfl (by decide) [0, 1] rfl (Nat.le_of_ble_eq_true rfl) [] [] rfl (by decide) (by decide) hA [0, 1, 2, 3] (by decide) (fun u : (Int → Int) × (Int → Int) => [(m0, .inr (6, [.ref ms, .ref mh, .int (iJ (kp)), .ref mn, .int (iJ (sv)), .ref mp, .int (iJ (pn)), .int (iJ (rf)), .ref ml, .ref mm, .ref md, .ref mw, .ref mt, .int (iJ (tl)), .ref mb, .ref mi, .ref mg])), (ms, cJ cI 34 (s)), (ml, cJ cI 99 (u.1)), (mm, cL cJ_ 99 (u.2))]) (fun _ => rfl) ?_
        rintro ⟨LT, MT⟩ hp_15
        refine r_cv (ws2 := [(m0, .inr (6, [.ref ms, .ref mh, .int (iJ (kp)), .ref mn, .int (iJ (sv)), .ref mp, .int (iJ (pn)), .int (iJ (rf)), .ref ml, .ref mm, .ref md, .ref mw, .ref mt, .int (iJ (tl)), .ref mb, .ref mi, .ref mg])), (ms, cJ cI 34 (s)), (ml, cJ cI 99 (LT)), (mm, cL cJ_ 99 (MT))]) (st2 := [.int (iJ (cap9 (mnS s (-4) 0 2)))]) rfl rfl rfl ?_
        exact r_retM E (LT, MT) hr dX7_stickingsOver_33 (by unfold soV; rw [if_pos (by first | exact Or.inl (by omega) | exact Or.inr (Or.inl (by assumption)) | exact Or.inr (Or.inr (by assumption)))]) trivial rfl hQ
theorem kf_X7_stick : KF yX7_stick 1 wsX7_stick cX7_stick 7 (some .boolean) := ⟨rfl, by decide +kernel, by decide +kernel, by decide +kernel⟩
def rm_X7_stick : Room := { frames := 9, cells := 0, slots := 0, locals := 209 }
set_option maxRecDepth 20000 in
theorem in_X7_stick_X7 : ∀ w ∈ u_ws RX7 TX7 17, w ∈ wsX7_stick := by decide +kernel
set_option maxRecDepth 20000 in
theorem lk_X7_stick_7 : Cond.fieldLink RX7 7 (TX7 0).1 (TX7 0).2.1 (TX7 0).2.2.1 ∈ wsX7_stick := by decide +kernel
set_option maxRecDepth 20000 in
theorem lk_X7_stick_29 : Cond.fieldLink RX7 29 (TX7 10).1 (TX7 10).2.1 (TX7 10).2.2.1 ∈ wsX7_stick := by decide +kernel
set_option maxRecDepth 20000 in
theorem lk_X7_stick_22 : Cond.fieldLink RX7 22 (TX7 8).1 (TX7 8).2.1 (TX7 8).2.2.1 ∈ wsX7_stick := by decide +kernel
set_option maxHeartbeats 1000000 in
set_option maxRecDepth 100000 in
theorem c_X7_stick (l : Launch) (D : va_G) (m0 : Nat) (ms : Nat) (mh : Nat) (mn : Nat) (mp : Nat) (ml : Nat) (mm : Nat) (md : Nat) (mw : Nat) (mt : Nat) (mb : Nat) (mi : Nat) (mg : Nat) (cI : ClassId) (kp : Int) (sv : Int) (pn : Int) (rf : Int) (tl : Int) (cJ_ : ClassId) (s : Int → Int) (le : Int → Int) (my : Int → Int) (hd : Int → Int) (be : Int) (hs0 : 0 ≤ s 0 ∧ s 0 ≤ 32) (hs1 : 1 ≤ s 1 ∧ s 1 ≤ 4) (hsv : ∀ j : Int, 0 ≤ j → j < s 0 → 0 ≤ s (2 + j) ∧ s (2 + j) ≤ 24) (hbe : be = 0 ∨ be = 1) : MM (S := (Int → Int) × (Int → Int) × (Int → Int)) l yX7_stick wsX7_stick rm_X7_stick D vwCl [.ref m0, .int (iJ (be))] [(m0, .inr (6, [.ref ms, .ref mh, .int (iJ (kp)), .ref mn, .int (iJ (sv)), .ref mp, .int (iJ (pn)), .int (iJ (rf)), .ref ml, .ref mm, .ref md, .ref mw, .ref mt, .int (iJ (tl)), .ref mb, .ref mi, .ref mg])), (ms, cJ cI 34 (s)), (ml, cJ cI 99 (le)), (mm, cL cJ_ 99 (my)), (md, cJ cI 32 (hd))] [(cI, .int), (cJ_, .long)] (fun (u : (Int → Int) × (Int → Int) × (Int → Int)) => b2 (lsS s (-4) 0 2 < 1000)) (fun (u : (Int → Int) × (Int → Int) × (Int → Int)) => (∀ a b : Int, 0 ≤ a → a ≤ s 0 → 0 ≤ b → b ≤ 2 → u.1 (3 * a + b) = lsS s (-4) a b ∧ u.2.1 (3 * a + b) = mnS s (-4) a b) ∧ (lsS s (-4) 0 2 < 1000 → ∀ k : Int, 0 ≤ k → k < s 0 → u.2.2 k = (if s (2 + k) = 0 then -4 else mcB s be (k + 1)))) (fun (u : (Int → Int) × (Int → Int) × (Int → Int)) => [(m0, .inr (6, [.ref ms, .ref mh, .int (iJ (kp)), .ref mn, .int (iJ (sv)), .ref mp, .int (iJ (pn)), .int (iJ (rf)), .ref ml, .ref mm, .ref md, .ref mw, .ref mt, .int (iJ (tl)), .ref mb, .ref mi, .ref mg])), (ms, cJ cI 34 (s)), (ml, cJ cI 99 (u.1)), (mm, cL cJ_ 99 (u.2.1)), (md, cJ cI 32 (u.2.2))]) := by
  refine MM.mk (cc := cX7_stick) (maxL := 7) (ret := (some .boolean)) (by decide) rfl (Nat.le_of_ble_eq_true rfl) rfl RX7 rfl ?_
  intro p_ e_ s_ m_ ar_ bw_ mt_ cd_ B_ Q_ hA E hr hQ
  refine r_aload_n E 0 dX7_stick_0 rfl rfl ?_
  refine r_vM E (st := []) (c_X7_canBePlayed l D m0 ms mh mn mp ml mm md mw mt mb mi mg cI kp sv pn rf tl cJ_ s le my (by first | assumption | omega | exact ⟨by omega, by omega⟩) (by first | assumption | omega | exact ⟨by omega, by omega⟩) (by first | assumption | omega | exact ⟨by omega, by omega⟩)) gX7_stick_X7_canBePlayed 0 kf_X7_canBePlayed ⟨rfl, rfl⟩ ⟨by decide, by decide⟩ dX7_stick_1 rfl 0 rfl rfl rfl rfl ⟨Nat.zero_le _, Nat.zero_le _⟩ [0, 1, 2, 3] rfl (by decide) [0, 1] rfl (Nat.le_of_ble_eq_true rfl) [(md, cJ cI 32 (hd))] [4] rfl (by decide) (by decide) hA [1, 2, 3, 4, 0] (by decide) (fun u : (Int → Int) × (Int → Int) => [(m0, .inr (6, [.ref ms, .ref mh, .int (iJ (kp)), .ref mn, .int (iJ (sv)), .ref mp, .int (iJ (pn)), .int (iJ (rf)), .ref ml, .ref mm, .ref md, .ref mw, .ref mt, .int (iJ (tl)), .ref mb, .ref mi, .ref mg])), (ms, cJ cI 34 (s)), (ml, cJ cI 99 (u.1)), (mm, cL cJ_ 99 (u.2)), (md, cJ cI 32 (hd))]) (fun _ => rfl) ?_
  rintro ⟨LT, MT⟩ hp_1
  refine r_cv (ws2 := [(m0, .inr (6, [.ref ms, .ref mh, .int (iJ (kp)), .ref mn, .int (iJ (sv)), .ref mp, .int (iJ (pn)), .int (iJ (rf)), .ref ml, .ref mm, .ref md, .ref mw, .ref mt, .int (iJ (tl)), .ref mb, .ref mi, .ref mg])), (ms, cJ cI 34 (s)), (ml, cJ cI 99 (LT)), (mm, cL cJ_ 99 (MT)), (md, cJ cI 32 (hd))]) (st2 := [.int (iJ (b2 (lsS s (-4) 0 2 < 1000)))]) rfl rfl rfl ?_
  have hT1 := hp_1
  try dsimp only at hT1
  refine r_istore_n E [(2, .int (iJ (b2 (lsS s (-4) 0 2 < 1000)))), (0, .ref m0), (1, .int (iJ (be)))] dX7_stick_4 rfl (by decide) rfl ?_
  refine r_iconst E 2 rfl dX7_stick_5 ?_
  refine r_istore_n E [(3, .int (iJ (2))), (2, .int (iJ (b2 (lsS s (-4) 0 2 < 1000)))), (0, .ref m0), (1, .int (iJ (be)))] dX7_stick_6 rfl (by decide) rfl ?_
  refine r_iconst E 0 rfl dX7_stick_7 ?_
  refine r_istore E [(4, .int (iJ (0))), (3, .int (iJ (2))), (2, .int (iJ (b2 (lsS s (-4) 0 2 < 1000)))), (0, .ref m0), (1, .int (iJ (be)))] dX7_stick_8 (by decide) rfl ?_
  have loop_10 : ∀ (N : Nat) (k : Int) (bf : Int) (G : Int → Int), (0 ≤ k ∧ k ≤ s 0) → (bf = mcB s be k ∧ 0 ≤ bf ∧ bf ≤ 2) → (∀ j : Int, 0 ≤ j → j < k → G j = (if s (2 + j) = 0 then -4 else mcB s be (j + 1))) → (s 0 - k).toNat < N → GG p_ l e_ rm_X7_stick s_ m_ ar_ bw_ mt_ cd_ D vwCl B_ B_ s_.heap 7 0 0 Q_ [(m0, .inr (6, [.ref ms, .ref mh, .int (iJ (kp)), .ref mn, .int (iJ (sv)), .ref mp, .int (iJ (pn)), .int (iJ (rf)), .ref ml, .ref mm, .ref md, .ref mw, .ref mt, .int (iJ (tl)), .ref mb, .ref mi, .ref mg])), (ms, cJ cI 34 (s)), (ml, cJ cI 99 (LT)), (mm, cL cJ_ 99 (MT)), (md, cJ cI 32 (G))] [(0, .ref m0), (1, .int (iJ (be))), (2, .int (iJ (b2 (lsS s (-4) 0 2 < 1000)))), (3, .int (iJ (bf))), (4, .int (iJ (k)))] 10 [] := by
    intro N; induction N with
    | zero => intro k bf G hk hbf hG hN; exact absurd hN (Nat.not_lt_zero _)
    | succ N ih10 =>
      intro k bf G hk hbf hG hN
      refine r_iload E 4 dX7_stick_10 rfl ?_
      refine r_aload_n E 0 dX7_stick_12 rfl rfl ?_
      refine r_get E 6 0 0 dX7_stick_13 in_X7_stick_X7 lk_X7_stick_7 rfl rfl (by decide) rfl ?_
      refine r_iconst E 0 rfl dX7_stick_16 ?_
      refine r_iald E (i := 0) 1 0 dX7_stick_17 rfl rfl (by decide) ⟨by omega, by omega⟩ ?_
      refine r_icmp_ge E 157 dX7_stick_18 (by decide) ⟨by omega, by omega⟩ ⟨by omega, by omega⟩ (fun c_18 => ?_) (fun c_18 => ?_)
      · refine r_iload_n E 2 dX7_stick_157 rfl rfl ?_
        exact r_retMZ E (LT, MT, G) hr dX7_stick_158 (b2_01 _) (by first | rfl | exact (b2_t (by first | omega | assumption)).symm | exact (b2_f (by first | omega | assumption)).symm | omega | assumption) (by
              refine ⟨hT1, fun z j h1 h2 => ?_⟩
              first | exact hG j h1 (by omega) | exact absurd z (by assumption)) rfl hQ
      · refine r_iload_n E 2 dX7_stick_21 rfl rfl ?_
        refine r_ifeq_b E 157 dX7_stick_22 (by decide) (fun c_22 => ?_) (fun c_22 => ?_)
        · refine r_iload_n E 2 dX7_stick_157 rfl rfl ?_
          exact r_retMZ E (LT, MT, G) hr dX7_stick_158 (b2_01 _) (by first | rfl | exact (b2_t (by first | omega | assumption)).symm | exact (b2_f (by first | omega | assumption)).symm | omega | assumption) (by
                refine ⟨hT1, fun z j h1 h2 => ?_⟩
                first | exact hG j h1 (by omega) | exact absurd z (by assumption)) rfl hQ
        · refine r_aload_n E 0 dX7_stick_25 rfl rfl ?_
          refine r_get E 6 0 10 dX7_stick_26 in_X7_stick_X7 lk_X7_stick_29 rfl rfl (by decide) rfl ?_
          refine r_iload E 4 dX7_stick_29 rfl ?_
          refine r_bipush E (-4) rfl dX7_stick_31 ?_
          refine r_iast E (i := k) 4 0 dX7_stick_33 rfl rfl (by decide) ⟨by omega, by omega⟩ [(m0, .inr (6, [.ref ms, .ref mh, .int (iJ (kp)), .ref mn, .int (iJ (sv)), .ref mp, .int (iJ (pn)), .int (iJ (rf)), .ref ml, .ref mm, .ref md, .ref mw, .ref mt, .int (iJ (tl)), .ref mb, .ref mi, .ref mg])), (ms, cJ cI 34 (s)), (ml, cJ cI 99 (LT)), (mm, cL cJ_ 99 (MT)), (md, cJ cI 32 (uJ G k (-4)))] rfl ?_
          have f_c := hsv k (by omega) (by omega)
          have f_b := lsS_in (s := s) (nx := -4) (a := k + 1) (b := 0)
          have f_l := lsS_in (s := s) (nx := -4) (a := k) (b := bf)
          refine r_aload_n E 0 dX7_stick_34 rfl rfl ?_
          refine r_iload E 4 dX7_stick_35 rfl ?_
          refine r_vP E (st := []) (c_X7_isStroke l D m0 ms mh mn mp ml mm md mw mt mb mi mg cI kp sv pn rf tl s k (by first | assumption | omega | exact ⟨by omega, by omega⟩) (by first | assumption | omega | exact ⟨by omega, by omega⟩)) gX7_stick_X7_isStroke 1 kf_X7_isStroke ⟨rfl, rfl⟩ ⟨by decide, by decide⟩ dX7_stick_37 rfl 0 rfl rfl rfl rfl ⟨Nat.zero_le _, Nat.zero_le _⟩ [0, 1] rfl (by decide) [0] rfl (Nat.le_of_ble_eq_true rfl) ?_
          refine r_ifeq_n E 151 dX7_stick_40 (by decide) (fun c_40 => ?_) (fun c_40 => ?_)
          · refine r_iinc E (k := 4) [(4, .int (iJ ((k + 1)))), (0, .ref m0), (1, .int (iJ (be))), (2, .int (iJ (b2 (lsS s (-4) 0 2 < 1000)))), (3, .int (iJ (bf)))] dX7_stick_151 rfl (by decide) rfl ?_
            refine r_goto E 10 dX7_stick_154 (by decide) ?_
            refine r_lv [1, 2, 3, 4, 0] [(0, .ref m0), (1, .int (iJ (be))), (2, .int (iJ (b2 (lsS s (-4) 0 2 < 1000)))), (3, .int (iJ (bf))), (4, .int (iJ ((k + 1))))] rfl ?_
            exact ih10 (k + 1) bf (uJ G k (-4)) ⟨by omega, by omega⟩ (by
                  rw [mcB_s _ _ (by omega)]
                  first
                  | (rw [if_pos c_40]; exact hbf)
                  | (rw [if_neg c_40, ← hbf.1, ← hv]; exact ⟨rfl, by split <;> omega, by split <;> omega⟩)) (fun j h1 h2 => by
                  by_cases q0 : j = k
                  · subst q0; rw [uJ_s]
                    first
                    | (rw [if_pos c_40]; done)
                    | (rw [if_neg c_40, mcB_s _ _ (by omega), if_neg c_40, ← hbf.1, ← hv]; first | (rw [if_pos (by omega)]; done) | (rw [if_neg (by omega)]; done))
                  · first | (rw [uJ_n q0, uJ_n q0]; exact hG j h1 (by omega)) | (rw [uJ_n q0]; exact hG j h1 (by omega))) (by omega)
          · have K_83 : ∀ (w : Int), (w = mcR s k bf) → GG p_ l e_ rm_X7_stick s_ m_ ar_ bw_ mt_ cd_ D vwCl B_ B_ s_.heap 7 0 0 Q_ [(m0, .inr (6, [.ref ms, .ref mh, .int (iJ (kp)), .ref mn, .int (iJ (sv)), .ref mp, .int (iJ (pn)), .int (iJ (rf)), .ref ml, .ref mm, .ref md, .ref mw, .ref mt, .int (iJ (tl)), .ref mb, .ref mi, .ref mg])), (ms, cJ cI 34 (s)), (ml, cJ cI 99 (LT)), (mm, cL cJ_ 99 (MT)), (md, cJ cI 32 (uJ G k (-4)))] [(0, .ref m0), (1, .int (iJ (be))), (2, .int (iJ (b2 (lsS s (-4) 0 2 < 1000)))), (3, .int (iJ (bf))), (4, .int (iJ (k))), (5, .int (iJ (w)))] 83 [] := by
              intro w hw
              have f_r := mcR_in (s := s) (k := k) (b := bf)
              have K_126 : ∀ (v : Int), (v = (if be = 0 then b2 (mcR s k bf < 1000) else b2 (mcR s k bf = lsS s (-4) k bf))) → GG p_ l e_ rm_X7_stick s_ m_ ar_ bw_ mt_ cd_ D vwCl B_ B_ s_.heap 7 0 0 Q_ [(m0, .inr (6, [.ref ms, .ref mh, .int (iJ (kp)), .ref mn, .int (iJ (sv)), .ref mp, .int (iJ (pn)), .int (iJ (rf)), .ref ml, .ref mm, .ref md, .ref mw, .ref mt, .int (iJ (tl)), .ref mb, .ref mi, .ref mg])), (ms, cJ cI 34 (s)), (ml, cJ cI 99 (LT)), (mm, cL cJ_ 99 (MT)), (md, cJ cI 32 (uJ G k (-4)))] [(0, .ref m0), (1, .int (iJ (be))), (2, .int (iJ (b2 (lsS s (-4) 0 2 < 1000)))), (3, .int (iJ (bf))), (4, .int (iJ (k))), (5, .int (iJ (w))), (6, .int (iJ (v)))] 126 [] := by
                intro v hv
                refine r_aload_n E 0 dX7_stick_126 rfl rfl ?_
                refine r_get E 6 0 10 dX7_stick_127 in_X7_stick_X7 lk_X7_stick_29 rfl rfl (by decide) rfl ?_
                refine r_iload E 4 dX7_stick_130 rfl ?_
                refine r_iload E 6 dX7_stick_132 rfl ?_
                refine r_if_eq E 141 dX7_stick_134 (by decide) (by rw [hv]; split <;> (rcases b2_01 (mcR s k bf < 1000) with z | z <;> rcases b2_01 (mcR s k bf = lsS s (-4) k bf) with y | y <;> (first | rw [z] | rw [y]) <;> exact ⟨by decide, by decide⟩)) (fun c_134 => ?_) (fun c_134 => ?_)
                · refine r_iconst E 1 rfl dX7_stick_141 ?_
                  refine r_iast E (i := k) 4 0 dX7_stick_142 rfl rfl (by decide) ⟨by omega, by omega⟩ [(m0, .inr (6, [.ref ms, .ref mh, .int (iJ (kp)), .ref mn, .int (iJ (sv)), .ref mp, .int (iJ (pn)), .int (iJ (rf)), .ref ml, .ref mm, .ref md, .ref mw, .ref mt, .int (iJ (tl)), .ref mb, .ref mi, .ref mg])), (ms, cJ cI 34 (s)), (ml, cJ cI 99 (LT)), (mm, cL cJ_ 99 (MT)), (md, cJ cI 32 (uJ (uJ G k (-4)) k 1))] rfl ?_
                  refine r_aload_n E 0 dX7_stick_143 rfl rfl ?_
                  refine r_get E 6 0 10 dX7_stick_144 in_X7_stick_X7 lk_X7_stick_29 rfl rfl (by decide) rfl ?_
                  refine r_iload E 4 dX7_stick_147 rfl ?_
                  refine r_iald E (i := k) 4 0 dX7_stick_149 rfl rfl (by decide) ⟨by omega, by omega⟩ ?_
                  refine r_top (b := (if v = 0 then 1 else 0)) (by rw [uJ_s]; split <;> omega) ?_
                  refine r_istore_n E [(3, .int (iJ ((if v = 0 then 1 else 0)))), (0, .ref m0), (1, .int (iJ (be))), (2, .int (iJ (b2 (lsS s (-4) 0 2 < 1000)))), (4, .int (iJ (k))), (5, .int (iJ (w))), (6, .int (iJ (v)))] dX7_stick_150 rfl (by decide) rfl ?_
                  refine r_iinc E (k := 4) [(4, .int (iJ ((k + 1)))), (3, .int (iJ ((if v = 0 then 1 else 0)))), (0, .ref m0), (1, .int (iJ (be))), (2, .int (iJ (b2 (lsS s (-4) 0 2 < 1000)))), (5, .int (iJ (w))), (6, .int (iJ (v)))] dX7_stick_151 rfl (by decide) rfl ?_
                  refine r_goto E 10 dX7_stick_154 (by decide) ?_
                  refine r_lv [2, 3, 4, 1, 0] [(0, .ref m0), (1, .int (iJ (be))), (2, .int (iJ (b2 (lsS s (-4) 0 2 < 1000)))), (3, .int (iJ ((if v = 0 then 1 else 0)))), (4, .int (iJ ((k + 1))))] rfl ?_
                  exact ih10 (k + 1) (if v = 0 then 1 else 0) (uJ (uJ G k (-4)) k 1) ⟨by omega, by omega⟩ (by
                        rw [mcB_s _ _ (by omega)]
                        first
                        | (rw [if_pos c_40]; exact hbf)
                        | (rw [if_neg c_40, ← hbf.1, ← hv]; exact ⟨rfl, by split <;> omega, by split <;> omega⟩)) (fun j h1 h2 => by
                        by_cases q0 : j = k
                        · subst q0; rw [uJ_s]
                          first
                          | (rw [if_pos c_40]; done)
                          | (rw [if_neg c_40, mcB_s _ _ (by omega), if_neg c_40, ← hbf.1, ← hv]; first | (rw [if_pos (by omega)]; done) | (rw [if_neg (by omega)]; done))
                        · first | (rw [uJ_n q0, uJ_n q0]; exact hG j h1 (by omega)) | (rw [uJ_n q0]; exact hG j h1 (by omega))) (by omega)
                · refine r_iconst E 0 rfl dX7_stick_137 ?_
                  refine r_goto E 142 dX7_stick_138 (by decide) ?_
                  refine r_iast E (i := k) 4 0 dX7_stick_142 rfl rfl (by decide) ⟨by omega, by omega⟩ [(m0, .inr (6, [.ref ms, .ref mh, .int (iJ (kp)), .ref mn, .int (iJ (sv)), .ref mp, .int (iJ (pn)), .int (iJ (rf)), .ref ml, .ref mm, .ref md, .ref mw, .ref mt, .int (iJ (tl)), .ref mb, .ref mi, .ref mg])), (ms, cJ cI 34 (s)), (ml, cJ cI 99 (LT)), (mm, cL cJ_ 99 (MT)), (md, cJ cI 32 (uJ (uJ G k (-4)) k 0))] rfl ?_
                  refine r_aload_n E 0 dX7_stick_143 rfl rfl ?_
                  refine r_get E 6 0 10 dX7_stick_144 in_X7_stick_X7 lk_X7_stick_29 rfl rfl (by decide) rfl ?_
                  refine r_iload E 4 dX7_stick_147 rfl ?_
                  refine r_iald E (i := k) 4 0 dX7_stick_149 rfl rfl (by decide) ⟨by omega, by omega⟩ ?_
                  refine r_top (b := (if v = 0 then 1 else 0)) (by rw [uJ_s]; split <;> omega) ?_
                  refine r_istore_n E [(3, .int (iJ ((if v = 0 then 1 else 0)))), (0, .ref m0), (1, .int (iJ (be))), (2, .int (iJ (b2 (lsS s (-4) 0 2 < 1000)))), (4, .int (iJ (k))), (5, .int (iJ (w))), (6, .int (iJ (v)))] dX7_stick_150 rfl (by decide) rfl ?_
                  refine r_iinc E (k := 4) [(4, .int (iJ ((k + 1)))), (3, .int (iJ ((if v = 0 then 1 else 0)))), (0, .ref m0), (1, .int (iJ (be))), (2, .int (iJ (b2 (lsS s (-4) 0 2 < 1000)))), (5, .int (iJ (w))), (6, .int (iJ (v)))] dX7_stick_151 rfl (by decide) rfl ?_
                  refine r_goto E 10 dX7_stick_154 (by decide) ?_
                  refine r_lv [2, 3, 4, 1, 0] [(0, .ref m0), (1, .int (iJ (be))), (2, .int (iJ (b2 (lsS s (-4) 0 2 < 1000)))), (3, .int (iJ ((if v = 0 then 1 else 0)))), (4, .int (iJ ((k + 1))))] rfl ?_
                  exact ih10 (k + 1) (if v = 0 then 1 else 0) (uJ (uJ G k (-4)) k 0) ⟨by omega, by omega⟩ (by
                        rw [mcB_s _ _ (by omega)]
                        first
                        | (rw [if_pos c_40]; exact hbf)
                        | (rw [if_neg c_40, ← hbf.1, ← hv]; exact ⟨rfl, by split <;> omega, by split <;> omega⟩)) (fun j h1 h2 => by
                        by_cases q0 : j = k
                        · subst q0; rw [uJ_s]
                          first
                          | (rw [if_pos c_40]; done)
                          | (rw [if_neg c_40, mcB_s _ _ (by omega), if_neg c_40, ← hbf.1, ← hv]; first | (rw [if_pos (by omega)]; done) | (rw [if_neg (by omega)]; done))
                        · first | (rw [uJ_n q0, uJ_n q0]; exact hG j h1 (by omega)) | (rw [uJ_n q0]; exact hG j h1 (by omega))) (by omega)
              refine r_iload_n E 1 dX7_stick_83 rfl rfl ?_
              refine r_if_eq E 111 dX7_stick_84 (by decide) ⟨by omega, by omega⟩ (fun c_84 => ?_) (fun c_84 => ?_)
              · refine r_iload E 5 dX7_stick_111 rfl ?_
                refine r_sipush E 1000 rfl dX7_stick_113 ?_
                refine r_icmp_ge E 123 dX7_stick_116 (by decide) ⟨by omega, by omega⟩ ⟨by omega, by omega⟩ (fun c_116 => ?_) (fun c_116 => ?_)
                · refine r_iconst E 0 rfl dX7_stick_123 ?_
                  refine r_istore E [(6, .int (iJ (0))), (0, .ref m0), (1, .int (iJ (be))), (2, .int (iJ (b2 (lsS s (-4) 0 2 < 1000)))), (3, .int (iJ (bf))), (4, .int (iJ (k))), (5, .int (iJ (w)))] dX7_stick_124 (by decide) rfl ?_
                  refine r_lv [1, 2, 3, 4, 5, 6, 0] [(0, .ref m0), (1, .int (iJ (be))), (2, .int (iJ (b2 (lsS s (-4) 0 2 < 1000)))), (3, .int (iJ (bf))), (4, .int (iJ (k))), (5, .int (iJ (w))), (6, .int (iJ (0)))] rfl ?_
                  exact K_126 0 (by
                        first
                        | (rw [if_neg c_84]; first | exact (b2_t (by omega)).symm | exact (b2_f (by omega)).symm)
                        | (rw [if_pos c_84]; first | exact (b2_t (by omega)).symm | exact (b2_f (by omega)).symm))
                · refine r_iconst E 1 rfl dX7_stick_119 ?_
                  refine r_goto E 124 dX7_stick_120 (by decide) ?_
                  refine r_istore E [(6, .int (iJ (1))), (0, .ref m0), (1, .int (iJ (be))), (2, .int (iJ (b2 (lsS s (-4) 0 2 < 1000)))), (3, .int (iJ (bf))), (4, .int (iJ (k))), (5, .int (iJ (w)))] dX7_stick_124 (by decide) rfl ?_
                  refine r_lv [1, 2, 3, 4, 5, 6, 0] [(0, .ref m0), (1, .int (iJ (be))), (2, .int (iJ (b2 (lsS s (-4) 0 2 < 1000)))), (3, .int (iJ (bf))), (4, .int (iJ (k))), (5, .int (iJ (w))), (6, .int (iJ (1)))] rfl ?_
                  exact K_126 1 (by
                        first
                        | (rw [if_neg c_84]; first | exact (b2_t (by omega)).symm | exact (b2_f (by omega)).symm)
                        | (rw [if_pos c_84]; first | exact (b2_t (by omega)).symm | exact (b2_f (by omega)).symm))
              · refine r_iload E 5 dX7_stick_87 rfl ?_
                refine r_aload_n E 0 dX7_stick_89 rfl rfl ?_
                refine r_get E 6 0 8 dX7_stick_90 in_X7_stick_X7 lk_X7_stick_22 rfl rfl (by decide) rfl ?_
                refine r_iconst E 3 rfl dX7_stick_93 ?_
                refine r_iload E 4 dX7_stick_94 rfl ?_
                refine r_imul E dX7_stick_96 ?_
                refine r_iload_n E 3 dX7_stick_97 rfl rfl ?_
                refine r_iadd E dX7_stick_98 ?_
                refine r_iald E (i := ((3 * k) + bf)) 2 0 dX7_stick_99 rfl rfl (by decide) ⟨by omega, by omega⟩ ?_
                refine r_top (b := (lsS s (-4) k bf)) ((hT1 k bf (by omega) (by omega) (by omega) (by omega)).1) ?_
                refine r_icmp_ne E 107 dX7_stick_100 (by decide) ⟨by omega, by omega⟩ ⟨by omega, by omega⟩ (fun c_100 => ?_) (fun c_100 => ?_)
                · refine r_iconst E 0 rfl dX7_stick_107 ?_
                  refine r_goto E 124 dX7_stick_108 (by decide) ?_
                  refine r_istore E [(6, .int (iJ (0))), (0, .ref m0), (1, .int (iJ (be))), (2, .int (iJ (b2 (lsS s (-4) 0 2 < 1000)))), (3, .int (iJ (bf))), (4, .int (iJ (k))), (5, .int (iJ (w)))] dX7_stick_124 (by decide) rfl ?_
                  refine r_lv [1, 2, 3, 4, 5, 6, 0] [(0, .ref m0), (1, .int (iJ (be))), (2, .int (iJ (b2 (lsS s (-4) 0 2 < 1000)))), (3, .int (iJ (bf))), (4, .int (iJ (k))), (5, .int (iJ (w))), (6, .int (iJ (0)))] rfl ?_
                  exact K_126 0 (by
                        first
                        | (rw [if_neg c_84]; first | exact (b2_t (by omega)).symm | exact (b2_f (by omega)).symm)
                        | (rw [if_pos c_84]; first | exact (b2_t (by omega)).symm | exact (b2_f (by omega)).symm))
                · refine r_iconst E 1 rfl dX7_stick_103 ?_
                  refine r_goto E 124 dX7_stick_104 (by decide) ?_
                  refine r_istore E [(6, .int (iJ (1))), (0, .ref m0), (1, .int (iJ (be))), (2, .int (iJ (b2 (lsS s (-4) 0 2 < 1000)))), (3, .int (iJ (bf))), (4, .int (iJ (k))), (5, .int (iJ (w)))] dX7_stick_124 (by decide) rfl ?_
                  refine r_lv [1, 2, 3, 4, 5, 6, 0] [(0, .ref m0), (1, .int (iJ (be))), (2, .int (iJ (b2 (lsS s (-4) 0 2 < 1000)))), (3, .int (iJ (bf))), (4, .int (iJ (k))), (5, .int (iJ (w))), (6, .int (iJ (1)))] rfl ?_
                  exact K_126 1 (by
                        first
                        | (rw [if_neg c_84]; first | exact (b2_t (by omega)).symm | exact (b2_f (by omega)).symm)
                        | (rw [if_pos c_84]; first | exact (b2_t (by omega)).symm | exact (b2_f (by omega)).symm))
            refine r_aload_n E 0 dX7_stick_43 rfl rfl ?_
            refine r_iload E 4 dX7_stick_44 rfl ?_
            refine r_iload_n E 3 dX7_stick_46 rfl rfl ?_
            refine r_iconst E 0 rfl dX7_stick_47 ?_
            refine r_vP E (st := []) (c_X7_can l D m0 ms mh mn mp ml mm md mw mt mb mi mg cI kp sv pn rf tl s k bf 0 (by first | assumption | omega | exact ⟨by omega, by omega⟩) (by first | assumption | omega | exact ⟨by omega, by omega⟩) ⟨by omega, by omega⟩ (fun _ => hsv (k - 1) (by omega) (by omega)) (by first | assumption | omega | exact ⟨by omega, by omega⟩) (by first | assumption | omega | exact ⟨by omega, by omega⟩)) gX7_stick_X7_can 3 kf_X7_can ⟨rfl, rfl⟩ ⟨by decide, by decide⟩ dX7_stick_48 rfl 0 rfl rfl rfl rfl ⟨Nat.zero_le _, Nat.zero_le _⟩ [0, 1] rfl (by decide) [0] rfl (Nat.le_of_ble_eq_true rfl) ?_
            refine r_ifeq_b E 78 dX7_stick_51 (by decide) (fun c_51 => ?_) (fun c_51 => ?_)
            · refine r_sipush E 1000 rfl dX7_stick_78 ?_
              refine r_istore E [(5, .int (iJ (1000))), (0, .ref m0), (1, .int (iJ (be))), (2, .int (iJ (b2 (lsS s (-4) 0 2 < 1000)))), (3, .int (iJ (bf))), (4, .int (iJ (k)))] dX7_stick_81 (by decide) rfl ?_
              refine r_lv [1, 2, 3, 4, 5, 0] [(0, .ref m0), (1, .int (iJ (be))), (2, .int (iJ (b2 (lsS s (-4) 0 2 < 1000)))), (3, .int (iJ (bf))), (4, .int (iJ (k))), (5, .int (iJ (1000)))] rfl ?_
              exact K_83 1000 (by unfold mcR; first | (rw [if_pos c_51, if_pos (by assumption)]; done) | (rw [if_pos c_51, if_neg (by assumption)]; done) | (rw [if_neg c_51]; done))
            · refine r_aload_n E 0 dX7_stick_54 rfl rfl ?_
              refine r_get E 6 0 8 dX7_stick_55 in_X7_stick_X7 lk_X7_stick_22 rfl rfl (by decide) rfl ?_
              refine r_iconst E 3 rfl dX7_stick_58 ?_
              refine r_iload E 4 dX7_stick_59 rfl ?_
              refine r_imul E dX7_stick_61 ?_
              refine r_iconst E 3 rfl dX7_stick_62 ?_
              refine r_iadd E dX7_stick_63 ?_
              refine r_iald E (i := ((3 * k) + 3)) 2 0 dX7_stick_64 rfl rfl (by decide) ⟨by omega, by omega⟩ ?_
              refine r_top (b := (lsS s (-4) (k + 1) 0)) (by
                    have := (hT1 (k + 1) 0 (by omega) (by omega) (by omega) (by omega)).1
                    rwa [show 3 * (k + 1) + 0 = 3 * k + 3 by omega] at this) ?_
              refine r_iload_n E 3 dX7_stick_65 rfl rfl ?_
              refine r_if_ne E 73 dX7_stick_66 (by decide) ⟨by omega, by omega⟩ (fun c_66 => ?_) (fun c_66 => ?_)
              · refine r_iconst E 0 rfl dX7_stick_73 ?_
                refine r_iadd E dX7_stick_74 ?_
                refine r_goto E 81 dX7_stick_75 (by decide) ?_
                refine r_istore E [(5, .int (iJ (((lsS s (-4) (k + 1) 0) + 0)))), (0, .ref m0), (1, .int (iJ (be))), (2, .int (iJ (b2 (lsS s (-4) 0 2 < 1000)))), (3, .int (iJ (bf))), (4, .int (iJ (k)))] dX7_stick_81 (by decide) rfl ?_
                refine r_lv [1, 2, 3, 4, 5, 0] [(0, .ref m0), (1, .int (iJ (be))), (2, .int (iJ (b2 (lsS s (-4) 0 2 < 1000)))), (3, .int (iJ (bf))), (4, .int (iJ (k))), (5, .int (iJ (((lsS s (-4) (k + 1) 0) + 0))))] rfl ?_
                exact K_83 ((lsS s (-4) (k + 1) 0) + 0) (by unfold mcR; first | (rw [if_pos c_51, if_pos (by assumption)]; done) | (rw [if_pos c_51, if_neg (by assumption)]; done) | (rw [if_neg c_51]; done))
              · refine r_iconst E 1 rfl dX7_stick_69 ?_
                refine r_goto E 74 dX7_stick_70 (by decide) ?_
                refine r_iadd E dX7_stick_74 ?_
                refine r_goto E 81 dX7_stick_75 (by decide) ?_
                refine r_istore E [(5, .int (iJ (((lsS s (-4) (k + 1) 0) + 1)))), (0, .ref m0), (1, .int (iJ (be))), (2, .int (iJ (b2 (lsS s (-4) 0 2 < 1000)))), (3, .int (iJ (bf))), (4, .int (iJ (k)))] dX7_stick_81 (by decide) rfl ?_
                refine r_lv [1, 2, 3, 4, 5, 0] [(0, .ref m0), (1, .int (iJ (be))), (2, .int (iJ (b2 (lsS s (-4) 0 2 < 1000)))), (3, .int (iJ (bf))), (4, .int (iJ (k))), (5, .int (iJ (((lsS s (-4) (k + 1) 0) + 1))))] rfl ?_
                exact K_83 ((lsS s (-4) (k + 1) 0) + 1) (by unfold mcR; first | (rw [if_pos c_51, if_pos (by assumption)]; done) | (rw [if_pos c_51, if_neg (by assumption)]; done) | (rw [if_neg c_51]; done))
  refine r_lv [3, 4, 2, 1, 0] [(0, .ref m0), (1, .int (iJ (be))), (2, .int (iJ (b2 (lsS s (-4) 0 2 < 1000)))), (3, .int (iJ (2))), (4, .int (iJ (0)))] rfl ?_
  exact loop_10 _ 0 2 hd ⟨by omega, by omega⟩ ⟨rfl, by omega, by omega⟩ (fun j h1 h2 => absurd h2 (by omega)) (Nat.lt_succ_self _)
