theorem kf_X7_in : KF yX7_in 3 wsX7_in cX7_in 3 (some .boolean) := ⟨rfl, by decide +kernel, by decide +kernel, by decide +kernel⟩
def rm_X7_in : Room := { frames := 0, cells := 0, slots := 0, locals := 0 }
set_option maxHeartbeats 1000000 in
set_option maxRecDepth 100000 in
theorem c_X7_in (l : Launch) (D : va_G) (v : Int) (x : Int) (y : Int) (hv : jb v) (hx : jb x) (hy : jb y) : MP l yX7_in wsX7_in rm_X7_in D vwCl [.int (iJ (v)), .int (iJ (x)), .int (iJ (y))] [] [] (b2 (x ≤ v ∧ v ≤ y)) := by
  refine MP.mk (cc := cX7_in) (maxL := 3) (ret := (some .boolean)) (by decide) rfl (Nat.le_of_ble_eq_true rfl) rfl RX7 rfl ?_
  intro p_ e_ s_ m_ ar_ bw_ mt_ cd_ Q_ E hr hQ
  refine r_iload_n E 0 dX7_in_0 rfl rfl ?_
  refine r_iload_n E 1 dX7_in_1 rfl rfl ?_
  refine r_icmp_lt E 14 dX7_in_2 (by decide) hv hx (fun c_2 => ?_) (fun c_2 => ?_)
  · refine r_iconst E 0 rfl dX7_in_14 ?_
    exact r_retPZ E hr dX7_in_15 (by omega) (by first | rfl | exact (b2_t (by first | omega | assumption)).symm | exact (b2_f (by first | omega | assumption)).symm | omega | assumption) hQ
  · refine r_iload_n E 0 dX7_in_5 rfl rfl ?_
    refine r_iload_n E 2 dX7_in_6 rfl rfl ?_
    refine r_icmp_gt E 14 dX7_in_7 (by decide) hv hy (fun c_7 => ?_) (fun c_7 => ?_)
    · refine r_iconst E 0 rfl dX7_in_14 ?_
      exact r_retPZ E hr dX7_in_15 (by omega) (by first | rfl | exact (b2_t (by first | omega | assumption)).symm | exact (b2_f (by first | omega | assumption)).symm | omega | assumption) hQ
    · refine r_iconst E 1 rfl dX7_in_10 ?_
      refine r_goto E 15 dX7_in_11 (by decide) ?_
      exact r_retPZ E hr dX7_in_15 (by omega) (by first | rfl | exact (b2_t (by first | omega | assumption)).symm | exact (b2_f (by first | omega | assumption)).symm | omega | assumption) hQ
theorem kf_X7_code : KF yX7_code 3 wsX7_code cX7_code 3 (some .int) := ⟨rfl, by decide +kernel, by decide +kernel, by decide +kernel⟩
def rm_X7_code : Room := { frames := 0, cells := 0, slots := 0, locals := 0 }
set_option maxHeartbeats 1000000 in
set_option maxRecDepth 100000 in
theorem c_X7_code (l : Launch) (D : va_G) (h : Int) (ac : Int) (o : Int)  : MP l yX7_code wsX7_code rm_X7_code D vwCl [.int (iJ (h)), .int (iJ (ac)), .int (iJ (o))] [] [] (1 + h + 3 * ac + 6 * o) := by
  refine MP.mk (cc := cX7_code) (maxL := 3) (ret := (some .int)) (by decide) rfl (Nat.le_of_ble_eq_true rfl) rfl RX7 rfl ?_
  intro p_ e_ s_ m_ ar_ bw_ mt_ cd_ Q_ E hr hQ
  refine r_iconst E 1 rfl dX7_code_0 ?_
  refine r_iload_n E 0 dX7_code_1 rfl rfl ?_
  refine r_iadd E dX7_code_2 ?_
  refine r_iconst E 3 rfl dX7_code_3 ?_
  refine r_iload_n E 1 dX7_code_4 rfl rfl ?_
  refine r_imul E dX7_code_5 ?_
  refine r_iadd E dX7_code_6 ?_
  refine r_bipush E 6 rfl dX7_code_7 ?_
  refine r_iload_n E 2 dX7_code_9 rfl rfl ?_
  refine r_imul E dX7_code_10 ?_
  refine r_iadd E dX7_code_11 ?_
  exact r_retP E hr dX7_code_12 (by omega) hQ
theorem kf_X7_capped : KF yX7_capped 1 wsX7_capped cX7_capped 2 (some .int) := ⟨rfl, by decide +kernel, by decide +kernel, by decide +kernel⟩
def rm_X7_capped : Room := { frames := 0, cells := 0, slots := 0, locals := 0 }
set_option maxRecDepth 20000 in
theorem ck_X7_capped_106 : Cond.constantLong RX7 106 (lJ 1000000000) ∈ wsX7_capped := by decide +kernel
set_option maxRecDepth 20000 in
theorem ck_X7_capped_108 : Cond.constant RX7 108 (iJ 1000000000) ∈ wsX7_capped := by decide +kernel
set_option maxHeartbeats 1000000 in
set_option maxRecDepth 100000 in
theorem c_X7_capped (l : Launch) (D : va_G) (z : Int) (hz : lb z) : MP l yX7_capped wsX7_capped rm_X7_capped D vwCl [.long (lJ (z))] [] [] ((if 1000000000 < z then 1000000000 else z)) := by
  refine MP.mk (cc := cX7_capped) (maxL := 2) (ret := (some .int)) (by decide) rfl (Nat.le_of_ble_eq_true rfl) rfl RX7 rfl ?_
  intro p_ e_ s_ m_ ar_ bw_ mt_ cd_ Q_ E hr hQ
  refine r_lload_n E 0 dX7_capped_0 rfl rfl ?_
  refine r_ldc2l E 1000000000 dX7_capped_1 ck_X7_capped_106 ?_
  refine r_lcmp E (if 1000000000 < z then 1 else if z = 1000000000 then 0 else -1) dX7_capped_4 ⟨hz, ⟨by omega, by omega⟩, rfl⟩ ?_
  refine r_if_le E 13 dX7_capped_5 (by decide) (by (repeat' split) <;> exact ⟨by omega, by omega⟩) (fun c_5 => ?_) (fun c_5 => ?_)
  · refine r_lload_n E 0 dX7_capped_13 rfl rfl ?_
    refine r_l2i E dX7_capped_14 ?_
    exact r_retP E hr dX7_capped_15 (by
          by_cases q : 1000000000 < z
          · rw [if_pos q] at c_5; first | (exact absurd c_5 (by decide)) | (rw [if_pos q])
          · rw [if_neg q] at c_5; first | (rw [if_neg q]; done) | (exfalso; split at c_5 <;> omega)) hQ
  · refine r_ldc E 1000000000 dX7_capped_8 ck_X7_capped_108 ?_
    refine r_goto E 15 dX7_capped_10 (by decide) ?_
    exact r_retP E hr dX7_capped_15 (by
          by_cases q : 1000000000 < z
          · rw [if_pos q] at c_5; first | (exact absurd c_5 (by decide)) | (rw [if_pos q])
          · rw [if_neg q] at c_5; first | (rw [if_neg q]; done) | (exfalso; split at c_5 <;> omega)) hQ
theorem kf_X7_isStep : KF yX7_isStep 1 wsX7_isStep cX7_isStep 2 (some .boolean) := ⟨rfl, by decide +kernel, by decide +kernel, by decide +kernel⟩
def rm_X7_isStep : Room := { frames := 1, cells := 0, slots := 0, locals := 22 }
set_option maxRecDepth 20000 in
theorem in_X7_isStep_X7 : ∀ w ∈ u_ws RX7 TX7 17, w ∈ wsX7_isStep := by decide +kernel
set_option maxRecDepth 20000 in
theorem lk_X7_isStep_7 : Cond.fieldLink RX7 7 (TX7 0).1 (TX7 0).2.1 (TX7 0).2.2.1 ∈ wsX7_isStep := by decide +kernel
set_option maxHeartbeats 1000000 in
set_option maxRecDepth 100000 in
theorem c_X7_isStep (l : Launch) (D : va_G) (m0 : Nat) (ms : Nat) (mh : Nat) (mn : Nat) (mp : Nat) (ml : Nat) (mm : Nat) (md : Nat) (mw : Nat) (mt : Nat) (mb : Nat) (mi : Nat) (mg : Nat) (cI : ClassId) (kp : Int) (sv : Int) (pn : Int) (rf : Int) (tl : Int) (s : Int → Int) (a : Int) (hs0 : 0 ≤ s 0 ∧ s 0 ≤ 32) (ha : jb a) : MP l yX7_isStep wsX7_isStep rm_X7_isStep D vwCl [.ref m0, .int (iJ (a))] [(m0, .inr (6, [.ref ms, .ref mh, .int (iJ (kp)), .ref mn, .int (iJ (sv)), .ref mp, .int (iJ (pn)), .int (iJ (rf)), .ref ml, .ref mm, .ref md, .ref mw, .ref mt, .int (iJ (tl)), .ref mb, .ref mi, .ref mg])), (ms, cJ cI 34 (s))] [(cI, .int)] (b2 (0 ≤ a ∧ a ≤ s 0 - 1)) := by
  refine MP.mk (cc := cX7_isStep) (maxL := 2) (ret := (some .boolean)) (by decide) rfl (Nat.le_of_ble_eq_true rfl) rfl RX7 rfl ?_
  intro p_ e_ s_ m_ ar_ bw_ mt_ cd_ Q_ E hr hQ
  refine r_iload_n E 1 dX7_isStep_0 rfl rfl ?_
  refine r_iconst E 0 rfl dX7_isStep_1 ?_
  refine r_aload_n E 0 dX7_isStep_2 rfl rfl ?_
  refine r_get E 6 0 0 dX7_isStep_3 in_X7_isStep_X7 lk_X7_isStep_7 rfl rfl (by decide) rfl ?_
  refine r_iconst E 0 rfl dX7_isStep_6 ?_
  refine r_iald E (i := 0) 1 0 dX7_isStep_7 rfl rfl (by decide) ⟨by omega, by omega⟩ ?_
  refine r_iconst E 1 rfl dX7_isStep_8 ?_
  refine r_isub E dX7_isStep_9 ?_
  refine r_sP E (st := []) (c_X7_in l D a 0 ((s 0) - 1) (by first | assumption | omega | exact ⟨by omega, by omega⟩) (by first | assumption | omega | exact ⟨by omega, by omega⟩) (by first | assumption | omega | exact ⟨by omega, by omega⟩)) gX7_isStep_X7_in 3 kf_X7_in ⟨rfl, rfl⟩ ⟨by decide, by decide⟩ dX7_isStep_10 rfl rfl ⟨Nat.zero_le _, Nat.zero_le _⟩ [] rfl (by decide) [] rfl (Nat.le_of_ble_eq_true rfl) ?_
  exact r_retPZ E hr dX7_isStep_13 (b2_01 _) (by first | rfl | exact (b2_t (by first | omega | assumption)).symm | exact (b2_f (by first | omega | assumption)).symm | omega | assumption) hQ
theorem kf_X7_at : KF yX7_at 1 wsX7_at cX7_at 2 (some .int) := ⟨rfl, by decide +kernel, by decide +kernel, by decide +kernel⟩
def rm_X7_at : Room := { frames := 0, cells := 0, slots := 0, locals := 0 }
set_option maxRecDepth 20000 in
theorem in_X7_at_X7 : ∀ w ∈ u_ws RX7 TX7 17, w ∈ wsX7_at := by decide +kernel
set_option maxRecDepth 20000 in
theorem lk_X7_at_7 : Cond.fieldLink RX7 7 (TX7 0).1 (TX7 0).2.1 (TX7 0).2.2.1 ∈ wsX7_at := by decide +kernel
set_option maxHeartbeats 1000000 in
set_option maxRecDepth 100000 in
theorem c_X7_at (l : Launch) (D : va_G) (m0 : Nat) (ms : Nat) (mh : Nat) (mn : Nat) (mp : Nat) (ml : Nat) (mm : Nat) (md : Nat) (mw : Nat) (mt : Nat) (mb : Nat) (mi : Nat) (mg : Nat) (cI : ClassId) (kp : Int) (sv : Int) (pn : Int) (rf : Int) (tl : Int) (s : Int → Int) (a : Int) (ha : 0 ≤ a ∧ a ≤ 31) : MP l yX7_at wsX7_at rm_X7_at D vwCl [.ref m0, .int (iJ (a))] [(m0, .inr (6, [.ref ms, .ref mh, .int (iJ (kp)), .ref mn, .int (iJ (sv)), .ref mp, .int (iJ (pn)), .int (iJ (rf)), .ref ml, .ref mm, .ref md, .ref mw, .ref mt, .int (iJ (tl)), .ref mb, .ref mi, .ref mg])), (ms, cJ cI 34 (s))] [(cI, .int)] (s (2 + a)) := by
  refine MP.mk (cc := cX7_at) (maxL := 2) (ret := (some .int)) (by decide) rfl (Nat.le_of_ble_eq_true rfl) rfl RX7 rfl ?_
  intro p_ e_ s_ m_ ar_ bw_ mt_ cd_ Q_ E hr hQ
  refine r_aload_n E 0 dX7_at_0 rfl rfl ?_
  refine r_get E 6 0 0 dX7_at_1 in_X7_at_X7 lk_X7_at_7 rfl rfl (by decide) rfl ?_
  refine r_iconst E 2 rfl dX7_at_4 ?_
  refine r_iload_n E 1 dX7_at_5 rfl rfl ?_
  refine r_iadd E dX7_at_6 ?_
  refine r_iald E (i := (2 + a)) 1 0 dX7_at_7 rfl rfl (by decide) ⟨by omega, by omega⟩ ?_
  exact r_retP E hr dX7_at_8 (by first | rfl | exact (b2_t (by first | omega | assumption)).symm | exact (b2_f (by first | omega | assumption)).symm | omega | assumption) hQ
theorem kf_X7_isStroke : KF yX7_isStroke 1 wsX7_isStroke cX7_isStroke 2 (some .boolean) := ⟨rfl, by decide +kernel, by decide +kernel, by decide +kernel⟩
def rm_X7_isStroke : Room := { frames := 1, cells := 0, slots := 0, locals := 21 }
set_option maxHeartbeats 1000000 in
set_option maxRecDepth 100000 in
theorem c_X7_isStroke (l : Launch) (D : va_G) (m0 : Nat) (ms : Nat) (mh : Nat) (mn : Nat) (mp : Nat) (ml : Nat) (mm : Nat) (md : Nat) (mw : Nat) (mt : Nat) (mb : Nat) (mi : Nat) (mg : Nat) (cI : ClassId) (kp : Int) (sv : Int) (pn : Int) (rf : Int) (tl : Int) (s : Int → Int) (a : Int) (ha : 0 ≤ a ∧ a ≤ 31) (hca : 0 ≤ s (2 + a) ∧ s (2 + a) ≤ 24) : MP l yX7_isStroke wsX7_isStroke rm_X7_isStroke D vwCl [.ref m0, .int (iJ (a))] [(m0, .inr (6, [.ref ms, .ref mh, .int (iJ (kp)), .ref mn, .int (iJ (sv)), .ref mp, .int (iJ (pn)), .int (iJ (rf)), .ref ml, .ref mm, .ref md, .ref mw, .ref mt, .int (iJ (tl)), .ref mb, .ref mi, .ref mg])), (ms, cJ cI 34 (s))] [(cI, .int)] (b2 (¬ s (2 + a) = 0)) := by
  refine MP.mk (cc := cX7_isStroke) (maxL := 2) (ret := (some .boolean)) (by decide) rfl (Nat.le_of_ble_eq_true rfl) rfl RX7 rfl ?_
  intro p_ e_ s_ m_ ar_ bw_ mt_ cd_ Q_ E hr hQ
  refine r_aload_n E 0 dX7_isStroke_0 rfl rfl ?_
  refine r_iload_n E 1 dX7_isStroke_1 rfl rfl ?_
  refine r_vP E (st := []) (c_X7_at l D m0 ms mh mn mp ml mm md mw mt mb mi mg cI kp sv pn rf tl s a (by first | assumption | omega | exact ⟨by omega, by omega⟩)) gX7_isStroke_X7_at 1 kf_X7_at ⟨rfl, rfl⟩ ⟨by decide, by decide⟩ dX7_isStroke_2 rfl 0 rfl rfl rfl rfl ⟨Nat.zero_le _, Nat.zero_le _⟩ [0, 1] rfl (by decide) [0] rfl (Nat.le_of_ble_eq_true rfl) ?_
  refine r_if_eq E 12 dX7_isStroke_5 (by decide) ⟨by omega, by omega⟩ (fun c_5 => ?_) (fun c_5 => ?_)
  · refine r_iconst E 0 rfl dX7_isStroke_12 ?_
    exact r_retPZ E hr dX7_isStroke_13 (by omega) (by first | rfl | exact (b2_t (by first | omega | assumption)).symm | exact (b2_f (by first | omega | assumption)).symm | omega | assumption) hQ
  · refine r_iconst E 1 rfl dX7_isStroke_8 ?_
    refine r_goto E 13 dX7_isStroke_9 (by decide) ?_
    exact r_retPZ E hr dX7_isStroke_13 (by omega) (by first | rfl | exact (b2_t (by first | omega | assumption)).symm | exact (b2_f (by first | omega | assumption)).symm | omega | assumption) hQ
theorem kf_X7_hand : KF yX7_hand 1 wsX7_hand cX7_hand 2 (some .int) := ⟨rfl, by decide +kernel, by decide +kernel, by decide +kernel⟩
def rm_X7_hand : Room := { frames := 1, cells := 0, slots := 0, locals := 21 }
set_option maxHeartbeats 1000000 in
set_option maxRecDepth 100000 in
theorem c_X7_hand (l : Launch) (D : va_G) (m0 : Nat) (ms : Nat) (mh : Nat) (mn : Nat) (mp : Nat) (ml : Nat) (mm : Nat) (md : Nat) (mw : Nat) (mt : Nat) (mb : Nat) (mi : Nat) (mg : Nat) (cI : ClassId) (kp : Int) (sv : Int) (pn : Int) (rf : Int) (tl : Int) (s : Int → Int) (a : Int) (ha : 0 ≤ a ∧ a ≤ 31) (hca : 1 ≤ s (2 + a) ∧ s (2 + a) ≤ 24) : MP l yX7_hand wsX7_hand rm_X7_hand D vwCl [.ref m0, .int (iJ (a))] [(m0, .inr (6, [.ref ms, .ref mh, .int (iJ (kp)), .ref mn, .int (iJ (sv)), .ref mp, .int (iJ (pn)), .int (iJ (rf)), .ref ml, .ref mm, .ref md, .ref mw, .ref mt, .int (iJ (tl)), .ref mb, .ref mi, .ref mg])), (ms, cJ cI 34 (s))] [(cI, .int)] ((s (2 + a) - 1) % 3) := by
  refine MP.mk (cc := cX7_hand) (maxL := 2) (ret := (some .int)) (by decide) rfl (Nat.le_of_ble_eq_true rfl) rfl RX7 rfl ?_
  intro p_ e_ s_ m_ ar_ bw_ mt_ cd_ Q_ E hr hQ
  refine r_aload_n E 0 dX7_hand_0 rfl rfl ?_
  refine r_iload_n E 1 dX7_hand_1 rfl rfl ?_
  refine r_vP E (st := []) (c_X7_at l D m0 ms mh mn mp ml mm md mw mt mb mi mg cI kp sv pn rf tl s a (by first | assumption | omega | exact ⟨by omega, by omega⟩)) gX7_hand_X7_at 1 kf_X7_at ⟨rfl, rfl⟩ ⟨by decide, by decide⟩ dX7_hand_2 rfl 0 rfl rfl rfl rfl ⟨Nat.zero_le _, Nat.zero_le _⟩ [0, 1] rfl (by decide) [0] rfl (Nat.le_of_ble_eq_true rfl) ?_
  refine r_iconst E 1 rfl dX7_hand_5 ?_
  refine r_isub E dX7_hand_6 ?_
  refine r_iconst E 3 rfl dX7_hand_7 ?_
  refine r_irem E ⟨by omega, by omega⟩ ⟨by omega, by omega⟩ dX7_hand_8 ?_
  exact r_retP E hr dX7_hand_9 (by first | rfl | exact (b2_t (by first | omega | assumption)).symm | exact (b2_f (by first | omega | assumption)).symm | omega | assumption) hQ
theorem kf_X7_accent : KF yX7_accent 1 wsX7_accent cX7_accent 2 (some .int) := ⟨rfl, by decide +kernel, by decide +kernel, by decide +kernel⟩
def rm_X7_accent : Room := { frames := 2, cells := 0, slots := 0, locals := 42 }
set_option maxHeartbeats 1000000 in
set_option maxRecDepth 100000 in
theorem c_X7_accent (l : Launch) (D : va_G) (m0 : Nat) (ms : Nat) (mh : Nat) (mn : Nat) (mp : Nat) (ml : Nat) (mm : Nat) (md : Nat) (mw : Nat) (mt : Nat) (mb : Nat) (mi : Nat) (mg : Nat) (cI : ClassId) (kp : Int) (sv : Int) (pn : Int) (rf : Int) (tl : Int) (s : Int → Int) (a : Int) (ha : 0 ≤ a ∧ a ≤ 31) (hca : 0 ≤ s (2 + a) ∧ s (2 + a) ≤ 24) : MP l yX7_accent wsX7_accent rm_X7_accent D vwCl [.ref m0, .int (iJ (a))] [(m0, .inr (6, [.ref ms, .ref mh, .int (iJ (kp)), .ref mn, .int (iJ (sv)), .ref mp, .int (iJ (pn)), .int (iJ (rf)), .ref ml, .ref mm, .ref md, .ref mw, .ref mt, .int (iJ (tl)), .ref mb, .ref mi, .ref mg])), (ms, cJ cI 34 (s))] [(cI, .int)] (mAc (s (2 + a))) := by
  refine MP.mk (cc := cX7_accent) (maxL := 2) (ret := (some .int)) (by decide) rfl (Nat.le_of_ble_eq_true rfl) rfl RX7 rfl ?_
  intro p_ e_ s_ m_ ar_ bw_ mt_ cd_ Q_ E hr hQ
  refine r_aload_n E 0 dX7_accent_0 rfl rfl ?_
  refine r_iload_n E 1 dX7_accent_1 rfl rfl ?_
  refine r_vP E (st := []) (c_X7_isStroke l D m0 ms mh mn mp ml mm md mw mt mb mi mg cI kp sv pn rf tl s a (by first | assumption | omega | exact ⟨by omega, by omega⟩) (by first | assumption | omega | exact ⟨by omega, by omega⟩)) gX7_accent_X7_isStroke 1 kf_X7_isStroke ⟨rfl, rfl⟩ ⟨by decide, by decide⟩ dX7_accent_2 rfl 0 rfl rfl rfl rfl ⟨Nat.zero_le _, Nat.zero_le _⟩ [0, 1] rfl (by decide) [0] rfl (Nat.le_of_ble_eq_true rfl) ?_
  refine r_ifeq_n E 22 dX7_accent_5 (by decide) (fun c_5 => ?_) (fun c_5 => ?_)
  · refine r_iconst E 0 rfl dX7_accent_22 ?_
    exact r_retP E hr dX7_accent_23 (by simp only [mAc]; (repeat' split) <;> omega) hQ
  · refine r_aload_n E 0 dX7_accent_8 rfl rfl ?_
    refine r_iload_n E 1 dX7_accent_9 rfl rfl ?_
    refine r_vP E (st := []) (c_X7_at l D m0 ms mh mn mp ml mm md mw mt mb mi mg cI kp sv pn rf tl s a (by first | assumption | omega | exact ⟨by omega, by omega⟩)) gX7_accent_X7_at 1 kf_X7_at ⟨rfl, rfl⟩ ⟨by decide, by decide⟩ dX7_accent_10 rfl 0 rfl rfl rfl rfl ⟨Nat.zero_le _, Nat.zero_le _⟩ [0, 1] rfl (by decide) [0] rfl (Nat.le_of_ble_eq_true rfl) ?_
    refine r_iconst E 1 rfl dX7_accent_13 ?_
    refine r_isub E dX7_accent_14 ?_
    refine r_iconst E 3 rfl dX7_accent_15 ?_
    refine r_idiv E ⟨by omega, by omega⟩ ⟨by omega, by omega⟩ dX7_accent_16 ?_
    refine r_iconst E 2 rfl dX7_accent_17 ?_
    refine r_irem E ⟨by omega, by omega⟩ ⟨by omega, by omega⟩ dX7_accent_18 ?_
    refine r_goto E 23 dX7_accent_19 (by decide) ?_
    exact r_retP E hr dX7_accent_23 (by simp only [mAc]; (repeat' split) <;> omega) hQ
theorem kf_X7_ornament : KF yX7_ornament 1 wsX7_ornament cX7_ornament 2 (some .int) := ⟨rfl, by decide +kernel, by decide +kernel, by decide +kernel⟩
def rm_X7_ornament : Room := { frames := 2, cells := 0, slots := 0, locals := 42 }
set_option maxHeartbeats 1000000 in
set_option maxRecDepth 100000 in
theorem c_X7_ornament (l : Launch) (D : va_G) (m0 : Nat) (ms : Nat) (mh : Nat) (mn : Nat) (mp : Nat) (ml : Nat) (mm : Nat) (md : Nat) (mw : Nat) (mt : Nat) (mb : Nat) (mi : Nat) (mg : Nat) (cI : ClassId) (kp : Int) (sv : Int) (pn : Int) (rf : Int) (tl : Int) (s : Int → Int) (a : Int) (ha : 0 ≤ a ∧ a ≤ 31) (hca : 0 ≤ s (2 + a) ∧ s (2 + a) ≤ 24) : MP l yX7_ornament wsX7_ornament rm_X7_ornament D vwCl [.ref m0, .int (iJ (a))] [(m0, .inr (6, [.ref ms, .ref mh, .int (iJ (kp)), .ref mn, .int (iJ (sv)), .ref mp, .int (iJ (pn)), .int (iJ (rf)), .ref ml, .ref mm, .ref md, .ref mw, .ref mt, .int (iJ (tl)), .ref mb, .ref mi, .ref mg])), (ms, cJ cI 34 (s))] [(cI, .int)] (mOr (s (2 + a))) := by
  refine MP.mk (cc := cX7_ornament) (maxL := 2) (ret := (some .int)) (by decide) rfl (Nat.le_of_ble_eq_true rfl) rfl RX7 rfl ?_
  intro p_ e_ s_ m_ ar_ bw_ mt_ cd_ Q_ E hr hQ
  refine r_aload_n E 0 dX7_ornament_0 rfl rfl ?_
  refine r_iload_n E 1 dX7_ornament_1 rfl rfl ?_
  refine r_vP E (st := []) (c_X7_isStroke l D m0 ms mh mn mp ml mm md mw mt mb mi mg cI kp sv pn rf tl s a (by first | assumption | omega | exact ⟨by omega, by omega⟩) (by first | assumption | omega | exact ⟨by omega, by omega⟩)) gX7_ornament_X7_isStroke 1 kf_X7_isStroke ⟨rfl, rfl⟩ ⟨by decide, by decide⟩ dX7_ornament_2 rfl 0 rfl rfl rfl rfl ⟨Nat.zero_le _, Nat.zero_le _⟩ [0, 1] rfl (by decide) [0] rfl (Nat.le_of_ble_eq_true rfl) ?_
  refine r_ifeq_n E 21 dX7_ornament_5 (by decide) (fun c_5 => ?_) (fun c_5 => ?_)
  · refine r_iconst E 0 rfl dX7_ornament_21 ?_
    exact r_retP E hr dX7_ornament_22 (by simp only [mOr]; (repeat' split) <;> omega) hQ
  · refine r_aload_n E 0 dX7_ornament_8 rfl rfl ?_
    refine r_iload_n E 1 dX7_ornament_9 rfl rfl ?_
    refine r_vP E (st := []) (c_X7_at l D m0 ms mh mn mp ml mm md mw mt mb mi mg cI kp sv pn rf tl s a (by first | assumption | omega | exact ⟨by omega, by omega⟩)) gX7_ornament_X7_at 1 kf_X7_at ⟨rfl, rfl⟩ ⟨by decide, by decide⟩ dX7_ornament_10 rfl 0 rfl rfl rfl rfl ⟨Nat.zero_le _, Nat.zero_le _⟩ [0, 1] rfl (by decide) [0] rfl (Nat.le_of_ble_eq_true rfl) ?_
    refine r_iconst E 1 rfl dX7_ornament_13 ?_
    refine r_isub E dX7_ornament_14 ?_
    refine r_bipush E 6 rfl dX7_ornament_15 ?_
    refine r_idiv E ⟨by omega, by omega⟩ ⟨by omega, by omega⟩ dX7_ornament_17 ?_
    refine r_goto E 22 dX7_ornament_18 (by decide) ?_
    exact r_retP E hr dX7_ornament_22 (by simp only [mOr]; (repeat' split) <;> omega) hQ
theorem kf_X7_blows : KF yX7_blows 1 wsX7_blows cX7_blows 2 (some .int) := ⟨rfl, by decide +kernel, by decide +kernel, by decide +kernel⟩
def rm_X7_blows : Room := { frames := 3, cells := 0, slots := 0, locals := 63 }
set_option maxHeartbeats 1000000 in
set_option maxRecDepth 100000 in
theorem c_X7_blows (l : Launch) (D : va_G) (m0 : Nat) (ms : Nat) (mh : Nat) (mn : Nat) (mp : Nat) (ml : Nat) (mm : Nat) (md : Nat) (mw : Nat) (mt : Nat) (mb : Nat) (mi : Nat) (mg : Nat) (cI : ClassId) (kp : Int) (sv : Int) (pn : Int) (rf : Int) (tl : Int) (s : Int → Int) (a : Int) (ha : 0 ≤ a ∧ a ≤ 31) (hca : 0 ≤ s (2 + a) ∧ s (2 + a) ≤ 24) : MP l yX7_blows wsX7_blows rm_X7_blows D vwCl [.ref m0, .int (iJ (a))] [(m0, .inr (6, [.ref ms, .ref mh, .int (iJ (kp)), .ref mn, .int (iJ (sv)), .ref mp, .int (iJ (pn)), .int (iJ (rf)), .ref ml, .ref mm, .ref md, .ref mw, .ref mt, .int (iJ (tl)), .ref mb, .ref mi, .ref mg])), (ms, cJ cI 34 (s))] [(cI, .int)] (mBl (s (2 + a))) := by
  refine MP.mk (cc := cX7_blows) (maxL := 2) (ret := (some .int)) (by decide) rfl (Nat.le_of_ble_eq_true rfl) rfl RX7 rfl ?_
  intro p_ e_ s_ m_ ar_ bw_ mt_ cd_ Q_ E hr hQ
  have hO := mOr_in (c := s (2 + a)) hca
  refine r_aload_n E 0 dX7_blows_0 rfl rfl ?_
  refine r_iload_n E 1 dX7_blows_1 rfl rfl ?_
  refine r_vP E (st := []) (c_X7_isStroke l D m0 ms mh mn mp ml mm md mw mt mb mi mg cI kp sv pn rf tl s a (by first | assumption | omega | exact ⟨by omega, by omega⟩) (by first | assumption | omega | exact ⟨by omega, by omega⟩)) gX7_blows_X7_isStroke 1 kf_X7_isStroke ⟨rfl, rfl⟩ ⟨by decide, by decide⟩ dX7_blows_2 rfl 0 rfl rfl rfl rfl ⟨Nat.zero_le _, Nat.zero_le _⟩ [0, 1] rfl (by decide) [0] rfl (Nat.le_of_ble_eq_true rfl) ?_
  refine r_ifne_n E 12 dX7_blows_5 (by decide) (fun c_5 => ?_) (fun c_5 => ?_)
  · refine r_aload_n E 0 dX7_blows_12 rfl rfl ?_
    refine r_iload_n E 1 dX7_blows_13 rfl rfl ?_
    refine r_vP E (st := []) (c_X7_ornament l D m0 ms mh mn mp ml mm md mw mt mb mi mg cI kp sv pn rf tl s a (by first | assumption | omega | exact ⟨by omega, by omega⟩) (by first | assumption | omega | exact ⟨by omega, by omega⟩)) gX7_blows_X7_ornament 1 kf_X7_ornament ⟨rfl, rfl⟩ ⟨by decide, by decide⟩ dX7_blows_14 rfl 0 rfl rfl rfl rfl ⟨Nat.zero_le _, Nat.zero_le _⟩ [0, 1] rfl (by decide) [0] rfl (Nat.le_of_ble_eq_true rfl) ?_
    refine r_if_ne E 24 dX7_blows_17 (by decide) ⟨by omega, by omega⟩ (fun c_17 => ?_) (fun c_17 => ?_)
    · refine r_aload_n E 0 dX7_blows_24 rfl rfl ?_
      refine r_iload_n E 1 dX7_blows_25 rfl rfl ?_
      refine r_vP E (st := []) (c_X7_ornament l D m0 ms mh mn mp ml mm md mw mt mb mi mg cI kp sv pn rf tl s a (by first | assumption | omega | exact ⟨by omega, by omega⟩) (by first | assumption | omega | exact ⟨by omega, by omega⟩)) gX7_blows_X7_ornament 1 kf_X7_ornament ⟨rfl, rfl⟩ ⟨by decide, by decide⟩ dX7_blows_26 rfl 0 rfl rfl rfl rfl ⟨Nat.zero_le _, Nat.zero_le _⟩ [0, 1] rfl (by decide) [0] rfl (Nat.le_of_ble_eq_true rfl) ?_
      refine r_iconst E 2 rfl dX7_blows_29 ?_
      refine r_icmp_ne E 37 dX7_blows_30 (by decide) ⟨by omega, by omega⟩ ⟨by omega, by omega⟩ (fun c_30 => ?_) (fun c_30 => ?_)
      · refine r_iconst E 2 rfl dX7_blows_37 ?_
        exact r_retP E hr dX7_blows_38 (by simp only [mBl]; (repeat' split) <;> omega) hQ
      · refine r_iconst E 3 rfl dX7_blows_33 ?_
        refine r_goto E 38 dX7_blows_34 (by decide) ?_
        exact r_retP E hr dX7_blows_38 (by simp only [mBl]; (repeat' split) <;> omega) hQ
    · refine r_iconst E 1 rfl dX7_blows_20 ?_
      refine r_goto E 38 dX7_blows_21 (by decide) ?_
      exact r_retP E hr dX7_blows_38 (by simp only [mBl]; (repeat' split) <;> omega) hQ
  · refine r_iconst E 0 rfl dX7_blows_8 ?_
    refine r_goto E 38 dX7_blows_9 (by decide) ?_
    exact r_retP E hr dX7_blows_38 (by simp only [mBl]; (repeat' split) <;> omega) hQ
theorem kf_X7_tick : KF yX7_tick 2 wsX7_tick cX7_tick 3 (some .int) := ⟨rfl, by decide +kernel, by decide +kernel, by decide +kernel⟩
def rm_X7_tick : Room := { frames := 3, cells := 0, slots := 0, locals := 63 }
set_option maxHeartbeats 1000000 in
set_option maxRecDepth 100000 in
theorem c_X7_tick (l : Launch) (D : va_G) (m0 : Nat) (ms : Nat) (mh : Nat) (mn : Nat) (mp : Nat) (ml : Nat) (mm : Nat) (md : Nat) (mw : Nat) (mt : Nat) (mb : Nat) (mi : Nat) (mg : Nat) (cI : ClassId) (kp : Int) (sv : Int) (pn : Int) (rf : Int) (tl : Int) (s : Int → Int) (a : Int) (b : Int) (ha : 0 ≤ a ∧ a ≤ 31) (hca : 0 ≤ s (2 + a) ∧ s (2 + a) ≤ 24) (hb : 0 ≤ b ∧ b ≤ 2) : MP l yX7_tick wsX7_tick rm_X7_tick D vwCl [.ref m0, .int (iJ (a)), .int (iJ (b))] [(m0, .inr (6, [.ref ms, .ref mh, .int (iJ (kp)), .ref mn, .int (iJ (sv)), .ref mp, .int (iJ (pn)), .int (iJ (rf)), .ref ml, .ref mm, .ref md, .ref mw, .ref mt, .int (iJ (tl)), .ref mb, .ref mi, .ref mg])), (ms, cJ cI 34 (s))] [(cI, .int)] (mTi (s (2 + a)) b) := by
  refine MP.mk (cc := cX7_tick) (maxL := 3) (ret := (some .int)) (by decide) rfl (Nat.le_of_ble_eq_true rfl) rfl RX7 rfl ?_
  intro p_ e_ s_ m_ ar_ bw_ mt_ cd_ Q_ E hr hQ
  have hO := mOr_in (c := s (2 + a)) hca
  refine r_iload_n E 2 dX7_tick_0 rfl rfl ?_
  refine r_if_ne E 6 dX7_tick_1 (by decide) ⟨by omega, by omega⟩ (fun c_1 => ?_) (fun c_1 => ?_)
  · refine r_aload_n E 0 dX7_tick_6 rfl rfl ?_
    refine r_iload_n E 1 dX7_tick_7 rfl rfl ?_
    refine r_vP E (st := []) (c_X7_ornament l D m0 ms mh mn mp ml mm md mw mt mb mi mg cI kp sv pn rf tl s a (by first | assumption | omega | exact ⟨by omega, by omega⟩) (by first | assumption | omega | exact ⟨by omega, by omega⟩)) gX7_tick_X7_ornament 1 kf_X7_ornament ⟨rfl, rfl⟩ ⟨by decide, by decide⟩ dX7_tick_8 rfl 0 rfl rfl rfl rfl ⟨Nat.zero_le _, Nat.zero_le _⟩ [0, 1] rfl (by decide) [0] rfl (Nat.le_of_ble_eq_true rfl) ?_
    refine r_iconst E 3 rfl dX7_tick_11 ?_
    refine r_icmp_ne E 19 dX7_tick_12 (by decide) ⟨by omega, by omega⟩ ⟨by omega, by omega⟩ (fun c_12 => ?_) (fun c_12 => ?_)
    · refine r_iload_n E 2 dX7_tick_19 rfl rfl ?_
      refine r_ineg E dX7_tick_20 ?_
      exact r_retP E hr dX7_tick_21 (by simp only [mTi]; (repeat' split) <;> omega) hQ
    · refine r_iconst E 2 rfl dX7_tick_15 ?_
      refine r_goto E 21 dX7_tick_16 (by decide) ?_
      exact r_retP E hr dX7_tick_21 (by simp only [mTi]; (repeat' split) <;> omega) hQ
  · refine r_iconst E 0 rfl dX7_tick_4 ?_
    exact r_retP E hr dX7_tick_5 (by simp only [mTi]; (repeat' split) <;> omega) hQ
theorem kf_X7_force : KF yX7_force 2 wsX7_force cX7_force 3 (some .int) := ⟨rfl, by decide +kernel, by decide +kernel, by decide +kernel⟩
def rm_X7_force : Room := { frames := 3, cells := 0, slots := 0, locals := 63 }
set_option maxHeartbeats 1000000 in
set_option maxRecDepth 100000 in
theorem c_X7_force (l : Launch) (D : va_G) (m0 : Nat) (ms : Nat) (mh : Nat) (mn : Nat) (mp : Nat) (ml : Nat) (mm : Nat) (md : Nat) (mw : Nat) (mt : Nat) (mb : Nat) (mi : Nat) (mg : Nat) (cI : ClassId) (kp : Int) (sv : Int) (pn : Int) (rf : Int) (tl : Int) (s : Int → Int) (a : Int) (b : Int) (ha : 0 ≤ a ∧ a ≤ 31) (hca : 0 ≤ s (2 + a) ∧ s (2 + a) ≤ 24) (hb : 0 ≤ b ∧ b ≤ 2) : MP l yX7_force wsX7_force rm_X7_force D vwCl [.ref m0, .int (iJ (a)), .int (iJ (b))] [(m0, .inr (6, [.ref ms, .ref mh, .int (iJ (kp)), .ref mn, .int (iJ (sv)), .ref mp, .int (iJ (pn)), .int (iJ (rf)), .ref ml, .ref mm, .ref md, .ref mw, .ref mt, .int (iJ (tl)), .ref mb, .ref mi, .ref mg])), (ms, cJ cI 34 (s))] [(cI, .int)] (mFo (s (2 + a)) b) := by
  refine MP.mk (cc := cX7_force) (maxL := 3) (ret := (some .int)) (by decide) rfl (Nat.le_of_ble_eq_true rfl) rfl RX7 rfl ?_
  intro p_ e_ s_ m_ ar_ bw_ mt_ cd_ Q_ E hr hQ
  refine r_iload_n E 2 dX7_force_0 rfl rfl ?_
  refine r_if_le E 8 dX7_force_1 (by decide) ⟨by omega, by omega⟩ (fun c_1 => ?_) (fun c_1 => ?_)
  · refine r_iconst E 2 rfl dX7_force_8 ?_
    refine r_aload_n E 0 dX7_force_9 rfl rfl ?_
    refine r_iload_n E 1 dX7_force_10 rfl rfl ?_
    refine r_vP E (st := [.int (iJ (2))]) (c_X7_accent l D m0 ms mh mn mp ml mm md mw mt mb mi mg cI kp sv pn rf tl s a (by first | assumption | omega | exact ⟨by omega, by omega⟩) (by first | assumption | omega | exact ⟨by omega, by omega⟩)) gX7_force_X7_accent 1 kf_X7_accent ⟨rfl, rfl⟩ ⟨by decide, by decide⟩ dX7_force_11 rfl 0 rfl rfl rfl rfl ⟨Nat.zero_le _, Nat.zero_le _⟩ [0, 1] rfl (by decide) [0] rfl (Nat.le_of_ble_eq_true rfl) ?_
    refine r_iadd E dX7_force_14 ?_
    exact r_retP E hr dX7_force_15 (by simp only [mFo]; (repeat' split) <;> omega) hQ
  · refine r_iconst E 1 rfl dX7_force_4 ?_
    refine r_goto E 15 dX7_force_5 (by decide) ?_
    exact r_retP E hr dX7_force_15 (by simp only [mFo]; (repeat' split) <;> omega) hQ
theorem kf_X7_handOf : KF yX7_handOf 3 wsX7_handOf cX7_handOf 4 (some .int) := ⟨rfl, by decide +kernel, by decide +kernel, by decide +kernel⟩
def rm_X7_handOf : Room := { frames := 3, cells := 0, slots := 0, locals := 63 }
set_option maxHeartbeats 1000000 in
set_option maxRecDepth 100000 in
theorem c_X7_handOf (l : Launch) (D : va_G) (m0 : Nat) (ms : Nat) (mh : Nat) (mn : Nat) (mp : Nat) (ml : Nat) (mm : Nat) (md : Nat) (mw : Nat) (mt : Nat) (mb : Nat) (mi : Nat) (mg : Nat) (cI : ClassId) (kp : Int) (sv : Int) (pn : Int) (rf : Int) (tl : Int) (s : Int → Int) (a : Int) (b : Int) (h : Int) (ha : 0 ≤ a ∧ a ≤ 31) (hca : 0 ≤ s (2 + a) ∧ s (2 + a) ≤ 24) (hb : 0 ≤ b ∧ b ≤ 2) : MP l yX7_handOf wsX7_handOf rm_X7_handOf D vwCl [.ref m0, .int (iJ (a)), .int (iJ (b)), .int (iJ (h))] [(m0, .inr (6, [.ref ms, .ref mh, .int (iJ (kp)), .ref mn, .int (iJ (sv)), .ref mp, .int (iJ (pn)), .int (iJ (rf)), .ref ml, .ref mm, .ref md, .ref mw, .ref mt, .int (iJ (tl)), .ref mb, .ref mi, .ref mg])), (ms, cJ cI 34 (s))] [(cI, .int)] (mHo (s (2 + a)) b h) := by
  refine MP.mk (cc := cX7_handOf) (maxL := 4) (ret := (some .int)) (by decide) rfl (Nat.le_of_ble_eq_true rfl) rfl RX7 rfl ?_
  intro p_ e_ s_ m_ ar_ bw_ mt_ cd_ Q_ E hr hQ
  have hO := mOr_in (c := s (2 + a)) hca
  refine r_iload_n E 2 dX7_handOf_0 rfl rfl ?_
  refine r_if_eq E 13 dX7_handOf_1 (by decide) ⟨by omega, by omega⟩ (fun c_1 => ?_) (fun c_1 => ?_)
  · refine r_iload_n E 3 dX7_handOf_13 rfl rfl ?_
    refine r_goto E 20 dX7_handOf_14 (by decide) ?_
    exact r_retP E hr dX7_handOf_20 (by simp only [mHo]; (repeat' split) <;> omega) hQ
  · refine r_aload_n E 0 dX7_handOf_4 rfl rfl ?_
    refine r_iload_n E 1 dX7_handOf_5 rfl rfl ?_
    refine r_vP E (st := []) (c_X7_ornament l D m0 ms mh mn mp ml mm md mw mt mb mi mg cI kp sv pn rf tl s a (by first | assumption | omega | exact ⟨by omega, by omega⟩) (by first | assumption | omega | exact ⟨by omega, by omega⟩)) gX7_handOf_X7_ornament 1 kf_X7_ornament ⟨rfl, rfl⟩ ⟨by decide, by decide⟩ dX7_handOf_6 rfl 0 rfl rfl rfl rfl ⟨Nat.zero_le _, Nat.zero_le _⟩ [0, 1] rfl (by decide) [0] rfl (Nat.le_of_ble_eq_true rfl) ?_
    refine r_iconst E 3 rfl dX7_handOf_9 ?_
    refine r_icmp_ne E 17 dX7_handOf_10 (by decide) ⟨by omega, by omega⟩ ⟨by omega, by omega⟩ (fun c_10 => ?_) (fun c_10 => ?_)
    · refine r_iconst E 1 rfl dX7_handOf_17 ?_
      refine r_iload_n E 3 dX7_handOf_18 rfl rfl ?_
      refine r_isub E dX7_handOf_19 ?_
      exact r_retP E hr dX7_handOf_20 (by simp only [mHo]; (repeat' split) <;> omega) hQ
    · refine r_iload_n E 3 dX7_handOf_13 rfl rfl ?_
      refine r_goto E 20 dX7_handOf_14 (by decide) ?_
      exact r_retP E hr dX7_handOf_20 (by simp only [mHo]; (repeat' split) <;> omega) hQ
theorem kf_X7_areClashing : KF yX7_areClashing 4 wsX7_areClashing cX7_areClashing 11 (some .boolean) := ⟨rfl, by decide +kernel, by decide +kernel, by decide +kernel⟩
def rm_X7_areClashing : Room := { frames := 4, cells := 0, slots := 0, locals := 86 }
set_option maxRecDepth 20000 in
theorem in_X7_areClashing_X7 : ∀ w ∈ u_ws RX7 TX7 17, w ∈ wsX7_areClashing := by decide +kernel
set_option maxRecDepth 20000 in
theorem lk_X7_areClashing_7 : Cond.fieldLink RX7 7 (TX7 0).1 (TX7 0).2.1 (TX7 0).2.2.1 ∈ wsX7_areClashing := by decide +kernel
set_option maxHeartbeats 1000000 in
set_option maxRecDepth 100000 in
theorem c_X7_areClashing (l : Launch) (D : va_G) (m0 : Nat) (ms : Nat) (mh : Nat) (mn : Nat) (mp : Nat) (ml : Nat) (mm : Nat) (md : Nat) (mw : Nat) (mt : Nat) (mb : Nat) (mi : Nat) (mg : Nat) (cI : ClassId) (kp : Int) (sv : Int) (pn : Int) (rf : Int) (tl : Int) (s : Int → Int) (a : Int) (h : Int) (b : Int) (h2 : Int) (hs1 : 1 ≤ s 1 ∧ s 1 ≤ 4) (ha : 0 ≤ a ∧ a ≤ 31) (hca : 0 ≤ s (2 + a) ∧ s (2 + a) ≤ 24) (hb : 0 ≤ b ∧ b ≤ 31) (hcb : 0 ≤ s (2 + b) ∧ s (2 + b) ≤ 24) (hh : -10 ≤ h ∧ h ≤ 10) (hh2 : -10 ≤ h2 ∧ h2 ≤ 10) : MP l yX7_areClashing wsX7_areClashing rm_X7_areClashing D vwCl [.ref m0, .int (iJ (a)), .int (iJ (h)), .int (iJ (b)), .int (iJ (h2))] [(m0, .inr (6, [.ref ms, .ref mh, .int (iJ (kp)), .ref mn, .int (iJ (sv)), .ref mp, .int (iJ (pn)), .int (iJ (rf)), .ref ml, .ref mm, .ref md, .ref mw, .ref mt, .int (iJ (tl)), .ref mb, .ref mi, .ref mg])), (ms, cJ cI 34 (s))] [(cI, .int)] (mCl (s 1) (s (2 + a)) h (s (2 + b)) h2) := by
  refine MP.mk (cc := cX7_areClashing) (maxL := 11) (ret := (some .boolean)) (by decide) rfl (Nat.le_of_ble_eq_true rfl) rfl RX7 rfl ?_
  intro p_ e_ s_ m_ ar_ bw_ mt_ cd_ Q_ E hr hQ
  have hB1 := mBl_in (c := s (2 + a))
  have hB2 := mBl_in (c := s (2 + b))
  refine r_iconst E 0 rfl dX7_areClashing_0 ?_
  refine r_istore E [(5, .int (iJ (0))), (0, .ref m0), (1, .int (iJ (a))), (2, .int (iJ (h))), (3, .int (iJ (b))), (4, .int (iJ (h2)))] dX7_areClashing_1 (by decide) rfl ?_
  refine r_iconst E 0 rfl dX7_areClashing_3 ?_
  refine r_istore E [(6, .int (iJ (0))), (5, .int (iJ (0))), (0, .ref m0), (1, .int (iJ (a))), (2, .int (iJ (h))), (3, .int (iJ (b))), (4, .int (iJ (h2)))] dX7_areClashing_4 (by decide) rfl ?_
  have loop_6 : ∀ (N : Nat) (k : Int) (x : Int), (0 ≤ k ∧ k ≤ 9) → (x = mCk (s 1) (s (2 + a)) h (s (2 + b)) h2 k.toNat) → (9 - k).toNat < N → GG p_ l e_ rm_X7_areClashing s_ m_ ar_ bw_ mt_ cd_ D vwCl (fun _ => True) (fun _ => False) s_.heap 11 0 0 Q_ [(m0, .inr (6, [.ref ms, .ref mh, .int (iJ (kp)), .ref mn, .int (iJ (sv)), .ref mp, .int (iJ (pn)), .int (iJ (rf)), .ref ml, .ref mm, .ref md, .ref mw, .ref mt, .int (iJ (tl)), .ref mb, .ref mi, .ref mg])), (ms, cJ cI 34 (s))] [(0, .ref m0), (1, .int (iJ (a))), (2, .int (iJ (h))), (3, .int (iJ (b))), (4, .int (iJ (h2))), (5, .int (iJ (x))), (6, .int (iJ (k)))] 6 [] := by
    intro N; induction N with
    | zero => intro k x hk hx hN; exact absurd hN (Nat.not_lt_zero _)
    | succ N ih6 =>
      intro k x hk hx hN
      refine r_iload E 6 dX7_areClashing_6 rfl ?_
      refine r_bipush E 9 rfl dX7_areClashing_8 ?_
      refine r_icmp_ge E 137 dX7_areClashing_10 (by decide) ⟨by omega, by omega⟩ ⟨by omega, by omega⟩ (fun c_10 => ?_) (fun c_10 => ?_)
      · refine r_iload E 5 dX7_areClashing_137 rfl ?_
        have f_x := mCk_01 (s 1) (s (2 + a)) h (s (2 + b)) h2 k.toNat
        rw [← hx] at f_x
        exact r_retPZ E hr dX7_areClashing_139 (by omega) (by
              have e : k = 9 := by omega
              rw [hx, e]; rfl) hQ
      · refine r_iload E 6 dX7_areClashing_13 rfl ?_
        refine r_iconst E 3 rfl dX7_areClashing_15 ?_
        refine r_idiv E ⟨by omega, by omega⟩ ⟨by omega, by omega⟩ dX7_areClashing_16 ?_
        refine r_istore E [(7, .int (iJ ((k / 3)))), (0, .ref m0), (1, .int (iJ (a))), (2, .int (iJ (h))), (3, .int (iJ (b))), (4, .int (iJ (h2))), (5, .int (iJ (x))), (6, .int (iJ (k)))] dX7_areClashing_17 (by decide) rfl ?_
        refine r_iload E 7 dX7_areClashing_19 rfl ?_
        refine r_iconst E 3 rfl dX7_areClashing_21 ?_
        refine r_irem E ⟨by omega, by omega⟩ ⟨by omega, by omega⟩ dX7_areClashing_22 ?_
        refine r_istore E [(8, .int (iJ ((k % 3)))), (7, .int (iJ ((k / 3)))), (0, .ref m0), (1, .int (iJ (a))), (2, .int (iJ (h))), (3, .int (iJ (b))), (4, .int (iJ (h2))), (5, .int (iJ (x))), (6, .int (iJ (k)))] dX7_areClashing_23 (by decide) rfl ?_
        have K_70 : ∀ (v : Int), (v = b2 (k / 3 < mBl (s (2 + a)) ∧ k % 3 < mBl (s (2 + b)) ∧ mHo (s (2 + a)) (k / 3) h = mHo (s (2 + b)) (k % 3) h2)) → GG p_ l e_ rm_X7_areClashing s_ m_ ar_ bw_ mt_ cd_ D vwCl (fun _ => True) (fun _ => False) s_.heap 11 0 0 Q_ [(m0, .inr (6, [.ref ms, .ref mh, .int (iJ (kp)), .ref mn, .int (iJ (sv)), .ref mp, .int (iJ (pn)), .int (iJ (rf)), .ref ml, .ref mm, .ref md, .ref mw, .ref mt, .int (iJ (tl)), .ref mb, .ref mi, .ref mg])), (ms, cJ cI 34 (s))] [(0, .ref m0), (1, .int (iJ (a))), (2, .int (iJ (h))), (3, .int (iJ (b))), (4, .int (iJ (h2))), (5, .int (iJ (x))), (6, .int (iJ (k))), (7, .int (iJ ((k / 3)))), (8, .int (iJ ((k % 3))))] 70 [.int (iJ (v))] := by
          intro v hv
          refine r_istore E [(9, .int (iJ (v))), (0, .ref m0), (1, .int (iJ (a))), (2, .int (iJ (h))), (3, .int (iJ (b))), (4, .int (iJ (h2))), (5, .int (iJ (x))), (6, .int (iJ (k))), (7, .int (iJ ((k / 3)))), (8, .int (iJ ((k % 3))))] dX7_areClashing_70 (by decide) rfl ?_
          refine r_cv rfl (lv2 := [(9, .int (iJ (b2 (k / 3 < mBl (s (2 + a)) ∧ k % 3 < mBl (s (2 + b)) ∧ mHo (s (2 + a)) (k / 3) h = mHo (s (2 + b)) (k % 3) h2)))), (0, .ref m0), (1, .int (iJ (a))), (2, .int (iJ (h))), (3, .int (iJ (b))), (4, .int (iJ (h2))), (5, .int (iJ (x))), (6, .int (iJ (k))), (7, .int (iJ ((k / 3)))), (8, .int (iJ ((k % 3))))]) (by rw [hv]) rfl ?_
          refine r_iconst E 4 rfl dX7_areClashing_72 ?_
          refine r_aload_n E 1 dX7_areClashing_73 rfl rfl ?_
          refine r_iload_n E 4 dX7_areClashing_74 rfl rfl ?_
          refine r_iload E 9 dX7_areClashing_75 rfl ?_
          refine r_vP E (st := [.int (iJ (4))]) (c_X7_tick l D m0 ms mh mn mp ml mm md mw mt mb mi mg cI kp sv pn rf tl s b (k % 3) (by first | assumption | omega | exact ⟨by omega, by omega⟩) (by first | assumption | omega | exact ⟨by omega, by omega⟩) (by first | assumption | omega | exact ⟨by omega, by omega⟩)) gX7_areClashing_X7_tick 2 kf_X7_tick ⟨rfl, rfl⟩ ⟨by decide, by decide⟩ dX7_areClashing_77 rfl 0 rfl rfl rfl rfl ⟨Nat.zero_le _, Nat.zero_le _⟩ [0, 1] rfl (by decide) [0] rfl (Nat.le_of_ble_eq_true rfl) ?_
          refine r_iadd E dX7_areClashing_80 ?_
          refine r_aload_n E 1 dX7_areClashing_81 rfl rfl ?_
          refine r_iload_n E 2 dX7_areClashing_82 rfl rfl ?_
          refine r_iload E 8 dX7_areClashing_83 rfl ?_
          refine r_vP E (st := [.int (iJ ((4 + (mTi (s (2 + b)) (k % 3)))))]) (c_X7_tick l D m0 ms mh mn mp ml mm md mw mt mb mi mg cI kp sv pn rf tl s a (k / 3) (by first | assumption | omega | exact ⟨by omega, by omega⟩) (by first | assumption | omega | exact ⟨by omega, by omega⟩) (by first | assumption | omega | exact ⟨by omega, by omega⟩)) gX7_areClashing_X7_tick 2 kf_X7_tick ⟨rfl, rfl⟩ ⟨by decide, by decide⟩ dX7_areClashing_85 rfl 0 rfl rfl rfl rfl ⟨Nat.zero_le _, Nat.zero_le _⟩ [0, 1] rfl (by decide) [0] rfl (Nat.le_of_ble_eq_true rfl) ?_
          refine r_isub E dX7_areClashing_88 ?_
          refine r_istore E [(10, .int (iJ (((4 + (mTi (s (2 + b)) (k % 3))) - (mTi (s (2 + a)) (k / 3)))))), (9, .int (iJ (b2 (k / 3 < mBl (s (2 + a)) ∧ k % 3 < mBl (s (2 + b)) ∧ mHo (s (2 + a)) (k / 3) h = mHo (s (2 + b)) (k % 3) h2)))), (0, .ref m0), (1, .int (iJ (a))), (2, .int (iJ (h))), (3, .int (iJ (b))), (4, .int (iJ (h2))), (5, .int (iJ (x))), (6, .int (iJ (k))), (7, .int (iJ ((k / 3)))), (8, .int (iJ ((k % 3))))] dX7_areClashing_89 (by decide) rfl ?_
          have hT1 := mTi_in (c := s (2 + a)) (b := k / 3) ⟨by omega, by omega⟩
          have hT2 := mTi_in (c := s (2 + b)) (b := k % 3) ⟨by omega, by omega⟩
          refine r_iload E 7 dX7_areClashing_91 rfl ?_
          refine r_if_ne E 124 dX7_areClashing_93 (by decide) (by have := mCk_01 (s 1) (s (2 + a)) h (s (2 + b)) h2 k.toNat; rw [← hx] at this; exact ⟨by omega, by omega⟩) (fun c_93 => ?_) (fun c_93 => ?_)
          · refine r_iconst E 1 rfl dX7_areClashing_124 ?_
            refine r_goto E 129 dX7_areClashing_125 (by decide) ?_
            refine r_istore E [(5, .int (iJ (1))), (10, .int (iJ (((4 + (mTi (s (2 + b)) (k % 3))) - (mTi (s (2 + a)) (k / 3)))))), (9, .int (iJ (b2 (k / 3 < mBl (s (2 + a)) ∧ k % 3 < mBl (s (2 + b)) ∧ mHo (s (2 + a)) (k / 3) h = mHo (s (2 + b)) (k % 3) h2)))), (0, .ref m0), (1, .int (iJ (a))), (2, .int (iJ (h))), (3, .int (iJ (b))), (4, .int (iJ (h2))), (6, .int (iJ (k))), (7, .int (iJ ((k / 3)))), (8, .int (iJ ((k % 3))))] dX7_areClashing_129 (by decide) rfl ?_
            refine r_iinc E (k := 8) [(6, .int (iJ ((k + 1)))), (5, .int (iJ (1))), (10, .int (iJ (((4 + (mTi (s (2 + b)) (k % 3))) - (mTi (s (2 + a)) (k / 3)))))), (9, .int (iJ (b2 (k / 3 < mBl (s (2 + a)) ∧ k % 3 < mBl (s (2 + b)) ∧ mHo (s (2 + a)) (k / 3) h = mHo (s (2 + b)) (k % 3) h2)))), (0, .ref m0), (1, .int (iJ (a))), (2, .int (iJ (h))), (3, .int (iJ (b))), (4, .int (iJ (h2))), (7, .int (iJ ((k / 3)))), (8, .int (iJ ((k % 3))))] dX7_areClashing_131 rfl (by decide) rfl ?_
            refine r_goto E 6 dX7_areClashing_134 (by decide) ?_
            refine r_lv [4, 5, 6, 7, 8, 1, 0] [(0, .ref m0), (1, .int (iJ (a))), (2, .int (iJ (h))), (3, .int (iJ (b))), (4, .int (iJ (h2))), (5, .int (iJ (1))), (6, .int (iJ ((k + 1))))] rfl ?_
            exact ih6 (k + 1) 1 ⟨by omega, by omega⟩ (by
                  rw [mCk_s _ _ _ _ _ (by omega), ← hx]
                  first | (rw [if_pos (Or.inl (by assumption))]; done) | (rw [if_pos (Or.inr ⟨by assumption, by omega, by omega⟩)]; done) | (rw [if_neg (fun z => z.elim (fun z1 => absurd z1 (by omega)) (fun z2 => by first | exact absurd z2.1 (by assumption) | exact absurd z2.2 (by omega)))]; done)) (by omega)
          · refine r_iload E 1 dX7_areClashing_96 rfl ?_
            refine r_ifeq_b E 128 dX7_areClashing_98 (by decide) (fun c_98 => ?_) (fun c_98 => ?_)
            · refine r_iconst E 0 rfl dX7_areClashing_128 ?_
              refine r_istore E [(5, .int (iJ (0))), (10, .int (iJ (((4 + (mTi (s (2 + b)) (k % 3))) - (mTi (s (2 + a)) (k / 3)))))), (9, .int (iJ (b2 (k / 3 < mBl (s (2 + a)) ∧ k % 3 < mBl (s (2 + b)) ∧ mHo (s (2 + a)) (k / 3) h = mHo (s (2 + b)) (k % 3) h2)))), (0, .ref m0), (1, .int (iJ (a))), (2, .int (iJ (h))), (3, .int (iJ (b))), (4, .int (iJ (h2))), (6, .int (iJ (k))), (7, .int (iJ ((k / 3)))), (8, .int (iJ ((k % 3))))] dX7_areClashing_129 (by decide) rfl ?_
              refine r_iinc E (k := 8) [(6, .int (iJ ((k + 1)))), (5, .int (iJ (0))), (10, .int (iJ (((4 + (mTi (s (2 + b)) (k % 3))) - (mTi (s (2 + a)) (k / 3)))))), (9, .int (iJ (b2 (k / 3 < mBl (s (2 + a)) ∧ k % 3 < mBl (s (2 + b)) ∧ mHo (s (2 + a)) (k / 3) h = mHo (s (2 + b)) (k % 3) h2)))), (0, .ref m0), (1, .int (iJ (a))), (2, .int (iJ (h))), (3, .int (iJ (b))), (4, .int (iJ (h2))), (7, .int (iJ ((k / 3)))), (8, .int (iJ ((k % 3))))] dX7_areClashing_131 rfl (by decide) rfl ?_
              refine r_goto E 6 dX7_areClashing_134 (by decide) ?_
              refine r_lv [4, 5, 6, 7, 8, 1, 0] [(0, .ref m0), (1, .int (iJ (a))), (2, .int (iJ (h))), (3, .int (iJ (b))), (4, .int (iJ (h2))), (5, .int (iJ (0))), (6, .int (iJ ((k + 1))))] rfl ?_
              exact ih6 (k + 1) 0 ⟨by omega, by omega⟩ (by
                    rw [mCk_s _ _ _ _ _ (by omega), ← hx]
                    first | (rw [if_pos (Or.inl (by assumption))]; done) | (rw [if_pos (Or.inr ⟨by assumption, by omega, by omega⟩)]; done) | (rw [if_neg (fun z => z.elim (fun z1 => absurd z1 (by omega)) (fun z2 => by first | exact absurd z2.1 (by assumption) | exact absurd z2.2 (by omega)))]; done)) (by omega)
            · refine r_iload E 0 dX7_areClashing_101 rfl ?_
              refine r_aload_n E 2 dX7_areClashing_103 rfl rfl ?_
              refine r_get E 6 0 0 dX7_areClashing_104 in_X7_areClashing_X7 lk_X7_areClashing_7 rfl rfl (by decide) rfl ?_
              refine r_iconst E 1 rfl dX7_areClashing_107 ?_
              refine r_iald E (i := 1) 1 0 dX7_areClashing_108 rfl rfl (by decide) ⟨by omega, by omega⟩ ?_
              refine r_icmp_ge E 128 dX7_areClashing_109 (by decide) ⟨by omega, by omega⟩ ⟨by omega, by omega⟩ (fun c_109 => ?_) (fun c_109 => ?_)
              · refine r_iconst E 0 rfl dX7_areClashing_128 ?_
                refine r_istore E [(5, .int (iJ (0))), (10, .int (iJ (((4 + (mTi (s (2 + b)) (k % 3))) - (mTi (s (2 + a)) (k / 3)))))), (9, .int (iJ (b2 (k / 3 < mBl (s (2 + a)) ∧ k % 3 < mBl (s (2 + b)) ∧ mHo (s (2 + a)) (k / 3) h = mHo (s (2 + b)) (k % 3) h2)))), (0, .ref m0), (1, .int (iJ (a))), (2, .int (iJ (h))), (3, .int (iJ (b))), (4, .int (iJ (h2))), (6, .int (iJ (k))), (7, .int (iJ ((k / 3)))), (8, .int (iJ ((k % 3))))] dX7_areClashing_129 (by decide) rfl ?_
                refine r_iinc E (k := 8) [(6, .int (iJ ((k + 1)))), (5, .int (iJ (0))), (10, .int (iJ (((4 + (mTi (s (2 + b)) (k % 3))) - (mTi (s (2 + a)) (k / 3)))))), (9, .int (iJ (b2 (k / 3 < mBl (s (2 + a)) ∧ k % 3 < mBl (s (2 + b)) ∧ mHo (s (2 + a)) (k / 3) h = mHo (s (2 + b)) (k % 3) h2)))), (0, .ref m0), (1, .int (iJ (a))), (2, .int (iJ (h))), (3, .int (iJ (b))), (4, .int (iJ (h2))), (7, .int (iJ ((k / 3)))), (8, .int (iJ ((k % 3))))] dX7_areClashing_131 rfl (by decide) rfl ?_
                refine r_goto E 6 dX7_areClashing_134 (by decide) ?_
                refine r_lv [4, 5, 6, 7, 8, 1, 0] [(0, .ref m0), (1, .int (iJ (a))), (2, .int (iJ (h))), (3, .int (iJ (b))), (4, .int (iJ (h2))), (5, .int (iJ (0))), (6, .int (iJ ((k + 1))))] rfl ?_
                exact ih6 (k + 1) 0 ⟨by omega, by omega⟩ (by
                      rw [mCk_s _ _ _ _ _ (by omega), ← hx]
                      first | (rw [if_pos (Or.inl (by assumption))]; done) | (rw [if_pos (Or.inr ⟨by assumption, by omega, by omega⟩)]; done) | (rw [if_neg (fun z => z.elim (fun z1 => absurd z1 (by omega)) (fun z2 => by first | exact absurd z2.1 (by assumption) | exact absurd z2.2 (by omega)))]; done)) (by omega)
              · refine r_iload E 0 dX7_areClashing_112 rfl ?_
                refine r_aload_n E 2 dX7_areClashing_114 rfl rfl ?_
                refine r_get E 6 0 0 dX7_areClashing_115 in_X7_areClashing_X7 lk_X7_areClashing_7 rfl rfl (by decide) rfl ?_
                refine r_iconst E 1 rfl dX7_areClashing_118 ?_
                refine r_iald E (i := 1) 1 0 dX7_areClashing_119 rfl rfl (by decide) ⟨by omega, by omega⟩ ?_
                refine r_ineg E dX7_areClashing_120 ?_
                refine r_icmp_le E 128 dX7_areClashing_121 (by decide) ⟨by omega, by omega⟩ ⟨by omega, by omega⟩ (fun c_121 => ?_) (fun c_121 => ?_)
                · refine r_iconst E 0 rfl dX7_areClashing_128 ?_
                  refine r_istore E [(5, .int (iJ (0))), (10, .int (iJ (((4 + (mTi (s (2 + b)) (k % 3))) - (mTi (s (2 + a)) (k / 3)))))), (9, .int (iJ (b2 (k / 3 < mBl (s (2 + a)) ∧ k % 3 < mBl (s (2 + b)) ∧ mHo (s (2 + a)) (k / 3) h = mHo (s (2 + b)) (k % 3) h2)))), (0, .ref m0), (1, .int (iJ (a))), (2, .int (iJ (h))), (3, .int (iJ (b))), (4, .int (iJ (h2))), (6, .int (iJ (k))), (7, .int (iJ ((k / 3)))), (8, .int (iJ ((k % 3))))] dX7_areClashing_129 (by decide) rfl ?_
                  refine r_iinc E (k := 8) [(6, .int (iJ ((k + 1)))), (5, .int (iJ (0))), (10, .int (iJ (((4 + (mTi (s (2 + b)) (k % 3))) - (mTi (s (2 + a)) (k / 3)))))), (9, .int (iJ (b2 (k / 3 < mBl (s (2 + a)) ∧ k % 3 < mBl (s (2 + b)) ∧ mHo (s (2 + a)) (k / 3) h = mHo (s (2 + b)) (k % 3) h2)))), (0, .ref m0), (1, .int (iJ (a))), (2, .int (iJ (h))), (3, .int (iJ (b))), (4, .int (iJ (h2))), (7, .int (iJ ((k / 3)))), (8, .int (iJ ((k % 3))))] dX7_areClashing_131 rfl (by decide) rfl ?_
                  refine r_goto E 6 dX7_areClashing_134 (by decide) ?_
                  refine r_lv [4, 5, 6, 7, 8, 1, 0] [(0, .ref m0), (1, .int (iJ (a))), (2, .int (iJ (h))), (3, .int (iJ (b))), (4, .int (iJ (h2))), (5, .int (iJ (0))), (6, .int (iJ ((k + 1))))] rfl ?_
                  exact ih6 (k + 1) 0 ⟨by omega, by omega⟩ (by
                        rw [mCk_s _ _ _ _ _ (by omega), ← hx]
                        first | (rw [if_pos (Or.inl (by assumption))]; done) | (rw [if_pos (Or.inr ⟨by assumption, by omega, by omega⟩)]; done) | (rw [if_neg (fun z => z.elim (fun z1 => absurd z1 (by omega)) (fun z2 => by first | exact absurd z2.1 (by assumption) | exact absurd z2.2 (by omega)))]; done)) (by omega)
                · refine r_iconst E 1 rfl dX7_areClashing_124 ?_
                  refine r_goto E 129 dX7_areClashing_125 (by decide) ?_
                  refine r_istore E [(5, .int (iJ (1))), (10, .int (iJ (((4 + (mTi (s (2 + b)) (k % 3))) - (mTi (s (2 + a)) (k / 3)))))), (9, .int (iJ (b2 (k / 3 < mBl (s (2 + a)) ∧ k % 3 < mBl (s (2 + b)) ∧ mHo (s (2 + a)) (k / 3) h = mHo (s (2 + b)) (k % 3) h2)))), (0, .ref m0), (1, .int (iJ (a))), (2, .int (iJ (h))), (3, .int (iJ (b))), (4, .int (iJ (h2))), (6, .int (iJ (k))), (7, .int (iJ ((k / 3)))), (8, .int (iJ ((k % 3))))] dX7_areClashing_129 (by decide) rfl ?_
                  refine r_iinc E (k := 8) [(6, .int (iJ ((k + 1)))), (5, .int (iJ (1))), (10, .int (iJ (((4 + (mTi (s (2 + b)) (k % 3))) - (mTi (s (2 + a)) (k / 3)))))), (9, .int (iJ (b2 (k / 3 < mBl (s (2 + a)) ∧ k % 3 < mBl (s (2 + b)) ∧ mHo (s (2 + a)) (k / 3) h = mHo (s (2 + b)) (k % 3) h2)))), (0, .ref m0), (1, .int (iJ (a))), (2, .int (iJ (h))), (3, .int (iJ (b))), (4, .int (iJ (h2))), (7, .int (iJ ((k / 3)))), (8, .int (iJ ((k % 3))))] dX7_areClashing_131 rfl (by decide) rfl ?_
                  refine r_goto E 6 dX7_areClashing_134 (by decide) ?_
                  refine r_lv [4, 5, 6, 7, 8, 1, 0] [(0, .ref m0), (1, .int (iJ (a))), (2, .int (iJ (h))), (3, .int (iJ (b))), (4, .int (iJ (h2))), (5, .int (iJ (1))), (6, .int (iJ ((k + 1))))] rfl ?_
                  exact ih6 (k + 1) 1 ⟨by omega, by omega⟩ (by
                        rw [mCk_s _ _ _ _ _ (by omega), ← hx]
                        first | (rw [if_pos (Or.inl (by assumption))]; done) | (rw [if_pos (Or.inr ⟨by assumption, by omega, by omega⟩)]; done) | (rw [if_neg (fun z => z.elim (fun z1 => absurd z1 (by omega)) (fun z2 => by first | exact absurd z2.1 (by assumption) | exact absurd z2.2 (by omega)))]; done)) (by omega)
        refine r_iload E 1 dX7_areClashing_25 rfl ?_
        refine r_aload_n E 2 dX7_areClashing_27 rfl rfl ?_
        refine r_iload_n E 3 dX7_areClashing_28 rfl rfl ?_
        refine r_vP E (st := [.int (iJ ((k / 3)))]) (c_X7_blows l D m0 ms mh mn mp ml mm md mw mt mb mi mg cI kp sv pn rf tl s a (by first | assumption | omega | exact ⟨by omega, by omega⟩) (by first | assumption | omega | exact ⟨by omega, by omega⟩)) gX7_areClashing_X7_blows 1 kf_X7_blows ⟨rfl, rfl⟩ ⟨by decide, by decide⟩ dX7_areClashing_29 rfl 0 rfl rfl rfl rfl ⟨Nat.zero_le _, Nat.zero_le _⟩ [0, 1] rfl (by decide) [0] rfl (Nat.le_of_ble_eq_true rfl) ?_
        refine r_icmp_ge E 69 dX7_areClashing_32 (by decide) ⟨by omega, by omega⟩ ⟨by omega, by omega⟩ (fun c_32 => ?_) (fun c_32 => ?_)
        · refine r_iconst E 0 rfl dX7_areClashing_69 ?_
          refine r_lv [2, 3, 4, 5, 6, 7, 8, 1, 0] [(0, .ref m0), (1, .int (iJ (a))), (2, .int (iJ (h))), (3, .int (iJ (b))), (4, .int (iJ (h2))), (5, .int (iJ (x))), (6, .int (iJ (k))), (7, .int (iJ ((k / 3)))), (8, .int (iJ ((k % 3))))] rfl ?_
          exact K_70 0 (by first | exact (b2_t ⟨by first | assumption | omega, by first | assumption | omega, by first | assumption | omega⟩).symm | exact (b2_f (fun z => by first | exact absurd z.1 (by omega) | exact absurd z.2.1 (by omega) | exact c_62 z.2.2)).symm)
        · refine r_iload E 0 dX7_areClashing_35 rfl ?_
          refine r_aload_n E 2 dX7_areClashing_37 rfl rfl ?_
          refine r_iload_n E 5 dX7_areClashing_38 rfl rfl ?_
          refine r_vP E (st := [.int (iJ ((k % 3)))]) (c_X7_blows l D m0 ms mh mn mp ml mm md mw mt mb mi mg cI kp sv pn rf tl s b (by first | assumption | omega | exact ⟨by omega, by omega⟩) (by first | assumption | omega | exact ⟨by omega, by omega⟩)) gX7_areClashing_X7_blows 1 kf_X7_blows ⟨rfl, rfl⟩ ⟨by decide, by decide⟩ dX7_areClashing_39 rfl 0 rfl rfl rfl rfl ⟨Nat.zero_le _, Nat.zero_le _⟩ [0, 1] rfl (by decide) [0] rfl (Nat.le_of_ble_eq_true rfl) ?_
          refine r_icmp_ge E 69 dX7_areClashing_42 (by decide) ⟨by omega, by omega⟩ ⟨by omega, by omega⟩ (fun c_42 => ?_) (fun c_42 => ?_)
          · refine r_iconst E 0 rfl dX7_areClashing_69 ?_
            refine r_lv [2, 3, 4, 5, 6, 7, 8, 1, 0] [(0, .ref m0), (1, .int (iJ (a))), (2, .int (iJ (h))), (3, .int (iJ (b))), (4, .int (iJ (h2))), (5, .int (iJ (x))), (6, .int (iJ (k))), (7, .int (iJ ((k / 3)))), (8, .int (iJ ((k % 3))))] rfl ?_
            exact K_70 0 (by first | exact (b2_t ⟨by first | assumption | omega, by first | assumption | omega, by first | assumption | omega⟩).symm | exact (b2_f (fun z => by first | exact absurd z.1 (by omega) | exact absurd z.2.1 (by omega) | exact c_62 z.2.2)).symm)
          · refine r_aload_n E 2 dX7_areClashing_45 rfl rfl ?_
            refine r_iload_n E 3 dX7_areClashing_46 rfl rfl ?_
            refine r_iload E 1 dX7_areClashing_47 rfl ?_
            refine r_iload_n E 4 dX7_areClashing_49 rfl rfl ?_
            refine r_vP E (st := []) (c_X7_handOf l D m0 ms mh mn mp ml mm md mw mt mb mi mg cI kp sv pn rf tl s a (k / 3) h (by first | assumption | omega | exact ⟨by omega, by omega⟩) (by first | assumption | omega | exact ⟨by omega, by omega⟩) (by first | assumption | omega | exact ⟨by omega, by omega⟩)) gX7_areClashing_X7_handOf 3 kf_X7_handOf ⟨rfl, rfl⟩ ⟨by decide, by decide⟩ dX7_areClashing_50 rfl 0 rfl rfl rfl rfl ⟨Nat.zero_le _, Nat.zero_le _⟩ [0, 1] rfl (by decide) [0] rfl (Nat.le_of_ble_eq_true rfl) ?_
            refine r_aload_n E 2 dX7_areClashing_53 rfl rfl ?_
            refine r_iload_n E 5 dX7_areClashing_54 rfl rfl ?_
            refine r_iload E 0 dX7_areClashing_55 rfl ?_
            refine r_iload E 6 dX7_areClashing_57 rfl ?_
            refine r_vP E (st := [.int (iJ (mHo (s (2 + a)) (k / 3) h))]) (c_X7_handOf l D m0 ms mh mn mp ml mm md mw mt mb mi mg cI kp sv pn rf tl s b (k % 3) h2 (by first | assumption | omega | exact ⟨by omega, by omega⟩) (by first | assumption | omega | exact ⟨by omega, by omega⟩) (by first | assumption | omega | exact ⟨by omega, by omega⟩)) gX7_areClashing_X7_handOf 3 kf_X7_handOf ⟨rfl, rfl⟩ ⟨by decide, by decide⟩ dX7_areClashing_59 rfl 0 rfl rfl rfl rfl ⟨Nat.zero_le _, Nat.zero_le _⟩ [0, 1] rfl (by decide) [0] rfl (Nat.le_of_ble_eq_true rfl) ?_
            refine r_icmp_ne E 69 dX7_areClashing_62 (by decide) (by have := mHo_in (c := s (2 + a)) (b := k / 3) hh; exact ⟨by omega, by omega⟩) (by have := mHo_in (c := s (2 + b)) (b := k % 3) hh2; exact ⟨by omega, by omega⟩) (fun c_62 => ?_) (fun c_62 => ?_)
            · refine r_iconst E 0 rfl dX7_areClashing_69 ?_
              refine r_lv [2, 3, 4, 5, 6, 7, 8, 1, 0] [(0, .ref m0), (1, .int (iJ (a))), (2, .int (iJ (h))), (3, .int (iJ (b))), (4, .int (iJ (h2))), (5, .int (iJ (x))), (6, .int (iJ (k))), (7, .int (iJ ((k / 3)))), (8, .int (iJ ((k % 3))))] rfl ?_
              exact K_70 0 (by first | exact (b2_t ⟨by first | assumption | omega, by first | assumption | omega, by first | assumption | omega⟩).symm | exact (b2_f (fun z => by first | exact absurd z.1 (by omega) | exact absurd z.2.1 (by omega) | exact c_62 z.2.2)).symm)
            · refine r_iconst E 1 rfl dX7_areClashing_65 ?_
              refine r_goto E 70 dX7_areClashing_66 (by decide) ?_
              refine r_lv [2, 3, 4, 5, 6, 7, 8, 1, 0] [(0, .ref m0), (1, .int (iJ (a))), (2, .int (iJ (h))), (3, .int (iJ (b))), (4, .int (iJ (h2))), (5, .int (iJ (x))), (6, .int (iJ (k))), (7, .int (iJ ((k / 3)))), (8, .int (iJ ((k % 3))))] rfl ?_
              exact K_70 1 (by first | exact (b2_t ⟨by first | assumption | omega, by first | assumption | omega, by first | assumption | omega⟩).symm | exact (b2_f (fun z => by first | exact absurd z.1 (by omega) | exact absurd z.2.1 (by omega) | exact c_62 z.2.2)).symm)
  refine r_lv [2, 3, 4, 5, 6, 1, 0] [(0, .ref m0), (1, .int (iJ (a))), (2, .int (iJ (h))), (3, .int (iJ (b))), (4, .int (iJ (h2))), (5, .int (iJ (0))), (6, .int (iJ (0)))] rfl ?_
  exact loop_6 _ 0 0 ⟨by omega, by omega⟩ rfl (Nat.lt_succ_self _)
theorem kf_X7_allows : KF yX7_allows 2 wsX7_allows cX7_allows 3 (some .boolean) := ⟨rfl, by decide +kernel, by decide +kernel, by decide +kernel⟩
def rm_X7_allows : Room := { frames := 2, cells := 0, slots := 0, locals := 42 }
set_option maxHeartbeats 1000000 in
set_option maxRecDepth 100000 in
theorem c_X7_allows (l : Launch) (D : va_G) (m0 : Nat) (ms : Nat) (mh : Nat) (mn : Nat) (mp : Nat) (ml : Nat) (mm : Nat) (md : Nat) (mw : Nat) (mt : Nat) (mb : Nat) (mi : Nat) (mg : Nat) (cI : ClassId) (kp : Int) (sv : Int) (pn : Int) (rf : Int) (tl : Int) (s : Int → Int) (a : Int) (h : Int) (ha : 0 ≤ a ∧ a ≤ 31) (hca : 1 ≤ s (2 + a) ∧ s (2 + a) ≤ 24) (hh : jb h) : MP l yX7_allows wsX7_allows rm_X7_allows D vwCl [.ref m0, .int (iJ (a)), .int (iJ (h))] [(m0, .inr (6, [.ref ms, .ref mh, .int (iJ (kp)), .ref mn, .int (iJ (sv)), .ref mp, .int (iJ (pn)), .int (iJ (rf)), .ref ml, .ref mm, .ref md, .ref mw, .ref mt, .int (iJ (tl)), .ref mb, .ref mi, .ref mg])), (ms, cJ cI 34 (s))] [(cI, .int)] (b2 (mAl (s (2 + a)) h)) := by
  refine MP.mk (cc := cX7_allows) (maxL := 3) (ret := (some .boolean)) (by decide) rfl (Nat.le_of_ble_eq_true rfl) rfl RX7 rfl ?_
  intro p_ e_ s_ m_ ar_ bw_ mt_ cd_ Q_ E hr hQ
  refine r_aload_n E 0 dX7_allows_0 rfl rfl ?_
  refine r_iload_n E 1 dX7_allows_1 rfl rfl ?_
  refine r_vP E (st := []) (c_X7_hand l D m0 ms mh mn mp ml mm md mw mt mb mi mg cI kp sv pn rf tl s a (by first | assumption | omega | exact ⟨by omega, by omega⟩) (by first | assumption | omega | exact ⟨by omega, by omega⟩)) gX7_allows_X7_hand 1 kf_X7_hand ⟨rfl, rfl⟩ ⟨by decide, by decide⟩ dX7_allows_2 rfl 0 rfl rfl rfl rfl ⟨Nat.zero_le _, Nat.zero_le _⟩ [0, 1] rfl (by decide) [0] rfl (Nat.le_of_ble_eq_true rfl) ?_
  refine r_iconst E 2 rfl dX7_allows_5 ?_
  refine r_icmp_eq E 18 dX7_allows_6 (by decide) ⟨by omega, by omega⟩ ⟨by omega, by omega⟩ (fun c_6 => ?_) (fun c_6 => ?_)
  · refine r_iconst E 1 rfl dX7_allows_18 ?_
    refine r_goto E 23 dX7_allows_19 (by decide) ?_
    exact r_retPZ E hr dX7_allows_23 (by omega) (by first | rfl | exact (b2_t (by first | omega | assumption)).symm | exact (b2_f (by first | omega | assumption)).symm | omega | assumption) hQ
  · refine r_aload_n E 0 dX7_allows_9 rfl rfl ?_
    refine r_iload_n E 1 dX7_allows_10 rfl rfl ?_
    refine r_vP E (st := []) (c_X7_hand l D m0 ms mh mn mp ml mm md mw mt mb mi mg cI kp sv pn rf tl s a (by first | assumption | omega | exact ⟨by omega, by omega⟩) (by first | assumption | omega | exact ⟨by omega, by omega⟩)) gX7_allows_X7_hand 1 kf_X7_hand ⟨rfl, rfl⟩ ⟨by decide, by decide⟩ dX7_allows_11 rfl 0 rfl rfl rfl rfl ⟨Nat.zero_le _, Nat.zero_le _⟩ [0, 1] rfl (by decide) [0] rfl (Nat.le_of_ble_eq_true rfl) ?_
    refine r_iload_n E 2 dX7_allows_14 rfl rfl ?_
    refine r_icmp_ne E 22 dX7_allows_15 (by decide) ⟨by omega, by omega⟩ hh (fun c_15 => ?_) (fun c_15 => ?_)
    · refine r_iconst E 0 rfl dX7_allows_22 ?_
      exact r_retPZ E hr dX7_allows_23 (by omega) (by first | rfl | exact (b2_t (by first | omega | assumption)).symm | exact (b2_f (by first | omega | assumption)).symm | omega | assumption) hQ
    · refine r_iconst E 1 rfl dX7_allows_18 ?_
      refine r_goto E 23 dX7_allows_19 (by decide) ?_
      exact r_retPZ E hr dX7_allows_23 (by omega) (by first | rfl | exact (b2_t (by first | omega | assumption)).symm | exact (b2_f (by first | omega | assumption)).symm | omega | assumption) hQ
theorem kf_X7_can : KF yX7_can 3 wsX7_can cX7_can 5 (some .boolean) := ⟨rfl, by decide +kernel, by decide +kernel, by decide +kernel⟩
def rm_X7_can : Room := { frames := 5, cells := 0, slots := 0, locals := 116 }
set_option maxHeartbeats 1000000 in
set_option maxRecDepth 100000 in
theorem c_X7_can (l : Launch) (D : va_G) (m0 : Nat) (ms : Nat) (mh : Nat) (mn : Nat) (mp : Nat) (ml : Nat) (mm : Nat) (md : Nat) (mw : Nat) (mt : Nat) (mb : Nat) (mi : Nat) (mg : Nat) (cI : ClassId) (kp : Int) (sv : Int) (pn : Int) (rf : Int) (tl : Int) (s : Int → Int) (a : Int) (b : Int) (h : Int) (hs1 : 1 ≤ s 1 ∧ s 1 ≤ 4) (ha : 0 ≤ a ∧ a ≤ 31) (hca : 1 ≤ s (2 + a) ∧ s (2 + a) ≤ 24) (hcp : 0 < a → 0 ≤ s (2 + (a - 1)) ∧ s (2 + (a - 1)) ≤ 24) (hb : 0 ≤ b ∧ b ≤ 2) (hh : 0 ≤ h ∧ h ≤ 1) : MP l yX7_can wsX7_can rm_X7_can D vwCl [.ref m0, .int (iJ (a)), .int (iJ (b)), .int (iJ (h))] [(m0, .inr (6, [.ref ms, .ref mh, .int (iJ (kp)), .ref mn, .int (iJ (sv)), .ref mp, .int (iJ (pn)), .int (iJ (rf)), .ref ml, .ref mm, .ref md, .ref mw, .ref mt, .int (iJ (tl)), .ref mb, .ref mi, .ref mg])), (ms, cJ cI 34 (s))] [(cI, .int)] (b2 (mCn s a b h)) := by
  refine MP.mk (cc := cX7_can) (maxL := 5) (ret := (some .boolean)) (by decide) rfl (Nat.le_of_ble_eq_true rfl) rfl RX7 rfl ?_
  intro p_ e_ s_ m_ ar_ bw_ mt_ cd_ Q_ E hr hQ
  have K_26 : ∀ (v : Int), (v = b2 ((0 < a ∧ ¬ s (2 + (a - 1)) = 0) ∧ b < 2)) → GG p_ l e_ rm_X7_can s_ m_ ar_ bw_ mt_ cd_ D vwCl (fun _ => True) (fun _ => False) s_.heap 5 0 0 Q_ [(m0, .inr (6, [.ref ms, .ref mh, .int (iJ (kp)), .ref mn, .int (iJ (sv)), .ref mp, .int (iJ (pn)), .int (iJ (rf)), .ref ml, .ref mm, .ref md, .ref mw, .ref mt, .int (iJ (tl)), .ref mb, .ref mi, .ref mg])), (ms, cJ cI 34 (s))] [(0, .ref m0), (1, .int (iJ (a))), (2, .int (iJ (b))), (3, .int (iJ (h))), (4, .int (iJ (v)))] 26 [] := by
    intro v hv
    refine r_cv rfl (lv2 := [(0, .ref m0), (1, .int (iJ (a))), (2, .int (iJ (b))), (3, .int (iJ (h))), (4, .int (iJ (b2 ((0 < a ∧ ¬ s (2 + (a - 1)) = 0) ∧ b < 2))))]) (by rw [hv]) rfl ?_
    refine r_aload_n E 0 dX7_can_26 rfl rfl ?_
    refine r_iload_n E 1 dX7_can_27 rfl rfl ?_
    refine r_iload_n E 3 dX7_can_28 rfl rfl ?_
    refine r_vP E (st := []) (c_X7_allows l D m0 ms mh mn mp ml mm md mw mt mb mi mg cI kp sv pn rf tl s a h (by first | assumption | omega | exact ⟨by omega, by omega⟩) (by first | assumption | omega | exact ⟨by omega, by omega⟩) (by first | assumption | omega | exact ⟨by omega, by omega⟩)) gX7_can_X7_allows 2 kf_X7_allows ⟨rfl, rfl⟩ ⟨by decide, by decide⟩ dX7_can_29 rfl 0 rfl rfl rfl rfl ⟨Nat.zero_le _, Nat.zero_le _⟩ [0, 1] rfl (by decide) [0] rfl (Nat.le_of_ble_eq_true rfl) ?_
    refine r_ifeq_b E 57 dX7_can_32 (by decide) (fun c_32 => ?_) (fun c_32 => ?_)
    · refine r_iconst E 0 rfl dX7_can_57 ?_
      exact r_retPZ E hr dX7_can_58 (by omega) (by
            first
            | exact (b2_t ⟨by assumption, fun z => by first | exact c_37 z.1 | exact z.2 c_50⟩).symm
            | exact (b2_f (fun z => by first | exact c_32 z.1 | exact z.2 ⟨by assumption, by assumption⟩)).symm) hQ
    · refine r_iload E 4 dX7_can_35 rfl ?_
      refine r_ifeq_b E 53 dX7_can_37 (by decide) (fun c_37 => ?_) (fun c_37 => ?_)
      · refine r_iconst E 1 rfl dX7_can_53 ?_
        refine r_goto E 58 dX7_can_54 (by decide) ?_
        exact r_retPZ E hr dX7_can_58 (by omega) (by
              first
              | exact (b2_t ⟨by assumption, fun z => by first | exact c_37 z.1 | exact z.2 c_50⟩).symm
              | exact (b2_f (fun z => by first | exact c_32 z.1 | exact z.2 ⟨by assumption, by assumption⟩)).symm) hQ
      · have hap : 0 < a := c_37.1.1
        have hcq := hcp (by omega)
        refine r_aload_n E 0 dX7_can_40 rfl rfl ?_
        refine r_iload_n E 1 dX7_can_41 rfl rfl ?_
        refine r_iconst E 1 rfl dX7_can_42 ?_
        refine r_isub E dX7_can_43 ?_
        refine r_iload_n E 2 dX7_can_44 rfl rfl ?_
        refine r_iload_n E 1 dX7_can_45 rfl rfl ?_
        refine r_iload_n E 3 dX7_can_46 rfl rfl ?_
        refine r_vP E (st := []) (c_X7_areClashing l D m0 ms mh mn mp ml mm md mw mt mb mi mg cI kp sv pn rf tl s (a - 1) b a h (by first | assumption | omega | exact ⟨by omega, by omega⟩) ⟨by omega, by omega⟩ (by first | assumption | omega | exact ⟨by omega, by omega⟩) (by first | assumption | omega | exact ⟨by omega, by omega⟩) ⟨by omega, by omega⟩ (by first | assumption | omega | exact ⟨by omega, by omega⟩) (by first | assumption | omega | exact ⟨by omega, by omega⟩)) gX7_can_X7_areClashing 4 kf_X7_areClashing ⟨rfl, rfl⟩ ⟨by decide, by decide⟩ dX7_can_47 rfl 0 rfl rfl rfl rfl ⟨Nat.zero_le _, Nat.zero_le _⟩ [0, 1] rfl (by decide) [0] rfl (Nat.le_of_ble_eq_true rfl) ?_
        refine r_if_ne E 57 dX7_can_50 (by decide) (by have := mCk_01 (s 1) (s (2 + (a - 1))) b (s (2 + a)) h 9; exact ⟨by unfold mCl; omega, by unfold mCl; omega⟩) (fun c_50 => ?_) (fun c_50 => ?_)
        · refine r_iconst E 0 rfl dX7_can_57 ?_
          exact r_retPZ E hr dX7_can_58 (by omega) (by
                first
                | exact (b2_t ⟨by assumption, fun z => by first | exact c_37 z.1 | exact z.2 c_50⟩).symm
                | exact (b2_f (fun z => by first | exact c_32 z.1 | exact z.2 ⟨by assumption, by assumption⟩)).symm) hQ
        · refine r_iconst E 1 rfl dX7_can_53 ?_
          refine r_goto E 58 dX7_can_54 (by decide) ?_
          exact r_retPZ E hr dX7_can_58 (by omega) (by
                first
                | exact (b2_t ⟨by assumption, fun z => by first | exact c_37 z.1 | exact z.2 c_50⟩).symm
                | exact (b2_f (fun z => by first | exact c_32 z.1 | exact z.2 ⟨by assumption, by assumption⟩)).symm) hQ
  refine r_iload_n E 1 dX7_can_0 rfl rfl ?_
  refine r_if_le E 23 dX7_can_1 (by decide) ⟨by omega, by omega⟩ (fun c_1 => ?_) (fun c_1 => ?_)
  · refine r_iconst E 0 rfl dX7_can_23 ?_
    refine r_istore E [(4, .int (iJ (0))), (0, .ref m0), (1, .int (iJ (a))), (2, .int (iJ (b))), (3, .int (iJ (h)))] dX7_can_24 (by decide) rfl ?_
    refine r_lv [1, 2, 3, 4, 0] [(0, .ref m0), (1, .int (iJ (a))), (2, .int (iJ (b))), (3, .int (iJ (h))), (4, .int (iJ (0)))] rfl ?_
    exact K_26 0 (by first | exact (b2_t ⟨⟨by omega, by assumption⟩, by omega⟩).symm | exact (b2_f (by rintro ⟨⟨z1, z2⟩, z3⟩; first | omega | exact absurd z2 (by assumption) | exact absurd z2 c_11)).symm)
  · have hcq := hcp (by omega)
    refine r_aload_n E 0 dX7_can_4 rfl rfl ?_
    refine r_iload_n E 1 dX7_can_5 rfl rfl ?_
    refine r_iconst E 1 rfl dX7_can_6 ?_
    refine r_isub E dX7_can_7 ?_
    refine r_vP E (st := []) (c_X7_isStroke l D m0 ms mh mn mp ml mm md mw mt mb mi mg cI kp sv pn rf tl s (a - 1) (by first | assumption | omega | exact ⟨by omega, by omega⟩) (by first | assumption | omega | exact ⟨by omega, by omega⟩)) gX7_can_X7_isStroke 1 kf_X7_isStroke ⟨rfl, rfl⟩ ⟨by decide, by decide⟩ dX7_can_8 rfl 0 rfl rfl rfl rfl ⟨Nat.zero_le _, Nat.zero_le _⟩ [0, 1] rfl (by decide) [0] rfl (Nat.le_of_ble_eq_true rfl) ?_
    refine r_ifeq_n E 23 dX7_can_11 (by decide) (fun c_11 => ?_) (fun c_11 => ?_)
    · refine r_iconst E 0 rfl dX7_can_23 ?_
      refine r_istore E [(4, .int (iJ (0))), (0, .ref m0), (1, .int (iJ (a))), (2, .int (iJ (b))), (3, .int (iJ (h)))] dX7_can_24 (by decide) rfl ?_
      refine r_lv [1, 2, 3, 4, 0] [(0, .ref m0), (1, .int (iJ (a))), (2, .int (iJ (b))), (3, .int (iJ (h))), (4, .int (iJ (0)))] rfl ?_
      exact K_26 0 (by first | exact (b2_t ⟨⟨by omega, by assumption⟩, by omega⟩).symm | exact (b2_f (by rintro ⟨⟨z1, z2⟩, z3⟩; first | omega | exact absurd z2 (by assumption) | exact absurd z2 c_11)).symm)
    · refine r_iload_n E 2 dX7_can_14 rfl rfl ?_
      refine r_iconst E 2 rfl dX7_can_15 ?_
      refine r_icmp_ge E 23 dX7_can_16 (by decide) ⟨by omega, by omega⟩ ⟨by omega, by omega⟩ (fun c_16 => ?_) (fun c_16 => ?_)
      · refine r_iconst E 0 rfl dX7_can_23 ?_
        refine r_istore E [(4, .int (iJ (0))), (0, .ref m0), (1, .int (iJ (a))), (2, .int (iJ (b))), (3, .int (iJ (h)))] dX7_can_24 (by decide) rfl ?_
        refine r_lv [1, 2, 3, 4, 0] [(0, .ref m0), (1, .int (iJ (a))), (2, .int (iJ (b))), (3, .int (iJ (h))), (4, .int (iJ (0)))] rfl ?_
        exact K_26 0 (by first | exact (b2_t ⟨⟨by omega, by assumption⟩, by omega⟩).symm | exact (b2_f (by rintro ⟨⟨z1, z2⟩, z3⟩; first | omega | exact absurd z2 (by assumption) | exact absurd z2 c_11)).symm)
      · refine r_iconst E 1 rfl dX7_can_19 ?_
        refine r_goto E 24 dX7_can_20 (by decide) ?_
        refine r_istore E [(4, .int (iJ (1))), (0, .ref m0), (1, .int (iJ (a))), (2, .int (iJ (b))), (3, .int (iJ (h)))] dX7_can_24 (by decide) rfl ?_
        refine r_lv [1, 2, 3, 4, 0] [(0, .ref m0), (1, .int (iJ (a))), (2, .int (iJ (b))), (3, .int (iJ (h))), (4, .int (iJ (1)))] rfl ?_
        exact K_26 1 (by first | exact (b2_t ⟨⟨by omega, by assumption⟩, by omega⟩).symm | exact (b2_f (by rintro ⟨⟨z1, z2⟩, z3⟩; first | omega | exact absurd z2 (by assumption) | exact absurd z2 c_11)).symm)
