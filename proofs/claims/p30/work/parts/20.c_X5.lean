theorem kf_X5_of : KF yX5_of 3 wsX5_of cX5_of 4 (some .int) := ⟨rfl, by decide +kernel, by decide +kernel, by decide +kernel⟩
def rm_X5_of : Room := { frames := 0, cells := 0, slots := 0, locals := 0 }
set_option maxHeartbeats 1000000 in
set_option maxRecDepth 100000 in
theorem c_X5_of (l : Launch) (D : va_G) (h : Int) (ac : Int) (o : Int) (hh : 0 ≤ h ∧ h < 4) (hac : ac = 0 ∨ ac = 1) (ho : 0 ≤ o ∧ o < 4) : MP l yX5_of wsX5_of rm_X5_of D vwCl [.int (iJ (h)), .int (iJ (ac)), .int (iJ (o))] [] [] (sOf h ac o) := by
  refine MP.mk (cc := cX5_of) (maxL := 4) (ret := (some .int)) (by decide) rfl (Nat.le_of_ble_eq_true rfl) rfl RX5 rfl ?_
  intro p_ e_ s_ m_ ar_ bw_ mt_ cd_ Q_ E hr hQ
  refine r_iconst E 1 rfl dX5_of_0 ?_
  refine r_iload_n E 0 dX5_of_1 rfl rfl ?_
  refine r_iconst E 1 rfl dX5_of_2 ?_
  refine r_ishl E (h * 2) (bit_sl1 hh) dX5_of_3 ?_
  refine r_ior E (1 + h * 2) (bit_or1 hh) dX5_of_4 ?_
  refine r_iload_n E 2 dX5_of_5 rfl rfl ?_
  refine r_iconst E 4 rfl dX5_of_6 ?_
  refine r_ishl E (o * 16) (bit_sl4 ho) dX5_of_7 ?_
  refine r_ior E (1 + h * 2 + o * 16) (bit_or2 hh ho) dX5_of_8 ?_
  refine r_istore_n E [(3, .int (iJ ((1 + h * 2 + o * 16)))), (0, .int (iJ (h))), (1, .int (iJ (ac))), (2, .int (iJ (o)))] dX5_of_9 rfl (by decide) rfl ?_
  refine r_iload_n E 2 dX5_of_10 rfl rfl ?_
  refine r_if_eq E 21 dX5_of_11 (by decide) ⟨by omega, by omega⟩ (fun c_11 => ?_) (fun c_11 => ?_)
  · refine r_iload_n E 0 dX5_of_21 rfl rfl ?_
    exact r_retP E hr dX5_of_22 (by simp only [sOf]; (repeat' split) <;> omega) hQ
  · refine r_iload_n E 0 dX5_of_14 rfl rfl ?_
    refine r_bipush E 8 rfl dX5_of_15 ?_
    refine r_ior E (1 + h * 2 + o * 16 + 8) (bit_or8 hh ho) dX5_of_17 ?_
    refine r_goto E 22 dX5_of_18 (by decide) ?_
    exact r_retP E hr dX5_of_22 (by simp only [sOf]; (repeat' split) <;> omega) hQ
theorem kf_X5_isStroke : KF yX5_isStroke 1 wsX5_isStroke cX5_isStroke 1 (some .boolean) := ⟨rfl, by decide +kernel, by decide +kernel, by decide +kernel⟩
def rm_X5_isStroke : Room := { frames := 0, cells := 0, slots := 0, locals := 0 }
set_option maxHeartbeats 1000000 in
set_option maxRecDepth 100000 in
theorem c_X5_isStroke (l : Launch) (D : va_G) (c : Int) (hc : 0 ≤ c ∧ c < 64) : MP l yX5_isStroke wsX5_isStroke rm_X5_isStroke D vwCl [.int (iJ (c))] [] [] (b2 (¬ c = 0)) := by
  refine MP.mk (cc := cX5_isStroke) (maxL := 1) (ret := (some .boolean)) (by decide) rfl (Nat.le_of_ble_eq_true rfl) rfl RX5 rfl ?_
  intro p_ e_ s_ m_ ar_ bw_ mt_ cd_ Q_ E hr hQ
  refine r_iload_n E 0 dX5_isStroke_0 rfl rfl ?_
  refine r_if_eq E 8 dX5_isStroke_1 (by decide) ⟨by omega, by omega⟩ (fun c_1 => ?_) (fun c_1 => ?_)
  · refine r_iconst E 0 rfl dX5_isStroke_8 ?_
    exact r_retPZ E hr dX5_isStroke_9 (by omega) (by first | rfl | exact (b2_t (by first | omega | assumption)).symm | exact (b2_f (by first | omega | assumption)).symm | omega | assumption) hQ
  · refine r_iconst E 1 rfl dX5_isStroke_4 ?_
    refine r_goto E 9 dX5_isStroke_5 (by decide) ?_
    exact r_retPZ E hr dX5_isStroke_9 (by omega) (by first | rfl | exact (b2_t (by first | omega | assumption)).symm | exact (b2_f (by first | omega | assumption)).symm | omega | assumption) hQ
theorem kf_X5_hand : KF yX5_hand 1 wsX5_hand cX5_hand 1 (some .int) := ⟨rfl, by decide +kernel, by decide +kernel, by decide +kernel⟩
def rm_X5_hand : Room := { frames := 0, cells := 0, slots := 0, locals := 0 }
set_option maxHeartbeats 1000000 in
set_option maxRecDepth 100000 in
theorem c_X5_hand (l : Launch) (D : va_G) (c : Int) (hc : 0 ≤ c ∧ c < 64) : MP l yX5_hand wsX5_hand rm_X5_hand D vwCl [.int (iJ (c))] [] [] (c / 2 % 4) := by
  refine MP.mk (cc := cX5_hand) (maxL := 1) (ret := (some .int)) (by decide) rfl (Nat.le_of_ble_eq_true rfl) rfl RX5 rfl ?_
  intro p_ e_ s_ m_ ar_ bw_ mt_ cd_ Q_ E hr hQ
  refine r_iload_n E 0 dX5_hand_0 rfl rfl ?_
  refine r_iconst E 1 rfl dX5_hand_1 ?_
  refine r_ishr E (c / 2) (iJ_shr ⟨by omega, by omega⟩ (iJ 1) 1 2 (by decide) rfl) dX5_hand_2 ?_
  refine r_iconst E 3 rfl dX5_hand_3 ?_
  refine r_iand E (c / 2 % 4) (iJ_and ⟨by omega, by omega⟩ (iJ 3) 2 4 (by decide) rfl) dX5_hand_4 ?_
  exact r_retP E hr dX5_hand_5 (by first | rfl | exact (b2_t (by first | omega | assumption)).symm | exact (b2_f (by first | omega | assumption)).symm | omega | assumption) hQ
theorem kf_X5_isAccented : KF yX5_isAccented 1 wsX5_isAccented cX5_isAccented 1 (some .boolean) := ⟨rfl, by decide +kernel, by decide +kernel, by decide +kernel⟩
def rm_X5_isAccented : Room := { frames := 0, cells := 0, slots := 0, locals := 0 }
set_option maxHeartbeats 1000000 in
set_option maxRecDepth 100000 in
theorem c_X5_isAccented (l : Launch) (D : va_G) (c : Int) (hc : 0 ≤ c ∧ c < 64) : MP l yX5_isAccented wsX5_isAccented rm_X5_isAccented D vwCl [.int (iJ (c))] [] [] (b2 (c / 8 % 2 = 1)) := by
  refine MP.mk (cc := cX5_isAccented) (maxL := 1) (ret := (some .boolean)) (by decide) rfl (Nat.le_of_ble_eq_true rfl) rfl RX5 rfl ?_
  intro p_ e_ s_ m_ ar_ bw_ mt_ cd_ Q_ E hr hQ
  refine r_iload_n E 0 dX5_isAccented_0 rfl rfl ?_
  refine r_bipush E 8 rfl dX5_isAccented_1 ?_
  refine r_iand E (8 * (c / 8 % 2)) (bit_and8 hc) dX5_isAccented_3 ?_
  refine r_if_eq E 11 dX5_isAccented_4 (by decide) ⟨by omega, by omega⟩ (fun c_4 => ?_) (fun c_4 => ?_)
  · refine r_iconst E 0 rfl dX5_isAccented_11 ?_
    exact r_retPZ E hr dX5_isAccented_12 (by omega) (by first | rfl | exact (b2_t (by first | omega | assumption)).symm | exact (b2_f (by first | omega | assumption)).symm | omega | assumption) hQ
  · refine r_iconst E 1 rfl dX5_isAccented_7 ?_
    refine r_goto E 12 dX5_isAccented_8 (by decide) ?_
    exact r_retPZ E hr dX5_isAccented_12 (by omega) (by first | rfl | exact (b2_t (by first | omega | assumption)).symm | exact (b2_f (by first | omega | assumption)).symm | omega | assumption) hQ
theorem kf_X5_ornament : KF yX5_ornament 1 wsX5_ornament cX5_ornament 1 (some .int) := ⟨rfl, by decide +kernel, by decide +kernel, by decide +kernel⟩
def rm_X5_ornament : Room := { frames := 0, cells := 0, slots := 0, locals := 0 }
set_option maxHeartbeats 1000000 in
set_option maxRecDepth 100000 in
theorem c_X5_ornament (l : Launch) (D : va_G) (c : Int) (hc : 0 ≤ c ∧ c < 64) : MP l yX5_ornament wsX5_ornament rm_X5_ornament D vwCl [.int (iJ (c))] [] [] (c / 16 % 4) := by
  refine MP.mk (cc := cX5_ornament) (maxL := 1) (ret := (some .int)) (by decide) rfl (Nat.le_of_ble_eq_true rfl) rfl RX5 rfl ?_
  intro p_ e_ s_ m_ ar_ bw_ mt_ cd_ Q_ E hr hQ
  refine r_iload_n E 0 dX5_ornament_0 rfl rfl ?_
  refine r_iconst E 4 rfl dX5_ornament_1 ?_
  refine r_ishr E (c / 16) (iJ_shr ⟨by omega, by omega⟩ (iJ 4) 4 16 (by decide) rfl) dX5_ornament_2 ?_
  refine r_iconst E 3 rfl dX5_ornament_3 ?_
  refine r_iand E (c / 16 % 4) (iJ_and ⟨by omega, by omega⟩ (iJ 3) 2 4 (by decide) rfl) dX5_ornament_4 ?_
  exact r_retP E hr dX5_ornament_5 (by first | rfl | exact (b2_t (by first | omega | assumption)).symm | exact (b2_f (by first | omega | assumption)).symm | omega | assumption) hQ
theorem kf_X5_withHand : KF yX5_withHand 2 wsX5_withHand cX5_withHand 2 (some .int) := ⟨rfl, by decide +kernel, by decide +kernel, by decide +kernel⟩
def rm_X5_withHand : Room := { frames := 1, cells := 0, slots := 0, locals := 23 }
set_option maxHeartbeats 1000000 in
set_option maxRecDepth 100000 in
theorem c_X5_withHand (l : Launch) (D : va_G) (c : Int) (h : Int) (hc : 0 ≤ c ∧ c < 64) (hh : 0 ≤ h ∧ h < 4) : MP l yX5_withHand wsX5_withHand rm_X5_withHand D vwCl [.int (iJ (c)), .int (iJ (h))] [] [] (sOf h (b2 (c / 8 % 2 = 1)) (c / 16 % 4)) := by
  refine MP.mk (cc := cX5_withHand) (maxL := 2) (ret := (some .int)) (by decide) rfl (Nat.le_of_ble_eq_true rfl) rfl RX5 rfl ?_
  intro p_ e_ s_ m_ ar_ bw_ mt_ cd_ Q_ E hr hQ
  refine r_iload_n E 1 dX5_withHand_0 rfl rfl ?_
  refine r_iload_n E 0 dX5_withHand_1 rfl rfl ?_
  refine r_sP E (st := [.int (iJ (h))]) (c_X5_isAccented l D c (by first | assumption | omega | exact ⟨by omega, by omega⟩)) gX5_withHand_X5_isAccented 1 kf_X5_isAccented ⟨rfl, rfl⟩ ⟨by decide, by decide⟩ dX5_withHand_2 rfl rfl ⟨Nat.zero_le _, Nat.zero_le _⟩ [] rfl (by decide) [] rfl (Nat.le_of_ble_eq_true rfl) ?_
  refine r_iload_n E 0 dX5_withHand_5 rfl rfl ?_
  refine r_sP E (st := [.int (iJ (b2 (c / 8 % 2 = 1))), .int (iJ (h))]) (c_X5_ornament l D c (by first | assumption | omega | exact ⟨by omega, by omega⟩)) gX5_withHand_X5_ornament 1 kf_X5_ornament ⟨rfl, rfl⟩ ⟨by decide, by decide⟩ dX5_withHand_6 rfl rfl ⟨Nat.zero_le _, Nat.zero_le _⟩ [] rfl (by decide) [] rfl (Nat.le_of_ble_eq_true rfl) ?_
  refine r_sP E (st := []) (c_X5_of l D h (b2 (c / 8 % 2 = 1)) (c / 16 % 4) (by first | assumption | omega | exact ⟨by omega, by omega⟩) (b2_01 _) (by first | assumption | omega | exact ⟨by omega, by omega⟩)) gX5_withHand_X5_of 3 kf_X5_of ⟨rfl, rfl⟩ ⟨by decide, by decide⟩ dX5_withHand_9 rfl rfl ⟨Nat.zero_le _, Nat.zero_le _⟩ [] rfl (by decide) [] rfl (Nat.le_of_ble_eq_true rfl) ?_
  exact r_retP E hr dX5_withHand_12 (by first | rfl | exact (b2_t (by first | omega | assumption)).symm | exact (b2_f (by first | omega | assumption)).symm | omega | assumption) hQ
theorem kf_X5_withOrnament : KF yX5_withOrnament 2 wsX5_withOrnament cX5_withOrnament 2 (some .int) := ⟨rfl, by decide +kernel, by decide +kernel, by decide +kernel⟩
def rm_X5_withOrnament : Room := { frames := 1, cells := 0, slots := 0, locals := 23 }
set_option maxHeartbeats 1000000 in
set_option maxRecDepth 100000 in
theorem c_X5_withOrnament (l : Launch) (D : va_G) (c : Int) (o : Int) (hc : 0 ≤ c ∧ c < 64) (ho : 0 ≤ o ∧ o < 4) : MP l yX5_withOrnament wsX5_withOrnament rm_X5_withOrnament D vwCl [.int (iJ (c)), .int (iJ (o))] [] [] (sOf (c / 2 % 4) (b2 (c / 8 % 2 = 1)) o) := by
  refine MP.mk (cc := cX5_withOrnament) (maxL := 2) (ret := (some .int)) (by decide) rfl (Nat.le_of_ble_eq_true rfl) rfl RX5 rfl ?_
  intro p_ e_ s_ m_ ar_ bw_ mt_ cd_ Q_ E hr hQ
  refine r_iload_n E 0 dX5_withOrnament_0 rfl rfl ?_
  refine r_sP E (st := []) (c_X5_hand l D c (by first | assumption | omega | exact ⟨by omega, by omega⟩)) gX5_withOrnament_X5_hand 1 kf_X5_hand ⟨rfl, rfl⟩ ⟨by decide, by decide⟩ dX5_withOrnament_1 rfl rfl ⟨Nat.zero_le _, Nat.zero_le _⟩ [] rfl (by decide) [] rfl (Nat.le_of_ble_eq_true rfl) ?_
  refine r_iload_n E 0 dX5_withOrnament_4 rfl rfl ?_
  refine r_sP E (st := [.int (iJ (c / 2 % 4))]) (c_X5_isAccented l D c (by first | assumption | omega | exact ⟨by omega, by omega⟩)) gX5_withOrnament_X5_isAccented 1 kf_X5_isAccented ⟨rfl, rfl⟩ ⟨by decide, by decide⟩ dX5_withOrnament_5 rfl rfl ⟨Nat.zero_le _, Nat.zero_le _⟩ [] rfl (by decide) [] rfl (Nat.le_of_ble_eq_true rfl) ?_
  refine r_iload_n E 1 dX5_withOrnament_8 rfl rfl ?_
  refine r_sP E (st := []) (c_X5_of l D (c / 2 % 4) (b2 (c / 8 % 2 = 1)) o (by first | assumption | omega | exact ⟨by omega, by omega⟩) (b2_01 _) (by first | assumption | omega | exact ⟨by omega, by omega⟩)) gX5_withOrnament_X5_of 3 kf_X5_of ⟨rfl, rfl⟩ ⟨by decide, by decide⟩ dX5_withOrnament_9 rfl rfl ⟨Nat.zero_le _, Nat.zero_le _⟩ [] rfl (by decide) [] rfl (Nat.le_of_ble_eq_true rfl) ?_
  exact r_retP E hr dX5_withOrnament_12 (by first | rfl | exact (b2_t (by first | omega | assumption)).symm | exact (b2_f (by first | omega | assumption)).symm | omega | assumption) hQ
theorem kf_X5_blowsOf : KF yX5_blowsOf 1 wsX5_blowsOf cX5_blowsOf 1 (some .int) := ⟨rfl, by decide +kernel, by decide +kernel, by decide +kernel⟩
def rm_X5_blowsOf : Room := { frames := 0, cells := 0, slots := 0, locals := 0 }
set_option maxHeartbeats 1000000 in
set_option maxRecDepth 100000 in
theorem c_X5_blowsOf (l : Launch) (D : va_G) (o : Int) (ho : 0 ≤ o ∧ o < 4) : MP l yX5_blowsOf wsX5_blowsOf rm_X5_blowsOf D vwCl [.int (iJ (o))] [] [] (sBo o) := by
  refine MP.mk (cc := cX5_blowsOf) (maxL := 1) (ret := (some .int)) (by decide) rfl (Nat.le_of_ble_eq_true rfl) rfl RX5 rfl ?_
  intro p_ e_ s_ m_ ar_ bw_ mt_ cd_ Q_ E hr hQ
  refine r_iload_n E 0 dX5_blowsOf_0 rfl rfl ?_
  refine r_if_ne E 6 dX5_blowsOf_1 (by decide) ⟨by omega, by omega⟩ (fun c_1 => ?_) (fun c_1 => ?_)
  · refine r_iload_n E 0 dX5_blowsOf_6 rfl rfl ?_
    refine r_iconst E 2 rfl dX5_blowsOf_7 ?_
    refine r_icmp_ne E 15 dX5_blowsOf_8 (by decide) ⟨by omega, by omega⟩ ⟨by omega, by omega⟩ (fun c_8 => ?_) (fun c_8 => ?_)
    · refine r_iconst E 2 rfl dX5_blowsOf_15 ?_
      exact r_retP E hr dX5_blowsOf_16 (by simp only [sBo]; (repeat' split) <;> omega) hQ
    · refine r_iconst E 3 rfl dX5_blowsOf_11 ?_
      refine r_goto E 16 dX5_blowsOf_12 (by decide) ?_
      exact r_retP E hr dX5_blowsOf_16 (by simp only [sBo]; (repeat' split) <;> omega) hQ
  · refine r_iconst E 1 rfl dX5_blowsOf_4 ?_
    exact r_retP E hr dX5_blowsOf_5 (by simp only [sBo]; (repeat' split) <;> omega) hQ
theorem kf_X5_blows : KF yX5_blows 1 wsX5_blows cX5_blows 1 (some .int) := ⟨rfl, by decide +kernel, by decide +kernel, by decide +kernel⟩
def rm_X5_blows : Room := { frames := 1, cells := 0, slots := 0, locals := 20 }
set_option maxHeartbeats 1000000 in
set_option maxRecDepth 100000 in
theorem c_X5_blows (l : Launch) (D : va_G) (c : Int) (hc : 0 ≤ c ∧ c < 64) : MP l yX5_blows wsX5_blows rm_X5_blows D vwCl [.int (iJ (c))] [] [] (sBl c) := by
  refine MP.mk (cc := cX5_blows) (maxL := 1) (ret := (some .int)) (by decide) rfl (Nat.le_of_ble_eq_true rfl) rfl RX5 rfl ?_
  intro p_ e_ s_ m_ ar_ bw_ mt_ cd_ Q_ E hr hQ
  refine r_iload_n E 0 dX5_blows_0 rfl rfl ?_
  refine r_sP E (st := []) (c_X5_isStroke l D c (by first | assumption | omega | exact ⟨by omega, by omega⟩)) gX5_blows_X5_isStroke 1 kf_X5_isStroke ⟨rfl, rfl⟩ ⟨by decide, by decide⟩ dX5_blows_1 rfl rfl ⟨Nat.zero_le _, Nat.zero_le _⟩ [] rfl (by decide) [] rfl (Nat.le_of_ble_eq_true rfl) ?_
  refine r_ifne_n E 9 dX5_blows_4 (by decide) (fun c_4 => ?_) (fun c_4 => ?_)
  · refine r_iload_n E 0 dX5_blows_9 rfl rfl ?_
    refine r_sP E (st := []) (c_X5_ornament l D c (by first | assumption | omega | exact ⟨by omega, by omega⟩)) gX5_blows_X5_ornament 1 kf_X5_ornament ⟨rfl, rfl⟩ ⟨by decide, by decide⟩ dX5_blows_10 rfl rfl ⟨Nat.zero_le _, Nat.zero_le _⟩ [] rfl (by decide) [] rfl (Nat.le_of_ble_eq_true rfl) ?_
    refine r_sP E (st := []) (c_X5_blowsOf l D (c / 16 % 4) (by first | assumption | omega | exact ⟨by omega, by omega⟩)) gX5_blows_X5_blowsOf 1 kf_X5_blowsOf ⟨rfl, rfl⟩ ⟨by decide, by decide⟩ dX5_blows_13 rfl rfl ⟨Nat.zero_le _, Nat.zero_le _⟩ [] rfl (by decide) [] rfl (Nat.le_of_ble_eq_true rfl) ?_
    exact r_retP E hr dX5_blows_16 (by unfold sBl; rw [if_neg c_4]) hQ
  · refine r_iconst E 0 rfl dX5_blows_7 ?_
    exact r_retP E hr dX5_blows_8 (by unfold sBl; rw [if_pos c_4]) hQ
theorem kf_X5_offset : KF yX5_offset 2 wsX5_offset cX5_offset 2 (some .int) := ⟨rfl, by decide +kernel, by decide +kernel, by decide +kernel⟩
def rm_X5_offset : Room := { frames := 0, cells := 0, slots := 0, locals := 0 }
set_option maxHeartbeats 1000000 in
set_option maxRecDepth 100000 in
theorem c_X5_offset (l : Launch) (D : va_G) (o : Int) (b : Int) (ho : 0 ≤ o ∧ o < 4) (hb : 0 ≤ b ∧ b < 4) : MP l yX5_offset wsX5_offset rm_X5_offset D vwCl [.int (iJ (o)), .int (iJ (b))] [] [] (sOff o b) := by
  refine MP.mk (cc := cX5_offset) (maxL := 2) (ret := (some .int)) (by decide) rfl (Nat.le_of_ble_eq_true rfl) rfl RX5 rfl ?_
  intro p_ e_ s_ m_ ar_ bw_ mt_ cd_ Q_ E hr hQ
  refine r_iload_n E 1 dX5_offset_0 rfl rfl ?_
  refine r_if_ne E 6 dX5_offset_1 (by decide) ⟨by omega, by omega⟩ (fun c_1 => ?_) (fun c_1 => ?_)
  · refine r_iload_n E 0 dX5_offset_6 rfl rfl ?_
    refine r_iconst E 3 rfl dX5_offset_7 ?_
    refine r_icmp_ne E 13 dX5_offset_8 (by decide) ⟨by omega, by omega⟩ ⟨by omega, by omega⟩ (fun c_8 => ?_) (fun c_8 => ?_)
    · refine r_iload_n E 0 dX5_offset_13 rfl rfl ?_
      refine r_iconst E 2 rfl dX5_offset_14 ?_
      refine r_icmp_ne E 28 dX5_offset_15 (by decide) ⟨by omega, by omega⟩ ⟨by omega, by omega⟩ (fun c_15 => ?_) (fun c_15 => ?_)
      · refine r_iconst E (-1) rfl dX5_offset_28 ?_
        exact r_retP E hr dX5_offset_29 (by simp only [sOff]; (repeat' split) <;> omega) hQ
      · refine r_iload_n E 1 dX5_offset_18 rfl rfl ?_
        refine r_iconst E 1 rfl dX5_offset_19 ?_
        refine r_icmp_ne E 28 dX5_offset_20 (by decide) ⟨by omega, by omega⟩ ⟨by omega, by omega⟩ (fun c_20 => ?_) (fun c_20 => ?_)
        · refine r_iconst E (-1) rfl dX5_offset_28 ?_
          exact r_retP E hr dX5_offset_29 (by simp only [sOff]; (repeat' split) <;> omega) hQ
        · refine r_bipush E (-2) rfl dX5_offset_23 ?_
          refine r_goto E 29 dX5_offset_25 (by decide) ?_
          exact r_retP E hr dX5_offset_29 (by simp only [sOff]; (repeat' split) <;> omega) hQ
    · refine r_iconst E 2 rfl dX5_offset_11 ?_
      exact r_retP E hr dX5_offset_12 (by simp only [sOff]; (repeat' split) <;> omega) hQ
  · refine r_iconst E 0 rfl dX5_offset_4 ?_
    exact r_retP E hr dX5_offset_5 (by simp only [sOff]; (repeat' split) <;> omega) hQ
theorem kf_X5_isOfOwnHand : KF yX5_isOfOwnHand 2 wsX5_isOfOwnHand cX5_isOfOwnHand 2 (some .boolean) := ⟨rfl, by decide +kernel, by decide +kernel, by decide +kernel⟩
def rm_X5_isOfOwnHand : Room := { frames := 0, cells := 0, slots := 0, locals := 0 }
set_option maxHeartbeats 1000000 in
set_option maxRecDepth 100000 in
theorem c_X5_isOfOwnHand (l : Launch) (D : va_G) (o : Int) (b : Int) (ho : 0 ≤ o ∧ o < 4) (hb : 0 ≤ b ∧ b < 4) : MP l yX5_isOfOwnHand wsX5_isOfOwnHand rm_X5_isOfOwnHand D vwCl [.int (iJ (o)), .int (iJ (b))] [] [] (b2 (b = 0 ∨ o = 3)) := by
  refine MP.mk (cc := cX5_isOfOwnHand) (maxL := 2) (ret := (some .boolean)) (by decide) rfl (Nat.le_of_ble_eq_true rfl) rfl RX5 rfl ?_
  intro p_ e_ s_ m_ ar_ bw_ mt_ cd_ Q_ E hr hQ
  refine r_iload_n E 1 dX5_isOfOwnHand_0 rfl rfl ?_
  refine r_if_eq E 9 dX5_isOfOwnHand_1 (by decide) ⟨by omega, by omega⟩ (fun c_1 => ?_) (fun c_1 => ?_)
  · refine r_iconst E 1 rfl dX5_isOfOwnHand_9 ?_
    refine r_goto E 14 dX5_isOfOwnHand_10 (by decide) ?_
    exact r_retPZ E hr dX5_isOfOwnHand_14 (by omega) (by first | rfl | exact (b2_t (by first | omega | assumption)).symm | exact (b2_f (by first | omega | assumption)).symm | omega | assumption) hQ
  · refine r_iload_n E 0 dX5_isOfOwnHand_4 rfl rfl ?_
    refine r_iconst E 3 rfl dX5_isOfOwnHand_5 ?_
    refine r_icmp_ne E 13 dX5_isOfOwnHand_6 (by decide) ⟨by omega, by omega⟩ ⟨by omega, by omega⟩ (fun c_6 => ?_) (fun c_6 => ?_)
    · refine r_iconst E 0 rfl dX5_isOfOwnHand_13 ?_
      exact r_retPZ E hr dX5_isOfOwnHand_14 (by omega) (by first | rfl | exact (b2_t (by first | omega | assumption)).symm | exact (b2_f (by first | omega | assumption)).symm | omega | assumption) hQ
    · refine r_iconst E 1 rfl dX5_isOfOwnHand_9 ?_
      refine r_goto E 14 dX5_isOfOwnHand_10 (by decide) ?_
      exact r_retPZ E hr dX5_isOfOwnHand_14 (by omega) (by first | rfl | exact (b2_t (by first | omega | assumption)).symm | exact (b2_f (by first | omega | assumption)).symm | omega | assumption) hQ
theorem kf_X5_force : KF yX5_force 2 wsX5_force cX5_force 2 (some .int) := ⟨rfl, by decide +kernel, by decide +kernel, by decide +kernel⟩
def rm_X5_force : Room := { frames := 1, cells := 0, slots := 0, locals := 20 }
set_option maxHeartbeats 1000000 in
set_option maxRecDepth 100000 in
theorem c_X5_force (l : Launch) (D : va_G) (c : Int) (b : Int) (hc : 0 ≤ c ∧ c < 64) (hb : 0 ≤ b ∧ b < 4) : MP l yX5_force wsX5_force rm_X5_force D vwCl [.int (iJ (c)), .int (iJ (b))] [] [] (sFo c b) := by
  refine MP.mk (cc := cX5_force) (maxL := 2) (ret := (some .int)) (by decide) rfl (Nat.le_of_ble_eq_true rfl) rfl RX5 rfl ?_
  intro p_ e_ s_ m_ ar_ bw_ mt_ cd_ Q_ E hr hQ
  refine r_iload_n E 1 dX5_force_0 rfl rfl ?_
  refine r_if_le E 6 dX5_force_1 (by decide) ⟨by omega, by omega⟩ (fun c_1 => ?_) (fun c_1 => ?_)
  · refine r_iload_n E 0 dX5_force_6 rfl rfl ?_
    refine r_sP E (st := []) (c_X5_isAccented l D c (by first | assumption | omega | exact ⟨by omega, by omega⟩)) gX5_force_X5_isAccented 1 kf_X5_isAccented ⟨rfl, rfl⟩ ⟨by decide, by decide⟩ dX5_force_7 rfl rfl ⟨Nat.zero_le _, Nat.zero_le _⟩ [] rfl (by decide) [] rfl (Nat.le_of_ble_eq_true rfl) ?_
    refine r_ifeq_b E 17 dX5_force_10 (by decide) (fun c_10 => ?_) (fun c_10 => ?_)
    · refine r_iconst E 2 rfl dX5_force_17 ?_
      exact r_retP E hr dX5_force_18 (by simp only [sFo]; (repeat' split) <;> omega) hQ
    · refine r_iconst E 3 rfl dX5_force_13 ?_
      refine r_goto E 18 dX5_force_14 (by decide) ?_
      exact r_retP E hr dX5_force_18 (by simp only [sFo]; (repeat' split) <;> omega) hQ
  · refine r_iconst E 1 rfl dX5_force_4 ?_
    exact r_retP E hr dX5_force_5 (by simp only [sFo]; (repeat' split) <;> omega) hQ
theorem kf_X5_forces : KF yX5_forces 1 wsX5_forces cX5_forces 3 (some .int) := ⟨rfl, by decide +kernel, by decide +kernel, by decide +kernel⟩
def rm_X5_forces : Room := { frames := 2, cells := 0, slots := 0, locals := 41 }
set_option maxHeartbeats 1000000 in
set_option maxRecDepth 100000 in
theorem c_X5_forces (l : Launch) (D : va_G) (c : Int) (hc : 0 ≤ c ∧ c < 64) : MP l yX5_forces wsX5_forces rm_X5_forces D vwCl [.int (iJ (c))] [] [] (sFs c) := by
  refine MP.mk (cc := cX5_forces) (maxL := 3) (ret := (some .int)) (by decide) rfl (Nat.le_of_ble_eq_true rfl) rfl RX5 rfl ?_
  intro p_ e_ s_ m_ ar_ bw_ mt_ cd_ Q_ E hr hQ
  have hB := sBl_in (c := c)
  refine r_iconst E 0 rfl dX5_forces_0 ?_
  refine r_istore_n E [(1, .int (iJ (0))), (0, .int (iJ (c)))] dX5_forces_1 rfl (by decide) rfl ?_
  refine r_iconst E 0 rfl dX5_forces_2 ?_
  refine r_istore_n E [(2, .int (iJ (0))), (1, .int (iJ (0))), (0, .int (iJ (c)))] dX5_forces_3 rfl (by decide) rfl ?_
  have loop_4 : ∀ (N : Nat) (k : Int) (sum : Int), (0 ≤ k ∧ k ≤ sBl c) → (sum = sm (sFo c) k) → (sBl c - k).toNat < N → GG p_ l e_ rm_X5_forces s_ m_ ar_ bw_ mt_ cd_ D vwCl (fun _ => True) (fun _ => False) s_.heap 3 0 0 Q_ [] [(0, .int (iJ (c))), (1, .int (iJ (sum))), (2, .int (iJ (k)))] 4 [] := by
    intro N; induction N with
    | zero => intro k sum hk hs hN; exact absurd hN (Nat.not_lt_zero _)
    | succ N ih4 =>
      intro k sum hk hs hN
      refine r_iload_n E 2 dX5_forces_4 rfl rfl ?_
      refine r_iload_n E 0 dX5_forces_5 rfl rfl ?_
      refine r_sP E (st := [.int (iJ (k))]) (c_X5_blows l D c (by first | assumption | omega | exact ⟨by omega, by omega⟩)) gX5_forces_X5_blows 1 kf_X5_blows ⟨rfl, rfl⟩ ⟨by decide, by decide⟩ dX5_forces_6 rfl rfl ⟨Nat.zero_le _, Nat.zero_le _⟩ [] rfl (by decide) [] rfl (Nat.le_of_ble_eq_true rfl) ?_
      refine r_icmp_ge E 26 dX5_forces_9 (by decide) ⟨by omega, by omega⟩ ⟨by omega, by omega⟩ (fun c_9 => ?_) (fun c_9 => ?_)
      · refine r_iload_n E 1 dX5_forces_26 rfl rfl ?_
        exact r_retP E hr dX5_forces_27 (by
              have e : k = sBl c := by omega
              rw [hs, e]; try rfl) hQ
      · refine r_iload_n E 1 dX5_forces_12 rfl rfl ?_
        refine r_iload_n E 0 dX5_forces_13 rfl rfl ?_
        refine r_iload_n E 2 dX5_forces_14 rfl rfl ?_
        refine r_sP E (st := [.int (iJ (sum))]) (c_X5_force l D c k (by first | assumption | omega | exact ⟨by omega, by omega⟩) (by first | assumption | omega | exact ⟨by omega, by omega⟩)) gX5_forces_X5_force 2 kf_X5_force ⟨rfl, rfl⟩ ⟨by decide, by decide⟩ dX5_forces_15 rfl rfl ⟨Nat.zero_le _, Nat.zero_le _⟩ [] rfl (by decide) [] rfl (Nat.le_of_ble_eq_true rfl) ?_
        refine r_iadd E dX5_forces_18 ?_
        refine r_istore_n E [(1, .int (iJ ((sum + (sFo c k))))), (0, .int (iJ (c))), (2, .int (iJ (k)))] dX5_forces_19 rfl (by decide) rfl ?_
        refine r_iinc E (k := 2) [(2, .int (iJ ((k + 1)))), (1, .int (iJ ((sum + (sFo c k))))), (0, .int (iJ (c)))] dX5_forces_20 rfl (by decide) rfl ?_
        refine r_goto E 4 dX5_forces_23 (by decide) ?_
        refine r_lv [2, 1, 0] [(0, .int (iJ (c))), (1, .int (iJ ((sum + (sFo c k))))), (2, .int (iJ ((k + 1))))] rfl ?_
        exact ih4 (k + 1) (sum + (sFo c k)) ⟨by omega, by omega⟩ (by rw [sm_s _ (by omega), hs]) (by omega)
  refine r_lv [2, 1, 0] [(0, .int (iJ (c))), (1, .int (iJ (0))), (2, .int (iJ (0)))] rfl ?_
  exact loop_4 _ 0 0 ⟨by omega, by omega⟩ (sm_0 _).symm (Nat.lt_succ_self _)
theorem kf_X5_forcesAt : KF yX5_forcesAt 2 wsX5_forcesAt cX5_forcesAt 4 (some .int) := ⟨rfl, by decide +kernel, by decide +kernel, by decide +kernel⟩
def rm_X5_forcesAt : Room := { frames := 2, cells := 0, slots := 0, locals := 41 }
set_option maxHeartbeats 1000000 in
set_option maxRecDepth 100000 in
theorem c_X5_forcesAt (l : Launch) (D : va_G) (c : Int) (t : Int) (hc : 0 ≤ c ∧ c < 64) (ht : jb t) : MP l yX5_forcesAt wsX5_forcesAt rm_X5_forcesAt D vwCl [.int (iJ (c)), .int (iJ (t))] [] [] (sFa c t) := by
  refine MP.mk (cc := cX5_forcesAt) (maxL := 4) (ret := (some .int)) (by decide) rfl (Nat.le_of_ble_eq_true rfl) rfl RX5 rfl ?_
  intro p_ e_ s_ m_ ar_ bw_ mt_ cd_ Q_ E hr hQ
  have hB := sBl_in (c := c)
  refine r_iconst E 0 rfl dX5_forcesAt_0 ?_
  refine r_istore_n E [(2, .int (iJ (0))), (0, .int (iJ (c))), (1, .int (iJ (t)))] dX5_forcesAt_1 rfl (by decide) rfl ?_
  refine r_iconst E 0 rfl dX5_forcesAt_2 ?_
  refine r_istore_n E [(3, .int (iJ (0))), (2, .int (iJ (0))), (0, .int (iJ (c))), (1, .int (iJ (t)))] dX5_forcesAt_3 rfl (by decide) rfl ?_
  have loop_4 : ∀ (N : Nat) (k : Int) (sum : Int), (0 ≤ k ∧ k ≤ sBl c) → (sum = sm (fun b => if sOff (c / 16 % 4) b = t then sFo c b else 0) k) → (sBl c - k).toNat < N → GG p_ l e_ rm_X5_forcesAt s_ m_ ar_ bw_ mt_ cd_ D vwCl (fun _ => True) (fun _ => False) s_.heap 4 0 0 Q_ [] [(0, .int (iJ (c))), (1, .int (iJ (t))), (2, .int (iJ (sum))), (3, .int (iJ (k)))] 4 [] := by
    intro N; induction N with
    | zero => intro k sum hk hs hN; exact absurd hN (Nat.not_lt_zero _)
    | succ N ih4 =>
      intro k sum hk hs hN
      refine r_iload_n E 3 dX5_forcesAt_4 rfl rfl ?_
      refine r_iload_n E 0 dX5_forcesAt_5 rfl rfl ?_
      refine r_sP E (st := [.int (iJ (k))]) (c_X5_blows l D c (by first | assumption | omega | exact ⟨by omega, by omega⟩)) gX5_forcesAt_X5_blows 1 kf_X5_blows ⟨rfl, rfl⟩ ⟨by decide, by decide⟩ dX5_forcesAt_6 rfl rfl ⟨Nat.zero_le _, Nat.zero_le _⟩ [] rfl (by decide) [] rfl (Nat.le_of_ble_eq_true rfl) ?_
      refine r_icmp_ge E 38 dX5_forcesAt_9 (by decide) ⟨by omega, by omega⟩ ⟨by omega, by omega⟩ (fun c_9 => ?_) (fun c_9 => ?_)
      · refine r_iload_n E 2 dX5_forcesAt_38 rfl rfl ?_
        exact r_retP E hr dX5_forcesAt_39 (by
              have e : k = sBl c := by omega
              rw [hs, e]; try rfl) hQ
      · refine r_iload_n E 0 dX5_forcesAt_12 rfl rfl ?_
        refine r_sP E (st := []) (c_X5_ornament l D c (by first | assumption | omega | exact ⟨by omega, by omega⟩)) gX5_forcesAt_X5_ornament 1 kf_X5_ornament ⟨rfl, rfl⟩ ⟨by decide, by decide⟩ dX5_forcesAt_13 rfl rfl ⟨Nat.zero_le _, Nat.zero_le _⟩ [] rfl (by decide) [] rfl (Nat.le_of_ble_eq_true rfl) ?_
        refine r_iload_n E 3 dX5_forcesAt_16 rfl rfl ?_
        refine r_sP E (st := []) (c_X5_offset l D (c / 16 % 4) k (by first | assumption | omega | exact ⟨by omega, by omega⟩) (by first | assumption | omega | exact ⟨by omega, by omega⟩)) gX5_forcesAt_X5_offset 2 kf_X5_offset ⟨rfl, rfl⟩ ⟨by decide, by decide⟩ dX5_forcesAt_17 rfl rfl ⟨Nat.zero_le _, Nat.zero_le _⟩ [] rfl (by decide) [] rfl (Nat.le_of_ble_eq_true rfl) ?_
        have hO := sOff_in (o := c / 16 % 4) (b := k)
        refine r_iload_n E 1 dX5_forcesAt_20 rfl rfl ?_
        refine r_icmp_ne E 32 dX5_forcesAt_21 (by decide) ⟨by omega, by omega⟩ ht (fun c_21 => ?_) (fun c_21 => ?_)
        · refine r_iinc E (k := 3) [(3, .int (iJ ((k + 1)))), (0, .int (iJ (c))), (1, .int (iJ (t))), (2, .int (iJ (sum)))] dX5_forcesAt_32 rfl (by decide) rfl ?_
          refine r_goto E 4 dX5_forcesAt_35 (by decide) ?_
          refine r_lv [1, 2, 3, 0] [(0, .int (iJ (c))), (1, .int (iJ (t))), (2, .int (iJ (sum))), (3, .int (iJ ((k + 1))))] rfl ?_
          exact ih4 (k + 1) sum ⟨by omega, by omega⟩ (by rw [sm_s _ (by omega), hs]; simp [c_21]) (by omega)
        · refine r_iload_n E 2 dX5_forcesAt_24 rfl rfl ?_
          refine r_iload_n E 0 dX5_forcesAt_25 rfl rfl ?_
          refine r_iload_n E 3 dX5_forcesAt_26 rfl rfl ?_
          refine r_sP E (st := [.int (iJ (sum))]) (c_X5_force l D c k (by first | assumption | omega | exact ⟨by omega, by omega⟩) (by first | assumption | omega | exact ⟨by omega, by omega⟩)) gX5_forcesAt_X5_force 2 kf_X5_force ⟨rfl, rfl⟩ ⟨by decide, by decide⟩ dX5_forcesAt_27 rfl rfl ⟨Nat.zero_le _, Nat.zero_le _⟩ [] rfl (by decide) [] rfl (Nat.le_of_ble_eq_true rfl) ?_
          refine r_iadd E dX5_forcesAt_30 ?_
          refine r_istore_n E [(2, .int (iJ ((sum + (sFo c k))))), (0, .int (iJ (c))), (1, .int (iJ (t))), (3, .int (iJ (k)))] dX5_forcesAt_31 rfl (by decide) rfl ?_
          refine r_iinc E (k := 3) [(3, .int (iJ ((k + 1)))), (2, .int (iJ ((sum + (sFo c k))))), (0, .int (iJ (c))), (1, .int (iJ (t)))] dX5_forcesAt_32 rfl (by decide) rfl ?_
          refine r_goto E 4 dX5_forcesAt_35 (by decide) ?_
          refine r_lv [2, 3, 1, 0] [(0, .int (iJ (c))), (1, .int (iJ (t))), (2, .int (iJ ((sum + (sFo c k))))), (3, .int (iJ ((k + 1))))] rfl ?_
          exact ih4 (k + 1) (sum + (sFo c k)) ⟨by omega, by omega⟩ (by rw [sm_s _ (by omega), hs]; simp [c_21]) (by omega)
  refine r_lv [2, 3, 1, 0] [(0, .int (iJ (c))), (1, .int (iJ (t))), (2, .int (iJ (0))), (3, .int (iJ (0)))] rfl ?_
  exact loop_4 _ 0 0 ⟨by omega, by omega⟩ (sm_0 _).symm (Nat.lt_succ_self _)
theorem kf_X5_textLength : KF yX5_textLength 1 wsX5_textLength cX5_textLength 1 (some .int) := ⟨rfl, by decide +kernel, by decide +kernel, by decide +kernel⟩
def rm_X5_textLength : Room := { frames := 1, cells := 0, slots := 0, locals := 20 }
set_option maxHeartbeats 1000000 in
set_option maxRecDepth 100000 in
theorem c_X5_textLength (l : Launch) (D : va_G) (c : Int) (hc : 0 ≤ c ∧ c < 64) : MP l yX5_textLength wsX5_textLength rm_X5_textLength D vwCl [.int (iJ (c))] [] [] (sTl c) := by
  refine MP.mk (cc := cX5_textLength) (maxL := 1) (ret := (some .int)) (by decide) rfl (Nat.le_of_ble_eq_true rfl) rfl RX5 rfl ?_
  intro p_ e_ s_ m_ ar_ bw_ mt_ cd_ Q_ E hr hQ
  refine r_iconst E 1 rfl dX5_textLength_0 ?_
  refine r_iload_n E 0 dX5_textLength_1 rfl rfl ?_
  refine r_sP E (st := [.int (iJ (1))]) (c_X5_isAccented l D c (by first | assumption | omega | exact ⟨by omega, by omega⟩)) gX5_textLength_X5_isAccented 1 kf_X5_isAccented ⟨rfl, rfl⟩ ⟨by decide, by decide⟩ dX5_textLength_2 rfl rfl ⟨Nat.zero_le _, Nat.zero_le _⟩ [] rfl (by decide) [] rfl (Nat.le_of_ble_eq_true rfl) ?_
  refine r_ifeq_b E 12 dX5_textLength_5 (by decide) (fun c_5 => ?_) (fun c_5 => ?_)
  · refine r_iconst E 0 rfl dX5_textLength_12 ?_
    refine r_iadd E dX5_textLength_13 ?_
    refine r_top 1 rfl ?_
    refine r_iload_n E 0 dX5_textLength_14 rfl rfl ?_
    refine r_sP E (st := [.int (iJ (1))]) (c_X5_ornament l D c (by first | assumption | omega | exact ⟨by omega, by omega⟩)) gX5_textLength_X5_ornament 1 kf_X5_ornament ⟨rfl, rfl⟩ ⟨by decide, by decide⟩ dX5_textLength_15 rfl rfl ⟨Nat.zero_le _, Nat.zero_le _⟩ [] rfl (by decide) [] rfl (Nat.le_of_ble_eq_true rfl) ?_
    refine r_if_ne E 25 dX5_textLength_18 (by decide) ⟨by omega, by omega⟩ (fun c_18 => ?_) (fun c_18 => ?_)
    · refine r_iconst E 1 rfl dX5_textLength_25 ?_
      refine r_iadd E dX5_textLength_26 ?_
      refine r_top 2 rfl ?_
      exact r_retP E hr dX5_textLength_27 (by simp only [sTl, b2]; (repeat' split) <;> omega) hQ
    · refine r_iconst E 0 rfl dX5_textLength_21 ?_
      refine r_goto E 26 dX5_textLength_22 (by decide) ?_
      refine r_iadd E dX5_textLength_26 ?_
      refine r_top 1 rfl ?_
      exact r_retP E hr dX5_textLength_27 (by simp only [sTl, b2]; (repeat' split) <;> omega) hQ
  · refine r_iconst E 1 rfl dX5_textLength_8 ?_
    refine r_goto E 13 dX5_textLength_9 (by decide) ?_
    refine r_iadd E dX5_textLength_13 ?_
    refine r_top 2 rfl ?_
    refine r_iload_n E 0 dX5_textLength_14 rfl rfl ?_
    refine r_sP E (st := [.int (iJ (2))]) (c_X5_ornament l D c (by first | assumption | omega | exact ⟨by omega, by omega⟩)) gX5_textLength_X5_ornament 1 kf_X5_ornament ⟨rfl, rfl⟩ ⟨by decide, by decide⟩ dX5_textLength_15 rfl rfl ⟨Nat.zero_le _, Nat.zero_le _⟩ [] rfl (by decide) [] rfl (Nat.le_of_ble_eq_true rfl) ?_
    refine r_if_ne E 25 dX5_textLength_18 (by decide) ⟨by omega, by omega⟩ (fun c_18 => ?_) (fun c_18 => ?_)
    · refine r_iconst E 1 rfl dX5_textLength_25 ?_
      refine r_iadd E dX5_textLength_26 ?_
      refine r_top 3 rfl ?_
      exact r_retP E hr dX5_textLength_27 (by simp only [sTl, b2]; (repeat' split) <;> omega) hQ
    · refine r_iconst E 0 rfl dX5_textLength_21 ?_
      refine r_goto E 26 dX5_textLength_22 (by decide) ?_
      refine r_iadd E dX5_textLength_26 ?_
      refine r_top 2 rfl ?_
      exact r_retP E hr dX5_textLength_27 (by simp only [sTl, b2]; (repeat' split) <;> omega) hQ
theorem kf_X5_handSign : KF yX5_handSign 1 wsX5_handSign cX5_handSign 1 (some .int) := ⟨rfl, by decide +kernel, by decide +kernel, by decide +kernel⟩
def rm_X5_handSign : Room := { frames := 0, cells := 0, slots := 0, locals := 0 }
set_option maxHeartbeats 1000000 in
set_option maxRecDepth 100000 in
theorem c_X5_handSign (l : Launch) (D : va_G) (h : Int) (hh : 0 ≤ h ∧ h < 4) : MP l yX5_handSign wsX5_handSign rm_X5_handSign D vwCl [.int (iJ (h))] [] [] (sHs h) := by
  refine MP.mk (cc := cX5_handSign) (maxL := 1) (ret := (some .int)) (by decide) rfl (Nat.le_of_ble_eq_true rfl) rfl RX5 rfl ?_
  intro p_ e_ s_ m_ ar_ bw_ mt_ cd_ Q_ E hr hQ
  refine r_iload_n E 0 dX5_handSign_0 rfl rfl ?_
  refine r_iconst E 2 rfl dX5_handSign_1 ?_
  refine r_icmp_ne E 8 dX5_handSign_2 (by decide) ⟨by omega, by omega⟩ ⟨by omega, by omega⟩ (fun c_2 => ?_) (fun c_2 => ?_)
  · refine r_iload_n E 0 dX5_handSign_8 rfl rfl ?_
    refine r_if_ne E 17 dX5_handSign_9 (by decide) ⟨by omega, by omega⟩ (fun c_9 => ?_) (fun c_9 => ?_)
    · refine r_bipush E 76 rfl dX5_handSign_17 ?_
      exact r_retP E hr dX5_handSign_19 (by simp only [sHs]; (repeat' split) <;> omega) hQ
    · refine r_bipush E 82 rfl dX5_handSign_12 ?_
      refine r_goto E 19 dX5_handSign_14 (by decide) ?_
      exact r_retP E hr dX5_handSign_19 (by simp only [sHs]; (repeat' split) <;> omega) hQ
  · refine r_bipush E 120 rfl dX5_handSign_5 ?_
    exact r_retP E hr dX5_handSign_7 (by simp only [sHs]; (repeat' split) <;> omega) hQ
theorem kf_X5_signAt : KF yX5_signAt 2 wsX5_signAt cX5_signAt 4 (some .int) := ⟨rfl, by decide +kernel, by decide +kernel, by decide +kernel⟩
def rm_X5_signAt : Room := { frames := 1, cells := 0, slots := 0, locals := 20 }
set_option maxHeartbeats 1000000 in
set_option maxRecDepth 100000 in
theorem c_X5_signAt (l : Launch) (D : va_G) (c : Int) (p : Int) (hc : 0 ≤ c ∧ c < 64) (hp : 0 ≤ p ∧ p < 1000) : MP l yX5_signAt wsX5_signAt rm_X5_signAt D vwCl [.int (iJ (c)), .int (iJ (p))] [] [] (sSg c p) := by
  refine MP.mk (cc := cX5_signAt) (maxL := 4) (ret := (some .int)) (by decide) rfl (Nat.le_of_ble_eq_true rfl) rfl RX5 rfl ?_
  intro p_ e_ s_ m_ ar_ bw_ mt_ cd_ Q_ E hr hQ
  refine r_iload_n E 0 dX5_signAt_0 rfl rfl ?_
  refine r_sP E (st := []) (c_X5_isStroke l D c (by first | assumption | omega | exact ⟨by omega, by omega⟩)) gX5_signAt_X5_isStroke 1 kf_X5_isStroke ⟨rfl, rfl⟩ ⟨by decide, by decide⟩ dX5_signAt_1 rfl rfl ⟨Nat.zero_le _, Nat.zero_le _⟩ [] rfl (by decide) [] rfl (Nat.le_of_ble_eq_true rfl) ?_
  refine r_ifne_n E 10 dX5_signAt_4 (by decide) (fun c_4 => ?_) (fun c_4 => ?_)
  · refine r_iload_n E 1 dX5_signAt_10 rfl rfl ?_
    refine r_istore_n E [(2, .int (iJ (p))), (0, .int (iJ (c))), (1, .int (iJ (p)))] dX5_signAt_11 rfl (by decide) rfl ?_
    refine r_iload_n E 1 dX5_signAt_12 rfl rfl ?_
    refine r_sP E (st := []) (c_X5_isAccented l D c (by first | assumption | omega | exact ⟨by omega, by omega⟩)) gX5_signAt_X5_isAccented 1 kf_X5_isAccented ⟨rfl, rfl⟩ ⟨by decide, by decide⟩ dX5_signAt_13 rfl rfl ⟨Nat.zero_le _, Nat.zero_le _⟩ [] rfl (by decide) [] rfl (Nat.le_of_ble_eq_true rfl) ?_
    refine r_ifeq_b E 29 dX5_signAt_16 (by decide) (fun c_16 => ?_) (fun c_16 => ?_)
    · refine r_iload_n E 1 dX5_signAt_29 rfl rfl ?_
      refine r_sP E (st := []) (c_X5_ornament l D c (by first | assumption | omega | exact ⟨by omega, by omega⟩)) gX5_signAt_X5_ornament 1 kf_X5_ornament ⟨rfl, rfl⟩ ⟨by decide, by decide⟩ dX5_signAt_30 rfl rfl ⟨Nat.zero_le _, Nat.zero_le _⟩ [] rfl (by decide) [] rfl (Nat.le_of_ble_eq_true rfl) ?_
      refine r_istore_n E [(3, .int (iJ (c / 16 % 4))), (2, .int (iJ (p))), (0, .int (iJ (c))), (1, .int (iJ (p)))] dX5_signAt_33 rfl (by decide) rfl ?_
      refine r_iload_n E 0 dX5_signAt_34 rfl rfl ?_
      refine r_iconst E 1 rfl dX5_signAt_35 ?_
      refine r_icmp_eq E 44 dX5_signAt_36 (by decide) ⟨by omega, by omega⟩ ⟨by omega, by omega⟩ (fun c_36 => ?_) (fun c_36 => ?_)
      · refine r_iload_n E 1 dX5_signAt_44 rfl rfl ?_
        refine r_if_ne E 61 dX5_signAt_45 (by decide) ⟨by omega, by omega⟩ (fun c_45 => ?_) (fun c_45 => ?_)
        · refine r_iinc E (k := 1) [(2, .int (iJ ((p + (-1))))), (3, .int (iJ (c / 16 % 4))), (0, .int (iJ (c))), (1, .int (iJ (p)))] dX5_signAt_61 rfl (by decide) rfl ?_
          refine r_iload_n E 0 dX5_signAt_64 rfl rfl ?_
          refine r_if_ne E 78 dX5_signAt_65 (by decide) ⟨by omega, by omega⟩ (fun c_65 => ?_) (fun c_65 => ?_)
          · refine r_bipush E 42 rfl dX5_signAt_78 ?_
            exact r_retP E hr dX5_signAt_80 (by simp only [sSg]; (repeat' split) <;> first | omega | rfl) hQ
          · refine r_iload_n E 2 dX5_signAt_68 rfl rfl ?_
            refine r_sP E (st := []) (c_X5_hand l D c (by first | assumption | omega | exact ⟨by omega, by omega⟩)) gX5_signAt_X5_hand 1 kf_X5_hand ⟨rfl, rfl⟩ ⟨by decide, by decide⟩ dX5_signAt_69 rfl rfl ⟨Nat.zero_le _, Nat.zero_le _⟩ [] rfl (by decide) [] rfl (Nat.le_of_ble_eq_true rfl) ?_
            refine r_sP E (st := []) (c_X5_handSign l D (c / 2 % 4) (by first | assumption | omega | exact ⟨by omega, by omega⟩)) gX5_signAt_X5_handSign 1 kf_X5_handSign ⟨rfl, rfl⟩ ⟨by decide, by decide⟩ dX5_signAt_72 rfl rfl ⟨Nat.zero_le _, Nat.zero_le _⟩ [] rfl (by decide) [] rfl (Nat.le_of_ble_eq_true rfl) ?_
            refine r_goto E 80 dX5_signAt_75 (by decide) ?_
            exact r_retP E hr dX5_signAt_80 (by simp only [sSg]; (repeat' split) <;> first | omega | rfl) hQ
        · refine r_iload_n E 0 dX5_signAt_48 rfl rfl ?_
          refine r_iconst E 1 rfl dX5_signAt_49 ?_
          refine r_icmp_ne E 58 dX5_signAt_50 (by decide) ⟨by omega, by omega⟩ ⟨by omega, by omega⟩ (fun c_50 => ?_) (fun c_50 => ?_)
          · refine r_bipush E 100 rfl dX5_signAt_58 ?_
            exact r_retP E hr dX5_signAt_60 (by simp only [sSg]; (repeat' split) <;> first | omega | rfl) hQ
          · refine r_bipush E 102 rfl dX5_signAt_53 ?_
            refine r_goto E 60 dX5_signAt_55 (by decide) ?_
            exact r_retP E hr dX5_signAt_60 (by simp only [sSg]; (repeat' split) <;> first | omega | rfl) hQ
      · refine r_iload_n E 0 dX5_signAt_39 rfl rfl ?_
        refine r_iconst E 2 rfl dX5_signAt_40 ?_
        refine r_icmp_ne E 64 dX5_signAt_41 (by decide) ⟨by omega, by omega⟩ ⟨by omega, by omega⟩ (fun c_41 => ?_) (fun c_41 => ?_)
        · refine r_iload_n E 1 dX5_signAt_64 rfl rfl ?_
          refine r_if_ne E 78 dX5_signAt_65 (by decide) ⟨by omega, by omega⟩ (fun c_65 => ?_) (fun c_65 => ?_)
          · refine r_bipush E 42 rfl dX5_signAt_78 ?_
            exact r_retP E hr dX5_signAt_80 (by simp only [sSg]; (repeat' split) <;> first | omega | rfl) hQ
          · refine r_iload_n E 2 dX5_signAt_68 rfl rfl ?_
            refine r_sP E (st := []) (c_X5_hand l D c (by first | assumption | omega | exact ⟨by omega, by omega⟩)) gX5_signAt_X5_hand 1 kf_X5_hand ⟨rfl, rfl⟩ ⟨by decide, by decide⟩ dX5_signAt_69 rfl rfl ⟨Nat.zero_le _, Nat.zero_le _⟩ [] rfl (by decide) [] rfl (Nat.le_of_ble_eq_true rfl) ?_
            refine r_sP E (st := []) (c_X5_handSign l D (c / 2 % 4) (by first | assumption | omega | exact ⟨by omega, by omega⟩)) gX5_signAt_X5_handSign 1 kf_X5_handSign ⟨rfl, rfl⟩ ⟨by decide, by decide⟩ dX5_signAt_72 rfl rfl ⟨Nat.zero_le _, Nat.zero_le _⟩ [] rfl (by decide) [] rfl (Nat.le_of_ble_eq_true rfl) ?_
            refine r_goto E 80 dX5_signAt_75 (by decide) ?_
            exact r_retP E hr dX5_signAt_80 (by simp only [sSg]; (repeat' split) <;> first | omega | rfl) hQ
        · refine r_iload_n E 1 dX5_signAt_44 rfl rfl ?_
          refine r_if_ne E 61 dX5_signAt_45 (by decide) ⟨by omega, by omega⟩ (fun c_45 => ?_) (fun c_45 => ?_)
          · refine r_iinc E (k := 1) [(2, .int (iJ ((p + (-1))))), (3, .int (iJ (c / 16 % 4))), (0, .int (iJ (c))), (1, .int (iJ (p)))] dX5_signAt_61 rfl (by decide) rfl ?_
            refine r_iload_n E 0 dX5_signAt_64 rfl rfl ?_
            refine r_if_ne E 78 dX5_signAt_65 (by decide) ⟨by omega, by omega⟩ (fun c_65 => ?_) (fun c_65 => ?_)
            · refine r_bipush E 42 rfl dX5_signAt_78 ?_
              exact r_retP E hr dX5_signAt_80 (by simp only [sSg]; (repeat' split) <;> first | omega | rfl) hQ
            · refine r_iload_n E 2 dX5_signAt_68 rfl rfl ?_
              refine r_sP E (st := []) (c_X5_hand l D c (by first | assumption | omega | exact ⟨by omega, by omega⟩)) gX5_signAt_X5_hand 1 kf_X5_hand ⟨rfl, rfl⟩ ⟨by decide, by decide⟩ dX5_signAt_69 rfl rfl ⟨Nat.zero_le _, Nat.zero_le _⟩ [] rfl (by decide) [] rfl (Nat.le_of_ble_eq_true rfl) ?_
              refine r_sP E (st := []) (c_X5_handSign l D (c / 2 % 4) (by first | assumption | omega | exact ⟨by omega, by omega⟩)) gX5_signAt_X5_handSign 1 kf_X5_handSign ⟨rfl, rfl⟩ ⟨by decide, by decide⟩ dX5_signAt_72 rfl rfl ⟨Nat.zero_le _, Nat.zero_le _⟩ [] rfl (by decide) [] rfl (Nat.le_of_ble_eq_true rfl) ?_
              refine r_goto E 80 dX5_signAt_75 (by decide) ?_
              exact r_retP E hr dX5_signAt_80 (by simp only [sSg]; (repeat' split) <;> first | omega | rfl) hQ
          · refine r_iload_n E 0 dX5_signAt_48 rfl rfl ?_
            refine r_iconst E 1 rfl dX5_signAt_49 ?_
            refine r_icmp_ne E 58 dX5_signAt_50 (by decide) ⟨by omega, by omega⟩ ⟨by omega, by omega⟩ (fun c_50 => ?_) (fun c_50 => ?_)
            · refine r_bipush E 100 rfl dX5_signAt_58 ?_
              exact r_retP E hr dX5_signAt_60 (by simp only [sSg]; (repeat' split) <;> first | omega | rfl) hQ
            · refine r_bipush E 102 rfl dX5_signAt_53 ?_
              refine r_goto E 60 dX5_signAt_55 (by decide) ?_
              exact r_retP E hr dX5_signAt_60 (by simp only [sSg]; (repeat' split) <;> first | omega | rfl) hQ
    · refine r_iload_n E 0 dX5_signAt_19 rfl rfl ?_
      refine r_if_ne E 26 dX5_signAt_20 (by decide) ⟨by omega, by omega⟩ (fun c_20 => ?_) (fun c_20 => ?_)
      · refine r_iinc E (k := 0) [(2, .int (iJ ((p + (-1))))), (0, .int (iJ (c))), (1, .int (iJ (p)))] dX5_signAt_26 rfl (by decide) rfl ?_
        refine r_iload_n E 1 dX5_signAt_29 rfl rfl ?_
        refine r_sP E (st := []) (c_X5_ornament l D c (by first | assumption | omega | exact ⟨by omega, by omega⟩)) gX5_signAt_X5_ornament 1 kf_X5_ornament ⟨rfl, rfl⟩ ⟨by decide, by decide⟩ dX5_signAt_30 rfl rfl ⟨Nat.zero_le _, Nat.zero_le _⟩ [] rfl (by decide) [] rfl (Nat.le_of_ble_eq_true rfl) ?_
        refine r_istore_n E [(3, .int (iJ (c / 16 % 4))), (2, .int (iJ ((p + (-1))))), (0, .int (iJ (c))), (1, .int (iJ (p)))] dX5_signAt_33 rfl (by decide) rfl ?_
        refine r_iload_n E 0 dX5_signAt_34 rfl rfl ?_
        refine r_iconst E 1 rfl dX5_signAt_35 ?_
        refine r_icmp_eq E 44 dX5_signAt_36 (by decide) ⟨by omega, by omega⟩ ⟨by omega, by omega⟩ (fun c_36 => ?_) (fun c_36 => ?_)
        · refine r_iload_n E 1 dX5_signAt_44 rfl rfl ?_
          refine r_if_ne E 61 dX5_signAt_45 (by decide) ⟨by omega, by omega⟩ (fun c_45 => ?_) (fun c_45 => ?_)
          · refine r_iinc E (k := 1) [(2, .int (iJ (((p + (-1)) + (-1))))), (3, .int (iJ (c / 16 % 4))), (0, .int (iJ (c))), (1, .int (iJ (p)))] dX5_signAt_61 rfl (by decide) rfl ?_
            refine r_iload_n E 0 dX5_signAt_64 rfl rfl ?_
            refine r_if_ne E 78 dX5_signAt_65 (by decide) ⟨by omega, by omega⟩ (fun c_65 => ?_) (fun c_65 => ?_)
            · refine r_bipush E 42 rfl dX5_signAt_78 ?_
              exact r_retP E hr dX5_signAt_80 (by simp only [sSg]; (repeat' split) <;> first | omega | rfl) hQ
            · refine r_iload_n E 2 dX5_signAt_68 rfl rfl ?_
              refine r_sP E (st := []) (c_X5_hand l D c (by first | assumption | omega | exact ⟨by omega, by omega⟩)) gX5_signAt_X5_hand 1 kf_X5_hand ⟨rfl, rfl⟩ ⟨by decide, by decide⟩ dX5_signAt_69 rfl rfl ⟨Nat.zero_le _, Nat.zero_le _⟩ [] rfl (by decide) [] rfl (Nat.le_of_ble_eq_true rfl) ?_
              refine r_sP E (st := []) (c_X5_handSign l D (c / 2 % 4) (by first | assumption | omega | exact ⟨by omega, by omega⟩)) gX5_signAt_X5_handSign 1 kf_X5_handSign ⟨rfl, rfl⟩ ⟨by decide, by decide⟩ dX5_signAt_72 rfl rfl ⟨Nat.zero_le _, Nat.zero_le _⟩ [] rfl (by decide) [] rfl (Nat.le_of_ble_eq_true rfl) ?_
              refine r_goto E 80 dX5_signAt_75 (by decide) ?_
              exact r_retP E hr dX5_signAt_80 (by simp only [sSg]; (repeat' split) <;> first | omega | rfl) hQ
          · refine r_iload_n E 0 dX5_signAt_48 rfl rfl ?_
            refine r_iconst E 1 rfl dX5_signAt_49 ?_
            refine r_icmp_ne E 58 dX5_signAt_50 (by decide) ⟨by omega, by omega⟩ ⟨by omega, by omega⟩ (fun c_50 => ?_) (fun c_50 => ?_)
            · refine r_bipush E 100 rfl dX5_signAt_58 ?_
              exact r_retP E hr dX5_signAt_60 (by simp only [sSg]; (repeat' split) <;> first | omega | rfl) hQ
            · refine r_bipush E 102 rfl dX5_signAt_53 ?_
              refine r_goto E 60 dX5_signAt_55 (by decide) ?_
              exact r_retP E hr dX5_signAt_60 (by simp only [sSg]; (repeat' split) <;> first | omega | rfl) hQ
        · refine r_iload_n E 0 dX5_signAt_39 rfl rfl ?_
          refine r_iconst E 2 rfl dX5_signAt_40 ?_
          refine r_icmp_ne E 64 dX5_signAt_41 (by decide) ⟨by omega, by omega⟩ ⟨by omega, by omega⟩ (fun c_41 => ?_) (fun c_41 => ?_)
          · refine r_iload_n E 1 dX5_signAt_64 rfl rfl ?_
            refine r_if_ne E 78 dX5_signAt_65 (by decide) ⟨by omega, by omega⟩ (fun c_65 => ?_) (fun c_65 => ?_)
            · refine r_bipush E 42 rfl dX5_signAt_78 ?_
              exact r_retP E hr dX5_signAt_80 (by simp only [sSg]; (repeat' split) <;> first | omega | rfl) hQ
            · refine r_iload_n E 2 dX5_signAt_68 rfl rfl ?_
              refine r_sP E (st := []) (c_X5_hand l D c (by first | assumption | omega | exact ⟨by omega, by omega⟩)) gX5_signAt_X5_hand 1 kf_X5_hand ⟨rfl, rfl⟩ ⟨by decide, by decide⟩ dX5_signAt_69 rfl rfl ⟨Nat.zero_le _, Nat.zero_le _⟩ [] rfl (by decide) [] rfl (Nat.le_of_ble_eq_true rfl) ?_
              refine r_sP E (st := []) (c_X5_handSign l D (c / 2 % 4) (by first | assumption | omega | exact ⟨by omega, by omega⟩)) gX5_signAt_X5_handSign 1 kf_X5_handSign ⟨rfl, rfl⟩ ⟨by decide, by decide⟩ dX5_signAt_72 rfl rfl ⟨Nat.zero_le _, Nat.zero_le _⟩ [] rfl (by decide) [] rfl (Nat.le_of_ble_eq_true rfl) ?_
              refine r_goto E 80 dX5_signAt_75 (by decide) ?_
              exact r_retP E hr dX5_signAt_80 (by simp only [sSg]; (repeat' split) <;> first | omega | rfl) hQ
          · refine r_iload_n E 1 dX5_signAt_44 rfl rfl ?_
            refine r_if_ne E 61 dX5_signAt_45 (by decide) ⟨by omega, by omega⟩ (fun c_45 => ?_) (fun c_45 => ?_)
            · refine r_iinc E (k := 1) [(2, .int (iJ (((p + (-1)) + (-1))))), (3, .int (iJ (c / 16 % 4))), (0, .int (iJ (c))), (1, .int (iJ (p)))] dX5_signAt_61 rfl (by decide) rfl ?_
              refine r_iload_n E 0 dX5_signAt_64 rfl rfl ?_
              refine r_if_ne E 78 dX5_signAt_65 (by decide) ⟨by omega, by omega⟩ (fun c_65 => ?_) (fun c_65 => ?_)
              · refine r_bipush E 42 rfl dX5_signAt_78 ?_
                exact r_retP E hr dX5_signAt_80 (by simp only [sSg]; (repeat' split) <;> first | omega | rfl) hQ
              · refine r_iload_n E 2 dX5_signAt_68 rfl rfl ?_
                refine r_sP E (st := []) (c_X5_hand l D c (by first | assumption | omega | exact ⟨by omega, by omega⟩)) gX5_signAt_X5_hand 1 kf_X5_hand ⟨rfl, rfl⟩ ⟨by decide, by decide⟩ dX5_signAt_69 rfl rfl ⟨Nat.zero_le _, Nat.zero_le _⟩ [] rfl (by decide) [] rfl (Nat.le_of_ble_eq_true rfl) ?_
                refine r_sP E (st := []) (c_X5_handSign l D (c / 2 % 4) (by first | assumption | omega | exact ⟨by omega, by omega⟩)) gX5_signAt_X5_handSign 1 kf_X5_handSign ⟨rfl, rfl⟩ ⟨by decide, by decide⟩ dX5_signAt_72 rfl rfl ⟨Nat.zero_le _, Nat.zero_le _⟩ [] rfl (by decide) [] rfl (Nat.le_of_ble_eq_true rfl) ?_
                refine r_goto E 80 dX5_signAt_75 (by decide) ?_
                exact r_retP E hr dX5_signAt_80 (by simp only [sSg]; (repeat' split) <;> first | omega | rfl) hQ
            · refine r_iload_n E 0 dX5_signAt_48 rfl rfl ?_
              refine r_iconst E 1 rfl dX5_signAt_49 ?_
              refine r_icmp_ne E 58 dX5_signAt_50 (by decide) ⟨by omega, by omega⟩ ⟨by omega, by omega⟩ (fun c_50 => ?_) (fun c_50 => ?_)
              · refine r_bipush E 100 rfl dX5_signAt_58 ?_
                exact r_retP E hr dX5_signAt_60 (by simp only [sSg]; (repeat' split) <;> first | omega | rfl) hQ
              · refine r_bipush E 102 rfl dX5_signAt_53 ?_
                refine r_goto E 60 dX5_signAt_55 (by decide) ?_
                exact r_retP E hr dX5_signAt_60 (by simp only [sSg]; (repeat' split) <;> first | omega | rfl) hQ
      · refine r_bipush E 62 rfl dX5_signAt_23 ?_
        exact r_retP E hr dX5_signAt_25 (by simp only [sSg]; (repeat' split) <;> first | omega | rfl) hQ
  · refine r_bipush E 46 rfl dX5_signAt_7 ?_
    exact r_retP E hr dX5_signAt_9 (by simp only [sSg]; (repeat' split) <;> first | omega | rfl) hQ
theorem kf_X6_otherHand : KF yX6_otherHand 1 wsX6_otherHand cX6_otherHand 1 (some .int) := ⟨rfl, by decide +kernel, by decide +kernel, by decide +kernel⟩
def rm_X6_otherHand : Room := { frames := 0, cells := 0, slots := 0, locals := 0 }
set_option maxHeartbeats 1000000 in
set_option maxRecDepth 100000 in
theorem c_X6_otherHand (l : Launch) (D : va_G) (h : Int) (hh : 0 ≤ h ∧ h < 4) : MP l yX6_otherHand wsX6_otherHand rm_X6_otherHand D vwCl [.int (iJ (h))] [] [] ((if h = 0 then 1 else 0)) := by
  refine MP.mk (cc := cX6_otherHand) (maxL := 1) (ret := (some .int)) (by decide) rfl (Nat.le_of_ble_eq_true rfl) rfl RX6 rfl ?_
  intro p_ e_ s_ m_ ar_ bw_ mt_ cd_ Q_ E hr hQ
  refine r_iload_n E 0 dX6_otherHand_0 rfl rfl ?_
  refine r_if_ne E 8 dX6_otherHand_1 (by decide) ⟨by omega, by omega⟩ (fun c_1 => ?_) (fun c_1 => ?_)
  · refine r_iconst E 0 rfl dX6_otherHand_8 ?_
    exact r_retP E hr dX6_otherHand_9 (by (repeat' split) <;> omega) hQ
  · refine r_iconst E 1 rfl dX6_otherHand_4 ?_
    refine r_goto E 9 dX6_otherHand_5 (by decide) ?_
    exact r_retP E hr dX6_otherHand_9 (by (repeat' split) <;> omega) hQ
