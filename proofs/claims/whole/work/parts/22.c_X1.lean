theorem kf_X4_isHandSign : KF yX4_isHandSign 1 wsX4_isHandSign cX4_isHandSign 1 (some .boolean) := ⟨rfl, by decide +kernel, by decide +kernel, by decide +kernel⟩
def rm_X4_isHandSign : Room := { frames := 0, cells := 0, slots := 0, locals := 0 }
set_option maxHeartbeats 1000000 in
set_option maxRecDepth 100000 in
theorem c_X4_isHandSign (l : Launch) (D : va_G) (c : Int) (hc : jb c) : MP l yX4_isHandSign wsX4_isHandSign rm_X4_isHandSign D vwCl [.int (iJ (c))] [] [] (b2 (hsP c)) := by
  refine MP.mk (cc := cX4_isHandSign) (maxL := 1) (ret := (some .boolean)) (by decide) rfl (Nat.le_of_ble_eq_true rfl) rfl RX4 rfl ?_
  intro p_ e_ s_ m_ ar_ bw_ mt_ cd_ Q_ E hr hQ
  refine r_iload_n E 0 dX4_isHandSign_0 rfl rfl ?_
  refine r_bipush E 82 rfl dX4_isHandSign_1 ?_
  refine r_icmp_eq E 18 dX4_isHandSign_3 (by decide) hc ⟨by omega, by omega⟩ (fun c_3 => ?_) (fun c_3 => ?_)
  · refine r_iconst E 1 rfl dX4_isHandSign_18 ?_
    refine r_goto E 23 dX4_isHandSign_19 (by decide) ?_
    exact r_retPZ E hr dX4_isHandSign_23 (by omega) (by first | rfl | exact (b2_t (by first | omega | assumption)).symm | exact (b2_f (by first | omega | assumption)).symm | omega | assumption) hQ
  · refine r_iload_n E 0 dX4_isHandSign_6 rfl rfl ?_
    refine r_bipush E 76 rfl dX4_isHandSign_7 ?_
    refine r_icmp_eq E 18 dX4_isHandSign_9 (by decide) hc ⟨by omega, by omega⟩ (fun c_9 => ?_) (fun c_9 => ?_)
    · refine r_iconst E 1 rfl dX4_isHandSign_18 ?_
      refine r_goto E 23 dX4_isHandSign_19 (by decide) ?_
      exact r_retPZ E hr dX4_isHandSign_23 (by omega) (by first | rfl | exact (b2_t (by first | omega | assumption)).symm | exact (b2_f (by first | omega | assumption)).symm | omega | assumption) hQ
    · refine r_iload_n E 0 dX4_isHandSign_12 rfl rfl ?_
      refine r_bipush E 120 rfl dX4_isHandSign_13 ?_
      refine r_icmp_ne E 22 dX4_isHandSign_15 (by decide) hc ⟨by omega, by omega⟩ (fun c_15 => ?_) (fun c_15 => ?_)
      · refine r_iconst E 0 rfl dX4_isHandSign_22 ?_
        exact r_retPZ E hr dX4_isHandSign_23 (by omega) (by first | rfl | exact (b2_t (by first | omega | assumption)).symm | exact (b2_f (by first | omega | assumption)).symm | omega | assumption) hQ
      · refine r_iconst E 1 rfl dX4_isHandSign_18 ?_
        refine r_goto E 23 dX4_isHandSign_19 (by decide) ?_
        exact r_retPZ E hr dX4_isHandSign_23 (by omega) (by first | rfl | exact (b2_t (by first | omega | assumption)).symm | exact (b2_f (by first | omega | assumption)).symm | omega | assumption) hQ
theorem kf_X4_handOf : KF yX4_handOf 1 wsX4_handOf cX4_handOf 1 (some .int) := ⟨rfl, by decide +kernel, by decide +kernel, by decide +kernel⟩
def rm_X4_handOf : Room := { frames := 0, cells := 0, slots := 0, locals := 0 }
set_option maxHeartbeats 1000000 in
set_option maxRecDepth 100000 in
theorem c_X4_handOf (l : Launch) (D : va_G) (c : Int) (hc : jb c) : MP l yX4_handOf wsX4_handOf rm_X4_handOf D vwCl [.int (iJ (c))] [] [] (rHd c) := by
  refine MP.mk (cc := cX4_handOf) (maxL := 1) (ret := (some .int)) (by decide) rfl (Nat.le_of_ble_eq_true rfl) rfl RX4 rfl ?_
  intro p_ e_ s_ m_ ar_ bw_ mt_ cd_ Q_ E hr hQ
  refine r_iload_n E 0 dX4_handOf_0 rfl rfl ?_
  refine r_bipush E 120 rfl dX4_handOf_1 ?_
  refine r_icmp_ne E 8 dX4_handOf_3 (by decide) hc ⟨by omega, by omega⟩ (fun c_3 => ?_) (fun c_3 => ?_)
  · refine r_iload_n E 0 dX4_handOf_8 rfl rfl ?_
    refine r_bipush E 82 rfl dX4_handOf_9 ?_
    refine r_icmp_ne E 18 dX4_handOf_11 (by decide) hc ⟨by omega, by omega⟩ (fun c_11 => ?_) (fun c_11 => ?_)
    · refine r_iconst E 1 rfl dX4_handOf_18 ?_
      exact r_retP E hr dX4_handOf_19 (by simp only [rHd]; (repeat' split) <;> omega) hQ
    · refine r_iconst E 0 rfl dX4_handOf_14 ?_
      refine r_goto E 19 dX4_handOf_15 (by decide) ?_
      exact r_retP E hr dX4_handOf_19 (by simp only [rHd]; (repeat' split) <;> omega) hQ
  · refine r_iconst E 2 rfl dX4_handOf_6 ?_
    exact r_retP E hr dX4_handOf_7 (by simp only [rHd]; (repeat' split) <;> omega) hQ
theorem kf_X4_isTimes : KF yX4_isTimes 1 wsX4_isTimes cX4_isTimes 1 (some .boolean) := ⟨rfl, by decide +kernel, by decide +kernel, by decide +kernel⟩
def rm_X4_isTimes : Room := { frames := 0, cells := 0, slots := 0, locals := 0 }
set_option maxHeartbeats 1000000 in
set_option maxRecDepth 100000 in
theorem c_X4_isTimes (l : Launch) (D : va_G) (c : Int) (hc : jb c) : MP l yX4_isTimes wsX4_isTimes rm_X4_isTimes D vwCl [.int (iJ (c))] [] [] (b2 (50 ≤ c ∧ c ≤ 57)) := by
  refine MP.mk (cc := cX4_isTimes) (maxL := 1) (ret := (some .boolean)) (by decide) rfl (Nat.le_of_ble_eq_true rfl) rfl RX4 rfl ?_
  intro p_ e_ s_ m_ ar_ bw_ mt_ cd_ Q_ E hr hQ
  refine r_iload_n E 0 dX4_isTimes_0 rfl rfl ?_
  refine r_bipush E 50 rfl dX4_isTimes_1 ?_
  refine r_icmp_lt E 16 dX4_isTimes_3 (by decide) hc ⟨by omega, by omega⟩ (fun c_3 => ?_) (fun c_3 => ?_)
  · refine r_iconst E 0 rfl dX4_isTimes_16 ?_
    exact r_retPZ E hr dX4_isTimes_17 (by omega) (by first | rfl | exact (b2_t (by first | omega | assumption)).symm | exact (b2_f (by first | omega | assumption)).symm | omega | assumption) hQ
  · refine r_iload_n E 0 dX4_isTimes_6 rfl rfl ?_
    refine r_bipush E 57 rfl dX4_isTimes_7 ?_
    refine r_icmp_gt E 16 dX4_isTimes_9 (by decide) ⟨by omega, by omega⟩ ⟨by omega, by omega⟩ (fun c_9 => ?_) (fun c_9 => ?_)
    · refine r_iconst E 0 rfl dX4_isTimes_16 ?_
      exact r_retPZ E hr dX4_isTimes_17 (by omega) (by first | rfl | exact (b2_t (by first | omega | assumption)).symm | exact (b2_f (by first | omega | assumption)).symm | omega | assumption) hQ
    · refine r_iconst E 1 rfl dX4_isTimes_12 ?_
      refine r_goto E 17 dX4_isTimes_13 (by decide) ?_
      exact r_retPZ E hr dX4_isTimes_17 (by omega) (by first | rfl | exact (b2_t (by first | omega | assumption)).symm | exact (b2_f (by first | omega | assumption)).symm | omega | assumption) hQ
theorem kf_X4_stateInStroke : KF yX4_stateInStroke 1 wsX4_stateInStroke cX4_stateInStroke 1 (some .int) := ⟨rfl, by decide +kernel, by decide +kernel, by decide +kernel⟩
def rm_X4_stateInStroke : Room := { frames := 1, cells := 0, slots := 0, locals := 20 }
set_option maxHeartbeats 1000000 in
set_option maxRecDepth 100000 in
theorem c_X4_stateInStroke (l : Launch) (D : va_G) (c : Int) (hc : jb c) : MP l yX4_stateInStroke wsX4_stateInStroke rm_X4_stateInStroke D vwCl [.int (iJ (c))] [] [] (stS c) := by
  refine MP.mk (cc := cX4_stateInStroke) (maxL := 1) (ret := (some .int)) (by decide) rfl (Nat.le_of_ble_eq_true rfl) rfl RX4 rfl ?_
  intro p_ e_ s_ m_ ar_ bw_ mt_ cd_ Q_ E hr hQ
  refine r_iload_n E 0 dX4_stateInStroke_0 rfl rfl ?_
  refine r_bipush E 102 rfl dX4_stateInStroke_1 ?_
  refine r_icmp_eq E 12 dX4_stateInStroke_3 (by decide) hc ⟨by omega, by omega⟩ (fun c_3 => ?_) (fun c_3 => ?_)
  · refine r_iconst E 4 rfl dX4_stateInStroke_12 ?_
    exact r_retP E hr dX4_stateInStroke_13 (by simp only [stS]; (repeat' split) <;> omega) hQ
  · refine r_iload_n E 0 dX4_stateInStroke_6 rfl rfl ?_
    refine r_bipush E 100 rfl dX4_stateInStroke_7 ?_
    refine r_icmp_ne E 14 dX4_stateInStroke_9 (by decide) hc ⟨by omega, by omega⟩ (fun c_9 => ?_) (fun c_9 => ?_)
    · refine r_iload_n E 0 dX4_stateInStroke_14 rfl rfl ?_
      refine r_sP E (st := []) (c_X4_isHandSign l D c (by first | assumption | omega | exact ⟨by omega, by omega⟩)) gX4_stateInStroke_X4_isHandSign 1 kf_X4_isHandSign ⟨rfl, rfl⟩ ⟨by decide, by decide⟩ dX4_stateInStroke_15 rfl rfl ⟨Nat.zero_le _, Nat.zero_le _⟩ [] rfl (by decide) [] rfl (Nat.le_of_ble_eq_true rfl) ?_
      refine r_ifeq_b E 25 dX4_stateInStroke_18 (by decide) (fun c_18 => ?_) (fun c_18 => ?_)
      · refine r_iconst E (-1) rfl dX4_stateInStroke_25 ?_
        exact r_retP E hr dX4_stateInStroke_26 (by simp only [stS]; (repeat' split) <;> omega) hQ
      · refine r_iconst E 2 rfl dX4_stateInStroke_21 ?_
        refine r_goto E 26 dX4_stateInStroke_22 (by decide) ?_
        exact r_retP E hr dX4_stateInStroke_26 (by simp only [stS]; (repeat' split) <;> omega) hQ
    · refine r_iconst E 4 rfl dX4_stateInStroke_12 ?_
      exact r_retP E hr dX4_stateInStroke_13 (by simp only [stS]; (repeat' split) <;> omega) hQ
theorem kf_X4_stateInItem : KF yX4_stateInItem 1 wsX4_stateInItem cX4_stateInItem 1 (some .int) := ⟨rfl, by decide +kernel, by decide +kernel, by decide +kernel⟩
def rm_X4_stateInItem : Room := { frames := 2, cells := 0, slots := 0, locals := 40 }
set_option maxHeartbeats 1000000 in
set_option maxRecDepth 100000 in
theorem c_X4_stateInItem (l : Launch) (D : va_G) (c : Int) (hc : jb c) : MP l yX4_stateInItem wsX4_stateInItem rm_X4_stateInItem D vwCl [.int (iJ (c))] [] [] (stI c) := by
  refine MP.mk (cc := cX4_stateInItem) (maxL := 1) (ret := (some .int)) (by decide) rfl (Nat.le_of_ble_eq_true rfl) rfl RX4 rfl ?_
  intro p_ e_ s_ m_ ar_ bw_ mt_ cd_ Q_ E hr hQ
  refine r_iload_n E 0 dX4_stateInItem_0 rfl rfl ?_
  refine r_bipush E 46 rfl dX4_stateInItem_1 ?_
  refine r_icmp_ne E 8 dX4_stateInItem_3 (by decide) hc ⟨by omega, by omega⟩ (fun c_3 => ?_) (fun c_3 => ?_)
  · refine r_iload_n E 0 dX4_stateInItem_8 rfl rfl ?_
    refine r_bipush E 62 rfl dX4_stateInItem_9 ?_
    refine r_icmp_ne E 16 dX4_stateInItem_11 (by decide) hc ⟨by omega, by omega⟩ (fun c_11 => ?_) (fun c_11 => ?_)
    · refine r_iload_n E 0 dX4_stateInItem_16 rfl rfl ?_
      refine r_sP E (st := []) (c_X4_isTimes l D c (by first | assumption | omega | exact ⟨by omega, by omega⟩)) gX4_stateInItem_X4_isTimes 1 kf_X4_isTimes ⟨rfl, rfl⟩ ⟨by decide, by decide⟩ dX4_stateInItem_17 rfl rfl ⟨Nat.zero_le _, Nat.zero_le _⟩ [] rfl (by decide) [] rfl (Nat.le_of_ble_eq_true rfl) ?_
      refine r_ifeq_b E 27 dX4_stateInItem_20 (by decide) (fun c_20 => ?_) (fun c_20 => ?_)
      · refine r_iload_n E 0 dX4_stateInItem_27 rfl rfl ?_
        refine r_sP E (st := []) (c_X4_stateInStroke l D c (by first | assumption | omega | exact ⟨by omega, by omega⟩)) gX4_stateInItem_X4_stateInStroke 1 kf_X4_stateInStroke ⟨rfl, rfl⟩ ⟨by decide, by decide⟩ dX4_stateInItem_28 rfl rfl ⟨Nat.zero_le _, Nat.zero_le _⟩ [] rfl (by decide) [] rfl (Nat.le_of_ble_eq_true rfl) ?_
        exact r_retP E hr dX4_stateInItem_31 (by simp only [stI]; (repeat' split) <;> omega) hQ
      · refine r_iconst E 5 rfl dX4_stateInItem_23 ?_
        refine r_goto E 31 dX4_stateInItem_24 (by decide) ?_
        exact r_retP E hr dX4_stateInItem_31 (by simp only [stI]; (repeat' split) <;> omega) hQ
    · refine r_iconst E 3 rfl dX4_stateInItem_14 ?_
      exact r_retP E hr dX4_stateInItem_15 (by simp only [stI]; (repeat' split) <;> omega) hQ
  · refine r_iconst E 1 rfl dX4_stateInItem_6 ?_
    exact r_retP E hr dX4_stateInItem_7 (by simp only [stI]; (repeat' split) <;> omega) hQ
theorem kf_X4_stateBehindItem : KF yX4_stateBehindItem 2 wsX4_stateBehindItem cX4_stateBehindItem 2 (some .int) := ⟨rfl, by decide +kernel, by decide +kernel, by decide +kernel⟩
def rm_X4_stateBehindItem : Room := { frames := 3, cells := 0, slots := 0, locals := 60 }
set_option maxHeartbeats 1000000 in
set_option maxRecDepth 100000 in
theorem c_X4_stateBehindItem (l : Launch) (D : va_G) (c : Int) (d : Int) (hc : jb c) (hd : jb d) : MP l yX4_stateBehindItem wsX4_stateBehindItem rm_X4_stateBehindItem D vwCl [.int (iJ (c)), .int (iJ (d))] [] [] (stBI c d) := by
  refine MP.mk (cc := cX4_stateBehindItem) (maxL := 2) (ret := (some .int)) (by decide) rfl (Nat.le_of_ble_eq_true rfl) rfl RX4 rfl ?_
  intro p_ e_ s_ m_ ar_ bw_ mt_ cd_ Q_ E hr hQ
  refine r_iload_n E 0 dX4_stateBehindItem_0 rfl rfl ?_
  refine r_bipush E 41 rfl dX4_stateBehindItem_1 ?_
  refine r_icmp_ne E 16 dX4_stateBehindItem_3 (by decide) hc ⟨by omega, by omega⟩ (fun c_3 => ?_) (fun c_3 => ?_)
  · refine r_iload_n E 0 dX4_stateBehindItem_16 rfl rfl ?_
    refine r_sP E (st := []) (c_X4_stateInItem l D c (by first | assumption | omega | exact ⟨by omega, by omega⟩)) gX4_stateBehindItem_X4_stateInItem 1 kf_X4_stateInItem ⟨rfl, rfl⟩ ⟨by decide, by decide⟩ dX4_stateBehindItem_17 rfl rfl ⟨Nat.zero_le _, Nat.zero_le _⟩ [] rfl (by decide) [] rfl (Nat.le_of_ble_eq_true rfl) ?_
    exact r_retP E hr dX4_stateBehindItem_20 (by simp only [stBI]; (repeat' split) <;> omega) hQ
  · refine r_iload_n E 1 dX4_stateBehindItem_6 rfl rfl ?_
    refine r_if_le E 14 dX4_stateBehindItem_7 (by decide) hd (fun c_7 => ?_) (fun c_7 => ?_)
    · refine r_iconst E (-1) rfl dX4_stateBehindItem_14 ?_
      exact r_retP E hr dX4_stateBehindItem_15 (by simp only [stBI]; (repeat' split) <;> omega) hQ
    · refine r_iconst E 1 rfl dX4_stateBehindItem_10 ?_
      refine r_goto E 15 dX4_stateBehindItem_11 (by decide) ?_
      exact r_retP E hr dX4_stateBehindItem_15 (by simp only [stBI]; (repeat' split) <;> omega) hQ
theorem kf_X4_stateBehind : KF yX4_stateBehind 3 wsX4_stateBehind cX4_stateBehind 3 (some .int) := ⟨rfl, by decide +kernel, by decide +kernel, by decide +kernel⟩
def rm_X4_stateBehind : Room := { frames := 4, cells := 0, slots := 0, locals := 81 }
set_option maxHeartbeats 1000000 in
set_option maxRecDepth 100000 in
theorem c_X4_stateBehind (l : Launch) (D : va_G) (x : Int) (c : Int) (d : Int) (hx : 0 ≤ x ∧ x ≤ 5) (hc : jb c) (hd : jb d) : MP l yX4_stateBehind wsX4_stateBehind rm_X4_stateBehind D vwCl [.int (iJ (x)), .int (iJ (c)), .int (iJ (d))] [] [] (stB x c d) := by
  refine MP.mk (cc := cX4_stateBehind) (maxL := 3) (ret := (some .int)) (by decide) rfl (Nat.le_of_ble_eq_true rfl) rfl RX4 rfl ?_
  intro p_ e_ s_ m_ ar_ bw_ mt_ cd_ Q_ E hr hQ
  refine r_iload_n E 0 dX4_stateBehind_0 rfl rfl ?_
  by_cases c_1_0 : x = 1
  · refine r_tabIn E 1 82 dX4_stateBehind_1 c_1_0 ⟨by decide, by decide⟩ (by decide) (by decide) rfl (by decide) ?_
    refine r_iload_n E 1 dX4_stateBehind_82 rfl rfl ?_
    refine r_iload_n E 2 dX4_stateBehind_83 rfl rfl ?_
    refine r_sP E (st := []) (c_X4_stateBehindItem l D c d (by first | assumption | omega | exact ⟨by omega, by omega⟩) (by first | assumption | omega | exact ⟨by omega, by omega⟩)) gX4_stateBehind_X4_stateBehindItem 2 kf_X4_stateBehindItem ⟨rfl, rfl⟩ ⟨by decide, by decide⟩ dX4_stateBehind_84 rfl rfl ⟨Nat.zero_le _, Nat.zero_le _⟩ [] rfl (by decide) [] rfl (Nat.le_of_ble_eq_true rfl) ?_
    exact r_retP E hr dX4_stateBehind_87 (by simp only [stB]; (repeat' split) <;> omega) hQ
  by_cases c_1_1 : x = 2
  · refine r_tabIn E 2 66 dX4_stateBehind_1 c_1_1 ⟨by decide, by decide⟩ (by decide) (by decide) rfl (by decide) ?_
    refine r_iload_n E 1 dX4_stateBehind_66 rfl rfl ?_
    refine r_bipush E 42 rfl dX4_stateBehind_67 ?_
    refine r_icmp_ne E 76 dX4_stateBehind_69 (by decide) hc ⟨by omega, by omega⟩ (fun c_69 => ?_) (fun c_69 => ?_)
    · refine r_iload_n E 1 dX4_stateBehind_76 rfl rfl ?_
      refine r_iload_n E 2 dX4_stateBehind_77 rfl rfl ?_
      refine r_sP E (st := []) (c_X4_stateBehindItem l D c d (by first | assumption | omega | exact ⟨by omega, by omega⟩) (by first | assumption | omega | exact ⟨by omega, by omega⟩)) gX4_stateBehind_X4_stateBehindItem 2 kf_X4_stateBehindItem ⟨rfl, rfl⟩ ⟨by decide, by decide⟩ dX4_stateBehind_78 rfl rfl ⟨Nat.zero_le _, Nat.zero_le _⟩ [] rfl (by decide) [] rfl (Nat.le_of_ble_eq_true rfl) ?_
      exact r_retP E hr dX4_stateBehind_81 (by simp only [stB]; (repeat' split) <;> omega) hQ
    · refine r_iconst E 1 rfl dX4_stateBehind_72 ?_
      refine r_goto E 81 dX4_stateBehind_73 (by decide) ?_
      exact r_retP E hr dX4_stateBehind_81 (by simp only [stB]; (repeat' split) <;> omega) hQ
  by_cases c_1_2 : x = 3
  · refine r_tabIn E 3 61 dX4_stateBehind_1 c_1_2 ⟨by decide, by decide⟩ (by decide) (by decide) rfl (by decide) ?_
    refine r_iload_n E 1 dX4_stateBehind_61 rfl rfl ?_
    refine r_sP E (st := []) (c_X4_stateInStroke l D c (by first | assumption | omega | exact ⟨by omega, by omega⟩)) gX4_stateBehind_X4_stateInStroke 1 kf_X4_stateInStroke ⟨rfl, rfl⟩ ⟨by decide, by decide⟩ dX4_stateBehind_62 rfl rfl ⟨Nat.zero_le _, Nat.zero_le _⟩ [] rfl (by decide) [] rfl (Nat.le_of_ble_eq_true rfl) ?_
    exact r_retP E hr dX4_stateBehind_65 (by simp only [stB]; (repeat' split) <;> omega) hQ
  by_cases c_1_3 : x = 4
  · refine r_tabIn E 4 48 dX4_stateBehind_1 c_1_3 ⟨by decide, by decide⟩ (by decide) (by decide) rfl (by decide) ?_
    refine r_iload_n E 1 dX4_stateBehind_48 rfl rfl ?_
    refine r_sP E (st := []) (c_X4_isHandSign l D c (by first | assumption | omega | exact ⟨by omega, by omega⟩)) gX4_stateBehind_X4_isHandSign 1 kf_X4_isHandSign ⟨rfl, rfl⟩ ⟨by decide, by decide⟩ dX4_stateBehind_49 rfl rfl ⟨Nat.zero_le _, Nat.zero_le _⟩ [] rfl (by decide) [] rfl (Nat.le_of_ble_eq_true rfl) ?_
    refine r_ifeq_b E 59 dX4_stateBehind_52 (by decide) (fun c_52 => ?_) (fun c_52 => ?_)
    · refine r_iconst E (-1) rfl dX4_stateBehind_59 ?_
      exact r_retP E hr dX4_stateBehind_60 (by simp only [stB]; (repeat' split) <;> omega) hQ
    · refine r_iconst E 1 rfl dX4_stateBehind_55 ?_
      refine r_goto E 60 dX4_stateBehind_56 (by decide) ?_
      exact r_retP E hr dX4_stateBehind_60 (by simp only [stB]; (repeat' split) <;> omega) hQ
  by_cases c_1_4 : x = 5
  · refine r_tabIn E 5 36 dX4_stateBehind_1 c_1_4 ⟨by decide, by decide⟩ (by decide) (by decide) rfl (by decide) ?_
    refine r_iload_n E 1 dX4_stateBehind_36 rfl rfl ?_
    refine r_bipush E 40 rfl dX4_stateBehind_37 ?_
    refine r_icmp_ne E 46 dX4_stateBehind_39 (by decide) hc ⟨by omega, by omega⟩ (fun c_39 => ?_) (fun c_39 => ?_)
    · refine r_iconst E (-1) rfl dX4_stateBehind_46 ?_
      exact r_retP E hr dX4_stateBehind_47 (by simp only [stB]; (repeat' split) <;> omega) hQ
    · refine r_iconst E 0 rfl dX4_stateBehind_42 ?_
      refine r_goto E 47 dX4_stateBehind_43 (by decide) ?_
      exact r_retP E hr dX4_stateBehind_47 (by simp only [stB]; (repeat' split) <;> omega) hQ
  refine r_tabOut E 88 dX4_stateBehind_1 ⟨by omega, by omega⟩ (by omega) (by decide) ?_
  refine r_iload_n E 1 dX4_stateBehind_88 rfl rfl ?_
  refine r_sP E (st := []) (c_X4_stateInItem l D c (by first | assumption | omega | exact ⟨by omega, by omega⟩)) gX4_stateBehind_X4_stateInItem 1 kf_X4_stateInItem ⟨rfl, rfl⟩ ⟨by decide, by decide⟩ dX4_stateBehind_89 rfl rfl ⟨Nat.zero_le _, Nat.zero_le _⟩ [] rfl (by decide) [] rfl (Nat.le_of_ble_eq_true rfl) ?_
  exact r_retP E hr dX4_stateBehind_92 (by simp only [stB]; (repeat' split) <;> omega) hQ
theorem kf_X1_add : KF yX1_add 1 wsX1_add cX1_add 2 (some .boolean) := ⟨rfl, by decide +kernel, by decide +kernel, by decide +kernel⟩
def rm_X1_add : Room := { frames := 0, cells := 0, slots := 0, locals := 0 }
set_option maxRecDepth 20000 in
theorem in_X1_add_X1 : ∀ w ∈ u_ws RX1 TX1 2, w ∈ wsX1_add := by decide +kernel
set_option maxRecDepth 20000 in
theorem lk_X1_add_15 : Cond.fieldLink RX1 15 (TX1 1).1 (TX1 1).2.1 (TX1 1).2.2.1 ∈ wsX1_add := by decide +kernel
set_option maxRecDepth 20000 in
theorem lk_X1_add_9 : Cond.fieldLink RX1 9 (TX1 0).1 (TX1 0).2.1 (TX1 0).2.2.1 ∈ wsX1_add := by decide +kernel
set_option maxHeartbeats 1000000 in
set_option maxRecDepth 100000 in
theorem c_X1_add (l : Launch) (D : va_G) (h0 : Nat) (h1 : Nat) (cI : ClassId) (g : Int → Int) (n : Int) (v : Int) (hn : 0 ≤ n ∧ n ≤ 60) (hf : n < 60) : MM (S := Unit) l yX1_add wsX1_add rm_X1_add D vwCl [.ref h0, .int (iJ (v))] [(h0, .inr (1, [.ref h1, .int (iJ (n))])), (h1, cJ cI 60 (g))] [(cI, .int)] (fun (_ : Unit) => 1) (fun (_ : Unit) => True) (fun (_ : Unit) => [(h0, .inr (1, [.ref h1, .int (iJ ((n + 1)))])), (h1, cJ cI 60 (uJ g n v))]) := by
  refine MM.mk (cc := cX1_add) (maxL := 2) (ret := (some .boolean)) (by decide) rfl (Nat.le_of_ble_eq_true rfl) rfl RX1 rfl ?_
  intro p_ e_ s_ m_ ar_ bw_ mt_ cd_ B_ Q_ hA E hr hQ
  refine r_aload_n E 0 dX1_add_0 rfl rfl ?_
  refine r_get E 1 0 1 dX1_add_1 in_X1_add_X1 lk_X1_add_15 rfl rfl (by decide) rfl ?_
  refine r_aload_n E 0 dX1_add_4 rfl rfl ?_
  refine r_get E 1 0 0 dX1_add_5 in_X1_add_X1 lk_X1_add_9 rfl rfl (by decide) rfl ?_
  refine r_alen E 1 0 60 dX1_add_8 rfl rfl rfl ?_
  refine r_top (b := 60) (by rfl) ?_
  refine r_icmp_lt E 14 dX1_add_9 (by decide) ⟨by omega, by omega⟩ ⟨by omega, by omega⟩ (fun c_9 => ?_) (fun c_9 => absurd c_9 (by omega))
  refine r_aload_n E 0 dX1_add_14 rfl rfl ?_
  refine r_get E 1 0 0 dX1_add_15 in_X1_add_X1 lk_X1_add_9 rfl rfl (by decide) rfl ?_
  refine r_aload_n E 0 dX1_add_18 rfl rfl ?_
  refine r_get E 1 0 1 dX1_add_19 in_X1_add_X1 lk_X1_add_15 rfl rfl (by decide) rfl ?_
  refine r_iload_n E 1 dX1_add_22 rfl rfl ?_
  refine r_iast E (i := n) 1 0 dX1_add_23 rfl rfl (by decide) ⟨by omega, by omega⟩ [(h0, .inr (1, [.ref h1, .int (iJ (n))])), (h1, cJ cI 60 (uJ g n v))] rfl ?_
  refine r_aload_n E 0 dX1_add_24 rfl rfl ?_
  refine r_dup E dX1_add_25 rfl ?_
  refine r_get E 1 0 1 dX1_add_26 in_X1_add_X1 lk_X1_add_15 rfl rfl (by decide) rfl ?_
  refine r_iconst E 1 rfl dX1_add_29 ?_
  refine r_iadd E dX1_add_30 ?_
  refine r_put E (ty := .int) 1 0 1 tyX1 tyX1_ok nmX1 dX1_add_31 in_X1_add_X1 lk_X1_add_15 rfl rfl (by decide) rfl (by decide +kernel) rfl rfl (Nat.le_of_ble_eq_true rfl) [(h0, .inr (1, [.ref h1, .int (iJ ((n + 1)))])), (h1, cJ cI 60 (uJ g n v))] rfl ?_
  refine r_iconst E 1 rfl dX1_add_34 ?_
  exact r_retMZ E () hr dX1_add_35 (by omega) rfl trivial rfl hQ
set_option maxHeartbeats 1000000 in
set_option maxRecDepth 100000 in
theorem c_X1_addNo (l : Launch) (D : va_G) (h0 : Nat) (h1 : Nat) (cI : ClassId) (g : Int → Int) (n : Int) (v : Int) (hn : 0 ≤ n ∧ n ≤ 60) (hf : n = 60) : MM (S := Unit) l yX1_add wsX1_add rm_X1_add D vwCl [.ref h0, .int (iJ (v))] [(h0, .inr (1, [.ref h1, .int (iJ (n))])), (h1, cJ cI 60 (g))] [(cI, .int)] (fun (_ : Unit) => 0) (fun (_ : Unit) => True) (fun (_ : Unit) => [(h0, .inr (1, [.ref h1, .int (iJ (n))])), (h1, cJ cI 60 (g))]) := by
  refine MM.mk (cc := cX1_add) (maxL := 2) (ret := (some .boolean)) (by decide) rfl (Nat.le_of_ble_eq_true rfl) rfl RX1 rfl ?_
  intro p_ e_ s_ m_ ar_ bw_ mt_ cd_ B_ Q_ hA E hr hQ
  refine r_aload_n E 0 dX1_add_0 rfl rfl ?_
  refine r_get E 1 0 1 dX1_add_1 in_X1_add_X1 lk_X1_add_15 rfl rfl (by decide) rfl ?_
  refine r_aload_n E 0 dX1_add_4 rfl rfl ?_
  refine r_get E 1 0 0 dX1_add_5 in_X1_add_X1 lk_X1_add_9 rfl rfl (by decide) rfl ?_
  refine r_alen E 1 0 60 dX1_add_8 rfl rfl rfl ?_
  refine r_top (b := 60) (by rfl) ?_
  refine r_icmp_lt E 14 dX1_add_9 (by decide) ⟨by omega, by omega⟩ ⟨by omega, by omega⟩ (fun c_9 => absurd c_9 (by omega)) (fun c_9 => ?_)
  refine r_iconst E 0 rfl dX1_add_12 ?_
  exact r_retMZ E () hr dX1_add_13 (by omega) rfl trivial rfl hQ
theorem kf_X1_at : KF yX1_at 1 wsX1_at cX1_at 2 (some .int) := ⟨rfl, by decide +kernel, by decide +kernel, by decide +kernel⟩
def rm_X1_at : Room := { frames := 0, cells := 0, slots := 0, locals := 0 }
set_option maxRecDepth 20000 in
theorem in_X1_at_X1 : ∀ w ∈ u_ws RX1 TX1 2, w ∈ wsX1_at := by decide +kernel
set_option maxRecDepth 20000 in
theorem lk_X1_at_15 : Cond.fieldLink RX1 15 (TX1 1).1 (TX1 1).2.1 (TX1 1).2.2.1 ∈ wsX1_at := by decide +kernel
set_option maxRecDepth 20000 in
theorem lk_X1_at_9 : Cond.fieldLink RX1 9 (TX1 0).1 (TX1 0).2.1 (TX1 0).2.2.1 ∈ wsX1_at := by decide +kernel
set_option maxHeartbeats 1000000 in
set_option maxRecDepth 100000 in
theorem c_X1_at (l : Launch) (D : va_G) (h0 : Nat) (h1 : Nat) (cI : ClassId) (g : Int → Int) (n : Int) (a : Int) (hn : 0 ≤ n ∧ n ≤ 60) (ha : jb a) : MP l yX1_at wsX1_at rm_X1_at D vwCl [.ref h0, .int (iJ (a))] [(h0, .inr (1, [.ref h1, .int (iJ (n))])), (h1, cJ cI 60 (g))] [(cI, .int)] (pAt g n a) := by
  refine MP.mk (cc := cX1_at) (maxL := 2) (ret := (some .int)) (by decide) rfl (Nat.le_of_ble_eq_true rfl) rfl RX1 rfl ?_
  intro p_ e_ s_ m_ ar_ bw_ mt_ cd_ Q_ E hr hQ
  refine r_iload_n E 1 dX1_at_0 rfl rfl ?_
  refine r_if_lt E 21 dX1_at_1 (by decide) ha (fun c_1 => ?_) (fun c_1 => ?_)
  · refine r_iconst E 0 rfl dX1_at_21 ?_
    exact r_retP E hr dX1_at_22 (by unfold pAt; first | rw [if_pos (show 0 ≤ a ∧ a < n by omega)] | rw [if_neg (show ¬ (0 ≤ a ∧ a < n) by omega)]) hQ
  · refine r_iload_n E 1 dX1_at_4 rfl rfl ?_
    refine r_aload_n E 0 dX1_at_5 rfl rfl ?_
    refine r_get E 1 0 1 dX1_at_6 in_X1_at_X1 lk_X1_at_15 rfl rfl (by decide) rfl ?_
    refine r_icmp_ge E 21 dX1_at_9 (by decide) ⟨by omega, by omega⟩ ⟨by omega, by omega⟩ (fun c_9 => ?_) (fun c_9 => ?_)
    · refine r_iconst E 0 rfl dX1_at_21 ?_
      exact r_retP E hr dX1_at_22 (by unfold pAt; first | rw [if_pos (show 0 ≤ a ∧ a < n by omega)] | rw [if_neg (show ¬ (0 ≤ a ∧ a < n) by omega)]) hQ
    · refine r_aload_n E 0 dX1_at_12 rfl rfl ?_
      refine r_get E 1 0 0 dX1_at_13 in_X1_at_X1 lk_X1_at_9 rfl rfl (by decide) rfl ?_
      refine r_iload_n E 1 dX1_at_16 rfl rfl ?_
      refine r_iald E (i := a) 1 0 dX1_at_17 rfl rfl (by decide) ⟨by omega, by omega⟩ ?_
      refine r_goto E 22 dX1_at_18 (by decide) ?_
      exact r_retP E hr dX1_at_22 (by unfold pAt; first | rw [if_pos (show 0 ≤ a ∧ a < n by omega)] | rw [if_neg (show ¬ (0 ≤ a ∧ a < n) by omega)]) hQ
theorem kf_X1_patternFault : KF yX1_patternFault 0 wsX1_patternFault cX1_patternFault 3 (some .int) := ⟨rfl, by decide +kernel, by decide +kernel, by decide +kernel⟩
def rm_X1_patternFault : Room := { frames := 1, cells := 0, slots := 0, locals := 20 }
set_option maxRecDepth 20000 in
theorem in_X1_patternFault_X1 : ∀ w ∈ u_ws RX1 TX1 2, w ∈ wsX1_patternFault := by decide +kernel
set_option maxRecDepth 20000 in
theorem lk_X1_patternFault_15 : Cond.fieldLink RX1 15 (TX1 1).1 (TX1 1).2.1 (TX1 1).2.2.1 ∈ wsX1_patternFault := by decide +kernel
set_option maxRecDepth 20000 in
theorem lk_X1_patternFault_9 : Cond.fieldLink RX1 9 (TX1 0).1 (TX1 0).2.1 (TX1 0).2.2.1 ∈ wsX1_patternFault := by decide +kernel
set_option maxHeartbeats 1000000 in
set_option maxRecDepth 100000 in
theorem c_X1_patternFault (l : Launch) (D : va_G) (h0 : Nat) (h1 : Nat) (cI : ClassId) (g : Int → Int) (n : Int) (hn : 0 ≤ n ∧ n ≤ 60) (hg : ∀ j : Int, 0 ≤ j → j < n → 33 ≤ g j ∧ g j ≤ 126) : MP l yX1_patternFault wsX1_patternFault rm_X1_patternFault D vwCl [.ref h0] [(h0, .inr (1, [.ref h1, .int (iJ (n))])), (h1, cJ cI 60 (g))] [(cI, .int)] (pfN g n.toNat 0) := by
  refine MP.mk (cc := cX1_patternFault) (maxL := 3) (ret := (some .int)) (by decide) rfl (Nat.le_of_ble_eq_true rfl) rfl RX1 rfl ?_
  intro p_ e_ s_ m_ ar_ bw_ mt_ cd_ Q_ E hr hQ
  refine r_iconst E 0 rfl dX1_patternFault_0 ?_
  refine r_istore_n E [(1, .int (iJ (0))), (0, .ref h0)] dX1_patternFault_1 rfl (by decide) rfl ?_
  have loop_2 : ∀ (N : Nat) (k : Int), (0 ≤ k ∧ k ≤ n) → (pfN g (n - k).toNat k = pfN g n.toNat 0) → (n - k).toNat < N → GG p_ l e_ rm_X1_patternFault s_ m_ ar_ bw_ mt_ cd_ D vwCl (fun _ => True) (fun _ => False) s_.heap 3 0 0 Q_ [(h0, .inr (1, [.ref h1, .int (iJ (n))])), (h1, cJ cI 60 (g))] [(0, .ref h0), (1, .int (iJ (k)))] 2 [] := by
    intro N; induction N with
    | zero => intro k hk hs hN; exact absurd hN (Nat.not_lt_zero _)
    | succ N ih2 =>
      intro k hk hs hN
      refine r_iload_n E 1 dX1_patternFault_2 rfl rfl ?_
      refine r_aload_n E 0 dX1_patternFault_3 rfl rfl ?_
      refine r_get E 1 0 1 dX1_patternFault_4 in_X1_patternFault_X1 lk_X1_patternFault_15 rfl rfl (by decide) rfl ?_
      refine r_icmp_ge E 38 dX1_patternFault_7 (by decide) ⟨by omega, by omega⟩ ⟨by omega, by omega⟩ (fun c_7 => ?_) (fun c_7 => ?_)
      · refine r_aload_n E 0 dX1_patternFault_38 rfl rfl ?_
        refine r_get E 1 0 1 dX1_patternFault_39 in_X1_patternFault_X1 lk_X1_patternFault_15 rfl rfl (by decide) rfl ?_
        refine r_if_ne E 49 dX1_patternFault_42 (by decide) ⟨by omega, by omega⟩ (fun c_42 => ?_) (fun c_42 => ?_)
        · refine r_bipush E (-4) rfl dX1_patternFault_49 ?_
          exact r_retP E hr dX1_patternFault_51 (by
                rw [← hs, show (n - k).toNat = 0 by omega]
                show _ = if k = 0 then _ else _
                first | rw [if_pos (by omega)] | rw [if_neg (by omega)]) hQ
        · refine r_iconst E 0 rfl dX1_patternFault_45 ?_
          refine r_goto E 51 dX1_patternFault_46 (by decide) ?_
          exact r_retP E hr dX1_patternFault_51 (by
                rw [← hs, show (n - k).toNat = 0 by omega]
                show _ = if k = 0 then _ else _
                first | rw [if_pos (by omega)] | rw [if_neg (by omega)]) hQ
      · refine r_aload_n E 0 dX1_patternFault_10 rfl rfl ?_
        refine r_get E 1 0 0 dX1_patternFault_11 in_X1_patternFault_X1 lk_X1_patternFault_9 rfl rfl (by decide) rfl ?_
        refine r_iload_n E 1 dX1_patternFault_14 rfl rfl ?_
        refine r_iald E (i := k) 1 0 dX1_patternFault_15 rfl rfl (by decide) ⟨by omega, by omega⟩ ?_
        have f_1 := hg k (by omega) (by omega)
        refine r_istore_n E [(2, .int (iJ (g k))), (0, .ref h0), (1, .int (iJ (k)))] dX1_patternFault_16 rfl (by decide) rfl ?_
        refine r_iload_n E 0 dX1_patternFault_17 rfl rfl ?_
        refine r_bipush E 46 rfl dX1_patternFault_18 ?_
        refine r_icmp_eq E 32 dX1_patternFault_20 (by decide) ⟨by omega, by omega⟩ ⟨by omega, by omega⟩ (fun c_20 => ?_) (fun c_20 => ?_)
        · refine r_iinc E (k := 2) [(1, .int (iJ ((k + 1)))), (2, .int (iJ (g k))), (0, .ref h0)] dX1_patternFault_32 rfl (by decide) rfl ?_
          refine r_goto E 2 dX1_patternFault_35 (by decide) ?_
          refine r_lv [2, 0] [(0, .ref h0), (1, .int (iJ ((k + 1))))] rfl ?_
          exact ih2 (k + 1) ⟨by omega, by omega⟩ (by
                rw [← hs, show (n - k).toNat = (n - (k + 1)).toNat + 1 by omega]
                show _ = if g k = 46 ∨ hsP (g k) then _ else _
                rw [if_pos (by first | exact Or.inl c_20 | exact Or.inr c_27)]) (by omega)
        · refine r_iload_n E 0 dX1_patternFault_23 rfl rfl ?_
          refine r_sP E (st := []) (c_X4_isHandSign l D (g k) (by first | assumption | omega | exact ⟨by omega, by omega⟩)) gX1_patternFault_X4_isHandSign 1 kf_X4_isHandSign ⟨rfl, rfl⟩ ⟨by decide, by decide⟩ dX1_patternFault_24 rfl rfl ⟨Nat.zero_le _, Nat.zero_le _⟩ [] rfl (by decide) [] rfl (Nat.le_of_ble_eq_true rfl) ?_
          refine r_ifne_b E 32 dX1_patternFault_27 (by decide) (fun c_27 => ?_) (fun c_27 => ?_)
          · refine r_iinc E (k := 2) [(1, .int (iJ ((k + 1)))), (2, .int (iJ (g k))), (0, .ref h0)] dX1_patternFault_32 rfl (by decide) rfl ?_
            refine r_goto E 2 dX1_patternFault_35 (by decide) ?_
            refine r_lv [2, 0] [(0, .ref h0), (1, .int (iJ ((k + 1))))] rfl ?_
            exact ih2 (k + 1) ⟨by omega, by omega⟩ (by
                  rw [← hs, show (n - k).toNat = (n - (k + 1)).toNat + 1 by omega]
                  show _ = if g k = 46 ∨ hsP (g k) then _ else _
                  rw [if_pos (by first | exact Or.inl c_20 | exact Or.inr c_27)]) (by omega)
          · refine r_iload_n E 2 dX1_patternFault_30 rfl rfl ?_
            exact r_retP E hr dX1_patternFault_31 (by
                  rw [← hs, show (n - k).toNat = (n - (k + 1)).toNat + 1 by omega]
                  show _ = if g k = 46 ∨ hsP (g k) then _ else _
                  rw [if_neg (fun z => z.elim c_20 c_27)]) hQ
  refine r_lv [1, 0] [(0, .ref h0), (1, .int (iJ (0)))] rfl ?_
  exact loop_2 _ 0 ⟨by omega, by omega⟩ (by rw [Int.sub_zero]) (Nat.lt_succ_self _)
theorem kf_X4_pieceFault : KF yX4_pieceFault 1 wsX4_pieceFault cX4_pieceFault 6 (some .int) := ⟨rfl, by decide +kernel, by decide +kernel, by decide +kernel⟩
def rm_X4_pieceFault : Room := { frames := 5, cells := 0, slots := 0, locals := 103 }
set_option maxRecDepth 20000 in
theorem in_X4_pieceFault_X1 : ∀ w ∈ u_ws RX1 TX1 2, w ∈ wsX4_pieceFault := by decide +kernel
set_option maxHeartbeats 1000000 in
set_option maxRecDepth 100000 in
theorem c_X4_pieceFault (l : Launch) (D : va_G) (r0 : Nat) (r1 : Nat) (r2 : Nat) (h0 : Nat) (h1 : Nat) (cI : ClassId) (g : Int → Int) (n : Int) (hn : 0 ≤ n ∧ n ≤ 60) (hg : ∀ j : Int, 0 ≤ j → j < n → 33 ≤ g j ∧ g j ≤ 126) : MP l yX4_pieceFault wsX4_pieceFault rm_X4_pieceFault D vwCl [.ref r0, .ref h0] [(r0, .inr (4, [.ref r1, .ref r2])), (h0, .inr (1, [.ref h1, .int (iJ (n))])), (h1, cJ cI 60 (g))] [(cI, .int)] (rfN g n.toNat 0 0 0) := by
  refine MP.mk (cc := cX4_pieceFault) (maxL := 6) (ret := (some .int)) (by decide) rfl (Nat.le_of_ble_eq_true rfl) rfl RX4 rfl ?_
  intro p_ e_ s_ m_ ar_ bw_ mt_ cd_ Q_ E hr hQ
  refine r_iconst E 0 rfl dX4_pieceFault_0 ?_
  refine r_istore_n E [(2, .int (iJ (0))), (0, .ref r0), (1, .ref h0)] dX4_pieceFault_1 rfl (by decide) rfl ?_
  refine r_iconst E 0 rfl dX4_pieceFault_2 ?_
  refine r_istore_n E [(3, .int (iJ (0))), (2, .int (iJ (0))), (0, .ref r0), (1, .ref h0)] dX4_pieceFault_3 rfl (by decide) rfl ?_
  refine r_iconst E 0 rfl dX4_pieceFault_4 ?_
  refine r_istore E [(4, .int (iJ (0))), (3, .int (iJ (0))), (2, .int (iJ (0))), (0, .ref r0), (1, .ref h0)] dX4_pieceFault_5 (by decide) rfl ?_
  have loop_7 : ∀ (N : Nat) (k : Int) (x : Int) (d : Int), (0 ≤ k ∧ k ≤ n) → (0 ≤ x ∧ x ≤ 5) → (-k ≤ d ∧ d ≤ k) → (rfN g (n - k).toNat k x d = rfN g n.toNat 0 0 0) → (n - k).toNat < N → GG p_ l e_ rm_X4_pieceFault s_ m_ ar_ bw_ mt_ cd_ D vwCl (fun _ => True) (fun _ => False) s_.heap 6 0 0 Q_ [(r0, .inr (4, [.ref r1, .ref r2])), (h0, .inr (1, [.ref h1, .int (iJ (n))])), (h1, cJ cI 60 (g))] [(0, .ref r0), (1, .ref h0), (2, .int (iJ (x))), (3, .int (iJ (d))), (4, .int (iJ (k)))] 7 [] := by
    intro N; induction N with
    | zero => intro k x d hk hx hd hs hN; exact absurd hN (Nat.not_lt_zero _)
    | succ N ih7 =>
      intro k x d hk hx hd hs hN
      refine r_iload E 4 dX4_pieceFault_7 rfl ?_
      refine r_aload_n E 1 dX4_pieceFault_9 rfl rfl ?_
      refine r_getN E 1 1 1 dX4_pieceFault_10 in_X4_pieceFault_X1 (by decide) rfl rfl rfl (by decide) rfl ?_
      refine r_icmp_ge E 69 dX4_pieceFault_13 (by decide) ⟨by omega, by omega⟩ ⟨by omega, by omega⟩ (fun c_13 => ?_) (fun c_13 => ?_)
      · refine r_iload_n E 3 dX4_pieceFault_69 rfl rfl ?_
        have K_88 : ∀ (v : Int), (v = b2 (d = 0 ∧ (x = 1 ∨ x = 2))) → GG p_ l e_ rm_X4_pieceFault s_ m_ ar_ bw_ mt_ cd_ D vwCl (fun _ => True) (fun _ => False) s_.heap 6 0 0 Q_ [(r0, .inr (4, [.ref r1, .ref r2])), (h0, .inr (1, [.ref h1, .int (iJ (n))])), (h1, cJ cI 60 (g))] [(0, .ref r0), (1, .ref h0), (2, .int (iJ (x))), (3, .int (iJ (d))), (4, .int (iJ (k)))] 88 [.int (iJ (v))] := by
          intro v hv
          refine r_istore E [(4, .int (iJ (v))), (0, .ref r0), (1, .ref h0), (2, .int (iJ (x))), (3, .int (iJ (d)))] dX4_pieceFault_88 (by decide) rfl ?_
          refine r_iload E 0 dX4_pieceFault_90 rfl ?_
          refine r_if_eq E 100 dX4_pieceFault_92 (by decide) (by subst hv; rcases b2_01 (d = 0 ∧ (x = 1 ∨ x = 2)) with z | z <;> (rw [z]; exact ⟨by decide, by decide⟩)) (fun c_92 => ?_) (fun c_92 => ?_)
          · refine r_aload_n E 2 dX4_pieceFault_100 rfl rfl ?_
            refine r_getN E 1 1 1 dX4_pieceFault_101 in_X4_pieceFault_X1 (by decide) rfl rfl rfl (by decide) rfl ?_
            exact r_retP E hr dX4_pieceFault_104 (by
                  rw [← hs, show (n - k).toNat = 0 by omega]
                  show _ = if d = 0 ∧ (x = 1 ∨ x = 2) then _ else _
                  subst hv
                  by_cases q : d = 0 ∧ (x = 1 ∨ x = 2)
                  · rw [b2_t q] at c_92; first | (rw [if_pos q]; done) | (exfalso; omega)
                  · rw [b2_f q] at c_92; first | (exfalso; omega) | (rw [if_neg q]; omega)) hQ
          · refine r_bipush E (-4) rfl dX4_pieceFault_95 ?_
            refine r_goto E 104 dX4_pieceFault_97 (by decide) ?_
            exact r_retP E hr dX4_pieceFault_104 (by
                  rw [← hs, show (n - k).toNat = 0 by omega]
                  show _ = if d = 0 ∧ (x = 1 ∨ x = 2) then _ else _
                  subst hv
                  by_cases q : d = 0 ∧ (x = 1 ∨ x = 2)
                  · rw [b2_t q] at c_92; first | (rw [if_pos q]; done) | (exfalso; omega)
                  · rw [b2_f q] at c_92; first | (exfalso; omega) | (rw [if_neg q]; omega)) hQ
        refine r_if_ne E 87 dX4_pieceFault_70 (by decide) ⟨by omega, by omega⟩ (fun c_70 => ?_) (fun c_70 => ?_)
        · refine r_iconst E 0 rfl dX4_pieceFault_87 ?_
          refine r_lv [0, 1, 2, 3, 4] [(0, .ref r0), (1, .ref h0), (2, .int (iJ (x))), (3, .int (iJ (d))), (4, .int (iJ (k)))] rfl ?_
          exact K_88 0 (by first | exact (b2_t (by omega)).symm | exact (b2_f (by omega)).symm)
        · refine r_iload_n E 2 dX4_pieceFault_73 rfl rfl ?_
          refine r_iconst E 1 rfl dX4_pieceFault_74 ?_
          refine r_icmp_eq E 83 dX4_pieceFault_75 (by decide) ⟨by omega, by omega⟩ ⟨by omega, by omega⟩ (fun c_75 => ?_) (fun c_75 => ?_)
          · refine r_iconst E 1 rfl dX4_pieceFault_83 ?_
            refine r_goto E 88 dX4_pieceFault_84 (by decide) ?_
            refine r_lv [0, 1, 2, 3, 4] [(0, .ref r0), (1, .ref h0), (2, .int (iJ (x))), (3, .int (iJ (d))), (4, .int (iJ (k)))] rfl ?_
            exact K_88 1 (by first | exact (b2_t (by omega)).symm | exact (b2_f (by omega)).symm)
          · refine r_iload_n E 2 dX4_pieceFault_78 rfl rfl ?_
            refine r_iconst E 2 rfl dX4_pieceFault_79 ?_
            refine r_icmp_ne E 87 dX4_pieceFault_80 (by decide) ⟨by omega, by omega⟩ ⟨by omega, by omega⟩ (fun c_80 => ?_) (fun c_80 => ?_)
            · refine r_iconst E 0 rfl dX4_pieceFault_87 ?_
              refine r_lv [0, 1, 2, 3, 4] [(0, .ref r0), (1, .ref h0), (2, .int (iJ (x))), (3, .int (iJ (d))), (4, .int (iJ (k)))] rfl ?_
              exact K_88 0 (by first | exact (b2_t (by omega)).symm | exact (b2_f (by omega)).symm)
            · refine r_iconst E 1 rfl dX4_pieceFault_83 ?_
              refine r_goto E 88 dX4_pieceFault_84 (by decide) ?_
              refine r_lv [0, 1, 2, 3, 4] [(0, .ref r0), (1, .ref h0), (2, .int (iJ (x))), (3, .int (iJ (d))), (4, .int (iJ (k)))] rfl ?_
              exact K_88 1 (by first | exact (b2_t (by omega)).symm | exact (b2_f (by omega)).symm)
      · refine r_aload_n E 1 dX4_pieceFault_16 rfl rfl ?_
        refine r_iload E 4 dX4_pieceFault_17 rfl ?_
        refine r_vP E (st := []) (c_X1_at l D h0 h1 cI g n k (by first | assumption | omega | exact ⟨by omega, by omega⟩) (by first | assumption | omega | exact ⟨by omega, by omega⟩)) gX4_pieceFault_X1_at 1 kf_X1_at ⟨rfl, rfl⟩ ⟨by decide, by decide⟩ dX4_pieceFault_19 rfl 1 rfl rfl rfl rfl ⟨Nat.zero_le _, Nat.zero_le _⟩ [1, 2] rfl (by decide) [0] rfl (Nat.le_of_ble_eq_true rfl) ?_
        refine r_top (b := (g k)) (if_pos ⟨by omega, by omega⟩) ?_
        refine r_istore E [(5, .int (iJ ((g k)))), (0, .ref r0), (1, .ref h0), (2, .int (iJ (x))), (3, .int (iJ (d))), (4, .int (iJ (k)))] dX4_pieceFault_22 (by decide) rfl ?_
        have f_g := hg k (by omega) (by omega)
        refine r_iload_n E 3 dX4_pieceFault_24 rfl rfl ?_
        refine r_iload E 0 dX4_pieceFault_25 rfl ?_
        refine r_iload_n E 4 dX4_pieceFault_27 rfl rfl ?_
        refine r_sP E (st := []) (c_X4_stateBehind l D x (g k) d (by first | assumption | omega | exact ⟨by omega, by omega⟩) (by first | assumption | omega | exact ⟨by omega, by omega⟩) (by first | assumption | omega | exact ⟨by omega, by omega⟩)) gX4_pieceFault_X4_stateBehind 3 kf_X4_stateBehind ⟨rfl, rfl⟩ ⟨by decide, by decide⟩ dX4_pieceFault_28 rfl rfl ⟨Nat.zero_le _, Nat.zero_le _⟩ [] rfl (by decide) [] rfl (Nat.le_of_ble_eq_true rfl) ?_
        have f_s := stB_in (s := x) (c := g k) (d := d)
        refine r_istore_n E [(2, .int (iJ (stB x (g k) d))), (5, .int (iJ ((g k)))), (0, .ref r0), (1, .ref h0), (3, .int (iJ (d))), (4, .int (iJ (k)))] dX4_pieceFault_31 rfl (by decide) rfl ?_
        refine r_iload_n E 0 dX4_pieceFault_32 rfl rfl ?_
        refine r_iconst E (-1) rfl dX4_pieceFault_33 ?_
        refine r_icmp_ne E 40 dX4_pieceFault_34 (by decide) ⟨by omega, by omega⟩ ⟨by omega, by omega⟩ (fun c_34 => ?_) (fun c_34 => ?_)
        · refine r_iload E 1 dX4_pieceFault_40 rfl ?_
          refine r_bipush E 40 rfl dX4_pieceFault_42 ?_
          refine r_icmp_ne E 53 dX4_pieceFault_44 (by decide) ⟨by omega, by omega⟩ ⟨by omega, by omega⟩ (fun c_44 => ?_) (fun c_44 => ?_)
          · refine r_iload E 1 dX4_pieceFault_53 rfl ?_
            refine r_bipush E 41 rfl dX4_pieceFault_55 ?_
            refine r_icmp_ne E 63 dX4_pieceFault_57 (by decide) ⟨by omega, by omega⟩ ⟨by omega, by omega⟩ (fun c_57 => ?_) (fun c_57 => ?_)
            · refine r_iinc E (k := 5) [(4, .int (iJ ((k + 1)))), (2, .int (iJ (stB x (g k) d))), (5, .int (iJ ((g k)))), (0, .ref r0), (1, .ref h0), (3, .int (iJ (d)))] dX4_pieceFault_63 rfl (by decide) rfl ?_
              refine r_goto E 7 dX4_pieceFault_66 (by decide) ?_
              refine r_lv [3, 4, 1, 5, 0] [(0, .ref r0), (1, .ref h0), (2, .int (iJ (stB x (g k) d))), (3, .int (iJ (d))), (4, .int (iJ ((k + 1))))] rfl ?_
              exact ih7 (k + 1) (stB x (g k) d) d ⟨by omega, by omega⟩ ⟨by omega, by omega⟩ ⟨by omega, by omega⟩ (by
                    rw [← hs, show (n - k).toNat = (n - (k + 1)).toNat + 1 by omega]
                    show _ = if stB x (g k) d = -1 then _ else _
                    rw [if_neg (by omega)]
                    first | (simp [dpS, *]; done) | (simp [dpS, *]; rfl)) (by omega)
            · refine r_iinc E (k := 4) [(3, .int (iJ ((d + (-1))))), (2, .int (iJ (stB x (g k) d))), (5, .int (iJ ((g k)))), (0, .ref r0), (1, .ref h0), (4, .int (iJ (k)))] dX4_pieceFault_60 rfl (by decide) rfl ?_
              refine r_iinc E (k := 5) [(4, .int (iJ ((k + 1)))), (3, .int (iJ ((d + (-1))))), (2, .int (iJ (stB x (g k) d))), (5, .int (iJ ((g k)))), (0, .ref r0), (1, .ref h0)] dX4_pieceFault_63 rfl (by decide) rfl ?_
              refine r_goto E 7 dX4_pieceFault_66 (by decide) ?_
              refine r_lv [4, 5, 2, 1, 0] [(0, .ref r0), (1, .ref h0), (2, .int (iJ (stB x (g k) d))), (3, .int (iJ ((d + (-1))))), (4, .int (iJ ((k + 1))))] rfl ?_
              exact ih7 (k + 1) (stB x (g k) d) (d + (-1)) ⟨by omega, by omega⟩ ⟨by omega, by omega⟩ ⟨by omega, by omega⟩ (by
                    rw [← hs, show (n - k).toNat = (n - (k + 1)).toNat + 1 by omega]
                    show _ = if stB x (g k) d = -1 then _ else _
                    rw [if_neg (by omega)]
                    first | (simp [dpS, *]; done) | (simp [dpS, *]; rfl)) (by omega)
          · refine r_iinc E (k := 4) [(3, .int (iJ ((d + 1)))), (2, .int (iJ (stB x (g k) d))), (5, .int (iJ ((g k)))), (0, .ref r0), (1, .ref h0), (4, .int (iJ (k)))] dX4_pieceFault_47 rfl (by decide) rfl ?_
            refine r_goto E 63 dX4_pieceFault_50 (by decide) ?_
            refine r_iinc E (k := 5) [(4, .int (iJ ((k + 1)))), (3, .int (iJ ((d + 1)))), (2, .int (iJ (stB x (g k) d))), (5, .int (iJ ((g k)))), (0, .ref r0), (1, .ref h0)] dX4_pieceFault_63 rfl (by decide) rfl ?_
            refine r_goto E 7 dX4_pieceFault_66 (by decide) ?_
            refine r_lv [4, 5, 2, 1, 0] [(0, .ref r0), (1, .ref h0), (2, .int (iJ (stB x (g k) d))), (3, .int (iJ ((d + 1)))), (4, .int (iJ ((k + 1))))] rfl ?_
            exact ih7 (k + 1) (stB x (g k) d) (d + 1) ⟨by omega, by omega⟩ ⟨by omega, by omega⟩ ⟨by omega, by omega⟩ (by
                  rw [← hs, show (n - k).toNat = (n - (k + 1)).toNat + 1 by omega]
                  show _ = if stB x (g k) d = -1 then _ else _
                  rw [if_neg (by omega)]
                  first | (simp [dpS, *]; done) | (simp [dpS, *]; rfl)) (by omega)
        · refine r_iload E 5 dX4_pieceFault_37 rfl ?_
          exact r_retP E hr dX4_pieceFault_39 (by
                rw [← hs, show (n - k).toNat = (n - (k + 1)).toNat + 1 by omega]
                show _ = if stB x (g k) d = -1 then _ else _
                rw [if_pos c_34]) hQ
  refine r_lv [3, 4, 2, 1, 0] [(0, .ref r0), (1, .ref h0), (2, .int (iJ (0))), (3, .int (iJ (0))), (4, .int (iJ (0)))] rfl ?_
  exact loop_7 _ 0 0 0 ⟨by omega, by omega⟩ ⟨by omega, by omega⟩ ⟨by omega, by omega⟩ (by rw [Int.sub_zero]) (Nat.lt_succ_self _)
