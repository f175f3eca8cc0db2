theorem kf_X6_isHand : KF yX6_isHand 1 wsX6_isHand cX6_isHand 1 (some .boolean) := ⟨rfl, by decide +kernel, by decide +kernel, by decide +kernel⟩
def rm_X6_isHand : Room := { frames := 0, cells := 0, slots := 0, locals := 0 }
set_option maxHeartbeats 1000000 in
set_option maxRecDepth 100000 in
theorem c_X6_isHand (l : Launch) (D : va_G) (h : Int) (hh : jb h) : MP l yX6_isHand wsX6_isHand rm_X6_isHand D vwCl [.int (iJ (h))] [] [] (b2 (0 ≤ h ∧ h ≤ 2)) := by
  refine MP.mk (cc := cX6_isHand) (maxL := 1) (ret := (some .boolean)) (by decide) rfl (Nat.le_of_ble_eq_true rfl) rfl RX6 rfl ?_
  intro p_ e_ s_ m_ ar_ bw_ mt_ cd_ Q_ E hr hQ
  refine r_iload_n E 0 dX6_isHand_0 rfl rfl ?_
  refine r_if_lt E 13 dX6_isHand_1 (by decide) hh (fun c_1 => ?_) (fun c_1 => ?_)
  · refine r_iconst E 0 rfl dX6_isHand_13 ?_
    exact r_retPZ E hr dX6_isHand_14 (by omega) (by first | rfl | exact (b2_t (by first | omega | assumption)).symm | exact (b2_f (by first | omega | assumption)).symm | omega | assumption) hQ
  · refine r_iload_n E 0 dX6_isHand_4 rfl rfl ?_
    refine r_iconst E 2 rfl dX6_isHand_5 ?_
    refine r_icmp_gt E 13 dX6_isHand_6 (by decide) hh ⟨by omega, by omega⟩ (fun c_6 => ?_) (fun c_6 => ?_)
    · refine r_iconst E 0 rfl dX6_isHand_13 ?_
      exact r_retPZ E hr dX6_isHand_14 (by omega) (by first | rfl | exact (b2_t (by first | omega | assumption)).symm | exact (b2_f (by first | omega | assumption)).symm | omega | assumption) hQ
    · refine r_iconst E 1 rfl dX6_isHand_9 ?_
      refine r_goto E 14 dX6_isHand_10 (by decide) ?_
      exact r_retPZ E hr dX6_isHand_14 (by omega) (by first | rfl | exact (b2_t (by first | omega | assumption)).symm | exact (b2_f (by first | omega | assumption)).symm | omega | assumption) hQ
theorem kf_X6_isOrnament : KF yX6_isOrnament 1 wsX6_isOrnament cX6_isOrnament 1 (some .boolean) := ⟨rfl, by decide +kernel, by decide +kernel, by decide +kernel⟩
def rm_X6_isOrnament : Room := { frames := 0, cells := 0, slots := 0, locals := 0 }
set_option maxHeartbeats 1000000 in
set_option maxRecDepth 100000 in
theorem c_X6_isOrnament (l : Launch) (D : va_G) (o : Int) (ho : jb o) : MP l yX6_isOrnament wsX6_isOrnament rm_X6_isOrnament D vwCl [.int (iJ (o))] [] [] (b2 (0 ≤ o ∧ o ≤ 3)) := by
  refine MP.mk (cc := cX6_isOrnament) (maxL := 1) (ret := (some .boolean)) (by decide) rfl (Nat.le_of_ble_eq_true rfl) rfl RX6 rfl ?_
  intro p_ e_ s_ m_ ar_ bw_ mt_ cd_ Q_ E hr hQ
  refine r_iload_n E 0 dX6_isOrnament_0 rfl rfl ?_
  refine r_if_lt E 13 dX6_isOrnament_1 (by decide) ho (fun c_1 => ?_) (fun c_1 => ?_)
  · refine r_iconst E 0 rfl dX6_isOrnament_13 ?_
    exact r_retPZ E hr dX6_isOrnament_14 (by omega) (by first | rfl | exact (b2_t (by first | omega | assumption)).symm | exact (b2_f (by first | omega | assumption)).symm | omega | assumption) hQ
  · refine r_iload_n E 0 dX6_isOrnament_4 rfl rfl ?_
    refine r_iconst E 3 rfl dX6_isOrnament_5 ?_
    refine r_icmp_gt E 13 dX6_isOrnament_6 (by decide) ho ⟨by omega, by omega⟩ (fun c_6 => ?_) (fun c_6 => ?_)
    · refine r_iconst E 0 rfl dX6_isOrnament_13 ?_
      exact r_retPZ E hr dX6_isOrnament_14 (by omega) (by first | rfl | exact (b2_t (by first | omega | assumption)).symm | exact (b2_f (by first | omega | assumption)).symm | omega | assumption) hQ
    · refine r_iconst E 1 rfl dX6_isOrnament_9 ?_
      refine r_goto E 14 dX6_isOrnament_10 (by decide) ?_
      exact r_retPZ E hr dX6_isOrnament_14 (by omega) (by first | rfl | exact (b2_t (by first | omega | assumption)).symm | exact (b2_f (by first | omega | assumption)).symm | omega | assumption) hQ
theorem kf_X6_write : KF yX6_write 2 wsX6_write cX6_write 3 (some .int) := ⟨rfl, by decide +kernel, by decide +kernel, by decide +kernel⟩
def rm_X6_write : Room := { frames := 3, cells := 0, slots := 0, locals := 64 }
set_option maxHeartbeats 1000000 in
set_option maxRecDepth 100000 in
theorem c_X6_writeNo (l : Launch) (D : va_G) (x0 : Nat) (h0 : Nat) (t0 : Nat) (n0 : Nat) (i0 : Nat) (d0 : Nat) (r0 : Nat) (p0 : Nat) (hs : Int) (rf : Int) (h1 : Nat) (cI : ClassId) (g : Int → Int) (n : Int) (q : Int) (a : Int) (v : Int) (hn : 0 ≤ n ∧ n ≤ 32) (ha : a = 32) : MP l yX6_write wsX6_write rm_X6_write D vwCl [.ref x0, .int (iJ (a)), .int (iJ (v))] [(x0, .inr (5, [.ref h0, .ref t0, .ref n0, .ref i0, .ref d0, .ref r0, .ref p0, .int (iJ (hs)), .int (iJ (rf))])), (h0, .inr (2, [.ref h1, .int (iJ (n)), .int (iJ (q))])), (h1, cJ cI 32 (g))] [(cI, .int)] (-3) := by
  refine MP.mk (cc := cX6_write) (maxL := 3) (ret := (some .int)) (by decide) rfl (Nat.le_of_ble_eq_true rfl) rfl RX6 rfl ?_
  intro p_ e_ s_ m_ ar_ bw_ mt_ cd_ Q_ E hr hQ
  refine r_iload_n E 1 dX6_write_0 rfl rfl ?_
  refine r_bipush E 32 rfl dX6_write_1 ?_
  refine r_icmp_ne E 9 dX6_write_3 (by decide) ⟨by omega, by omega⟩ ⟨by omega, by omega⟩ (fun c_3 => absurd c_3 (by omega)) (fun c_3 => ?_)
  refine r_bipush E (-3) rfl dX6_write_6 ?_
  exact r_retP E hr dX6_write_8 rfl hQ
set_option maxRecDepth 20000 in
theorem in_X6_write_X6 : ∀ w ∈ u_ws RX6 TX6 9, w ∈ wsX6_write := by decide +kernel
set_option maxRecDepth 20000 in
theorem lk_X6_write_25 : Cond.fieldLink RX6 25 (TX6 3).1 (TX6 3).2.1 (TX6 3).2.2.1 ∈ wsX6_write := by decide +kernel
set_option maxRecDepth 20000 in
theorem lk_X6_write_10 : Cond.fieldLink RX6 10 (TX6 0).1 (TX6 0).2.1 (TX6 0).2.2.1 ∈ wsX6_write := by decide +kernel
set_option maxRecDepth 20000 in
theorem in_X6_write_X2 : ∀ w ∈ u_ws RX2 TX2 3, w ∈ wsX6_write := by decide +kernel
set_option maxHeartbeats 1000000 in
set_option maxRecDepth 100000 in
theorem c_X6_writeAdd (l : Launch) (D : va_G) (x0 : Nat) (h0 : Nat) (t0 : Nat) (n0 : Nat) (i0 : Nat) (d0 : Nat) (r0 : Nat) (p0 : Nat) (hs : Int) (rf : Int) (h1 : Nat) (cI : ClassId) (g : Int → Int) (n : Int) (q : Int) (i1 : Nat) (cP : ClassId) (xa : Nat → Nat) (ya : Nat → Nat) (kN : Nat → Int) (kQ : Nat → Int) (kG : Nat → Int → Int) (m : Int) (a : Int) (v : Int) (hn : 0 ≤ n ∧ n ≤ 32) (hm : 0 ≤ m ∧ m ≤ 4) (hhN : ∀ i : Nat, 0 ≤ kN i ∧ kN i ≤ 32) (ha : a = n ∧ n < 32) : MM (S := (Nat → Nat) × (Nat → Nat) × (Nat → Int) × (Nat → Int) × (Nat → Int → Int) × Int) l yX6_write wsX6_write rm_X6_write D vwCl [.ref x0, .int (iJ (a)), .int (iJ (v))] [(x0, .inr (5, [.ref h0, .ref t0, .ref n0, .ref i0, .ref d0, .ref r0, .ref p0, .int (iJ (hs)), .int (iJ (rf))])), (h0, .inr (2, [.ref h1, .int (iJ (n)), .int (iJ (q))])), (h1, cJ cI 32 (g)), (i0, .inr (0, [.ref i1, .int (iJ (m))])), (i1, cR cP 4 (hF xa)), ((xa 0), .inr (2, [.ref (ya 0), .int (iJ (kN 0)), .int (iJ (kQ 0))])), ((ya 0), cJ cI 32 (kG 0)), ((xa 1), .inr (2, [.ref (ya 1), .int (iJ (kN 1)), .int (iJ (kQ 1))])), ((ya 1), cJ cI 32 (kG 1)), ((xa 2), .inr (2, [.ref (ya 2), .int (iJ (kN 2)), .int (iJ (kQ 2))])), ((ya 2), cJ cI 32 (kG 2)), ((xa 3), .inr (2, [.ref (ya 3), .int (iJ (kN 3)), .int (iJ (kQ 3))])), ((ya 3), cJ cI 32 (kG 3))] [(cI, .int), (cP, .object "LeanSticks$Piece")] (fun (u : (Nat → Nat) × (Nat → Nat) × (Nat → Int) × (Nat → Int) × (Nat → Int → Int) × Int) => n + 1) (fun (u : (Nat → Nat) × (Nat → Nat) × (Nat → Int) × (Nat → Int) × (Nat → Int → Int) × Int) => (HPush m n q g kN kQ kG u.2.2.2.2.2 u.2.2.1 u.2.2.2.1 u.2.2.2.2.1)) (fun (u : (Nat → Nat) × (Nat → Nat) × (Nat → Int) × (Nat → Int) × (Nat → Int → Int) × Int) => [(x0, .inr (5, [.ref h0, .ref t0, .ref n0, .ref i0, .ref d0, .ref r0, .ref p0, .int (iJ (hs)), .int (iJ (rf))])), (h0, .inr (2, [.ref h1, .int (iJ ((n + 1))), .int (iJ (q))])), (h1, cJ cI 32 (uJ g n v)), (i0, .inr (0, [.ref i1, .int (iJ (u.2.2.2.2.2))])), (i1, cR cP 4 (hF u.1)), ((u.1 0), .inr (2, [.ref (u.2.1 0), .int (iJ (u.2.2.1 0)), .int (iJ (u.2.2.2.1 0))])), ((u.2.1 0), cJ cI 32 (u.2.2.2.2.1 0)), ((u.1 1), .inr (2, [.ref (u.2.1 1), .int (iJ (u.2.2.1 1)), .int (iJ (u.2.2.2.1 1))])), ((u.2.1 1), cJ cI 32 (u.2.2.2.2.1 1)), ((u.1 2), .inr (2, [.ref (u.2.1 2), .int (iJ (u.2.2.1 2)), .int (iJ (u.2.2.2.1 2))])), ((u.2.1 2), cJ cI 32 (u.2.2.2.2.1 2)), ((u.1 3), .inr (2, [.ref (u.2.1 3), .int (iJ (u.2.2.1 3)), .int (iJ (u.2.2.2.1 3))])), ((u.2.1 3), cJ cI 32 (u.2.2.2.2.1 3))]) := by
  refine MM.mk (cc := cX6_write) (maxL := 3) (ret := (some .int)) (by decide) rfl (Nat.le_of_ble_eq_true rfl) rfl RX6 rfl ?_
  intro p_ e_ s_ m_ ar_ bw_ mt_ cd_ B_ Q_ hA E hr hQ
  refine r_iload_n E 1 dX6_write_0 rfl rfl ?_
  refine r_bipush E 32 rfl dX6_write_1 ?_
  refine r_icmp_ne E 9 dX6_write_3 (by decide) ⟨by omega, by omega⟩ ⟨by omega, by omega⟩ (fun c_3 => ?_) (fun c_3 => absurd c_3 (by omega))
  refine r_aload_n E 0 dX6_write_9 rfl rfl ?_
  refine r_get E 5 0 3 dX6_write_10 in_X6_write_X6 lk_X6_write_25 rfl rfl (by decide) rfl ?_
  refine r_aload_n E 0 dX6_write_13 rfl rfl ?_
  refine r_get E 5 0 0 dX6_write_14 in_X6_write_X6 lk_X6_write_10 rfl rfl (by decide) rfl ?_
  refine r_vV E (st := []) (c_X0_remember l D i0 i1 cP xa ya kN kQ kG m h0 h1 cI g n q (by first | assumption | omega | exact ⟨by omega, by omega⟩) (by first | assumption | omega | exact ⟨by omega, by omega⟩) (by first | assumption | omega | exact ⟨by omega, by omega⟩)) gX6_write_X0_remember 1 kf_X0_remember ⟨rfl, rfl⟩ ⟨by decide, by decide⟩ dX6_write_17 rfl 3 rfl rfl rfl rfl ⟨Nat.zero_le _, Nat.zero_le _⟩ [3, 4, 5, 6, 7, 8, 9, 10, 11, 12, 1, 2] rfl (by decide) [0, 1] rfl (Nat.le_of_ble_eq_true rfl) [(x0, .inr (5, [.ref h0, .ref t0, .ref n0, .ref i0, .ref d0, .ref r0, .ref p0, .int (iJ (hs)), .int (iJ (rf))]))] [0] rfl (by decide) (by decide) hA [0, 11, 12, 1, 2, 3, 4, 5, 6, 7, 8, 9, 10] (by decide) (fun u : (Nat → Nat) × (Nat → Nat) × (Nat → Int) × (Nat → Int) × (Nat → Int → Int) × Int => [(x0, .inr (5, [.ref h0, .ref t0, .ref n0, .ref i0, .ref d0, .ref r0, .ref p0, .int (iJ (hs)), .int (iJ (rf))])), (h0, .inr (2, [.ref h1, .int (iJ (n)), .int (iJ (q))])), (h1, cJ cI 32 (g)), (i0, .inr (0, [.ref i1, .int (iJ (u.2.2.2.2.2))])), (i1, cR cP 4 (hF u.1)), ((u.1 0), .inr (2, [.ref (u.2.1 0), .int (iJ (u.2.2.1 0)), .int (iJ (u.2.2.2.1 0))])), ((u.2.1 0), cJ cI 32 (u.2.2.2.2.1 0)), ((u.1 1), .inr (2, [.ref (u.2.1 1), .int (iJ (u.2.2.1 1)), .int (iJ (u.2.2.2.1 1))])), ((u.2.1 1), cJ cI 32 (u.2.2.2.2.1 1)), ((u.1 2), .inr (2, [.ref (u.2.1 2), .int (iJ (u.2.2.1 2)), .int (iJ (u.2.2.2.1 2))])), ((u.2.1 2), cJ cI 32 (u.2.2.2.2.1 2)), ((u.1 3), .inr (2, [.ref (u.2.1 3), .int (iJ (u.2.2.1 3)), .int (iJ (u.2.2.2.1 3))])), ((u.2.1 3), cJ cI 32 (u.2.2.2.2.1 3))]) (fun _ => rfl) ?_
  rintro ⟨xb, yb, lN, lQ, lG, mb⟩ hp_1
  refine r_cv (ws2 := [(x0, .inr (5, [.ref h0, .ref t0, .ref n0, .ref i0, .ref d0, .ref r0, .ref p0, .int (iJ (hs)), .int (iJ (rf))])), (h0, .inr (2, [.ref h1, .int (iJ (n)), .int (iJ (q))])), (h1, cJ cI 32 (g)), (i0, .inr (0, [.ref i1, .int (iJ (mb))])), (i1, cR cP 4 (hF xb)), ((xb 0), .inr (2, [.ref (yb 0), .int (iJ (lN 0)), .int (iJ (lQ 0))])), ((yb 0), cJ cI 32 (lG 0)), ((xb 1), .inr (2, [.ref (yb 1), .int (iJ (lN 1)), .int (iJ (lQ 1))])), ((yb 1), cJ cI 32 (lG 1)), ((xb 2), .inr (2, [.ref (yb 2), .int (iJ (lN 2)), .int (iJ (lQ 2))])), ((yb 2), cJ cI 32 (lG 2)), ((xb 3), .inr (2, [.ref (yb 3), .int (iJ (lN 3)), .int (iJ (lQ 3))])), ((yb 3), cJ cI 32 (lG 3))]) (st2 := []) rfl rfl rfl ?_
  have hp6 := hp_1
  try dsimp only at hp6
  refine r_iload_n E 1 dX6_write_20 rfl rfl ?_
  refine r_aload_n E 0 dX6_write_21 rfl rfl ?_
  refine r_get E 5 0 0 dX6_write_22 in_X6_write_X6 lk_X6_write_10 rfl rfl (by decide) rfl ?_
  refine r_getN E 2 1 1 dX6_write_25 in_X6_write_X2 (by decide) rfl rfl rfl (by decide) rfl ?_
  refine r_icmp_ne E 43 dX6_write_28 (by decide) ⟨by omega, by omega⟩ ⟨by omega, by omega⟩ (fun c_28 => absurd c_28 (by omega)) (fun c_28 => ?_)
  refine r_aload_n E 0 dX6_write_31 rfl rfl ?_
  refine r_get E 5 0 0 dX6_write_32 in_X6_write_X6 lk_X6_write_10 rfl rfl (by decide) rfl ?_
  refine r_iload_n E 2 dX6_write_35 rfl rfl ?_
  refine r_vM E (st := []) (c_X2_add l D h0 h1 cI g n q v (by first | assumption | omega | exact ⟨by omega, by omega⟩) (by first | assumption | omega | exact ⟨by omega, by omega⟩)) gX6_write_X2_add 1 kf_X2_add ⟨rfl, rfl⟩ ⟨by decide, by decide⟩ dX6_write_36 rfl 1 rfl rfl rfl rfl ⟨Nat.zero_le _, Nat.zero_le _⟩ [1, 2] rfl (by decide) [0] rfl (Nat.le_of_ble_eq_true rfl) [(x0, .inr (5, [.ref h0, .ref t0, .ref n0, .ref i0, .ref d0, .ref r0, .ref p0, .int (iJ (hs)), .int (iJ (rf))])), (i0, .inr (0, [.ref i1, .int (iJ (mb))])), (i1, cR cP 4 (hF xb)), ((xb 0), .inr (2, [.ref (yb 0), .int (iJ (lN 0)), .int (iJ (lQ 0))])), ((yb 0), cJ cI 32 (lG 0)), ((xb 1), .inr (2, [.ref (yb 1), .int (iJ (lN 1)), .int (iJ (lQ 1))])), ((yb 1), cJ cI 32 (lG 1)), ((xb 2), .inr (2, [.ref (yb 2), .int (iJ (lN 2)), .int (iJ (lQ 2))])), ((yb 2), cJ cI 32 (lG 2)), ((xb 3), .inr (2, [.ref (yb 3), .int (iJ (lN 3)), .int (iJ (lQ 3))])), ((yb 3), cJ cI 32 (lG 3))] [0, 3, 4, 5, 6, 7, 8, 9, 10, 11, 12] rfl (by decide) (by decide) hA [0, 11, 12, 1, 2, 3, 4, 5, 6, 7, 8, 9, 10] (by decide) (fun (_ : Unit) => [(x0, .inr (5, [.ref h0, .ref t0, .ref n0, .ref i0, .ref d0, .ref r0, .ref p0, .int (iJ (hs)), .int (iJ (rf))])), (h0, .inr (2, [.ref h1, .int (iJ ((n + 1))), .int (iJ (q))])), (h1, cJ cI 32 (uJ g n v)), (i0, .inr (0, [.ref i1, .int (iJ (mb))])), (i1, cR cP 4 (hF xb)), ((xb 0), .inr (2, [.ref (yb 0), .int (iJ (lN 0)), .int (iJ (lQ 0))])), ((yb 0), cJ cI 32 (lG 0)), ((xb 1), .inr (2, [.ref (yb 1), .int (iJ (lN 1)), .int (iJ (lQ 1))])), ((yb 1), cJ cI 32 (lG 1)), ((xb 2), .inr (2, [.ref (yb 2), .int (iJ (lN 2)), .int (iJ (lQ 2))])), ((yb 2), cJ cI 32 (lG 2)), ((xb 3), .inr (2, [.ref (yb 3), .int (iJ (lN 3)), .int (iJ (lQ 3))])), ((yb 3), cJ cI 32 (lG 3))]) (fun _ => rfl) ?_
  rintro ⟨⟩ hp_2
  refine r_pop E dX6_write_39 rfl ?_
  refine r_goto E 52 dX6_write_40 (by decide) ?_
  refine r_aload_n E 0 dX6_write_52 rfl rfl ?_
  refine r_get E 5 0 0 dX6_write_53 in_X6_write_X6 lk_X6_write_10 rfl rfl (by decide) rfl ?_
  refine r_getN E 2 1 1 dX6_write_56 in_X6_write_X2 (by decide) rfl rfl rfl (by decide) rfl ?_
  exact r_retM E (xb, yb, lN, lQ, lG, mb) hr dX6_write_59 rfl hp6 rfl hQ
set_option maxHeartbeats 1000000 in
set_option maxRecDepth 100000 in
theorem c_X6_writeCh (l : Launch) (D : va_G) (x0 : Nat) (h0 : Nat) (t0 : Nat) (n0 : Nat) (i0 : Nat) (d0 : Nat) (r0 : Nat) (p0 : Nat) (hs : Int) (rf : Int) (h1 : Nat) (cI : ClassId) (g : Int → Int) (n : Int) (q : Int) (i1 : Nat) (cP : ClassId) (xa : Nat → Nat) (ya : Nat → Nat) (kN : Nat → Int) (kQ : Nat → Int) (kG : Nat → Int → Int) (m : Int) (a : Int) (v : Int) (hn : 0 ≤ n ∧ n ≤ 32) (hm : 0 ≤ m ∧ m ≤ 4) (hhN : ∀ i : Nat, 0 ≤ kN i ∧ kN i ≤ 32) (ha : 0 ≤ a ∧ a < n) : MM (S := (Nat → Nat) × (Nat → Nat) × (Nat → Int) × (Nat → Int) × (Nat → Int → Int) × Int) l yX6_write wsX6_write rm_X6_write D vwCl [.ref x0, .int (iJ (a)), .int (iJ (v))] [(x0, .inr (5, [.ref h0, .ref t0, .ref n0, .ref i0, .ref d0, .ref r0, .ref p0, .int (iJ (hs)), .int (iJ (rf))])), (h0, .inr (2, [.ref h1, .int (iJ (n)), .int (iJ (q))])), (h1, cJ cI 32 (g)), (i0, .inr (0, [.ref i1, .int (iJ (m))])), (i1, cR cP 4 (hF xa)), ((xa 0), .inr (2, [.ref (ya 0), .int (iJ (kN 0)), .int (iJ (kQ 0))])), ((ya 0), cJ cI 32 (kG 0)), ((xa 1), .inr (2, [.ref (ya 1), .int (iJ (kN 1)), .int (iJ (kQ 1))])), ((ya 1), cJ cI 32 (kG 1)), ((xa 2), .inr (2, [.ref (ya 2), .int (iJ (kN 2)), .int (iJ (kQ 2))])), ((ya 2), cJ cI 32 (kG 2)), ((xa 3), .inr (2, [.ref (ya 3), .int (iJ (kN 3)), .int (iJ (kQ 3))])), ((ya 3), cJ cI 32 (kG 3))] [(cI, .int), (cP, .object "LeanSticks$Piece")] (fun (u : (Nat → Nat) × (Nat → Nat) × (Nat → Int) × (Nat → Int) × (Nat → Int → Int) × Int) => n) (fun (u : (Nat → Nat) × (Nat → Nat) × (Nat → Int) × (Nat → Int) × (Nat → Int → Int) × Int) => (HPush m n q g kN kQ kG u.2.2.2.2.2 u.2.2.1 u.2.2.2.1 u.2.2.2.2.1)) (fun (u : (Nat → Nat) × (Nat → Nat) × (Nat → Int) × (Nat → Int) × (Nat → Int → Int) × Int) => [(x0, .inr (5, [.ref h0, .ref t0, .ref n0, .ref i0, .ref d0, .ref r0, .ref p0, .int (iJ (hs)), .int (iJ (rf))])), (h0, .inr (2, [.ref h1, .int (iJ (n)), .int (iJ (q))])), (h1, cJ cI 32 (uJ g a v)), (i0, .inr (0, [.ref i1, .int (iJ (u.2.2.2.2.2))])), (i1, cR cP 4 (hF u.1)), ((u.1 0), .inr (2, [.ref (u.2.1 0), .int (iJ (u.2.2.1 0)), .int (iJ (u.2.2.2.1 0))])), ((u.2.1 0), cJ cI 32 (u.2.2.2.2.1 0)), ((u.1 1), .inr (2, [.ref (u.2.1 1), .int (iJ (u.2.2.1 1)), .int (iJ (u.2.2.2.1 1))])), ((u.2.1 1), cJ cI 32 (u.2.2.2.2.1 1)), ((u.1 2), .inr (2, [.ref (u.2.1 2), .int (iJ (u.2.2.1 2)), .int (iJ (u.2.2.2.1 2))])), ((u.2.1 2), cJ cI 32 (u.2.2.2.2.1 2)), ((u.1 3), .inr (2, [.ref (u.2.1 3), .int (iJ (u.2.2.1 3)), .int (iJ (u.2.2.2.1 3))])), ((u.2.1 3), cJ cI 32 (u.2.2.2.2.1 3))]) := by
  refine MM.mk (cc := cX6_write) (maxL := 3) (ret := (some .int)) (by decide) rfl (Nat.le_of_ble_eq_true rfl) rfl RX6 rfl ?_
  intro p_ e_ s_ m_ ar_ bw_ mt_ cd_ B_ Q_ hA E hr hQ
  refine r_iload_n E 1 dX6_write_0 rfl rfl ?_
  refine r_bipush E 32 rfl dX6_write_1 ?_
  refine r_icmp_ne E 9 dX6_write_3 (by decide) ⟨by omega, by omega⟩ ⟨by omega, by omega⟩ (fun c_3 => ?_) (fun c_3 => absurd c_3 (by omega))
  refine r_aload_n E 0 dX6_write_9 rfl rfl ?_
  refine r_get E 5 0 3 dX6_write_10 in_X6_write_X6 lk_X6_write_25 rfl rfl (by decide) rfl ?_
  refine r_aload_n E 0 dX6_write_13 rfl rfl ?_
  refine r_get E 5 0 0 dX6_write_14 in_X6_write_X6 lk_X6_write_10 rfl rfl (by decide) rfl ?_
  refine r_vV E (st := []) (c_X0_remember l D i0 i1 cP xa ya kN kQ kG m h0 h1 cI g n q (by first | assumption | omega | exact ⟨by omega, by omega⟩) (by first | assumption | omega | exact ⟨by omega, by omega⟩) (by first | assumption | omega | exact ⟨by omega, by omega⟩)) gX6_write_X0_remember 1 kf_X0_remember ⟨rfl, rfl⟩ ⟨by decide, by decide⟩ dX6_write_17 rfl 3 rfl rfl rfl rfl ⟨Nat.zero_le _, Nat.zero_le _⟩ [3, 4, 5, 6, 7, 8, 9, 10, 11, 12, 1, 2] rfl (by decide) [0, 1] rfl (Nat.le_of_ble_eq_true rfl) [(x0, .inr (5, [.ref h0, .ref t0, .ref n0, .ref i0, .ref d0, .ref r0, .ref p0, .int (iJ (hs)), .int (iJ (rf))]))] [0] rfl (by decide) (by decide) hA [0, 11, 12, 1, 2, 3, 4, 5, 6, 7, 8, 9, 10] (by decide) (fun u : (Nat → Nat) × (Nat → Nat) × (Nat → Int) × (Nat → Int) × (Nat → Int → Int) × Int => [(x0, .inr (5, [.ref h0, .ref t0, .ref n0, .ref i0, .ref d0, .ref r0, .ref p0, .int (iJ (hs)), .int (iJ (rf))])), (h0, .inr (2, [.ref h1, .int (iJ (n)), .int (iJ (q))])), (h1, cJ cI 32 (g)), (i0, .inr (0, [.ref i1, .int (iJ (u.2.2.2.2.2))])), (i1, cR cP 4 (hF u.1)), ((u.1 0), .inr (2, [.ref (u.2.1 0), .int (iJ (u.2.2.1 0)), .int (iJ (u.2.2.2.1 0))])), ((u.2.1 0), cJ cI 32 (u.2.2.2.2.1 0)), ((u.1 1), .inr (2, [.ref (u.2.1 1), .int (iJ (u.2.2.1 1)), .int (iJ (u.2.2.2.1 1))])), ((u.2.1 1), cJ cI 32 (u.2.2.2.2.1 1)), ((u.1 2), .inr (2, [.ref (u.2.1 2), .int (iJ (u.2.2.1 2)), .int (iJ (u.2.2.2.1 2))])), ((u.2.1 2), cJ cI 32 (u.2.2.2.2.1 2)), ((u.1 3), .inr (2, [.ref (u.2.1 3), .int (iJ (u.2.2.1 3)), .int (iJ (u.2.2.2.1 3))])), ((u.2.1 3), cJ cI 32 (u.2.2.2.2.1 3))]) (fun _ => rfl) ?_
  rintro ⟨xb, yb, lN, lQ, lG, mb⟩ hp_1
  refine r_cv (ws2 := [(x0, .inr (5, [.ref h0, .ref t0, .ref n0, .ref i0, .ref d0, .ref r0, .ref p0, .int (iJ (hs)), .int (iJ (rf))])), (h0, .inr (2, [.ref h1, .int (iJ (n)), .int (iJ (q))])), (h1, cJ cI 32 (g)), (i0, .inr (0, [.ref i1, .int (iJ (mb))])), (i1, cR cP 4 (hF xb)), ((xb 0), .inr (2, [.ref (yb 0), .int (iJ (lN 0)), .int (iJ (lQ 0))])), ((yb 0), cJ cI 32 (lG 0)), ((xb 1), .inr (2, [.ref (yb 1), .int (iJ (lN 1)), .int (iJ (lQ 1))])), ((yb 1), cJ cI 32 (lG 1)), ((xb 2), .inr (2, [.ref (yb 2), .int (iJ (lN 2)), .int (iJ (lQ 2))])), ((yb 2), cJ cI 32 (lG 2)), ((xb 3), .inr (2, [.ref (yb 3), .int (iJ (lN 3)), .int (iJ (lQ 3))])), ((yb 3), cJ cI 32 (lG 3))]) (st2 := []) rfl rfl rfl ?_
  have hp6 := hp_1
  try dsimp only at hp6
  refine r_iload_n E 1 dX6_write_20 rfl rfl ?_
  refine r_aload_n E 0 dX6_write_21 rfl rfl ?_
  refine r_get E 5 0 0 dX6_write_22 in_X6_write_X6 lk_X6_write_10 rfl rfl (by decide) rfl ?_
  refine r_getN E 2 1 1 dX6_write_25 in_X6_write_X2 (by decide) rfl rfl rfl (by decide) rfl ?_
  refine r_icmp_ne E 43 dX6_write_28 (by decide) ⟨by omega, by omega⟩ ⟨by omega, by omega⟩ (fun c_28 => ?_) (fun c_28 => absurd c_28 (by omega))
  refine r_aload_n E 0 dX6_write_43 rfl rfl ?_
  refine r_get E 5 0 0 dX6_write_44 in_X6_write_X6 lk_X6_write_10 rfl rfl (by decide) rfl ?_
  refine r_iload_n E 1 dX6_write_47 rfl rfl ?_
  refine r_iload_n E 2 dX6_write_48 rfl rfl ?_
  refine r_vV E (st := []) (c_X2_change l D h0 h1 cI g n q a v (by first | assumption | omega | exact ⟨by omega, by omega⟩) (by first | assumption | omega | exact ⟨by omega, by omega⟩)) gX6_write_X2_change 2 kf_X2_change ⟨rfl, rfl⟩ ⟨by decide, by decide⟩ dX6_write_49 rfl 1 rfl rfl rfl rfl ⟨Nat.zero_le _, Nat.zero_le _⟩ [1, 2] rfl (by decide) [0] rfl (Nat.le_of_ble_eq_true rfl) [(x0, .inr (5, [.ref h0, .ref t0, .ref n0, .ref i0, .ref d0, .ref r0, .ref p0, .int (iJ (hs)), .int (iJ (rf))])), (i0, .inr (0, [.ref i1, .int (iJ (mb))])), (i1, cR cP 4 (hF xb)), ((xb 0), .inr (2, [.ref (yb 0), .int (iJ (lN 0)), .int (iJ (lQ 0))])), ((yb 0), cJ cI 32 (lG 0)), ((xb 1), .inr (2, [.ref (yb 1), .int (iJ (lN 1)), .int (iJ (lQ 1))])), ((yb 1), cJ cI 32 (lG 1)), ((xb 2), .inr (2, [.ref (yb 2), .int (iJ (lN 2)), .int (iJ (lQ 2))])), ((yb 2), cJ cI 32 (lG 2)), ((xb 3), .inr (2, [.ref (yb 3), .int (iJ (lN 3)), .int (iJ (lQ 3))])), ((yb 3), cJ cI 32 (lG 3))] [0, 3, 4, 5, 6, 7, 8, 9, 10, 11, 12] rfl (by decide) (by decide) hA [0, 11, 12, 1, 2, 3, 4, 5, 6, 7, 8, 9, 10] (by decide) (fun (_ : Unit) => [(x0, .inr (5, [.ref h0, .ref t0, .ref n0, .ref i0, .ref d0, .ref r0, .ref p0, .int (iJ (hs)), .int (iJ (rf))])), (h0, .inr (2, [.ref h1, .int (iJ (n)), .int (iJ (q))])), (h1, cJ cI 32 (uJ g a v)), (i0, .inr (0, [.ref i1, .int (iJ (mb))])), (i1, cR cP 4 (hF xb)), ((xb 0), .inr (2, [.ref (yb 0), .int (iJ (lN 0)), .int (iJ (lQ 0))])), ((yb 0), cJ cI 32 (lG 0)), ((xb 1), .inr (2, [.ref (yb 1), .int (iJ (lN 1)), .int (iJ (lQ 1))])), ((yb 1), cJ cI 32 (lG 1)), ((xb 2), .inr (2, [.ref (yb 2), .int (iJ (lN 2)), .int (iJ (lQ 2))])), ((yb 2), cJ cI 32 (lG 2)), ((xb 3), .inr (2, [.ref (yb 3), .int (iJ (lN 3)), .int (iJ (lQ 3))])), ((yb 3), cJ cI 32 (lG 3))]) (fun _ => rfl) ?_
  rintro ⟨⟩ hp_2
  refine r_aload_n E 0 dX6_write_52 rfl rfl ?_
  refine r_get E 5 0 0 dX6_write_53 in_X6_write_X6 lk_X6_write_10 rfl rfl (by decide) rfl ?_
  refine r_getN E 2 1 1 dX6_write_56 in_X6_write_X2 (by decide) rfl rfl rfl (by decide) rfl ?_
  exact r_retM E (xb, yb, lN, lQ, lG, mb) hr dX6_write_59 rfl hp6 rfl hQ
theorem kf_X6_stroke : KF yX6_stroke 4 wsX6_stroke cX6_stroke 5 (some .int) := ⟨rfl, by decide +kernel, by decide +kernel, by decide +kernel⟩
def rm_X6_stroke : Room := { frames := 4, cells := 0, slots := 0, locals := 86 }
set_option maxRecDepth 20000 in
theorem in_X6_stroke_X6 : ∀ w ∈ u_ws RX6 TX6 9, w ∈ wsX6_stroke := by decide +kernel
set_option maxRecDepth 20000 in
theorem lk_X6_stroke_10 : Cond.fieldLink RX6 10 (TX6 0).1 (TX6 0).2.1 (TX6 0).2.2.1 ∈ wsX6_stroke := by decide +kernel
set_option maxHeartbeats 1000000 in
set_option maxRecDepth 100000 in
theorem c_X6_strokeBad (l : Launch) (D : va_G) (x0 : Nat) (h0 : Nat) (t0 : Nat) (n0 : Nat) (i0 : Nat) (d0 : Nat) (r0 : Nat) (p0 : Nat) (hs : Int) (rf : Int) (h1 : Nat) (cI : ClassId) (g : Int → Int) (n : Int) (q : Int) (a : Int) (h : Int) (ac : Int) (o : Int) (hn : 0 ≤ n ∧ n ≤ 32) (ha : jb a) (hh : jb h) (hac : ac = 0 ∨ ac = 1) (ho : jb o) (hb : ¬ ((0 ≤ a ∧ a ≤ n) ∧ (0 ≤ h ∧ h ≤ 2) ∧ (0 ≤ o ∧ o ≤ 3))) : MP l yX6_stroke wsX6_stroke rm_X6_stroke D vwCl [.ref x0, .int (iJ (a)), .int (iJ (h)), .int (iJ (ac)), .int (iJ (o))] [(x0, .inr (5, [.ref h0, .ref t0, .ref n0, .ref i0, .ref d0, .ref r0, .ref p0, .int (iJ (hs)), .int (iJ (rf))])), (h0, .inr (2, [.ref h1, .int (iJ (n)), .int (iJ (q))])), (h1, cJ cI 32 (g))] [(cI, .int)] (-1) := by
  refine MP.mk (cc := cX6_stroke) (maxL := 5) (ret := (some .int)) (by decide) rfl (Nat.le_of_ble_eq_true rfl) rfl RX6 rfl ?_
  intro p_ e_ s_ m_ ar_ bw_ mt_ cd_ Q_ E hr hQ
  refine r_aload_n E 0 dX6_stroke_0 rfl rfl ?_
  refine r_get E 5 0 0 dX6_stroke_1 in_X6_stroke_X6 lk_X6_stroke_10 rfl rfl (by decide) rfl ?_
  refine r_iload_n E 1 dX6_stroke_4 rfl rfl ?_
  refine r_vP E (st := []) (c_X2_hasGap l D h0 h1 cI g n q a (by first | assumption | omega | exact ⟨by omega, by omega⟩) (by first | assumption | omega | exact ⟨by omega, by omega⟩)) gX6_stroke_X2_hasGap 1 kf_X2_hasGap ⟨rfl, rfl⟩ ⟨by decide, by decide⟩ dX6_stroke_5 rfl 1 rfl rfl rfl rfl ⟨Nat.zero_le _, Nat.zero_le _⟩ [1, 2] rfl (by decide) [0] rfl (Nat.le_of_ble_eq_true rfl) ?_
  refine r_ifeq_b E 26 dX6_stroke_8 (by decide) (fun c_8 => ?_) (fun c_8 => ?_)
  · refine r_iconst E (-1) rfl dX6_stroke_26 ?_
    exact r_retP E hr dX6_stroke_27 rfl hQ
  · refine r_iload_n E 2 dX6_stroke_11 rfl rfl ?_
    refine r_sP E (st := []) (c_X6_isHand l D h (by first | assumption | omega | exact ⟨by omega, by omega⟩)) gX6_stroke_X6_isHand 1 kf_X6_isHand ⟨rfl, rfl⟩ ⟨by decide, by decide⟩ dX6_stroke_12 rfl rfl ⟨Nat.zero_le _, Nat.zero_le _⟩ [] rfl (by decide) [] rfl (Nat.le_of_ble_eq_true rfl) ?_
    refine r_ifeq_b E 26 dX6_stroke_15 (by decide) (fun c_15 => ?_) (fun c_15 => ?_)
    · refine r_iconst E (-1) rfl dX6_stroke_26 ?_
      exact r_retP E hr dX6_stroke_27 rfl hQ
    · refine r_iload E 4 dX6_stroke_18 rfl ?_
      refine r_sP E (st := []) (c_X6_isOrnament l D o (by first | assumption | omega | exact ⟨by omega, by omega⟩)) gX6_stroke_X6_isOrnament 1 kf_X6_isOrnament ⟨rfl, rfl⟩ ⟨by decide, by decide⟩ dX6_stroke_20 rfl rfl ⟨Nat.zero_le _, Nat.zero_le _⟩ [] rfl (by decide) [] rfl (Nat.le_of_ble_eq_true rfl) ?_
      refine r_ifne_b E 28 dX6_stroke_23 (by decide) (fun c_23 => absurd c_23 (by omega)) (fun c_23 => ?_)
      refine r_iconst E (-1) rfl dX6_stroke_26 ?_
      exact r_retP E hr dX6_stroke_27 rfl hQ
set_option maxHeartbeats 1000000 in
set_option maxRecDepth 100000 in
theorem c_X6_strokeNo (l : Launch) (D : va_G) (x0 : Nat) (h0 : Nat) (t0 : Nat) (n0 : Nat) (i0 : Nat) (d0 : Nat) (r0 : Nat) (p0 : Nat) (hs : Int) (rf : Int) (h1 : Nat) (cI : ClassId) (g : Int → Int) (n : Int) (q : Int) (a : Int) (h : Int) (ac : Int) (o : Int) (hn : 0 ≤ n ∧ n ≤ 32) (hk : (0 ≤ a ∧ a ≤ n) ∧ (0 ≤ h ∧ h ≤ 2) ∧ (0 ≤ o ∧ o ≤ 3)) (hac : ac = 0 ∨ ac = 1) (ha : a = 32) : MP l yX6_stroke wsX6_stroke rm_X6_stroke D vwCl [.ref x0, .int (iJ (a)), .int (iJ (h)), .int (iJ (ac)), .int (iJ (o))] [(x0, .inr (5, [.ref h0, .ref t0, .ref n0, .ref i0, .ref d0, .ref r0, .ref p0, .int (iJ (hs)), .int (iJ (rf))])), (h0, .inr (2, [.ref h1, .int (iJ (n)), .int (iJ (q))])), (h1, cJ cI 32 (g))] [(cI, .int)] (-3) := by
  refine MP.mk (cc := cX6_stroke) (maxL := 5) (ret := (some .int)) (by decide) rfl (Nat.le_of_ble_eq_true rfl) rfl RX6 rfl ?_
  intro p_ e_ s_ m_ ar_ bw_ mt_ cd_ Q_ E hr hQ
  refine r_aload_n E 0 dX6_stroke_0 rfl rfl ?_
  refine r_get E 5 0 0 dX6_stroke_1 in_X6_stroke_X6 lk_X6_stroke_10 rfl rfl (by decide) rfl ?_
  refine r_iload_n E 1 dX6_stroke_4 rfl rfl ?_
  refine r_vP E (st := []) (c_X2_hasGap l D h0 h1 cI g n q a (by first | assumption | omega | exact ⟨by omega, by omega⟩) (by first | assumption | omega | exact ⟨by omega, by omega⟩)) gX6_stroke_X2_hasGap 1 kf_X2_hasGap ⟨rfl, rfl⟩ ⟨by decide, by decide⟩ dX6_stroke_5 rfl 1 rfl rfl rfl rfl ⟨Nat.zero_le _, Nat.zero_le _⟩ [1, 2] rfl (by decide) [0] rfl (Nat.le_of_ble_eq_true rfl) ?_
  refine r_ifeq_b E 26 dX6_stroke_8 (by decide) (fun c_8 => absurd c_8 (by omega)) (fun c_8 => ?_)
  refine r_iload_n E 2 dX6_stroke_11 rfl rfl ?_
  refine r_sP E (st := []) (c_X6_isHand l D h (by first | assumption | omega | exact ⟨by omega, by omega⟩)) gX6_stroke_X6_isHand 1 kf_X6_isHand ⟨rfl, rfl⟩ ⟨by decide, by decide⟩ dX6_stroke_12 rfl rfl ⟨Nat.zero_le _, Nat.zero_le _⟩ [] rfl (by decide) [] rfl (Nat.le_of_ble_eq_true rfl) ?_
  refine r_ifeq_b E 26 dX6_stroke_15 (by decide) (fun c_15 => absurd c_15 (by omega)) (fun c_15 => ?_)
  refine r_iload E 4 dX6_stroke_18 rfl ?_
  refine r_sP E (st := []) (c_X6_isOrnament l D o (by first | assumption | omega | exact ⟨by omega, by omega⟩)) gX6_stroke_X6_isOrnament 1 kf_X6_isOrnament ⟨rfl, rfl⟩ ⟨by decide, by decide⟩ dX6_stroke_20 rfl rfl ⟨Nat.zero_le _, Nat.zero_le _⟩ [] rfl (by decide) [] rfl (Nat.le_of_ble_eq_true rfl) ?_
  refine r_ifne_b E 28 dX6_stroke_23 (by decide) (fun c_23 => ?_) (fun c_23 => absurd c_23 (by omega))
  refine r_aload_n E 0 dX6_stroke_28 rfl rfl ?_
  refine r_iload_n E 1 dX6_stroke_29 rfl rfl ?_
  refine r_iload_n E 2 dX6_stroke_30 rfl rfl ?_
  refine r_iload_n E 3 dX6_stroke_31 rfl rfl ?_
  refine r_iload E 4 dX6_stroke_32 rfl ?_
  refine r_sP E (st := [.int (iJ (a)), .ref x0]) (c_X5_of l D h ac o (by first | assumption | omega | exact ⟨by omega, by omega⟩) (by first | assumption | omega | exact ⟨by omega, by omega⟩) (by first | assumption | omega | exact ⟨by omega, by omega⟩)) gX6_stroke_X5_of 3 kf_X5_of ⟨rfl, rfl⟩ ⟨by decide, by decide⟩ dX6_stroke_34 rfl rfl ⟨Nat.zero_le _, Nat.zero_le _⟩ [] rfl (by decide) [] rfl (Nat.le_of_ble_eq_true rfl) ?_
  refine r_vP E (st := []) (c_X6_writeNo l D x0 h0 t0 n0 i0 d0 r0 p0 hs rf h1 cI g n q a (sOf h ac o) (by first | assumption | omega | exact ⟨by omega, by omega⟩) (by first | assumption | omega | exact ⟨by omega, by omega⟩)) gX6_stroke_X6_write 2 kf_X6_write ⟨rfl, rfl⟩ ⟨by decide, by decide⟩ dX6_stroke_37 rfl 0 rfl rfl rfl rfl ⟨Nat.zero_le _, Nat.zero_le _⟩ [0, 1, 2] rfl (by decide) [0] rfl (Nat.le_of_ble_eq_true rfl) ?_
  exact r_retP E hr dX6_stroke_40 rfl hQ
set_option maxHeartbeats 1000000 in
set_option maxRecDepth 100000 in
theorem c_X6_strokeAdd (l : Launch) (D : va_G) (x0 : Nat) (h0 : Nat) (t0 : Nat) (n0 : Nat) (i0 : Nat) (d0 : Nat) (r0 : Nat) (p0 : Nat) (hs : Int) (rf : Int) (h1 : Nat) (cI : ClassId) (g : Int → Int) (n : Int) (q : Int) (i1 : Nat) (cP : ClassId) (xa : Nat → Nat) (ya : Nat → Nat) (kN : Nat → Int) (kQ : Nat → Int) (kG : Nat → Int → Int) (m : Int) (a : Int) (h : Int) (ac : Int) (o : Int) (hn : 0 ≤ n ∧ n ≤ 32) (hm : 0 ≤ m ∧ m ≤ 4) (hhN : ∀ i : Nat, 0 ≤ kN i ∧ kN i ≤ 32) (hk : (0 ≤ a ∧ a ≤ n) ∧ (0 ≤ h ∧ h ≤ 2) ∧ (0 ≤ o ∧ o ≤ 3)) (hac : ac = 0 ∨ ac = 1) (ha : a = n ∧ n < 32) : MM (S := (Nat → Nat) × (Nat → Nat) × (Nat → Int) × (Nat → Int) × (Nat → Int → Int) × Int) l yX6_stroke wsX6_stroke rm_X6_stroke D vwCl [.ref x0, .int (iJ (a)), .int (iJ (h)), .int (iJ (ac)), .int (iJ (o))] [(x0, .inr (5, [.ref h0, .ref t0, .ref n0, .ref i0, .ref d0, .ref r0, .ref p0, .int (iJ (hs)), .int (iJ (rf))])), (h0, .inr (2, [.ref h1, .int (iJ (n)), .int (iJ (q))])), (h1, cJ cI 32 (g)), (i0, .inr (0, [.ref i1, .int (iJ (m))])), (i1, cR cP 4 (hF xa)), ((xa 0), .inr (2, [.ref (ya 0), .int (iJ (kN 0)), .int (iJ (kQ 0))])), ((ya 0), cJ cI 32 (kG 0)), ((xa 1), .inr (2, [.ref (ya 1), .int (iJ (kN 1)), .int (iJ (kQ 1))])), ((ya 1), cJ cI 32 (kG 1)), ((xa 2), .inr (2, [.ref (ya 2), .int (iJ (kN 2)), .int (iJ (kQ 2))])), ((ya 2), cJ cI 32 (kG 2)), ((xa 3), .inr (2, [.ref (ya 3), .int (iJ (kN 3)), .int (iJ (kQ 3))])), ((ya 3), cJ cI 32 (kG 3))] [(cI, .int), (cP, .object "LeanSticks$Piece")] (fun (u : (Nat → Nat) × (Nat → Nat) × (Nat → Int) × (Nat → Int) × (Nat → Int → Int) × Int) => n + 1) (fun (u : (Nat → Nat) × (Nat → Nat) × (Nat → Int) × (Nat → Int) × (Nat → Int → Int) × Int) => (HPush m n q g kN kQ kG u.2.2.2.2.2 u.2.2.1 u.2.2.2.1 u.2.2.2.2.1)) (fun (u : (Nat → Nat) × (Nat → Nat) × (Nat → Int) × (Nat → Int) × (Nat → Int → Int) × Int) => [(x0, .inr (5, [.ref h0, .ref t0, .ref n0, .ref i0, .ref d0, .ref r0, .ref p0, .int (iJ (hs)), .int (iJ (rf))])), (h0, .inr (2, [.ref h1, .int (iJ ((n + 1))), .int (iJ (q))])), (h1, cJ cI 32 (uJ g n (sOf h ac o))), (i0, .inr (0, [.ref i1, .int (iJ (u.2.2.2.2.2))])), (i1, cR cP 4 (hF u.1)), ((u.1 0), .inr (2, [.ref (u.2.1 0), .int (iJ (u.2.2.1 0)), .int (iJ (u.2.2.2.1 0))])), ((u.2.1 0), cJ cI 32 (u.2.2.2.2.1 0)), ((u.1 1), .inr (2, [.ref (u.2.1 1), .int (iJ (u.2.2.1 1)), .int (iJ (u.2.2.2.1 1))])), ((u.2.1 1), cJ cI 32 (u.2.2.2.2.1 1)), ((u.1 2), .inr (2, [.ref (u.2.1 2), .int (iJ (u.2.2.1 2)), .int (iJ (u.2.2.2.1 2))])), ((u.2.1 2), cJ cI 32 (u.2.2.2.2.1 2)), ((u.1 3), .inr (2, [.ref (u.2.1 3), .int (iJ (u.2.2.1 3)), .int (iJ (u.2.2.2.1 3))])), ((u.2.1 3), cJ cI 32 (u.2.2.2.2.1 3))]) := by
  refine MM.mk (cc := cX6_stroke) (maxL := 5) (ret := (some .int)) (by decide) rfl (Nat.le_of_ble_eq_true rfl) rfl RX6 rfl ?_
  intro p_ e_ s_ m_ ar_ bw_ mt_ cd_ B_ Q_ hA E hr hQ
  refine r_aload_n E 0 dX6_stroke_0 rfl rfl ?_
  refine r_get E 5 0 0 dX6_stroke_1 in_X6_stroke_X6 lk_X6_stroke_10 rfl rfl (by decide) rfl ?_
  refine r_iload_n E 1 dX6_stroke_4 rfl rfl ?_
  refine r_vP E (st := []) (c_X2_hasGap l D h0 h1 cI g n q a (by first | assumption | omega | exact ⟨by omega, by omega⟩) (by first | assumption | omega | exact ⟨by omega, by omega⟩)) gX6_stroke_X2_hasGap 1 kf_X2_hasGap ⟨rfl, rfl⟩ ⟨by decide, by decide⟩ dX6_stroke_5 rfl 1 rfl rfl rfl rfl ⟨Nat.zero_le _, Nat.zero_le _⟩ [1, 2] rfl (by decide) [0] rfl (Nat.le_of_ble_eq_true rfl) ?_
  refine r_ifeq_b E 26 dX6_stroke_8 (by decide) (fun c_8 => absurd c_8 (by omega)) (fun c_8 => ?_)
  refine r_iload_n E 2 dX6_stroke_11 rfl rfl ?_
  refine r_sP E (st := []) (c_X6_isHand l D h (by first | assumption | omega | exact ⟨by omega, by omega⟩)) gX6_stroke_X6_isHand 1 kf_X6_isHand ⟨rfl, rfl⟩ ⟨by decide, by decide⟩ dX6_stroke_12 rfl rfl ⟨Nat.zero_le _, Nat.zero_le _⟩ [] rfl (by decide) [] rfl (Nat.le_of_ble_eq_true rfl) ?_
  refine r_ifeq_b E 26 dX6_stroke_15 (by decide) (fun c_15 => absurd c_15 (by omega)) (fun c_15 => ?_)
  refine r_iload E 4 dX6_stroke_18 rfl ?_
  refine r_sP E (st := []) (c_X6_isOrnament l D o (by first | assumption | omega | exact ⟨by omega, by omega⟩)) gX6_stroke_X6_isOrnament 1 kf_X6_isOrnament ⟨rfl, rfl⟩ ⟨by decide, by decide⟩ dX6_stroke_20 rfl rfl ⟨Nat.zero_le _, Nat.zero_le _⟩ [] rfl (by decide) [] rfl (Nat.le_of_ble_eq_true rfl) ?_
  refine r_ifne_b E 28 dX6_stroke_23 (by decide) (fun c_23 => ?_) (fun c_23 => absurd c_23 (by omega))
  refine r_aload_n E 0 dX6_stroke_28 rfl rfl ?_
  refine r_iload_n E 1 dX6_stroke_29 rfl rfl ?_
  refine r_iload_n E 2 dX6_stroke_30 rfl rfl ?_
  refine r_iload_n E 3 dX6_stroke_31 rfl rfl ?_
  refine r_iload E 4 dX6_stroke_32 rfl ?_
  refine r_sP E (st := [.int (iJ (a)), .ref x0]) (c_X5_of l D h ac o (by first | assumption | omega | exact ⟨by omega, by omega⟩) (by first | assumption | omega | exact ⟨by omega, by omega⟩) (by first | assumption | omega | exact ⟨by omega, by omega⟩)) gX6_stroke_X5_of 3 kf_X5_of ⟨rfl, rfl⟩ ⟨by decide, by decide⟩ dX6_stroke_34 rfl rfl ⟨Nat.zero_le _, Nat.zero_le _⟩ [] rfl (by decide) [] rfl (Nat.le_of_ble_eq_true rfl) ?_
  refine r_vM E (st := []) (c_X6_writeAdd l D x0 h0 t0 n0 i0 d0 r0 p0 hs rf h1 cI g n q i1 cP xa ya kN kQ kG m a (sOf h ac o) (by first | assumption | omega | exact ⟨by omega, by omega⟩) (by first | assumption | omega | exact ⟨by omega, by omega⟩) (by first | assumption | omega | exact ⟨by omega, by omega⟩) (by first | assumption | omega | exact ⟨by omega, by omega⟩)) gX6_stroke_X6_write 2 kf_X6_write ⟨rfl, rfl⟩ ⟨by decide, by decide⟩ dX6_stroke_37 rfl 0 rfl rfl rfl rfl ⟨Nat.zero_le _, Nat.zero_le _⟩ [0, 1, 2, 3, 4, 5, 6, 7, 8, 9, 10, 11, 12] rfl (by decide) [0, 1] rfl (Nat.le_of_ble_eq_true rfl) [] [] rfl (by decide) (by decide) hA [0, 1, 2, 3, 4, 5, 6, 7, 8, 9, 10, 11, 12] (by decide) (fun u : (Nat → Nat) × (Nat → Nat) × (Nat → Int) × (Nat → Int) × (Nat → Int → Int) × Int => [(x0, .inr (5, [.ref h0, .ref t0, .ref n0, .ref i0, .ref d0, .ref r0, .ref p0, .int (iJ (hs)), .int (iJ (rf))])), (h0, .inr (2, [.ref h1, .int (iJ ((n + 1))), .int (iJ (q))])), (h1, cJ cI 32 (uJ g n (sOf h ac o))), (i0, .inr (0, [.ref i1, .int (iJ (u.2.2.2.2.2))])), (i1, cR cP 4 (hF u.1)), ((u.1 0), .inr (2, [.ref (u.2.1 0), .int (iJ (u.2.2.1 0)), .int (iJ (u.2.2.2.1 0))])), ((u.2.1 0), cJ cI 32 (u.2.2.2.2.1 0)), ((u.1 1), .inr (2, [.ref (u.2.1 1), .int (iJ (u.2.2.1 1)), .int (iJ (u.2.2.2.1 1))])), ((u.2.1 1), cJ cI 32 (u.2.2.2.2.1 1)), ((u.1 2), .inr (2, [.ref (u.2.1 2), .int (iJ (u.2.2.1 2)), .int (iJ (u.2.2.2.1 2))])), ((u.2.1 2), cJ cI 32 (u.2.2.2.2.1 2)), ((u.1 3), .inr (2, [.ref (u.2.1 3), .int (iJ (u.2.2.1 3)), .int (iJ (u.2.2.2.1 3))])), ((u.2.1 3), cJ cI 32 (u.2.2.2.2.1 3))]) (fun _ => rfl) ?_
  rintro ⟨xb, yb, lN, lQ, lG, mb⟩ hp_1
  refine r_cv (ws2 := [(x0, .inr (5, [.ref h0, .ref t0, .ref n0, .ref i0, .ref d0, .ref r0, .ref p0, .int (iJ (hs)), .int (iJ (rf))])), (h0, .inr (2, [.ref h1, .int (iJ ((n + 1))), .int (iJ (q))])), (h1, cJ cI 32 (uJ g n (sOf h ac o))), (i0, .inr (0, [.ref i1, .int (iJ (mb))])), (i1, cR cP 4 (hF xb)), ((xb 0), .inr (2, [.ref (yb 0), .int (iJ (lN 0)), .int (iJ (lQ 0))])), ((yb 0), cJ cI 32 (lG 0)), ((xb 1), .inr (2, [.ref (yb 1), .int (iJ (lN 1)), .int (iJ (lQ 1))])), ((yb 1), cJ cI 32 (lG 1)), ((xb 2), .inr (2, [.ref (yb 2), .int (iJ (lN 2)), .int (iJ (lQ 2))])), ((yb 2), cJ cI 32 (lG 2)), ((xb 3), .inr (2, [.ref (yb 3), .int (iJ (lN 3)), .int (iJ (lQ 3))])), ((yb 3), cJ cI 32 (lG 3))]) (st2 := [.int (iJ (n + 1))]) rfl rfl rfl ?_
  have hp6 := hp_1
  try dsimp only at hp6
  exact r_retM E (xb, yb, lN, lQ, lG, mb) hr dX6_stroke_40 rfl hp6 rfl hQ
set_option maxHeartbeats 1000000 in
set_option maxRecDepth 100000 in
theorem c_X6_strokeCh (l : Launch) (D : va_G) (x0 : Nat) (h0 : Nat) (t0 : Nat) (n0 : Nat) (i0 : Nat) (d0 : Nat) (r0 : Nat) (p0 : Nat) (hs : Int) (rf : Int) (h1 : Nat) (cI : ClassId) (g : Int → Int) (n : Int) (q : Int) (i1 : Nat) (cP : ClassId) (xa : Nat → Nat) (ya : Nat → Nat) (kN : Nat → Int) (kQ : Nat → Int) (kG : Nat → Int → Int) (m : Int) (a : Int) (h : Int) (ac : Int) (o : Int) (hn : 0 ≤ n ∧ n ≤ 32) (hm : 0 ≤ m ∧ m ≤ 4) (hhN : ∀ i : Nat, 0 ≤ kN i ∧ kN i ≤ 32) (hk : (0 ≤ a ∧ a ≤ n) ∧ (0 ≤ h ∧ h ≤ 2) ∧ (0 ≤ o ∧ o ≤ 3)) (hac : ac = 0 ∨ ac = 1) (ha : 0 ≤ a ∧ a < n) : MM (S := (Nat → Nat) × (Nat → Nat) × (Nat → Int) × (Nat → Int) × (Nat → Int → Int) × Int) l yX6_stroke wsX6_stroke rm_X6_stroke D vwCl [.ref x0, .int (iJ (a)), .int (iJ (h)), .int (iJ (ac)), .int (iJ (o))] [(x0, .inr (5, [.ref h0, .ref t0, .ref n0, .ref i0, .ref d0, .ref r0, .ref p0, .int (iJ (hs)), .int (iJ (rf))])), (h0, .inr (2, [.ref h1, .int (iJ (n)), .int (iJ (q))])), (h1, cJ cI 32 (g)), (i0, .inr (0, [.ref i1, .int (iJ (m))])), (i1, cR cP 4 (hF xa)), ((xa 0), .inr (2, [.ref (ya 0), .int (iJ (kN 0)), .int (iJ (kQ 0))])), ((ya 0), cJ cI 32 (kG 0)), ((xa 1), .inr (2, [.ref (ya 1), .int (iJ (kN 1)), .int (iJ (kQ 1))])), ((ya 1), cJ cI 32 (kG 1)), ((xa 2), .inr (2, [.ref (ya 2), .int (iJ (kN 2)), .int (iJ (kQ 2))])), ((ya 2), cJ cI 32 (kG 2)), ((xa 3), .inr (2, [.ref (ya 3), .int (iJ (kN 3)), .int (iJ (kQ 3))])), ((ya 3), cJ cI 32 (kG 3))] [(cI, .int), (cP, .object "LeanSticks$Piece")] (fun (u : (Nat → Nat) × (Nat → Nat) × (Nat → Int) × (Nat → Int) × (Nat → Int → Int) × Int) => n) (fun (u : (Nat → Nat) × (Nat → Nat) × (Nat → Int) × (Nat → Int) × (Nat → Int → Int) × Int) => (HPush m n q g kN kQ kG u.2.2.2.2.2 u.2.2.1 u.2.2.2.1 u.2.2.2.2.1)) (fun (u : (Nat → Nat) × (Nat → Nat) × (Nat → Int) × (Nat → Int) × (Nat → Int → Int) × Int) => [(x0, .inr (5, [.ref h0, .ref t0, .ref n0, .ref i0, .ref d0, .ref r0, .ref p0, .int (iJ (hs)), .int (iJ (rf))])), (h0, .inr (2, [.ref h1, .int (iJ (n)), .int (iJ (q))])), (h1, cJ cI 32 (uJ g a (sOf h ac o))), (i0, .inr (0, [.ref i1, .int (iJ (u.2.2.2.2.2))])), (i1, cR cP 4 (hF u.1)), ((u.1 0), .inr (2, [.ref (u.2.1 0), .int (iJ (u.2.2.1 0)), .int (iJ (u.2.2.2.1 0))])), ((u.2.1 0), cJ cI 32 (u.2.2.2.2.1 0)), ((u.1 1), .inr (2, [.ref (u.2.1 1), .int (iJ (u.2.2.1 1)), .int (iJ (u.2.2.2.1 1))])), ((u.2.1 1), cJ cI 32 (u.2.2.2.2.1 1)), ((u.1 2), .inr (2, [.ref (u.2.1 2), .int (iJ (u.2.2.1 2)), .int (iJ (u.2.2.2.1 2))])), ((u.2.1 2), cJ cI 32 (u.2.2.2.2.1 2)), ((u.1 3), .inr (2, [.ref (u.2.1 3), .int (iJ (u.2.2.1 3)), .int (iJ (u.2.2.2.1 3))])), ((u.2.1 3), cJ cI 32 (u.2.2.2.2.1 3))]) := by
  refine MM.mk (cc := cX6_stroke) (maxL := 5) (ret := (some .int)) (by decide) rfl (Nat.le_of_ble_eq_true rfl) rfl RX6 rfl ?_
  intro p_ e_ s_ m_ ar_ bw_ mt_ cd_ B_ Q_ hA E hr hQ
  refine r_aload_n E 0 dX6_stroke_0 rfl rfl ?_
  refine r_get E 5 0 0 dX6_stroke_1 in_X6_stroke_X6 lk_X6_stroke_10 rfl rfl (by decide) rfl ?_
  refine r_iload_n E 1 dX6_stroke_4 rfl rfl ?_
  refine r_vP E (st := []) (c_X2_hasGap l D h0 h1 cI g n q a (by first | assumption | omega | exact ⟨by omega, by omega⟩) (by first | assumption | omega | exact ⟨by omega, by omega⟩)) gX6_stroke_X2_hasGap 1 kf_X2_hasGap ⟨rfl, rfl⟩ ⟨by decide, by decide⟩ dX6_stroke_5 rfl 1 rfl rfl rfl rfl ⟨Nat.zero_le _, Nat.zero_le _⟩ [1, 2] rfl (by decide) [0] rfl (Nat.le_of_ble_eq_true rfl) ?_
  refine r_ifeq_b E 26 dX6_stroke_8 (by decide) (fun c_8 => absurd c_8 (by omega)) (fun c_8 => ?_)
  refine r_iload_n E 2 dX6_stroke_11 rfl rfl ?_
  refine r_sP E (st := []) (c_X6_isHand l D h (by first | assumption | omega | exact ⟨by omega, by omega⟩)) gX6_stroke_X6_isHand 1 kf_X6_isHand ⟨rfl, rfl⟩ ⟨by decide, by decide⟩ dX6_stroke_12 rfl rfl ⟨Nat.zero_le _, Nat.zero_le _⟩ [] rfl (by decide) [] rfl (Nat.le_of_ble_eq_true rfl) ?_
  refine r_ifeq_b E 26 dX6_stroke_15 (by decide) (fun c_15 => absurd c_15 (by omega)) (fun c_15 => ?_)
  refine r_iload E 4 dX6_stroke_18 rfl ?_
  refine r_sP E (st := []) (c_X6_isOrnament l D o (by first | assumption | omega | exact ⟨by omega, by omega⟩)) gX6_stroke_X6_isOrnament 1 kf_X6_isOrnament ⟨rfl, rfl⟩ ⟨by decide, by decide⟩ dX6_stroke_20 rfl rfl ⟨Nat.zero_le _, Nat.zero_le _⟩ [] rfl (by decide) [] rfl (Nat.le_of_ble_eq_true rfl) ?_
  refine r_ifne_b E 28 dX6_stroke_23 (by decide) (fun c_23 => ?_) (fun c_23 => absurd c_23 (by omega))
  refine r_aload_n E 0 dX6_stroke_28 rfl rfl ?_
  refine r_iload_n E 1 dX6_stroke_29 rfl rfl ?_
  refine r_iload_n E 2 dX6_stroke_30 rfl rfl ?_
  refine r_iload_n E 3 dX6_stroke_31 rfl rfl ?_
  refine r_iload E 4 dX6_stroke_32 rfl ?_
  refine r_sP E (st := [.int (iJ (a)), .ref x0]) (c_X5_of l D h ac o (by first | assumption | omega | exact ⟨by omega, by omega⟩) (by first | assumption | omega | exact ⟨by omega, by omega⟩) (by first | assumption | omega | exact ⟨by omega, by omega⟩)) gX6_stroke_X5_of 3 kf_X5_of ⟨rfl, rfl⟩ ⟨by decide, by decide⟩ dX6_stroke_34 rfl rfl ⟨Nat.zero_le _, Nat.zero_le _⟩ [] rfl (by decide) [] rfl (Nat.le_of_ble_eq_true rfl) ?_
  refine r_vM E (st := []) (c_X6_writeCh l D x0 h0 t0 n0 i0 d0 r0 p0 hs rf h1 cI g n q i1 cP xa ya kN kQ kG m a (sOf h ac o) (by first | assumption | omega | exact ⟨by omega, by omega⟩) (by first | assumption | omega | exact ⟨by omega, by omega⟩) (by first | assumption | omega | exact ⟨by omega, by omega⟩) (by first | assumption | omega | exact ⟨by omega, by omega⟩)) gX6_stroke_X6_write 2 kf_X6_write ⟨rfl, rfl⟩ ⟨by decide, by decide⟩ dX6_stroke_37 rfl 0 rfl rfl rfl rfl ⟨Nat.zero_le _, Nat.zero_le _⟩ [0, 1, 2, 3, 4, 5, 6, 7, 8, 9, 10, 11, 12] rfl (by decide) [0, 1] rfl (Nat.le_of_ble_eq_true rfl) [] [] rfl (by decide) (by decide) hA [0, 1, 2, 3, 4, 5, 6, 7, 8, 9, 10, 11, 12] (by decide) (fun u : (Nat → Nat) × (Nat → Nat) × (Nat → Int) × (Nat → Int) × (Nat → Int → Int) × Int => [(x0, .inr (5, [.ref h0, .ref t0, .ref n0, .ref i0, .ref d0, .ref r0, .ref p0, .int (iJ (hs)), .int (iJ (rf))])), (h0, .inr (2, [.ref h1, .int (iJ (n)), .int (iJ (q))])), (h1, cJ cI 32 (uJ g a (sOf h ac o))), (i0, .inr (0, [.ref i1, .int (iJ (u.2.2.2.2.2))])), (i1, cR cP 4 (hF u.1)), ((u.1 0), .inr (2, [.ref (u.2.1 0), .int (iJ (u.2.2.1 0)), .int (iJ (u.2.2.2.1 0))])), ((u.2.1 0), cJ cI 32 (u.2.2.2.2.1 0)), ((u.1 1), .inr (2, [.ref (u.2.1 1), .int (iJ (u.2.2.1 1)), .int (iJ (u.2.2.2.1 1))])), ((u.2.1 1), cJ cI 32 (u.2.2.2.2.1 1)), ((u.1 2), .inr (2, [.ref (u.2.1 2), .int (iJ (u.2.2.1 2)), .int (iJ (u.2.2.2.1 2))])), ((u.2.1 2), cJ cI 32 (u.2.2.2.2.1 2)), ((u.1 3), .inr (2, [.ref (u.2.1 3), .int (iJ (u.2.2.1 3)), .int (iJ (u.2.2.2.1 3))])), ((u.2.1 3), cJ cI 32 (u.2.2.2.2.1 3))]) (fun _ => rfl) ?_
  rintro ⟨xb, yb, lN, lQ, lG, mb⟩ hp_1
  refine r_cv (ws2 := [(x0, .inr (5, [.ref h0, .ref t0, .ref n0, .ref i0, .ref d0, .ref r0, .ref p0, .int (iJ (hs)), .int (iJ (rf))])), (h0, .inr (2, [.ref h1, .int (iJ (n)), .int (iJ (q))])), (h1, cJ cI 32 (uJ g a (sOf h ac o))), (i0, .inr (0, [.ref i1, .int (iJ (mb))])), (i1, cR cP 4 (hF xb)), ((xb 0), .inr (2, [.ref (yb 0), .int (iJ (lN 0)), .int (iJ (lQ 0))])), ((yb 0), cJ cI 32 (lG 0)), ((xb 1), .inr (2, [.ref (yb 1), .int (iJ (lN 1)), .int (iJ (lQ 1))])), ((yb 1), cJ cI 32 (lG 1)), ((xb 2), .inr (2, [.ref (yb 2), .int (iJ (lN 2)), .int (iJ (lQ 2))])), ((yb 2), cJ cI 32 (lG 2)), ((xb 3), .inr (2, [.ref (yb 3), .int (iJ (lN 3)), .int (iJ (lQ 3))])), ((yb 3), cJ cI 32 (lG 3))]) (st2 := [.int (iJ (n))]) rfl rfl rfl ?_
  have hp6 := hp_1
  try dsimp only at hp6
  exact r_retM E (xb, yb, lN, lQ, lG, mb) hr dX6_stroke_40 rfl hp6 rfl hQ
theorem kf_X6_rest : KF yX6_rest 1 wsX6_rest cX6_rest 2 (some .int) := ⟨rfl, by decide +kernel, by decide +kernel, by decide +kernel⟩
def rm_X6_rest : Room := { frames := 4, cells := 0, slots := 0, locals := 86 }
set_option maxRecDepth 20000 in
theorem in_X6_rest_X6 : ∀ w ∈ u_ws RX6 TX6 9, w ∈ wsX6_rest := by decide +kernel
set_option maxRecDepth 20000 in
theorem lk_X6_rest_10 : Cond.fieldLink RX6 10 (TX6 0).1 (TX6 0).2.1 (TX6 0).2.2.1 ∈ wsX6_rest := by decide +kernel
set_option maxHeartbeats 1000000 in
set_option maxRecDepth 100000 in
theorem c_X6_restBad (l : Launch) (D : va_G) (x0 : Nat) (h0 : Nat) (t0 : Nat) (n0 : Nat) (i0 : Nat) (d0 : Nat) (r0 : Nat) (p0 : Nat) (hs : Int) (rf : Int) (h1 : Nat) (cI : ClassId) (g : Int → Int) (n : Int) (q : Int) (a : Int) (hn : 0 ≤ n ∧ n ≤ 32) (ha : jb a) (hb : ¬ (0 ≤ a ∧ a ≤ n)) : MP l yX6_rest wsX6_rest rm_X6_rest D vwCl [.ref x0, .int (iJ (a))] [(x0, .inr (5, [.ref h0, .ref t0, .ref n0, .ref i0, .ref d0, .ref r0, .ref p0, .int (iJ (hs)), .int (iJ (rf))])), (h0, .inr (2, [.ref h1, .int (iJ (n)), .int (iJ (q))])), (h1, cJ cI 32 (g))] [(cI, .int)] (-1) := by
  refine MP.mk (cc := cX6_rest) (maxL := 2) (ret := (some .int)) (by decide) rfl (Nat.le_of_ble_eq_true rfl) rfl RX6 rfl ?_
  intro p_ e_ s_ m_ ar_ bw_ mt_ cd_ Q_ E hr hQ
  refine r_aload_n E 0 dX6_rest_0 rfl rfl ?_
  refine r_get E 5 0 0 dX6_rest_1 in_X6_rest_X6 lk_X6_rest_10 rfl rfl (by decide) rfl ?_
  refine r_iload_n E 1 dX6_rest_4 rfl rfl ?_
  refine r_vP E (st := []) (c_X2_hasGap l D h0 h1 cI g n q a (by first | assumption | omega | exact ⟨by omega, by omega⟩) (by first | assumption | omega | exact ⟨by omega, by omega⟩)) gX6_rest_X2_hasGap 1 kf_X2_hasGap ⟨rfl, rfl⟩ ⟨by decide, by decide⟩ dX6_rest_5 rfl 1 rfl rfl rfl rfl ⟨Nat.zero_le _, Nat.zero_le _⟩ [1, 2] rfl (by decide) [0] rfl (Nat.le_of_ble_eq_true rfl) ?_
  refine r_ifne_b E 13 dX6_rest_8 (by decide) (fun c_8 => absurd c_8 (by omega)) (fun c_8 => ?_)
  refine r_iconst E (-1) rfl dX6_rest_11 ?_
  exact r_retP E hr dX6_rest_12 rfl hQ
set_option maxHeartbeats 1000000 in
set_option maxRecDepth 100000 in
theorem c_X6_restNo (l : Launch) (D : va_G) (x0 : Nat) (h0 : Nat) (t0 : Nat) (n0 : Nat) (i0 : Nat) (d0 : Nat) (r0 : Nat) (p0 : Nat) (hs : Int) (rf : Int) (h1 : Nat) (cI : ClassId) (g : Int → Int) (n : Int) (q : Int) (a : Int) (hn : 0 ≤ n ∧ n ≤ 32) (hk : 0 ≤ a ∧ a ≤ n) (ha : a = 32) : MP l yX6_rest wsX6_rest rm_X6_rest D vwCl [.ref x0, .int (iJ (a))] [(x0, .inr (5, [.ref h0, .ref t0, .ref n0, .ref i0, .ref d0, .ref r0, .ref p0, .int (iJ (hs)), .int (iJ (rf))])), (h0, .inr (2, [.ref h1, .int (iJ (n)), .int (iJ (q))])), (h1, cJ cI 32 (g))] [(cI, .int)] (-3) := by
  refine MP.mk (cc := cX6_rest) (maxL := 2) (ret := (some .int)) (by decide) rfl (Nat.le_of_ble_eq_true rfl) rfl RX6 rfl ?_
  intro p_ e_ s_ m_ ar_ bw_ mt_ cd_ Q_ E hr hQ
  refine r_aload_n E 0 dX6_rest_0 rfl rfl ?_
  refine r_get E 5 0 0 dX6_rest_1 in_X6_rest_X6 lk_X6_rest_10 rfl rfl (by decide) rfl ?_
  refine r_iload_n E 1 dX6_rest_4 rfl rfl ?_
  refine r_vP E (st := []) (c_X2_hasGap l D h0 h1 cI g n q a (by first | assumption | omega | exact ⟨by omega, by omega⟩) (by first | assumption | omega | exact ⟨by omega, by omega⟩)) gX6_rest_X2_hasGap 1 kf_X2_hasGap ⟨rfl, rfl⟩ ⟨by decide, by decide⟩ dX6_rest_5 rfl 1 rfl rfl rfl rfl ⟨Nat.zero_le _, Nat.zero_le _⟩ [1, 2] rfl (by decide) [0] rfl (Nat.le_of_ble_eq_true rfl) ?_
  refine r_ifne_b E 13 dX6_rest_8 (by decide) (fun c_8 => ?_) (fun c_8 => absurd c_8 (by omega))
  refine r_aload_n E 0 dX6_rest_13 rfl rfl ?_
  refine r_iload_n E 1 dX6_rest_14 rfl rfl ?_
  refine r_iconst E 0 rfl dX6_rest_15 ?_
  refine r_vP E (st := []) (c_X6_writeNo l D x0 h0 t0 n0 i0 d0 r0 p0 hs rf h1 cI g n q a 0 (by first | assumption | omega | exact ⟨by omega, by omega⟩) (by first | assumption | omega | exact ⟨by omega, by omega⟩)) gX6_rest_X6_write 2 kf_X6_write ⟨rfl, rfl⟩ ⟨by decide, by decide⟩ dX6_rest_16 rfl 0 rfl rfl rfl rfl ⟨Nat.zero_le _, Nat.zero_le _⟩ [0, 1, 2] rfl (by decide) [0] rfl (Nat.le_of_ble_eq_true rfl) ?_
  exact r_retP E hr dX6_rest_19 rfl hQ
set_option maxHeartbeats 1000000 in
set_option maxRecDepth 100000 in
theorem c_X6_restAdd (l : Launch) (D : va_G) (x0 : Nat) (h0 : Nat) (t0 : Nat) (n0 : Nat) (i0 : Nat) (d0 : Nat) (r0 : Nat) (p0 : Nat) (hs : Int) (rf : Int) (h1 : Nat) (cI : ClassId) (g : Int → Int) (n : Int) (q : Int) (i1 : Nat) (cP : ClassId) (xa : Nat → Nat) (ya : Nat → Nat) (kN : Nat → Int) (kQ : Nat → Int) (kG : Nat → Int → Int) (m : Int) (a : Int) (hn : 0 ≤ n ∧ n ≤ 32) (hm : 0 ≤ m ∧ m ≤ 4) (hhN : ∀ i : Nat, 0 ≤ kN i ∧ kN i ≤ 32) (ha : a = n ∧ n < 32) : MM (S := (Nat → Nat) × (Nat → Nat) × (Nat → Int) × (Nat → Int) × (Nat → Int → Int) × Int) l yX6_rest wsX6_rest rm_X6_rest D vwCl [.ref x0, .int (iJ (a))] [(x0, .inr (5, [.ref h0, .ref t0, .ref n0, .ref i0, .ref d0, .ref r0, .ref p0, .int (iJ (hs)), .int (iJ (rf))])), (h0, .inr (2, [.ref h1, .int (iJ (n)), .int (iJ (q))])), (h1, cJ cI 32 (g)), (i0, .inr (0, [.ref i1, .int (iJ (m))])), (i1, cR cP 4 (hF xa)), ((xa 0), .inr (2, [.ref (ya 0), .int (iJ (kN 0)), .int (iJ (kQ 0))])), ((ya 0), cJ cI 32 (kG 0)), ((xa 1), .inr (2, [.ref (ya 1), .int (iJ (kN 1)), .int (iJ (kQ 1))])), ((ya 1), cJ cI 32 (kG 1)), ((xa 2), .inr (2, [.ref (ya 2), .int (iJ (kN 2)), .int (iJ (kQ 2))])), ((ya 2), cJ cI 32 (kG 2)), ((xa 3), .inr (2, [.ref (ya 3), .int (iJ (kN 3)), .int (iJ (kQ 3))])), ((ya 3), cJ cI 32 (kG 3))] [(cI, .int), (cP, .object "LeanSticks$Piece")] (fun (u : (Nat → Nat) × (Nat → Nat) × (Nat → Int) × (Nat → Int) × (Nat → Int → Int) × Int) => n + 1) (fun (u : (Nat → Nat) × (Nat → Nat) × (Nat → Int) × (Nat → Int) × (Nat → Int → Int) × Int) => (HPush m n q g kN kQ kG u.2.2.2.2.2 u.2.2.1 u.2.2.2.1 u.2.2.2.2.1)) (fun (u : (Nat → Nat) × (Nat → Nat) × (Nat → Int) × (Nat → Int) × (Nat → Int → Int) × Int) => [(x0, .inr (5, [.ref h0, .ref t0, .ref n0, .ref i0, .ref d0, .ref r0, .ref p0, .int (iJ (hs)), .int (iJ (rf))])), (h0, .inr (2, [.ref h1, .int (iJ ((n + 1))), .int (iJ (q))])), (h1, cJ cI 32 (uJ g n 0)), (i0, .inr (0, [.ref i1, .int (iJ (u.2.2.2.2.2))])), (i1, cR cP 4 (hF u.1)), ((u.1 0), .inr (2, [.ref (u.2.1 0), .int (iJ (u.2.2.1 0)), .int (iJ (u.2.2.2.1 0))])), ((u.2.1 0), cJ cI 32 (u.2.2.2.2.1 0)), ((u.1 1), .inr (2, [.ref (u.2.1 1), .int (iJ (u.2.2.1 1)), .int (iJ (u.2.2.2.1 1))])), ((u.2.1 1), cJ cI 32 (u.2.2.2.2.1 1)), ((u.1 2), .inr (2, [.ref (u.2.1 2), .int (iJ (u.2.2.1 2)), .int (iJ (u.2.2.2.1 2))])), ((u.2.1 2), cJ cI 32 (u.2.2.2.2.1 2)), ((u.1 3), .inr (2, [.ref (u.2.1 3), .int (iJ (u.2.2.1 3)), .int (iJ (u.2.2.2.1 3))])), ((u.2.1 3), cJ cI 32 (u.2.2.2.2.1 3))]) := by
  refine MM.mk (cc := cX6_rest) (maxL := 2) (ret := (some .int)) (by decide) rfl (Nat.le_of_ble_eq_true rfl) rfl RX6 rfl ?_
  intro p_ e_ s_ m_ ar_ bw_ mt_ cd_ B_ Q_ hA E hr hQ
  refine r_aload_n E 0 dX6_rest_0 rfl rfl ?_
  refine r_get E 5 0 0 dX6_rest_1 in_X6_rest_X6 lk_X6_rest_10 rfl rfl (by decide) rfl ?_
  refine r_iload_n E 1 dX6_rest_4 rfl rfl ?_
  refine r_vP E (st := []) (c_X2_hasGap l D h0 h1 cI g n q a (by first | assumption | omega | exact ⟨by omega, by omega⟩) (by first | assumption | omega | exact ⟨by omega, by omega⟩)) gX6_rest_X2_hasGap 1 kf_X2_hasGap ⟨rfl, rfl⟩ ⟨by decide, by decide⟩ dX6_rest_5 rfl 1 rfl rfl rfl rfl ⟨Nat.zero_le _, Nat.zero_le _⟩ [1, 2] rfl (by decide) [0] rfl (Nat.le_of_ble_eq_true rfl) ?_
  refine r_ifne_b E 13 dX6_rest_8 (by decide) (fun c_8 => ?_) (fun c_8 => absurd c_8 (by omega))
  refine r_aload_n E 0 dX6_rest_13 rfl rfl ?_
  refine r_iload_n E 1 dX6_rest_14 rfl rfl ?_
  refine r_iconst E 0 rfl dX6_rest_15 ?_
  refine r_vM E (st := []) (c_X6_writeAdd l D x0 h0 t0 n0 i0 d0 r0 p0 hs rf h1 cI g n q i1 cP xa ya kN kQ kG m a 0 (by first | assumption | omega | exact ⟨by omega, by omega⟩) (by first | assumption | omega | exact ⟨by omega, by omega⟩) (by first | assumption | omega | exact ⟨by omega, by omega⟩) (by first | assumption | omega | exact ⟨by omega, by omega⟩)) gX6_rest_X6_write 2 kf_X6_write ⟨rfl, rfl⟩ ⟨by decide, by decide⟩ dX6_rest_16 rfl 0 rfl rfl rfl rfl ⟨Nat.zero_le _, Nat.zero_le _⟩ [0, 1, 2, 3, 4, 5, 6, 7, 8, 9, 10, 11, 12] rfl (by decide) [0, 1] rfl (Nat.le_of_ble_eq_true rfl) [] [] rfl (by decide) (by decide) hA [0, 1, 2, 3, 4, 5, 6, 7, 8, 9, 10, 11, 12] (by decide) (fun u : (Nat → Nat) × (Nat → Nat) × (Nat → Int) × (Nat → Int) × (Nat → Int → Int) × Int => [(x0, .inr (5, [.ref h0, .ref t0, .ref n0, .ref i0, .ref d0, .ref r0, .ref p0, .int (iJ (hs)), .int (iJ (rf))])), (h0, .inr (2, [.ref h1, .int (iJ ((n + 1))), .int (iJ (q))])), (h1, cJ cI 32 (uJ g n 0)), (i0, .inr (0, [.ref i1, .int (iJ (u.2.2.2.2.2))])), (i1, cR cP 4 (hF u.1)), ((u.1 0), .inr (2, [.ref (u.2.1 0), .int (iJ (u.2.2.1 0)), .int (iJ (u.2.2.2.1 0))])), ((u.2.1 0), cJ cI 32 (u.2.2.2.2.1 0)), ((u.1 1), .inr (2, [.ref (u.2.1 1), .int (iJ (u.2.2.1 1)), .int (iJ (u.2.2.2.1 1))])), ((u.2.1 1), cJ cI 32 (u.2.2.2.2.1 1)), ((u.1 2), .inr (2, [.ref (u.2.1 2), .int (iJ (u.2.2.1 2)), .int (iJ (u.2.2.2.1 2))])), ((u.2.1 2), cJ cI 32 (u.2.2.2.2.1 2)), ((u.1 3), .inr (2, [.ref (u.2.1 3), .int (iJ (u.2.2.1 3)), .int (iJ (u.2.2.2.1 3))])), ((u.2.1 3), cJ cI 32 (u.2.2.2.2.1 3))]) (fun _ => rfl) ?_
  rintro ⟨xb, yb, lN, lQ, lG, mb⟩ hp_1
  refine r_cv (ws2 := [(x0, .inr (5, [.ref h0, .ref t0, .ref n0, .ref i0, .ref d0, .ref r0, .ref p0, .int (iJ (hs)), .int (iJ (rf))])), (h0, .inr (2, [.ref h1, .int (iJ ((n + 1))), .int (iJ (q))])), (h1, cJ cI 32 (uJ g n 0)), (i0, .inr (0, [.ref i1, .int (iJ (mb))])), (i1, cR cP 4 (hF xb)), ((xb 0), .inr (2, [.ref (yb 0), .int (iJ (lN 0)), .int (iJ (lQ 0))])), ((yb 0), cJ cI 32 (lG 0)), ((xb 1), .inr (2, [.ref (yb 1), .int (iJ (lN 1)), .int (iJ (lQ 1))])), ((yb 1), cJ cI 32 (lG 1)), ((xb 2), .inr (2, [.ref (yb 2), .int (iJ (lN 2)), .int (iJ (lQ 2))])), ((yb 2), cJ cI 32 (lG 2)), ((xb 3), .inr (2, [.ref (yb 3), .int (iJ (lN 3)), .int (iJ (lQ 3))])), ((yb 3), cJ cI 32 (lG 3))]) (st2 := [.int (iJ (n + 1))]) rfl rfl rfl ?_
  have hp6 := hp_1
  try dsimp only at hp6
  exact r_retM E (xb, yb, lN, lQ, lG, mb) hr dX6_rest_19 rfl hp6 rfl hQ
set_option maxHeartbeats 1000000 in
set_option maxRecDepth 100000 in
theorem c_X6_restCh (l : Launch) (D : va_G) (x0 : Nat) (h0 : Nat) (t0 : Nat) (n0 : Nat) (i0 : Nat) (d0 : Nat) (r0 : Nat) (p0 : Nat) (hs : Int) (rf : Int) (h1 : Nat) (cI : ClassId) (g : Int → Int) (n : Int) (q : Int) (i1 : Nat) (cP : ClassId) (xa : Nat → Nat) (ya : Nat → Nat) (kN : Nat → Int) (kQ : Nat → Int) (kG : Nat → Int → Int) (m : Int) (a : Int) (hn : 0 ≤ n ∧ n ≤ 32) (hm : 0 ≤ m ∧ m ≤ 4) (hhN : ∀ i : Nat, 0 ≤ kN i ∧ kN i ≤ 32) (ha : 0 ≤ a ∧ a < n) : MM (S := (Nat → Nat) × (Nat → Nat) × (Nat → Int) × (Nat → Int) × (Nat → Int → Int) × Int) l yX6_rest wsX6_rest rm_X6_rest D vwCl [.ref x0, .int (iJ (a))] [(x0, .inr (5, [.ref h0, .ref t0, .ref n0, .ref i0, .ref d0, .ref r0, .ref p0, .int (iJ (hs)), .int (iJ (rf))])), (h0, .inr (2, [.ref h1, .int (iJ (n)), .int (iJ (q))])), (h1, cJ cI 32 (g)), (i0, .inr (0, [.ref i1, .int (iJ (m))])), (i1, cR cP 4 (hF xa)), ((xa 0), .inr (2, [.ref (ya 0), .int (iJ (kN 0)), .int (iJ (kQ 0))])), ((ya 0), cJ cI 32 (kG 0)), ((xa 1), .inr (2, [.ref (ya 1), .int (iJ (kN 1)), .int (iJ (kQ 1))])), ((ya 1), cJ cI 32 (kG 1)), ((xa 2), .inr (2, [.ref (ya 2), .int (iJ (kN 2)), .int (iJ (kQ 2))])), ((ya 2), cJ cI 32 (kG 2)), ((xa 3), .inr (2, [.ref (ya 3), .int (iJ (kN 3)), .int (iJ (kQ 3))])), ((ya 3), cJ cI 32 (kG 3))] [(cI, .int), (cP, .object "LeanSticks$Piece")] (fun (u : (Nat → Nat) × (Nat → Nat) × (Nat → Int) × (Nat → Int) × (Nat → Int → Int) × Int) => n) (fun (u : (Nat → Nat) × (Nat → Nat) × (Nat → Int) × (Nat → Int) × (Nat → Int → Int) × Int) => (HPush m n q g kN kQ kG u.2.2.2.2.2 u.2.2.1 u.2.2.2.1 u.2.2.2.2.1)) (fun (u : (Nat → Nat) × (Nat → Nat) × (Nat → Int) × (Nat → Int) × (Nat → Int → Int) × Int) => [(x0, .inr (5, [.ref h0, .ref t0, .ref n0, .ref i0, .ref d0, .ref r0, .ref p0, .int (iJ (hs)), .int (iJ (rf))])), (h0, .inr (2, [.ref h1, .int (iJ (n)), .int (iJ (q))])), (h1, cJ cI 32 (uJ g a 0)), (i0, .inr (0, [.ref i1, .int (iJ (u.2.2.2.2.2))])), (i1, cR cP 4 (hF u.1)), ((u.1 0), .inr (2, [.ref (u.2.1 0), .int (iJ (u.2.2.1 0)), .int (iJ (u.2.2.2.1 0))])), ((u.2.1 0), cJ cI 32 (u.2.2.2.2.1 0)), ((u.1 1), .inr (2, [.ref (u.2.1 1), .int (iJ (u.2.2.1 1)), .int (iJ (u.2.2.2.1 1))])), ((u.2.1 1), cJ cI 32 (u.2.2.2.2.1 1)), ((u.1 2), .inr (2, [.ref (u.2.1 2), .int (iJ (u.2.2.1 2)), .int (iJ (u.2.2.2.1 2))])), ((u.2.1 2), cJ cI 32 (u.2.2.2.2.1 2)), ((u.1 3), .inr (2, [.ref (u.2.1 3), .int (iJ (u.2.2.1 3)), .int (iJ (u.2.2.2.1 3))])), ((u.2.1 3), cJ cI 32 (u.2.2.2.2.1 3))]) := by
  refine MM.mk (cc := cX6_rest) (maxL := 2) (ret := (some .int)) (by decide) rfl (Nat.le_of_ble_eq_true rfl) rfl RX6 rfl ?_
  intro p_ e_ s_ m_ ar_ bw_ mt_ cd_ B_ Q_ hA E hr hQ
  refine r_aload_n E 0 dX6_rest_0 rfl rfl ?_
  refine r_get E 5 0 0 dX6_rest_1 in_X6_rest_X6 lk_X6_rest_10 rfl rfl (by decide) rfl ?_
  refine r_iload_n E 1 dX6_rest_4 rfl rfl ?_
  refine r_vP E (st := []) (c_X2_hasGap l D h0 h1 cI g n q a (by first | assumption | omega | exact ⟨by omega, by omega⟩) (by first | assumption | omega | exact ⟨by omega, by omega⟩)) gX6_rest_X2_hasGap 1 kf_X2_hasGap ⟨rfl, rfl⟩ ⟨by decide, by decide⟩ dX6_rest_5 rfl 1 rfl rfl rfl rfl ⟨Nat.zero_le _, Nat.zero_le _⟩ [1, 2] rfl (by decide) [0] rfl (Nat.le_of_ble_eq_true rfl) ?_
  refine r_ifne_b E 13 dX6_rest_8 (by decide) (fun c_8 => ?_) (fun c_8 => absurd c_8 (by omega))
  refine r_aload_n E 0 dX6_rest_13 rfl rfl ?_
  refine r_iload_n E 1 dX6_rest_14 rfl rfl ?_
  refine r_iconst E 0 rfl dX6_rest_15 ?_
  refine r_vM E (st := []) (c_X6_writeCh l D x0 h0 t0 n0 i0 d0 r0 p0 hs rf h1 cI g n q i1 cP xa ya kN kQ kG m a 0 (by first | assumption | omega | exact ⟨by omega, by omega⟩) (by first | assumption | omega | exact ⟨by omega, by omega⟩) (by first | assumption | omega | exact ⟨by omega, by omega⟩) (by first | assumption | omega | exact ⟨by omega, by omega⟩)) gX6_rest_X6_write 2 kf_X6_write ⟨rfl, rfl⟩ ⟨by decide, by decide⟩ dX6_rest_16 rfl 0 rfl rfl rfl rfl ⟨Nat.zero_le _, Nat.zero_le _⟩ [0, 1, 2, 3, 4, 5, 6, 7, 8, 9, 10, 11, 12] rfl (by decide) [0, 1] rfl (Nat.le_of_ble_eq_true rfl) [] [] rfl (by decide) (by decide) hA [0, 1, 2, 3, 4, 5, 6, 7, 8, 9, 10, 11, 12] (by decide) (fun u : (Nat → Nat) × (Nat → Nat) × (Nat → Int) × (Nat → Int) × (Nat → Int → Int) × Int => [(x0, .inr (5, [.ref h0, .ref t0, .ref n0, .ref i0, .ref d0, .ref r0, .ref p0, .int (iJ (hs)), .int (iJ (rf))])), (h0, .inr (2, [.ref h1, .int (iJ (n)), .int (iJ (q))])), (h1, cJ cI 32 (uJ g a 0)), (i0, .inr (0, [.ref i1, .int (iJ (u.2.2.2.2.2))])), (i1, cR cP 4 (hF u.1)), ((u.1 0), .inr (2, [.ref (u.2.1 0), .int (iJ (u.2.2.1 0)), .int (iJ (u.2.2.2.1 0))])), ((u.2.1 0), cJ cI 32 (u.2.2.2.2.1 0)), ((u.1 1), .inr (2, [.ref (u.2.1 1), .int (iJ (u.2.2.1 1)), .int (iJ (u.2.2.2.1 1))])), ((u.2.1 1), cJ cI 32 (u.2.2.2.2.1 1)), ((u.1 2), .inr (2, [.ref (u.2.1 2), .int (iJ (u.2.2.1 2)), .int (iJ (u.2.2.2.1 2))])), ((u.2.1 2), cJ cI 32 (u.2.2.2.2.1 2)), ((u.1 3), .inr (2, [.ref (u.2.1 3), .int (iJ (u.2.2.1 3)), .int (iJ (u.2.2.2.1 3))])), ((u.2.1 3), cJ cI 32 (u.2.2.2.2.1 3))]) (fun _ => rfl) ?_
  rintro ⟨xb, yb, lN, lQ, lG, mb⟩ hp_1
  refine r_cv (ws2 := [(x0, .inr (5, [.ref h0, .ref t0, .ref n0, .ref i0, .ref d0, .ref r0, .ref p0, .int (iJ (hs)), .int (iJ (rf))])), (h0, .inr (2, [.ref h1, .int (iJ (n)), .int (iJ (q))])), (h1, cJ cI 32 (uJ g a 0)), (i0, .inr (0, [.ref i1, .int (iJ (mb))])), (i1, cR cP 4 (hF xb)), ((xb 0), .inr (2, [.ref (yb 0), .int (iJ (lN 0)), .int (iJ (lQ 0))])), ((yb 0), cJ cI 32 (lG 0)), ((xb 1), .inr (2, [.ref (yb 1), .int (iJ (lN 1)), .int (iJ (lQ 1))])), ((yb 1), cJ cI 32 (lG 1)), ((xb 2), .inr (2, [.ref (yb 2), .int (iJ (lN 2)), .int (iJ (lQ 2))])), ((yb 2), cJ cI 32 (lG 2)), ((xb 3), .inr (2, [.ref (yb 3), .int (iJ (lN 3)), .int (iJ (lQ 3))])), ((yb 3), cJ cI 32 (lG 3))]) (st2 := [.int (iJ (n))]) rfl rfl rfl ?_
  have hp6 := hp_1
  try dsimp only at hp6
  exact r_retM E (xb, yb, lN, lQ, lG, mb) hr dX6_rest_19 rfl hp6 rfl hQ
theorem kf_X6_put : KF yX6_put 2 wsX6_put cX6_put 3 (some .int) := ⟨rfl, by decide +kernel, by decide +kernel, by decide +kernel⟩
def rm_X6_put : Room := { frames := 3, cells := 0, slots := 0, locals := 64 }
set_option maxRecDepth 20000 in
theorem in_X6_put_X6 : ∀ w ∈ u_ws RX6 TX6 9, w ∈ wsX6_put := by decide +kernel
set_option maxRecDepth 20000 in
theorem lk_X6_put_10 : Cond.fieldLink RX6 10 (TX6 0).1 (TX6 0).2.1 (TX6 0).2.2.1 ∈ wsX6_put := by decide +kernel
set_option maxHeartbeats 1000000 in
set_option maxRecDepth 100000 in
theorem c_X6_putBad (l : Launch) (D : va_G) (x0 : Nat) (h0 : Nat) (t0 : Nat) (n0 : Nat) (i0 : Nat) (d0 : Nat) (r0 : Nat) (p0 : Nat) (hs : Int) (rf : Int) (h1 : Nat) (cI : ClassId) (g : Int → Int) (n : Int) (q : Int) (a : Int) (b : Int) (hn : 0 ≤ n ∧ n ≤ 32) (ha : jb a) (hb : jb b) (hx : ¬ ((0 ≤ a ∧ a ≤ n) ∧ (0 ≤ b ∧ b < n))) : MP l yX6_put wsX6_put rm_X6_put D vwCl [.ref x0, .int (iJ (a)), .int (iJ (b))] [(x0, .inr (5, [.ref h0, .ref t0, .ref n0, .ref i0, .ref d0, .ref r0, .ref p0, .int (iJ (hs)), .int (iJ (rf))])), (h0, .inr (2, [.ref h1, .int (iJ (n)), .int (iJ (q))])), (h1, cJ cI 32 (g))] [(cI, .int)] (-1) := by
  refine MP.mk (cc := cX6_put) (maxL := 3) (ret := (some .int)) (by decide) rfl (Nat.le_of_ble_eq_true rfl) rfl RX6 rfl ?_
  intro p_ e_ s_ m_ ar_ bw_ mt_ cd_ Q_ E hr hQ
  refine r_aload_n E 0 dX6_put_0 rfl rfl ?_
  refine r_get E 5 0 0 dX6_put_1 in_X6_put_X6 lk_X6_put_10 rfl rfl (by decide) rfl ?_
  refine r_iload_n E 1 dX6_put_4 rfl rfl ?_
  refine r_vP E (st := []) (c_X2_hasGap l D h0 h1 cI g n q a (by first | assumption | omega | exact ⟨by omega, by omega⟩) (by first | assumption | omega | exact ⟨by omega, by omega⟩)) gX6_put_X2_hasGap 1 kf_X2_hasGap ⟨rfl, rfl⟩ ⟨by decide, by decide⟩ dX6_put_5 rfl 1 rfl rfl rfl rfl ⟨Nat.zero_le _, Nat.zero_le _⟩ [1, 2] rfl (by decide) [0] rfl (Nat.le_of_ble_eq_true rfl) ?_
  refine r_ifeq_b E 22 dX6_put_8 (by decide) (fun c_8 => ?_) (fun c_8 => ?_)
  · refine r_iconst E (-1) rfl dX6_put_22 ?_
    exact r_retP E hr dX6_put_23 rfl hQ
  · refine r_aload_n E 0 dX6_put_11 rfl rfl ?_
    refine r_get E 5 0 0 dX6_put_12 in_X6_put_X6 lk_X6_put_10 rfl rfl (by decide) rfl ?_
    refine r_iload_n E 2 dX6_put_15 rfl rfl ?_
    refine r_vP E (st := []) (c_X2_hasStep l D h0 h1 cI g n q b (by first | assumption | omega | exact ⟨by omega, by omega⟩) (by first | assumption | omega | exact ⟨by omega, by omega⟩)) gX6_put_X2_hasStep 1 kf_X2_hasStep ⟨rfl, rfl⟩ ⟨by decide, by decide⟩ dX6_put_16 rfl 1 rfl rfl rfl rfl ⟨Nat.zero_le _, Nat.zero_le _⟩ [1, 2] rfl (by decide) [0] rfl (Nat.le_of_ble_eq_true rfl) ?_
    refine r_ifne_b E 24 dX6_put_19 (by decide) (fun c_19 => absurd c_19 (by omega)) (fun c_19 => ?_)
    refine r_iconst E (-1) rfl dX6_put_22 ?_
    exact r_retP E hr dX6_put_23 rfl hQ
set_option maxHeartbeats 1000000 in
set_option maxRecDepth 100000 in
theorem c_X6_putNo (l : Launch) (D : va_G) (x0 : Nat) (h0 : Nat) (t0 : Nat) (n0 : Nat) (i0 : Nat) (d0 : Nat) (r0 : Nat) (p0 : Nat) (hs : Int) (rf : Int) (h1 : Nat) (cI : ClassId) (g : Int → Int) (n : Int) (q : Int) (a : Int) (b : Int) (hn : 0 ≤ n ∧ n ≤ 32) (hx : (0 ≤ a ∧ a ≤ n) ∧ (0 ≤ b ∧ b < n)) (hf : n = 32) : MP l yX6_put wsX6_put rm_X6_put D vwCl [.ref x0, .int (iJ (a)), .int (iJ (b))] [(x0, .inr (5, [.ref h0, .ref t0, .ref n0, .ref i0, .ref d0, .ref r0, .ref p0, .int (iJ (hs)), .int (iJ (rf))])), (h0, .inr (2, [.ref h1, .int (iJ (n)), .int (iJ (q))])), (h1, cJ cI 32 (g))] [(cI, .int)] (-3) := by
  refine MP.mk (cc := cX6_put) (maxL := 3) (ret := (some .int)) (by decide) rfl (Nat.le_of_ble_eq_true rfl) rfl RX6 rfl ?_
  intro p_ e_ s_ m_ ar_ bw_ mt_ cd_ Q_ E hr hQ
  refine r_aload_n E 0 dX6_put_0 rfl rfl ?_
  refine r_get E 5 0 0 dX6_put_1 in_X6_put_X6 lk_X6_put_10 rfl rfl (by decide) rfl ?_
  refine r_iload_n E 1 dX6_put_4 rfl rfl ?_
  refine r_vP E (st := []) (c_X2_hasGap l D h0 h1 cI g n q a (by first | assumption | omega | exact ⟨by omega, by omega⟩) (by first | assumption | omega | exact ⟨by omega, by omega⟩)) gX6_put_X2_hasGap 1 kf_X2_hasGap ⟨rfl, rfl⟩ ⟨by decide, by decide⟩ dX6_put_5 rfl 1 rfl rfl rfl rfl ⟨Nat.zero_le _, Nat.zero_le _⟩ [1, 2] rfl (by decide) [0] rfl (Nat.le_of_ble_eq_true rfl) ?_
  refine r_ifeq_b E 22 dX6_put_8 (by decide) (fun c_8 => absurd c_8 (by omega)) (fun c_8 => ?_)
  refine r_aload_n E 0 dX6_put_11 rfl rfl ?_
  refine r_get E 5 0 0 dX6_put_12 in_X6_put_X6 lk_X6_put_10 rfl rfl (by decide) rfl ?_
  refine r_iload_n E 2 dX6_put_15 rfl rfl ?_
  refine r_vP E (st := []) (c_X2_hasStep l D h0 h1 cI g n q b (by first | assumption | omega | exact ⟨by omega, by omega⟩) (by first | assumption | omega | exact ⟨by omega, by omega⟩)) gX6_put_X2_hasStep 1 kf_X2_hasStep ⟨rfl, rfl⟩ ⟨by decide, by decide⟩ dX6_put_16 rfl 1 rfl rfl rfl rfl ⟨Nat.zero_le _, Nat.zero_le _⟩ [1, 2] rfl (by decide) [0] rfl (Nat.le_of_ble_eq_true rfl) ?_
  refine r_ifne_b E 24 dX6_put_19 (by decide) (fun c_19 => ?_) (fun c_19 => absurd c_19 (by omega))
  refine r_aload_n E 0 dX6_put_24 rfl rfl ?_
  refine r_get E 5 0 0 dX6_put_25 in_X6_put_X6 lk_X6_put_10 rfl rfl (by decide) rfl ?_
  refine r_vP E (st := []) (c_X2_isFull l D h0 h1 cI g n q (by first | assumption | omega | exact ⟨by omega, by omega⟩)) gX6_put_X2_isFull 0 kf_X2_isFull ⟨rfl, rfl⟩ ⟨by decide, by decide⟩ dX6_put_28 rfl 1 rfl rfl rfl rfl ⟨Nat.zero_le _, Nat.zero_le _⟩ [1, 2] rfl (by decide) [0] rfl (Nat.le_of_ble_eq_true rfl) ?_
  refine r_ifeq_b E 37 dX6_put_31 (by decide) (fun c_31 => absurd c_31 (by omega)) (fun c_31 => ?_)
  refine r_bipush E (-3) rfl dX6_put_34 ?_
  exact r_retP E hr dX6_put_36 rfl hQ
set_option maxRecDepth 20000 in
theorem lk_X6_put_25 : Cond.fieldLink RX6 25 (TX6 3).1 (TX6 3).2.1 (TX6 3).2.2.1 ∈ wsX6_put := by decide +kernel
set_option maxRecDepth 20000 in
theorem in_X6_put_X2 : ∀ w ∈ u_ws RX2 TX2 3, w ∈ wsX6_put := by decide +kernel
set_option maxHeartbeats 1000000 in
set_option maxRecDepth 100000 in
theorem c_X6_put (l : Launch) (D : va_G) (x0 : Nat) (h0 : Nat) (t0 : Nat) (n0 : Nat) (i0 : Nat) (d0 : Nat) (r0 : Nat) (p0 : Nat) (hs : Int) (rf : Int) (h1 : Nat) (cI : ClassId) (g : Int → Int) (n : Int) (q : Int) (i1 : Nat) (cP : ClassId) (xa : Nat → Nat) (ya : Nat → Nat) (kN : Nat → Int) (kQ : Nat → Int) (kG : Nat → Int → Int) (m : Int) (a : Int) (b : Int) (hn : 0 ≤ n ∧ n ≤ 32) (hm : 0 ≤ m ∧ m ≤ 4) (hhN : ∀ i : Nat, 0 ≤ kN i ∧ kN i ≤ 32) (hx : (0 ≤ a ∧ a ≤ n) ∧ (0 ≤ b ∧ b < n)) (hf : n < 32) : MM (S := (Nat → Nat) × (Nat → Nat) × (Nat → Int) × (Nat → Int) × (Nat → Int → Int) × Int) l yX6_put wsX6_put rm_X6_put D vwCl [.ref x0, .int (iJ (a)), .int (iJ (b))] [(x0, .inr (5, [.ref h0, .ref t0, .ref n0, .ref i0, .ref d0, .ref r0, .ref p0, .int (iJ (hs)), .int (iJ (rf))])), (h0, .inr (2, [.ref h1, .int (iJ (n)), .int (iJ (q))])), (h1, cJ cI 32 (g)), (i0, .inr (0, [.ref i1, .int (iJ (m))])), (i1, cR cP 4 (hF xa)), ((xa 0), .inr (2, [.ref (ya 0), .int (iJ (kN 0)), .int (iJ (kQ 0))])), ((ya 0), cJ cI 32 (kG 0)), ((xa 1), .inr (2, [.ref (ya 1), .int (iJ (kN 1)), .int (iJ (kQ 1))])), ((ya 1), cJ cI 32 (kG 1)), ((xa 2), .inr (2, [.ref (ya 2), .int (iJ (kN 2)), .int (iJ (kQ 2))])), ((ya 2), cJ cI 32 (kG 2)), ((xa 3), .inr (2, [.ref (ya 3), .int (iJ (kN 3)), .int (iJ (kQ 3))])), ((ya 3), cJ cI 32 (kG 3))] [(cI, .int), (cP, .object "LeanSticks$Piece")] (fun (u : (Nat → Nat) × (Nat → Nat) × (Nat → Int) × (Nat → Int) × (Nat → Int → Int) × Int) => n + 1) (fun (u : (Nat → Nat) × (Nat → Nat) × (Nat → Int) × (Nat → Int) × (Nat → Int → Int) × Int) => (HPush m n q g kN kQ kG u.2.2.2.2.2 u.2.2.1 u.2.2.2.1 u.2.2.2.2.1)) (fun (u : (Nat → Nat) × (Nat → Nat) × (Nat → Int) × (Nat → Int) × (Nat → Int → Int) × Int) => [(x0, .inr (5, [.ref h0, .ref t0, .ref n0, .ref i0, .ref d0, .ref r0, .ref p0, .int (iJ (hs)), .int (iJ (rf))])), (h0, .inr (2, [.ref h1, .int (iJ ((n + 1))), .int (iJ (q))])), (h1, cJ cI 32 (pIn g n a (g b))), (i0, .inr (0, [.ref i1, .int (iJ (u.2.2.2.2.2))])), (i1, cR cP 4 (hF u.1)), ((u.1 0), .inr (2, [.ref (u.2.1 0), .int (iJ (u.2.2.1 0)), .int (iJ (u.2.2.2.1 0))])), ((u.2.1 0), cJ cI 32 (u.2.2.2.2.1 0)), ((u.1 1), .inr (2, [.ref (u.2.1 1), .int (iJ (u.2.2.1 1)), .int (iJ (u.2.2.2.1 1))])), ((u.2.1 1), cJ cI 32 (u.2.2.2.2.1 1)), ((u.1 2), .inr (2, [.ref (u.2.1 2), .int (iJ (u.2.2.1 2)), .int (iJ (u.2.2.2.1 2))])), ((u.2.1 2), cJ cI 32 (u.2.2.2.2.1 2)), ((u.1 3), .inr (2, [.ref (u.2.1 3), .int (iJ (u.2.2.1 3)), .int (iJ (u.2.2.2.1 3))])), ((u.2.1 3), cJ cI 32 (u.2.2.2.2.1 3))]) := by
  refine MM.mk (cc := cX6_put) (maxL := 3) (ret := (some .int)) (by decide) rfl (Nat.le_of_ble_eq_true rfl) rfl RX6 rfl ?_
  intro p_ e_ s_ m_ ar_ bw_ mt_ cd_ B_ Q_ hA E hr hQ
  refine r_aload_n E 0 dX6_put_0 rfl rfl ?_
  refine r_get E 5 0 0 dX6_put_1 in_X6_put_X6 lk_X6_put_10 rfl rfl (by decide) rfl ?_
  refine r_iload_n E 1 dX6_put_4 rfl rfl ?_
  refine r_vP E (st := []) (c_X2_hasGap l D h0 h1 cI g n q a (by first | assumption | omega | exact ⟨by omega, by omega⟩) (by first | assumption | omega | exact ⟨by omega, by omega⟩)) gX6_put_X2_hasGap 1 kf_X2_hasGap ⟨rfl, rfl⟩ ⟨by decide, by decide⟩ dX6_put_5 rfl 1 rfl rfl rfl rfl ⟨Nat.zero_le _, Nat.zero_le _⟩ [1, 2] rfl (by decide) [0] rfl (Nat.le_of_ble_eq_true rfl) ?_
  refine r_ifeq_b E 22 dX6_put_8 (by decide) (fun c_8 => absurd c_8 (by omega)) (fun c_8 => ?_)
  refine r_aload_n E 0 dX6_put_11 rfl rfl ?_
  refine r_get E 5 0 0 dX6_put_12 in_X6_put_X6 lk_X6_put_10 rfl rfl (by decide) rfl ?_
  refine r_iload_n E 2 dX6_put_15 rfl rfl ?_
  refine r_vP E (st := []) (c_X2_hasStep l D h0 h1 cI g n q b (by first | assumption | omega | exact ⟨by omega, by omega⟩) (by first | assumption | omega | exact ⟨by omega, by omega⟩)) gX6_put_X2_hasStep 1 kf_X2_hasStep ⟨rfl, rfl⟩ ⟨by decide, by decide⟩ dX6_put_16 rfl 1 rfl rfl rfl rfl ⟨Nat.zero_le _, Nat.zero_le _⟩ [1, 2] rfl (by decide) [0] rfl (Nat.le_of_ble_eq_true rfl) ?_
  refine r_ifne_b E 24 dX6_put_19 (by decide) (fun c_19 => ?_) (fun c_19 => absurd c_19 (by omega))
  refine r_aload_n E 0 dX6_put_24 rfl rfl ?_
  refine r_get E 5 0 0 dX6_put_25 in_X6_put_X6 lk_X6_put_10 rfl rfl (by decide) rfl ?_
  refine r_vP E (st := []) (c_X2_isFull l D h0 h1 cI g n q (by first | assumption | omega | exact ⟨by omega, by omega⟩)) gX6_put_X2_isFull 0 kf_X2_isFull ⟨rfl, rfl⟩ ⟨by decide, by decide⟩ dX6_put_28 rfl 1 rfl rfl rfl rfl ⟨Nat.zero_le _, Nat.zero_le _⟩ [1, 2] rfl (by decide) [0] rfl (Nat.le_of_ble_eq_true rfl) ?_
  refine r_ifeq_b E 37 dX6_put_31 (by decide) (fun c_31 => ?_) (fun c_31 => absurd c_31 (by omega))
  refine r_aload_n E 0 dX6_put_37 rfl rfl ?_
  refine r_get E 5 0 3 dX6_put_38 in_X6_put_X6 lk_X6_put_25 rfl rfl (by decide) rfl ?_
  refine r_aload_n E 0 dX6_put_41 rfl rfl ?_
  refine r_get E 5 0 0 dX6_put_42 in_X6_put_X6 lk_X6_put_10 rfl rfl (by decide) rfl ?_
  refine r_vV E (st := []) (c_X0_remember l D i0 i1 cP xa ya kN kQ kG m h0 h1 cI g n q (by first | assumption | omega | exact ⟨by omega, by omega⟩) (by first | assumption | omega | exact ⟨by omega, by omega⟩) (by first | assumption | omega | exact ⟨by omega, by omega⟩)) gX6_put_X0_remember 1 kf_X0_remember ⟨rfl, rfl⟩ ⟨by decide, by decide⟩ dX6_put_45 rfl 3 rfl rfl rfl rfl ⟨Nat.zero_le _, Nat.zero_le _⟩ [3, 4, 5, 6, 7, 8, 9, 10, 11, 12, 1, 2] rfl (by decide) [0, 1] rfl (Nat.le_of_ble_eq_true rfl) [(x0, .inr (5, [.ref h0, .ref t0, .ref n0, .ref i0, .ref d0, .ref r0, .ref p0, .int (iJ (hs)), .int (iJ (rf))]))] [0] rfl (by decide) (by decide) hA [0, 11, 12, 1, 2, 3, 4, 5, 6, 7, 8, 9, 10] (by decide) (fun u : (Nat → Nat) × (Nat → Nat) × (Nat → Int) × (Nat → Int) × (Nat → Int → Int) × Int => [(x0, .inr (5, [.ref h0, .ref t0, .ref n0, .ref i0, .ref d0, .ref r0, .ref p0, .int (iJ (hs)), .int (iJ (rf))])), (h0, .inr (2, [.ref h1, .int (iJ (n)), .int (iJ (q))])), (h1, cJ cI 32 (g)), (i0, .inr (0, [.ref i1, .int (iJ (u.2.2.2.2.2))])), (i1, cR cP 4 (hF u.1)), ((u.1 0), .inr (2, [.ref (u.2.1 0), .int (iJ (u.2.2.1 0)), .int (iJ (u.2.2.2.1 0))])), ((u.2.1 0), cJ cI 32 (u.2.2.2.2.1 0)), ((u.1 1), .inr (2, [.ref (u.2.1 1), .int (iJ (u.2.2.1 1)), .int (iJ (u.2.2.2.1 1))])), ((u.2.1 1), cJ cI 32 (u.2.2.2.2.1 1)), ((u.1 2), .inr (2, [.ref (u.2.1 2), .int (iJ (u.2.2.1 2)), .int (iJ (u.2.2.2.1 2))])), ((u.2.1 2), cJ cI 32 (u.2.2.2.2.1 2)), ((u.1 3), .inr (2, [.ref (u.2.1 3), .int (iJ (u.2.2.1 3)), .int (iJ (u.2.2.2.1 3))])), ((u.2.1 3), cJ cI 32 (u.2.2.2.2.1 3))]) (fun _ => rfl) ?_
  rintro ⟨xb, yb, lN, lQ, lG, mb⟩ hp_1
  refine r_cv (ws2 := [(x0, .inr (5, [.ref h0, .ref t0, .ref n0, .ref i0, .ref d0, .ref r0, .ref p0, .int (iJ (hs)), .int (iJ (rf))])), (h0, .inr (2, [.ref h1, .int (iJ (n)), .int (iJ (q))])), (h1, cJ cI 32 (g)), (i0, .inr (0, [.ref i1, .int (iJ (mb))])), (i1, cR cP 4 (hF xb)), ((xb 0), .inr (2, [.ref (yb 0), .int (iJ (lN 0)), .int (iJ (lQ 0))])), ((yb 0), cJ cI 32 (lG 0)), ((xb 1), .inr (2, [.ref (yb 1), .int (iJ (lN 1)), .int (iJ (lQ 1))])), ((yb 1), cJ cI 32 (lG 1)), ((xb 2), .inr (2, [.ref (yb 2), .int (iJ (lN 2)), .int (iJ (lQ 2))])), ((yb 2), cJ cI 32 (lG 2)), ((xb 3), .inr (2, [.ref (yb 3), .int (iJ (lN 3)), .int (iJ (lQ 3))])), ((yb 3), cJ cI 32 (lG 3))]) (st2 := []) rfl rfl rfl ?_
  have hp6 := hp_1
  try dsimp only at hp6
  refine r_aload_n E 0 dX6_put_48 rfl rfl ?_
  refine r_get E 5 0 0 dX6_put_49 in_X6_put_X6 lk_X6_put_10 rfl rfl (by decide) rfl ?_
  refine r_iload_n E 1 dX6_put_52 rfl rfl ?_
  refine r_aload_n E 0 dX6_put_53 rfl rfl ?_
  refine r_get E 5 0 0 dX6_put_54 in_X6_put_X6 lk_X6_put_10 rfl rfl (by decide) rfl ?_
  refine r_iload_n E 2 dX6_put_57 rfl rfl ?_
  refine r_vP E (st := [.int (iJ (a)), .ref h0]) (c_X2_at l D h0 h1 cI g n q b (by first | assumption | omega | exact ⟨by omega, by omega⟩) (by first | assumption | omega | exact ⟨by omega, by omega⟩)) gX6_put_X2_at 1 kf_X2_at ⟨rfl, rfl⟩ ⟨by decide, by decide⟩ dX6_put_58 rfl 1 rfl rfl rfl rfl ⟨Nat.zero_le _, Nat.zero_le _⟩ [1, 2] rfl (by decide) [0] rfl (Nat.le_of_ble_eq_true rfl) ?_
  refine r_top (b := (g b)) (pAt_t ⟨by omega, by omega⟩) ?_
  refine r_vV E (st := []) (c_X2_insert l D h0 h1 cI g n q a (g b) (by first | assumption | omega | exact ⟨by omega, by omega⟩) (by first | assumption | omega | exact ⟨by omega, by omega⟩) (by first | assumption | omega | exact ⟨by omega, by omega⟩)) gX6_put_X2_insert 2 kf_X2_insert ⟨rfl, rfl⟩ ⟨by decide, by decide⟩ dX6_put_61 rfl 1 rfl rfl rfl rfl ⟨Nat.zero_le _, Nat.zero_le _⟩ [1, 2] rfl (by decide) [0] rfl (Nat.le_of_ble_eq_true rfl) [(x0, .inr (5, [.ref h0, .ref t0, .ref n0, .ref i0, .ref d0, .ref r0, .ref p0, .int (iJ (hs)), .int (iJ (rf))])), (i0, .inr (0, [.ref i1, .int (iJ (mb))])), (i1, cR cP 4 (hF xb)), ((xb 0), .inr (2, [.ref (yb 0), .int (iJ (lN 0)), .int (iJ (lQ 0))])), ((yb 0), cJ cI 32 (lG 0)), ((xb 1), .inr (2, [.ref (yb 1), .int (iJ (lN 1)), .int (iJ (lQ 1))])), ((yb 1), cJ cI 32 (lG 1)), ((xb 2), .inr (2, [.ref (yb 2), .int (iJ (lN 2)), .int (iJ (lQ 2))])), ((yb 2), cJ cI 32 (lG 2)), ((xb 3), .inr (2, [.ref (yb 3), .int (iJ (lN 3)), .int (iJ (lQ 3))])), ((yb 3), cJ cI 32 (lG 3))] [0, 3, 4, 5, 6, 7, 8, 9, 10, 11, 12] rfl (by decide) (by decide) hA [0, 11, 12, 1, 2, 3, 4, 5, 6, 7, 8, 9, 10] (by decide) (fun (_ : Unit) => [(x0, .inr (5, [.ref h0, .ref t0, .ref n0, .ref i0, .ref d0, .ref r0, .ref p0, .int (iJ (hs)), .int (iJ (rf))])), (h0, .inr (2, [.ref h1, .int (iJ ((n + 1))), .int (iJ (q))])), (h1, cJ cI 32 (pIn g n a (g b))), (i0, .inr (0, [.ref i1, .int (iJ (mb))])), (i1, cR cP 4 (hF xb)), ((xb 0), .inr (2, [.ref (yb 0), .int (iJ (lN 0)), .int (iJ (lQ 0))])), ((yb 0), cJ cI 32 (lG 0)), ((xb 1), .inr (2, [.ref (yb 1), .int (iJ (lN 1)), .int (iJ (lQ 1))])), ((yb 1), cJ cI 32 (lG 1)), ((xb 2), .inr (2, [.ref (yb 2), .int (iJ (lN 2)), .int (iJ (lQ 2))])), ((yb 2), cJ cI 32 (lG 2)), ((xb 3), .inr (2, [.ref (yb 3), .int (iJ (lN 3)), .int (iJ (lQ 3))])), ((yb 3), cJ cI 32 (lG 3))]) (fun _ => rfl) ?_
  rintro ⟨⟩ hp_2
  refine r_aload_n E 0 dX6_put_64 rfl rfl ?_
  refine r_get E 5 0 0 dX6_put_65 in_X6_put_X6 lk_X6_put_10 rfl rfl (by decide) rfl ?_
  refine r_getN E 2 1 1 dX6_put_68 in_X6_put_X2 (by decide) rfl rfl rfl (by decide) rfl ?_
  exact r_retM E (xb, yb, lN, lQ, lG, mb) hr dX6_put_71 rfl hp6 rfl hQ
theorem kf_X6_cut : KF yX6_cut 2 wsX6_cut cX6_cut 3 (some .int) := ⟨rfl, by decide +kernel, by decide +kernel, by decide +kernel⟩
def rm_X6_cut : Room := { frames := 3, cells := 0, slots := 0, locals := 64 }
set_option maxRecDepth 20000 in
theorem in_X6_cut_X6 : ∀ w ∈ u_ws RX6 TX6 9, w ∈ wsX6_cut := by decide +kernel
set_option maxRecDepth 20000 in
theorem lk_X6_cut_10 : Cond.fieldLink RX6 10 (TX6 0).1 (TX6 0).2.1 (TX6 0).2.2.1 ∈ wsX6_cut := by decide +kernel
set_option maxHeartbeats 1000000 in
set_option maxRecDepth 100000 in
theorem c_X6_cutBad (l : Launch) (D : va_G) (x0 : Nat) (h0 : Nat) (t0 : Nat) (n0 : Nat) (i0 : Nat) (d0 : Nat) (r0 : Nat) (p0 : Nat) (hs : Int) (rf : Int) (h1 : Nat) (cI : ClassId) (g : Int → Int) (n : Int) (q : Int) (a : Int) (b : Int) (hn : 0 ≤ n ∧ n ≤ 32) (ha : jb a) (hb : jb b) (hx : ¬ ((0 ≤ a ∧ a < n) ∧ (0 ≤ b ∧ b < n) ∧ a ≤ b)) : MP l yX6_cut wsX6_cut rm_X6_cut D vwCl [.ref x0, .int (iJ (a)), .int (iJ (b))] [(x0, .inr (5, [.ref h0, .ref t0, .ref n0, .ref i0, .ref d0, .ref r0, .ref p0, .int (iJ (hs)), .int (iJ (rf))])), (h0, .inr (2, [.ref h1, .int (iJ (n)), .int (iJ (q))])), (h1, cJ cI 32 (g))] [(cI, .int)] (-1) := by
  refine MP.mk (cc := cX6_cut) (maxL := 3) (ret := (some .int)) (by decide) rfl (Nat.le_of_ble_eq_true rfl) rfl RX6 rfl ?_
  intro p_ e_ s_ m_ ar_ bw_ mt_ cd_ Q_ E hr hQ
  refine r_aload_n E 0 dX6_cut_0 rfl rfl ?_
  refine r_get E 5 0 0 dX6_cut_1 in_X6_cut_X6 lk_X6_cut_10 rfl rfl (by decide) rfl ?_
  refine r_iload_n E 1 dX6_cut_4 rfl rfl ?_
  refine r_vP E (st := []) (c_X2_hasStep l D h0 h1 cI g n q a (by first | assumption | omega | exact ⟨by omega, by omega⟩) (by first | assumption | omega | exact ⟨by omega, by omega⟩)) gX6_cut_X2_hasStep 1 kf_X2_hasStep ⟨rfl, rfl⟩ ⟨by decide, by decide⟩ dX6_cut_5 rfl 1 rfl rfl rfl rfl ⟨Nat.zero_le _, Nat.zero_le _⟩ [1, 2] rfl (by decide) [0] rfl (Nat.le_of_ble_eq_true rfl) ?_
  refine r_ifeq_b E 27 dX6_cut_8 (by decide) (fun c_8 => ?_) (fun c_8 => ?_)
  · refine r_iconst E (-1) rfl dX6_cut_27 ?_
    exact r_retP E hr dX6_cut_28 rfl hQ
  · refine r_aload_n E 0 dX6_cut_11 rfl rfl ?_
    refine r_get E 5 0 0 dX6_cut_12 in_X6_cut_X6 lk_X6_cut_10 rfl rfl (by decide) rfl ?_
    refine r_iload_n E 2 dX6_cut_15 rfl rfl ?_
    refine r_vP E (st := []) (c_X2_hasStep l D h0 h1 cI g n q b (by first | assumption | omega | exact ⟨by omega, by omega⟩) (by first | assumption | omega | exact ⟨by omega, by omega⟩)) gX6_cut_X2_hasStep 1 kf_X2_hasStep ⟨rfl, rfl⟩ ⟨by decide, by decide⟩ dX6_cut_16 rfl 1 rfl rfl rfl rfl ⟨Nat.zero_le _, Nat.zero_le _⟩ [1, 2] rfl (by decide) [0] rfl (Nat.le_of_ble_eq_true rfl) ?_
    refine r_ifeq_b E 27 dX6_cut_19 (by decide) (fun c_19 => ?_) (fun c_19 => ?_)
    · refine r_iconst E (-1) rfl dX6_cut_27 ?_
      exact r_retP E hr dX6_cut_28 rfl hQ
    · refine r_iload_n E 2 dX6_cut_22 rfl rfl ?_
      refine r_iload_n E 1 dX6_cut_23 rfl rfl ?_
      refine r_icmp_ge E 29 dX6_cut_24 (by decide) hb ha (fun c_24 => absurd c_24 (by omega)) (fun c_24 => ?_)
      refine r_iconst E (-1) rfl dX6_cut_27 ?_
      exact r_retP E hr dX6_cut_28 rfl hQ
set_option maxRecDepth 20000 in
theorem lk_X6_cut_25 : Cond.fieldLink RX6 25 (TX6 3).1 (TX6 3).2.1 (TX6 3).2.2.1 ∈ wsX6_cut := by decide +kernel
set_option maxRecDepth 20000 in
theorem in_X6_cut_X2 : ∀ w ∈ u_ws RX2 TX2 3, w ∈ wsX6_cut := by decide +kernel
set_option maxHeartbeats 1000000 in
set_option maxRecDepth 100000 in
theorem c_X6_cut (l : Launch) (D : va_G) (x0 : Nat) (h0 : Nat) (t0 : Nat) (n0 : Nat) (i0 : Nat) (d0 : Nat) (r0 : Nat) (p0 : Nat) (hs : Int) (rf : Int) (h1 : Nat) (cI : ClassId) (g : Int → Int) (n : Int) (q : Int) (i1 : Nat) (cP : ClassId) (xa : Nat → Nat) (ya : Nat → Nat) (kN : Nat → Int) (kQ : Nat → Int) (kG : Nat → Int → Int) (m : Int) (a : Int) (b : Int) (hn : 0 ≤ n ∧ n ≤ 32) (hm : 0 ≤ m ∧ m ≤ 4) (hhN : ∀ i : Nat, 0 ≤ kN i ∧ kN i ≤ 32) (hx : 0 ≤ a ∧ a ≤ b ∧ b < n) : MM (S := (Nat → Nat) × (Nat → Nat) × (Nat → Int) × (Nat → Int) × (Nat → Int → Int) × Int) l yX6_cut wsX6_cut rm_X6_cut D vwCl [.ref x0, .int (iJ (a)), .int (iJ (b))] [(x0, .inr (5, [.ref h0, .ref t0, .ref n0, .ref i0, .ref d0, .ref r0, .ref p0, .int (iJ (hs)), .int (iJ (rf))])), (h0, .inr (2, [.ref h1, .int (iJ (n)), .int (iJ (q))])), (h1, cJ cI 32 (g)), (i0, .inr (0, [.ref i1, .int (iJ (m))])), (i1, cR cP 4 (hF xa)), ((xa 0), .inr (2, [.ref (ya 0), .int (iJ (kN 0)), .int (iJ (kQ 0))])), ((ya 0), cJ cI 32 (kG 0)), ((xa 1), .inr (2, [.ref (ya 1), .int (iJ (kN 1)), .int (iJ (kQ 1))])), ((ya 1), cJ cI 32 (kG 1)), ((xa 2), .inr (2, [.ref (ya 2), .int (iJ (kN 2)), .int (iJ (kQ 2))])), ((ya 2), cJ cI 32 (kG 2)), ((xa 3), .inr (2, [.ref (ya 3), .int (iJ (kN 3)), .int (iJ (kQ 3))])), ((ya 3), cJ cI 32 (kG 3))] [(cI, .int), (cP, .object "LeanSticks$Piece")] (fun (u : (Nat → Nat) × (Nat → Nat) × (Nat → Int) × (Nat → Int) × (Nat → Int → Int) × Int) => n - (b - a + 1)) (fun (u : (Nat → Nat) × (Nat → Nat) × (Nat → Int) × (Nat → Int) × (Nat → Int → Int) × Int) => (HPush m n q g kN kQ kG u.2.2.2.2.2 u.2.2.1 u.2.2.2.1 u.2.2.2.2.1)) (fun (u : (Nat → Nat) × (Nat → Nat) × (Nat → Int) × (Nat → Int) × (Nat → Int → Int) × Int) => [(x0, .inr (5, [.ref h0, .ref t0, .ref n0, .ref i0, .ref d0, .ref r0, .ref p0, .int (iJ (hs)), .int (iJ (rf))])), (h0, .inr (2, [.ref h1, .int (iJ ((n - (b - a + 1)))), .int (iJ (q))])), (h1, cJ cI 32 (pRm g n a b)), (i0, .inr (0, [.ref i1, .int (iJ (u.2.2.2.2.2))])), (i1, cR cP 4 (hF u.1)), ((u.1 0), .inr (2, [.ref (u.2.1 0), .int (iJ (u.2.2.1 0)), .int (iJ (u.2.2.2.1 0))])), ((u.2.1 0), cJ cI 32 (u.2.2.2.2.1 0)), ((u.1 1), .inr (2, [.ref (u.2.1 1), .int (iJ (u.2.2.1 1)), .int (iJ (u.2.2.2.1 1))])), ((u.2.1 1), cJ cI 32 (u.2.2.2.2.1 1)), ((u.1 2), .inr (2, [.ref (u.2.1 2), .int (iJ (u.2.2.1 2)), .int (iJ (u.2.2.2.1 2))])), ((u.2.1 2), cJ cI 32 (u.2.2.2.2.1 2)), ((u.1 3), .inr (2, [.ref (u.2.1 3), .int (iJ (u.2.2.1 3)), .int (iJ (u.2.2.2.1 3))])), ((u.2.1 3), cJ cI 32 (u.2.2.2.2.1 3))]) := by
  refine MM.mk (cc := cX6_cut) (maxL := 3) (ret := (some .int)) (by decide) rfl (Nat.le_of_ble_eq_true rfl) rfl RX6 rfl ?_
  intro p_ e_ s_ m_ ar_ bw_ mt_ cd_ B_ Q_ hA E hr hQ
  refine r_aload_n E 0 dX6_cut_0 rfl rfl ?_
  refine r_get E 5 0 0 dX6_cut_1 in_X6_cut_X6 lk_X6_cut_10 rfl rfl (by decide) rfl ?_
  refine r_iload_n E 1 dX6_cut_4 rfl rfl ?_
  refine r_vP E (st := []) (c_X2_hasStep l D h0 h1 cI g n q a (by first | assumption | omega | exact ⟨by omega, by omega⟩) (by first | assumption | omega | exact ⟨by omega, by omega⟩)) gX6_cut_X2_hasStep 1 kf_X2_hasStep ⟨rfl, rfl⟩ ⟨by decide, by decide⟩ dX6_cut_5 rfl 1 rfl rfl rfl rfl ⟨Nat.zero_le _, Nat.zero_le _⟩ [1, 2] rfl (by decide) [0] rfl (Nat.le_of_ble_eq_true rfl) ?_
  refine r_ifeq_b E 27 dX6_cut_8 (by decide) (fun c_8 => absurd c_8 (by omega)) (fun c_8 => ?_)
  refine r_aload_n E 0 dX6_cut_11 rfl rfl ?_
  refine r_get E 5 0 0 dX6_cut_12 in_X6_cut_X6 lk_X6_cut_10 rfl rfl (by decide) rfl ?_
  refine r_iload_n E 2 dX6_cut_15 rfl rfl ?_
  refine r_vP E (st := []) (c_X2_hasStep l D h0 h1 cI g n q b (by first | assumption | omega | exact ⟨by omega, by omega⟩) (by first | assumption | omega | exact ⟨by omega, by omega⟩)) gX6_cut_X2_hasStep 1 kf_X2_hasStep ⟨rfl, rfl⟩ ⟨by decide, by decide⟩ dX6_cut_16 rfl 1 rfl rfl rfl rfl ⟨Nat.zero_le _, Nat.zero_le _⟩ [1, 2] rfl (by decide) [0] rfl (Nat.le_of_ble_eq_true rfl) ?_
  refine r_ifeq_b E 27 dX6_cut_19 (by decide) (fun c_19 => absurd c_19 (by omega)) (fun c_19 => ?_)
  refine r_iload_n E 2 dX6_cut_22 rfl rfl ?_
  refine r_iload_n E 1 dX6_cut_23 rfl rfl ?_
  refine r_icmp_ge E 29 dX6_cut_24 (by decide) ⟨by omega, by omega⟩ ⟨by omega, by omega⟩ (fun c_24 => ?_) (fun c_24 => absurd c_24 (by omega))
  refine r_aload_n E 0 dX6_cut_29 rfl rfl ?_
  refine r_get E 5 0 3 dX6_cut_30 in_X6_cut_X6 lk_X6_cut_25 rfl rfl (by decide) rfl ?_
  refine r_aload_n E 0 dX6_cut_33 rfl rfl ?_
  refine r_get E 5 0 0 dX6_cut_34 in_X6_cut_X6 lk_X6_cut_10 rfl rfl (by decide) rfl ?_
  refine r_vV E (st := []) (c_X0_remember l D i0 i1 cP xa ya kN kQ kG m h0 h1 cI g n q (by first | assumption | omega | exact ⟨by omega, by omega⟩) (by first | assumption | omega | exact ⟨by omega, by omega⟩) (by first | assumption | omega | exact ⟨by omega, by omega⟩)) gX6_cut_X0_remember 1 kf_X0_remember ⟨rfl, rfl⟩ ⟨by decide, by decide⟩ dX6_cut_37 rfl 3 rfl rfl rfl rfl ⟨Nat.zero_le _, Nat.zero_le _⟩ [3, 4, 5, 6, 7, 8, 9, 10, 11, 12, 1, 2] rfl (by decide) [0, 1] rfl (Nat.le_of_ble_eq_true rfl) [(x0, .inr (5, [.ref h0, .ref t0, .ref n0, .ref i0, .ref d0, .ref r0, .ref p0, .int (iJ (hs)), .int (iJ (rf))]))] [0] rfl (by decide) (by decide) hA [0, 11, 12, 1, 2, 3, 4, 5, 6, 7, 8, 9, 10] (by decide) (fun u : (Nat → Nat) × (Nat → Nat) × (Nat → Int) × (Nat → Int) × (Nat → Int → Int) × Int => [(x0, .inr (5, [.ref h0, .ref t0, .ref n0, .ref i0, .ref d0, .ref r0, .ref p0, .int (iJ (hs)), .int (iJ (rf))])), (h0, .inr (2, [.ref h1, .int (iJ (n)), .int (iJ (q))])), (h1, cJ cI 32 (g)), (i0, .inr (0, [.ref i1, .int (iJ (u.2.2.2.2.2))])), (i1, cR cP 4 (hF u.1)), ((u.1 0), .inr (2, [.ref (u.2.1 0), .int (iJ (u.2.2.1 0)), .int (iJ (u.2.2.2.1 0))])), ((u.2.1 0), cJ cI 32 (u.2.2.2.2.1 0)), ((u.1 1), .inr (2, [.ref (u.2.1 1), .int (iJ (u.2.2.1 1)), .int (iJ (u.2.2.2.1 1))])), ((u.2.1 1), cJ cI 32 (u.2.2.2.2.1 1)), ((u.1 2), .inr (2, [.ref (u.2.1 2), .int (iJ (u.2.2.1 2)), .int (iJ (u.2.2.2.1 2))])), ((u.2.1 2), cJ cI 32 (u.2.2.2.2.1 2)), ((u.1 3), .inr (2, [.ref (u.2.1 3), .int (iJ (u.2.2.1 3)), .int (iJ (u.2.2.2.1 3))])), ((u.2.1 3), cJ cI 32 (u.2.2.2.2.1 3))]) (fun _ => rfl) ?_
  rintro ⟨xb, yb, lN, lQ, lG, mb⟩ hp_1
  refine r_cv (ws2 := [(x0, .inr (5, [.ref h0, .ref t0, .ref n0, .ref i0, .ref d0, .ref r0, .ref p0, .int (iJ (hs)), .int (iJ (rf))])), (h0, .inr (2, [.ref h1, .int (iJ (n)), .int (iJ (q))])), (h1, cJ cI 32 (g)), (i0, .inr (0, [.ref i1, .int (iJ (mb))])), (i1, cR cP 4 (hF xb)), ((xb 0), .inr (2, [.ref (yb 0), .int (iJ (lN 0)), .int (iJ (lQ 0))])), ((yb 0), cJ cI 32 (lG 0)), ((xb 1), .inr (2, [.ref (yb 1), .int (iJ (lN 1)), .int (iJ (lQ 1))])), ((yb 1), cJ cI 32 (lG 1)), ((xb 2), .inr (2, [.ref (yb 2), .int (iJ (lN 2)), .int (iJ (lQ 2))])), ((yb 2), cJ cI 32 (lG 2)), ((xb 3), .inr (2, [.ref (yb 3), .int (iJ (lN 3)), .int (iJ (lQ 3))])), ((yb 3), cJ cI 32 (lG 3))]) (st2 := []) rfl rfl rfl ?_
  have hp6 := hp_1
  try dsimp only at hp6
  refine r_aload_n E 0 dX6_cut_40 rfl rfl ?_
  refine r_get E 5 0 0 dX6_cut_41 in_X6_cut_X6 lk_X6_cut_10 rfl rfl (by decide) rfl ?_
  refine r_iload_n E 1 dX6_cut_44 rfl rfl ?_
  refine r_iload_n E 2 dX6_cut_45 rfl rfl ?_
  refine r_vV E (st := []) (c_X2_remove l D h0 h1 cI g n q a b (by first | assumption | omega | exact ⟨by omega, by omega⟩) (by first | assumption | omega | exact ⟨by omega, by omega⟩)) gX6_cut_X2_remove 2 kf_X2_remove ⟨rfl, rfl⟩ ⟨by decide, by decide⟩ dX6_cut_46 rfl 1 rfl rfl rfl rfl ⟨Nat.zero_le _, Nat.zero_le _⟩ [1, 2] rfl (by decide) [0] rfl (Nat.le_of_ble_eq_true rfl) [(x0, .inr (5, [.ref h0, .ref t0, .ref n0, .ref i0, .ref d0, .ref r0, .ref p0, .int (iJ (hs)), .int (iJ (rf))])), (i0, .inr (0, [.ref i1, .int (iJ (mb))])), (i1, cR cP 4 (hF xb)), ((xb 0), .inr (2, [.ref (yb 0), .int (iJ (lN 0)), .int (iJ (lQ 0))])), ((yb 0), cJ cI 32 (lG 0)), ((xb 1), .inr (2, [.ref (yb 1), .int (iJ (lN 1)), .int (iJ (lQ 1))])), ((yb 1), cJ cI 32 (lG 1)), ((xb 2), .inr (2, [.ref (yb 2), .int (iJ (lN 2)), .int (iJ (lQ 2))])), ((yb 2), cJ cI 32 (lG 2)), ((xb 3), .inr (2, [.ref (yb 3), .int (iJ (lN 3)), .int (iJ (lQ 3))])), ((yb 3), cJ cI 32 (lG 3))] [0, 3, 4, 5, 6, 7, 8, 9, 10, 11, 12] rfl (by decide) (by decide) hA [0, 11, 12, 1, 2, 3, 4, 5, 6, 7, 8, 9, 10] (by decide) (fun (_ : Unit) => [(x0, .inr (5, [.ref h0, .ref t0, .ref n0, .ref i0, .ref d0, .ref r0, .ref p0, .int (iJ (hs)), .int (iJ (rf))])), (h0, .inr (2, [.ref h1, .int (iJ ((n - (b - a + 1)))), .int (iJ (q))])), (h1, cJ cI 32 (pRm g n a b)), (i0, .inr (0, [.ref i1, .int (iJ (mb))])), (i1, cR cP 4 (hF xb)), ((xb 0), .inr (2, [.ref (yb 0), .int (iJ (lN 0)), .int (iJ (lQ 0))])), ((yb 0), cJ cI 32 (lG 0)), ((xb 1), .inr (2, [.ref (yb 1), .int (iJ (lN 1)), .int (iJ (lQ 1))])), ((yb 1), cJ cI 32 (lG 1)), ((xb 2), .inr (2, [.ref (yb 2), .int (iJ (lN 2)), .int (iJ (lQ 2))])), ((yb 2), cJ cI 32 (lG 2)), ((xb 3), .inr (2, [.ref (yb 3), .int (iJ (lN 3)), .int (iJ (lQ 3))])), ((yb 3), cJ cI 32 (lG 3))]) (fun _ => rfl) ?_
  rintro ⟨⟩ hp_2
  refine r_aload_n E 0 dX6_cut_49 rfl rfl ?_
  refine r_get E 5 0 0 dX6_cut_50 in_X6_cut_X6 lk_X6_cut_10 rfl rfl (by decide) rfl ?_
  refine r_getN E 2 1 1 dX6_cut_53 in_X6_cut_X2 (by decide) rfl rfl rfl (by decide) rfl ?_
  exact r_retM E (xb, yb, lN, lQ, lG, mb) hr dX6_cut_56 rfl hp6 rfl hQ
theorem kf_X6_mirror : KF yX6_mirror 0 wsX6_mirror cX6_mirror 4 (some .int) := ⟨rfl, by decide +kernel, by decide +kernel, by decide +kernel⟩
def rm_X6_mirror : Room := { frames := 3, cells := 0, slots := 0, locals := 64 }
set_option maxRecDepth 20000 in
theorem in_X6_mirror_X6 : ∀ w ∈ u_ws RX6 TX6 9, w ∈ wsX6_mirror := by decide +kernel
set_option maxRecDepth 20000 in
theorem lk_X6_mirror_25 : Cond.fieldLink RX6 25 (TX6 3).1 (TX6 3).2.1 (TX6 3).2.2.1 ∈ wsX6_mirror := by decide +kernel
set_option maxRecDepth 20000 in
theorem lk_X6_mirror_10 : Cond.fieldLink RX6 10 (TX6 0).1 (TX6 0).2.1 (TX6 0).2.2.1 ∈ wsX6_mirror := by decide +kernel
set_option maxRecDepth 20000 in
theorem in_X6_mirror_X2 : ∀ w ∈ u_ws RX2 TX2 3, w ∈ wsX6_mirror := by decide +kernel
set_option maxHeartbeats 1000000 in
set_option maxRecDepth 100000 in
theorem c_X6_mirror (l : Launch) (D : va_G) (x0 : Nat) (h0 : Nat) (t0 : Nat) (n0 : Nat) (i0 : Nat) (d0 : Nat) (r0 : Nat) (p0 : Nat) (hs : Int) (rf : Int) (h1 : Nat) (cI : ClassId) (g : Int → Int) (n : Int) (q : Int) (i1 : Nat) (cP : ClassId) (xa : Nat → Nat) (ya : Nat → Nat) (kN : Nat → Int) (kQ : Nat → Int) (kG : Nat → Int → Int) (m : Int) (hn : 0 ≤ n ∧ n ≤ 32) (hm : 0 ≤ m ∧ m ≤ 4) (hhN : ∀ i : Nat, 0 ≤ kN i ∧ kN i ≤ 32) (hg : ∀ j : Int, 0 ≤ j → j < n → 0 ≤ g j ∧ g j < 64) : MM (S := (Nat → Nat) × (Nat → Nat) × (Nat → Int) × (Nat → Int) × (Nat → Int → Int) × Int) l yX6_mirror wsX6_mirror rm_X6_mirror D vwCl [.ref x0] [(x0, .inr (5, [.ref h0, .ref t0, .ref n0, .ref i0, .ref d0, .ref r0, .ref p0, .int (iJ (hs)), .int (iJ (rf))])), (h0, .inr (2, [.ref h1, .int (iJ (n)), .int (iJ (q))])), (h1, cJ cI 32 (g)), (i0, .inr (0, [.ref i1, .int (iJ (m))])), (i1, cR cP 4 (hF xa)), ((xa 0), .inr (2, [.ref (ya 0), .int (iJ (kN 0)), .int (iJ (kQ 0))])), ((ya 0), cJ cI 32 (kG 0)), ((xa 1), .inr (2, [.ref (ya 1), .int (iJ (kN 1)), .int (iJ (kQ 1))])), ((ya 1), cJ cI 32 (kG 1)), ((xa 2), .inr (2, [.ref (ya 2), .int (iJ (kN 2)), .int (iJ (kQ 2))])), ((ya 2), cJ cI 32 (kG 2)), ((xa 3), .inr (2, [.ref (ya 3), .int (iJ (kN 3)), .int (iJ (kQ 3))])), ((ya 3), cJ cI 32 (kG 3))] [(cI, .int), (cP, .object "LeanSticks$Piece")] (fun (u : (Nat → Nat) × (Nat → Nat) × (Nat → Int) × (Nat → Int) × (Nat → Int → Int) × Int) => sm (fun j => b2 (¬ g j = 0 ∧ ¬ g j / 2 % 4 = 2)) n) (fun (u : (Nat → Nat) × (Nat → Nat) × (Nat → Int) × (Nat → Int) × (Nat → Int → Int) × Int) => (HPush m n q g kN kQ kG u.2.2.2.2.2 u.2.2.1 u.2.2.2.1 u.2.2.2.2.1)) (fun (u : (Nat → Nat) × (Nat → Nat) × (Nat → Int) × (Nat → Int) × (Nat → Int → Int) × Int) => [(x0, .inr (5, [.ref h0, .ref t0, .ref n0, .ref i0, .ref d0, .ref r0, .ref p0, .int (iJ (hs)), .int (iJ (rf))])), (h0, .inr (2, [.ref h1, .int (iJ (n)), .int (iJ (q))])), (h1, cJ cI 32 (mpF (fun _ c => miC c) g n)), (i0, .inr (0, [.ref i1, .int (iJ (u.2.2.2.2.2))])), (i1, cR cP 4 (hF u.1)), ((u.1 0), .inr (2, [.ref (u.2.1 0), .int (iJ (u.2.2.1 0)), .int (iJ (u.2.2.2.1 0))])), ((u.2.1 0), cJ cI 32 (u.2.2.2.2.1 0)), ((u.1 1), .inr (2, [.ref (u.2.1 1), .int (iJ (u.2.2.1 1)), .int (iJ (u.2.2.2.1 1))])), ((u.2.1 1), cJ cI 32 (u.2.2.2.2.1 1)), ((u.1 2), .inr (2, [.ref (u.2.1 2), .int (iJ (u.2.2.1 2)), .int (iJ (u.2.2.2.1 2))])), ((u.2.1 2), cJ cI 32 (u.2.2.2.2.1 2)), ((u.1 3), .inr (2, [.ref (u.2.1 3), .int (iJ (u.2.2.1 3)), .int (iJ (u.2.2.2.1 3))])), ((u.2.1 3), cJ cI 32 (u.2.2.2.2.1 3))]) := by
  refine MM.mk (cc := cX6_mirror) (maxL := 4) (ret := (some .int)) (by decide) rfl (Nat.le_of_ble_eq_true rfl) rfl RX6 rfl ?_
  intro p_ e_ s_ m_ ar_ bw_ mt_ cd_ B_ Q_ hA E hr hQ
  refine r_aload_n E 0 dX6_mirror_0 rfl rfl ?_
  refine r_get E 5 0 3 dX6_mirror_1 in_X6_mirror_X6 lk_X6_mirror_25 rfl rfl (by decide) rfl ?_
  refine r_aload_n E 0 dX6_mirror_4 rfl rfl ?_
  refine r_get E 5 0 0 dX6_mirror_5 in_X6_mirror_X6 lk_X6_mirror_10 rfl rfl (by decide) rfl ?_
  refine r_vV E (st := []) (c_X0_remember l D i0 i1 cP xa ya kN kQ kG m h0 h1 cI g n q (by first | assumption | omega | exact ⟨by omega, by omega⟩) (by first | assumption | omega | exact ⟨by omega, by omega⟩) (by first | assumption | omega | exact ⟨by omega, by omega⟩)) gX6_mirror_X0_remember 1 kf_X0_remember ⟨rfl, rfl⟩ ⟨by decide, by decide⟩ dX6_mirror_8 rfl 3 rfl rfl rfl rfl ⟨Nat.zero_le _, Nat.zero_le _⟩ [3, 4, 5, 6, 7, 8, 9, 10, 11, 12, 1, 2] rfl (by decide) [0, 1] rfl (Nat.le_of_ble_eq_true rfl) [(x0, .inr (5, [.ref h0, .ref t0, .ref n0, .ref i0, .ref d0, .ref r0, .ref p0, .int (iJ (hs)), .int (iJ (rf))]))] [0] rfl (by decide) (by decide) hA [0, 11, 12, 1, 2, 3, 4, 5, 6, 7, 8, 9, 10] (by decide) (fun u : (Nat → Nat) × (Nat → Nat) × (Nat → Int) × (Nat → Int) × (Nat → Int → Int) × Int => [(x0, .inr (5, [.ref h0, .ref t0, .ref n0, .ref i0, .ref d0, .ref r0, .ref p0, .int (iJ (hs)), .int (iJ (rf))])), (h0, .inr (2, [.ref h1, .int (iJ (n)), .int (iJ (q))])), (h1, cJ cI 32 (g)), (i0, .inr (0, [.ref i1, .int (iJ (u.2.2.2.2.2))])), (i1, cR cP 4 (hF u.1)), ((u.1 0), .inr (2, [.ref (u.2.1 0), .int (iJ (u.2.2.1 0)), .int (iJ (u.2.2.2.1 0))])), ((u.2.1 0), cJ cI 32 (u.2.2.2.2.1 0)), ((u.1 1), .inr (2, [.ref (u.2.1 1), .int (iJ (u.2.2.1 1)), .int (iJ (u.2.2.2.1 1))])), ((u.2.1 1), cJ cI 32 (u.2.2.2.2.1 1)), ((u.1 2), .inr (2, [.ref (u.2.1 2), .int (iJ (u.2.2.1 2)), .int (iJ (u.2.2.2.1 2))])), ((u.2.1 2), cJ cI 32 (u.2.2.2.2.1 2)), ((u.1 3), .inr (2, [.ref (u.2.1 3), .int (iJ (u.2.2.1 3)), .int (iJ (u.2.2.2.1 3))])), ((u.2.1 3), cJ cI 32 (u.2.2.2.2.1 3))]) (fun _ => rfl) ?_
  rintro ⟨xb, yb, lN, lQ, lG, mb⟩ hp_1
  refine r_cv (ws2 := [(x0, .inr (5, [.ref h0, .ref t0, .ref n0, .ref i0, .ref d0, .ref r0, .ref p0, .int (iJ (hs)), .int (iJ (rf))])), (h0, .inr (2, [.ref h1, .int (iJ (n)), .int (iJ (q))])), (h1, cJ cI 32 (g)), (i0, .inr (0, [.ref i1, .int (iJ (mb))])), (i1, cR cP 4 (hF xb)), ((xb 0), .inr (2, [.ref (yb 0), .int (iJ (lN 0)), .int (iJ (lQ 0))])), ((yb 0), cJ cI 32 (lG 0)), ((xb 1), .inr (2, [.ref (yb 1), .int (iJ (lN 1)), .int (iJ (lQ 1))])), ((yb 1), cJ cI 32 (lG 1)), ((xb 2), .inr (2, [.ref (yb 2), .int (iJ (lN 2)), .int (iJ (lQ 2))])), ((yb 2), cJ cI 32 (lG 2)), ((xb 3), .inr (2, [.ref (yb 3), .int (iJ (lN 3)), .int (iJ (lQ 3))])), ((yb 3), cJ cI 32 (lG 3))]) (st2 := []) rfl rfl rfl ?_
  have hp6 := hp_1
  try dsimp only at hp6
  refine r_iconst E 0 rfl dX6_mirror_11 ?_
  refine r_istore_n E [(1, .int (iJ (0))), (0, .ref x0)] dX6_mirror_12 rfl (by decide) rfl ?_
  refine r_iconst E 0 rfl dX6_mirror_13 ?_
  refine r_istore_n E [(2, .int (iJ (0))), (1, .int (iJ (0))), (0, .ref x0)] dX6_mirror_14 rfl (by decide) rfl ?_
  have loop_15 : ∀ (N : Nat) (k : Int) (x : Int) (G : Int → Int), (0 ≤ k ∧ k ≤ n) → (x = sm (fun j => b2 (¬ g j = 0 ∧ ¬ g j / 2 % 4 = 2)) k) → (G = mpF (fun _ c => miC c) g k) → (n - k).toNat < N → GG p_ l e_ rm_X6_mirror s_ m_ ar_ bw_ mt_ cd_ D vwCl B_ B_ s_.heap 4 0 0 Q_ [(x0, .inr (5, [.ref h0, .ref t0, .ref n0, .ref i0, .ref d0, .ref r0, .ref p0, .int (iJ (hs)), .int (iJ (rf))])), (h0, .inr (2, [.ref h1, .int (iJ (n)), .int (iJ (q))])), (h1, cJ cI 32 (G)), (i0, .inr (0, [.ref i1, .int (iJ (mb))])), (i1, cR cP 4 (hF xb)), ((xb 0), .inr (2, [.ref (yb 0), .int (iJ (lN 0)), .int (iJ (lQ 0))])), ((yb 0), cJ cI 32 (lG 0)), ((xb 1), .inr (2, [.ref (yb 1), .int (iJ (lN 1)), .int (iJ (lQ 1))])), ((yb 1), cJ cI 32 (lG 1)), ((xb 2), .inr (2, [.ref (yb 2), .int (iJ (lN 2)), .int (iJ (lQ 2))])), ((yb 2), cJ cI 32 (lG 2)), ((xb 3), .inr (2, [.ref (yb 3), .int (iJ (lN 3)), .int (iJ (lQ 3))])), ((yb 3), cJ cI 32 (lG 3))] [(0, .ref x0), (1, .int (iJ (x))), (2, .int (iJ (k)))] 15 [] := by
    intro N; induction N with
    | zero => intro k x G hk hx hG hN; exact absurd hN (Nat.not_lt_zero _)
    | succ N ih15 =>
      intro k x G hk hx hG hN
      refine r_iload_n E 2 dX6_mirror_15 rfl rfl ?_
      refine r_aload_n E 0 dX6_mirror_16 rfl rfl ?_
      refine r_get E 5 0 0 dX6_mirror_17 in_X6_mirror_X6 lk_X6_mirror_10 rfl rfl (by decide) rfl ?_
      refine r_getN E 2 1 1 dX6_mirror_20 in_X6_mirror_X2 (by decide) rfl rfl rfl (by decide) rfl ?_
      refine r_icmp_ge E 78 dX6_mirror_23 (by decide) ⟨by omega, by omega⟩ ⟨by omega, by omega⟩ (fun c_23 => ?_) (fun c_23 => ?_)
      · refine r_iload_n E 1 dX6_mirror_78 rfl rfl ?_
        exact r_retM E (xb, yb, lN, lQ, lG, mb) hr dX6_mirror_79 (by
              have e : k = n := by omega
              rw [hx, e]) hp6 (by
              have e : k = n := by omega
              rw [hG, e]) hQ
      · refine r_aload_n E 0 dX6_mirror_26 rfl rfl ?_
        refine r_get E 5 0 0 dX6_mirror_27 in_X6_mirror_X6 lk_X6_mirror_10 rfl rfl (by decide) rfl ?_
        refine r_iload_n E 2 dX6_mirror_30 rfl rfl ?_
        refine r_vP E (st := []) (c_X2_at l D h0 h1 cI G n q k (by first | assumption | omega | exact ⟨by omega, by omega⟩) (by first | assumption | omega | exact ⟨by omega, by omega⟩)) gX6_mirror_X2_at 1 kf_X2_at ⟨rfl, rfl⟩ ⟨by decide, by decide⟩ dX6_mirror_31 rfl 1 rfl rfl rfl rfl ⟨Nat.zero_le _, Nat.zero_le _⟩ [1, 2] rfl (by decide) [0] rfl (Nat.le_of_ble_eq_true rfl) ?_
        refine r_top (b := (g k)) (by rw [hG]; exact pAt_mp ⟨by omega, by omega⟩) ?_
        refine r_istore_n E [(3, .int (iJ ((g k)))), (0, .ref x0), (1, .int (iJ (x))), (2, .int (iJ (k)))] dX6_mirror_34 rfl (by decide) rfl ?_
        have f_g := hg k (by omega) (by omega)
        refine r_iload_n E 0 dX6_mirror_35 rfl rfl ?_
        refine r_sP E (st := []) (c_X5_isStroke l D (g k) (by first | assumption | omega | exact ⟨by omega, by omega⟩)) gX6_mirror_X5_isStroke 1 kf_X5_isStroke ⟨rfl, rfl⟩ ⟨by decide, by decide⟩ dX6_mirror_36 rfl rfl ⟨Nat.zero_le _, Nat.zero_le _⟩ [] rfl (by decide) [] rfl (Nat.le_of_ble_eq_true rfl) ?_
        refine r_ifeq_n E 72 dX6_mirror_39 (by decide) (fun c_39 => ?_) (fun c_39 => ?_)
        · refine r_iinc E (k := 3) [(2, .int (iJ ((k + 1)))), (3, .int (iJ ((g k)))), (0, .ref x0), (1, .int (iJ (x)))] dX6_mirror_72 rfl (by decide) rfl ?_
          refine r_goto E 15 dX6_mirror_75 (by decide) ?_
          refine r_lv [2, 3, 0] [(0, .ref x0), (1, .int (iJ (x))), (2, .int (iJ ((k + 1))))] rfl ?_
          exact ih15 (k + 1) x G ⟨by omega, by omega⟩ (by rw [sm_s _ (by omega), hx]; first | (simp [b2, c_39, c_47]; done) | simp [b2, c_39]) (by
                rw [hG]
                first | exact mpF_s1 _ _ (by omega) (by unfold miC; rw [if_pos (show ¬ g k = 0 ∧ ¬ g k / 2 % 4 = 2 from ⟨c_39, c_47⟩)]) | exact mpF_s0 _ _ (by omega) (by unfold miC; rw [if_neg (fun z => by first | exact z.1 c_39 | exact z.2 c_47)])) (by omega)
        · refine r_iload_n E 0 dX6_mirror_42 rfl rfl ?_
          refine r_sP E (st := []) (c_X5_hand l D (g k) (by first | assumption | omega | exact ⟨by omega, by omega⟩)) gX6_mirror_X5_hand 1 kf_X5_hand ⟨rfl, rfl⟩ ⟨by decide, by decide⟩ dX6_mirror_43 rfl rfl ⟨Nat.zero_le _, Nat.zero_le _⟩ [] rfl (by decide) [] rfl (Nat.le_of_ble_eq_true rfl) ?_
          refine r_iconst E 2 rfl dX6_mirror_46 ?_
          refine r_icmp_eq E 72 dX6_mirror_47 (by decide) ⟨by omega, by omega⟩ ⟨by omega, by omega⟩ (fun c_47 => ?_) (fun c_47 => ?_)
          · refine r_iinc E (k := 3) [(2, .int (iJ ((k + 1)))), (3, .int (iJ ((g k)))), (0, .ref x0), (1, .int (iJ (x)))] dX6_mirror_72 rfl (by decide) rfl ?_
            refine r_goto E 15 dX6_mirror_75 (by decide) ?_
            refine r_lv [2, 3, 0] [(0, .ref x0), (1, .int (iJ (x))), (2, .int (iJ ((k + 1))))] rfl ?_
            exact ih15 (k + 1) x G ⟨by omega, by omega⟩ (by rw [sm_s _ (by omega), hx]; first | (simp [b2, c_39, c_47]; done) | simp [b2, c_39]) (by
                  rw [hG]
                  first | exact mpF_s1 _ _ (by omega) (by unfold miC; rw [if_pos (show ¬ g k = 0 ∧ ¬ g k / 2 % 4 = 2 from ⟨c_39, c_47⟩)]) | exact mpF_s0 _ _ (by omega) (by unfold miC; rw [if_neg (fun z => by first | exact z.1 c_39 | exact z.2 c_47)])) (by omega)
          · refine r_aload_n E 1 dX6_mirror_50 rfl rfl ?_
            refine r_get E 5 0 0 dX6_mirror_51 in_X6_mirror_X6 lk_X6_mirror_10 rfl rfl (by decide) rfl ?_
            refine r_iload_n E 3 dX6_mirror_54 rfl rfl ?_
            refine r_iload_n E 0 dX6_mirror_55 rfl rfl ?_
            refine r_iload_n E 0 dX6_mirror_56 rfl rfl ?_
            refine r_sP E (st := [.int (iJ ((g k))), .int (iJ (k)), .ref h0]) (c_X5_hand l D (g k) (by first | assumption | omega | exact ⟨by omega, by omega⟩)) gX6_mirror_X5_hand 1 kf_X5_hand ⟨rfl, rfl⟩ ⟨by decide, by decide⟩ dX6_mirror_57 rfl rfl ⟨Nat.zero_le _, Nat.zero_le _⟩ [] rfl (by decide) [] rfl (Nat.le_of_ble_eq_true rfl) ?_
            refine r_sP E (st := [.int (iJ ((g k))), .int (iJ (k)), .ref h0]) (c_X6_otherHand l D ((g k) / 2 % 4) ⟨by omega, by omega⟩) gX6_mirror_X6_otherHand 1 kf_X6_otherHand ⟨rfl, rfl⟩ ⟨by decide, by decide⟩ dX6_mirror_60 rfl rfl ⟨Nat.zero_le _, Nat.zero_le _⟩ [] rfl (by decide) [] rfl (Nat.le_of_ble_eq_true rfl) ?_
            refine r_sP E (st := [.int (iJ (k)), .ref h0]) (c_X5_withHand l D (g k) (if ((g k) / 2 % 4) = 0 then 1 else 0) (by first | assumption | omega | exact ⟨by omega, by omega⟩) (by split <;> omega)) gX6_mirror_X5_withHand 2 kf_X5_withHand ⟨rfl, rfl⟩ ⟨by decide, by decide⟩ dX6_mirror_63 rfl rfl ⟨Nat.zero_le _, Nat.zero_le _⟩ [] rfl (by decide) [] rfl (Nat.le_of_ble_eq_true rfl) ?_
            refine r_vV E (st := []) (c_X2_change l D h0 h1 cI G n q k (sOf (if ((g k) / 2 % 4) = 0 then 1 else 0) (b2 ((g k) / 8 % 2 = 1)) ((g k) / 16 % 4)) (by first | assumption | omega | exact ⟨by omega, by omega⟩) (by first | assumption | omega | exact ⟨by omega, by omega⟩)) gX6_mirror_X2_change 2 kf_X2_change ⟨rfl, rfl⟩ ⟨by decide, by decide⟩ dX6_mirror_66 rfl 1 rfl rfl rfl rfl ⟨Nat.zero_le _, Nat.zero_le _⟩ [1, 2] rfl (by decide) [0] rfl (Nat.le_of_ble_eq_true rfl) [(x0, .inr (5, [.ref h0, .ref t0, .ref n0, .ref i0, .ref d0, .ref r0, .ref p0, .int (iJ (hs)), .int (iJ (rf))])), (i0, .inr (0, [.ref i1, .int (iJ (mb))])), (i1, cR cP 4 (hF xb)), ((xb 0), .inr (2, [.ref (yb 0), .int (iJ (lN 0)), .int (iJ (lQ 0))])), ((yb 0), cJ cI 32 (lG 0)), ((xb 1), .inr (2, [.ref (yb 1), .int (iJ (lN 1)), .int (iJ (lQ 1))])), ((yb 1), cJ cI 32 (lG 1)), ((xb 2), .inr (2, [.ref (yb 2), .int (iJ (lN 2)), .int (iJ (lQ 2))])), ((yb 2), cJ cI 32 (lG 2)), ((xb 3), .inr (2, [.ref (yb 3), .int (iJ (lN 3)), .int (iJ (lQ 3))])), ((yb 3), cJ cI 32 (lG 3))] [0, 3, 4, 5, 6, 7, 8, 9, 10, 11, 12] rfl (by decide) (by decide) hA [0, 11, 12, 1, 2, 3, 4, 5, 6, 7, 8, 9, 10] (by decide) (fun (_ : Unit) => [(x0, .inr (5, [.ref h0, .ref t0, .ref n0, .ref i0, .ref d0, .ref r0, .ref p0, .int (iJ (hs)), .int (iJ (rf))])), (h0, .inr (2, [.ref h1, .int (iJ (n)), .int (iJ (q))])), (h1, cJ cI 32 (uJ G k (sOf (if ((g k) / 2 % 4) = 0 then 1 else 0) (b2 ((g k) / 8 % 2 = 1)) ((g k) / 16 % 4)))), (i0, .inr (0, [.ref i1, .int (iJ (mb))])), (i1, cR cP 4 (hF xb)), ((xb 0), .inr (2, [.ref (yb 0), .int (iJ (lN 0)), .int (iJ (lQ 0))])), ((yb 0), cJ cI 32 (lG 0)), ((xb 1), .inr (2, [.ref (yb 1), .int (iJ (lN 1)), .int (iJ (lQ 1))])), ((yb 1), cJ cI 32 (lG 1)), ((xb 2), .inr (2, [.ref (yb 2), .int (iJ (lN 2)), .int (iJ (lQ 2))])), ((yb 2), cJ cI 32 (lG 2)), ((xb 3), .inr (2, [.ref (yb 3), .int (iJ (lN 3)), .int (iJ (lQ 3))])), ((yb 3), cJ cI 32 (lG 3))]) (fun _ => rfl) ?_
            rintro ⟨⟩ hp_2
            refine r_iinc E (k := 2) [(1, .int (iJ ((x + 1)))), (3, .int (iJ ((g k)))), (0, .ref x0), (2, .int (iJ (k)))] dX6_mirror_69 rfl (by decide) rfl ?_
            refine r_iinc E (k := 3) [(2, .int (iJ ((k + 1)))), (1, .int (iJ ((x + 1)))), (3, .int (iJ ((g k)))), (0, .ref x0)] dX6_mirror_72 rfl (by decide) rfl ?_
            refine r_goto E 15 dX6_mirror_75 (by decide) ?_
            refine r_lv [3, 1, 0] [(0, .ref x0), (1, .int (iJ ((x + 1)))), (2, .int (iJ ((k + 1))))] rfl ?_
            exact ih15 (k + 1) (x + 1) (uJ G k (sOf (if ((g k) / 2 % 4) = 0 then 1 else 0) (b2 ((g k) / 8 % 2 = 1)) ((g k) / 16 % 4))) ⟨by omega, by omega⟩ (by rw [sm_s _ (by omega), hx]; first | (simp [b2, c_39, c_47]; done) | simp [b2, c_39]) (by
                  rw [hG]
                  first | exact mpF_s1 _ _ (by omega) (by unfold miC; rw [if_pos (show ¬ g k = 0 ∧ ¬ g k / 2 % 4 = 2 from ⟨c_39, c_47⟩)]) | exact mpF_s0 _ _ (by omega) (by unfold miC; rw [if_neg (fun z => by first | exact z.1 c_39 | exact z.2 c_47)])) (by omega)
  refine r_lv [2, 1, 0] [(0, .ref x0), (1, .int (iJ (0))), (2, .int (iJ (0)))] rfl ?_
  exact loop_15 _ 0 0 g ⟨by omega, by omega⟩ (sm_0 _).symm (mpF_0 _ _) (Nat.lt_succ_self _)
theorem kf_X6_lean : KF yX6_lean 1 wsX6_lean cX6_lean 7 (some .int) := ⟨rfl, by decide +kernel, by decide +kernel, by decide +kernel⟩
def rm_X6_lean : Room := { frames := 3, cells := 0, slots := 0, locals := 64 }
set_option maxRecDepth 20000 in
theorem in_X6_lean_X6 : ∀ w ∈ u_ws RX6 TX6 9, w ∈ wsX6_lean := by decide +kernel
set_option maxRecDepth 20000 in
theorem lk_X6_lean_25 : Cond.fieldLink RX6 25 (TX6 3).1 (TX6 3).2.1 (TX6 3).2.2.1 ∈ wsX6_lean := by decide +kernel
set_option maxRecDepth 20000 in
theorem lk_X6_lean_10 : Cond.fieldLink RX6 10 (TX6 0).1 (TX6 0).2.1 (TX6 0).2.2.1 ∈ wsX6_lean := by decide +kernel
set_option maxRecDepth 20000 in
theorem in_X6_lean_X2 : ∀ w ∈ u_ws RX2 TX2 3, w ∈ wsX6_lean := by decide +kernel
set_option maxHeartbeats 1000000 in
set_option maxRecDepth 100000 in
theorem c_X6_lean (l : Launch) (D : va_G) (x0 : Nat) (h0 : Nat) (t0 : Nat) (n0 : Nat) (i0 : Nat) (d0 : Nat) (r0 : Nat) (p0 : Nat) (hs : Int) (rf : Int) (h1 : Nat) (cI : ClassId) (g : Int → Int) (n : Int) (q : Int) (i1 : Nat) (cP : ClassId) (xa : Nat → Nat) (ya : Nat → Nat) (kN : Nat → Int) (kQ : Nat → Int) (kG : Nat → Int → Int) (m : Int) (d : Int) (hn : 0 ≤ n ∧ n ≤ 32) (hm : 0 ≤ m ∧ m ≤ 4) (hhN : ∀ i : Nat, 0 ≤ kN i ∧ kN i ≤ 32) (hg : ∀ j : Int, 0 ≤ j → j < n → 0 ≤ g j ∧ g j < 64) (hd : d = 0 ∨ d = 1) : MM (S := (Nat → Nat) × (Nat → Nat) × (Nat → Int) × (Nat → Int) × (Nat → Int → Int) × Int) l yX6_lean wsX6_lean rm_X6_lean D vwCl [.ref x0, .int (iJ (d))] [(x0, .inr (5, [.ref h0, .ref t0, .ref n0, .ref i0, .ref d0, .ref r0, .ref p0, .int (iJ (hs)), .int (iJ (rf))])), (h0, .inr (2, [.ref h1, .int (iJ (n)), .int (iJ (q))])), (h1, cJ cI 32 (g)), (i0, .inr (0, [.ref i1, .int (iJ (m))])), (i1, cR cP 4 (hF xa)), ((xa 0), .inr (2, [.ref (ya 0), .int (iJ (kN 0)), .int (iJ (kQ 0))])), ((ya 0), cJ cI 32 (kG 0)), ((xa 1), .inr (2, [.ref (ya 1), .int (iJ (kN 1)), .int (iJ (kQ 1))])), ((ya 1), cJ cI 32 (kG 1)), ((xa 2), .inr (2, [.ref (ya 2), .int (iJ (kN 2)), .int (iJ (kQ 2))])), ((ya 2), cJ cI 32 (kG 2)), ((xa 3), .inr (2, [.ref (ya 3), .int (iJ (kN 3)), .int (iJ (kQ 3))])), ((ya 3), cJ cI 32 (kG 3))] [(cI, .int), (cP, .object "LeanSticks$Piece")] (fun (u : (Nat → Nat) × (Nat → Nat) × (Nat → Int) × (Nat → Int) × (Nat → Int → Int) × Int) => sm (fun j => b2 (g j / 16 % 4 = (if d = 0 then 2 else 1))) n) (fun (u : (Nat → Nat) × (Nat → Nat) × (Nat → Int) × (Nat → Int) × (Nat → Int → Int) × Int) => (HPush m n q g kN kQ kG u.2.2.2.2.2 u.2.2.1 u.2.2.2.1 u.2.2.2.2.1)) (fun (u : (Nat → Nat) × (Nat → Nat) × (Nat → Int) × (Nat → Int) × (Nat → Int → Int) × Int) => [(x0, .inr (5, [.ref h0, .ref t0, .ref n0, .ref i0, .ref d0, .ref r0, .ref p0, .int (iJ (hs)), .int (iJ (rf))])), (h0, .inr (2, [.ref h1, .int (iJ (n)), .int (iJ (q))])), (h1, cJ cI 32 (mpF (fun _ c => leC d c) g n)), (i0, .inr (0, [.ref i1, .int (iJ (u.2.2.2.2.2))])), (i1, cR cP 4 (hF u.1)), ((u.1 0), .inr (2, [.ref (u.2.1 0), .int (iJ (u.2.2.1 0)), .int (iJ (u.2.2.2.1 0))])), ((u.2.1 0), cJ cI 32 (u.2.2.2.2.1 0)), ((u.1 1), .inr (2, [.ref (u.2.1 1), .int (iJ (u.2.2.1 1)), .int (iJ (u.2.2.2.1 1))])), ((u.2.1 1), cJ cI 32 (u.2.2.2.2.1 1)), ((u.1 2), .inr (2, [.ref (u.2.1 2), .int (iJ (u.2.2.1 2)), .int (iJ (u.2.2.2.1 2))])), ((u.2.1 2), cJ cI 32 (u.2.2.2.2.1 2)), ((u.1 3), .inr (2, [.ref (u.2.1 3), .int (iJ (u.2.2.1 3)), .int (iJ (u.2.2.2.1 3))])), ((u.2.1 3), cJ cI 32 (u.2.2.2.2.1 3))]) := by
  refine MM.mk (cc := cX6_lean) (maxL := 7) (ret := (some .int)) (by decide) rfl (Nat.le_of_ble_eq_true rfl) rfl RX6 rfl ?_
  intro p_ e_ s_ m_ ar_ bw_ mt_ cd_ B_ Q_ hA E hr hQ
  refine r_aload_n E 0 dX6_lean_0 rfl rfl ?_
  refine r_get E 5 0 3 dX6_lean_1 in_X6_lean_X6 lk_X6_lean_25 rfl rfl (by decide) rfl ?_
  refine r_aload_n E 0 dX6_lean_4 rfl rfl ?_
  refine r_get E 5 0 0 dX6_lean_5 in_X6_lean_X6 lk_X6_lean_10 rfl rfl (by decide) rfl ?_
  refine r_vV E (st := []) (c_X0_remember l D i0 i1 cP xa ya kN kQ kG m h0 h1 cI g n q (by first | assumption | omega | exact ⟨by omega, by omega⟩) (by first | assumption | omega | exact ⟨by omega, by omega⟩) (by first | assumption | omega | exact ⟨by omega, by omega⟩)) gX6_lean_X0_remember 1 kf_X0_remember ⟨rfl, rfl⟩ ⟨by decide, by decide⟩ dX6_lean_8 rfl 3 rfl rfl rfl rfl ⟨Nat.zero_le _, Nat.zero_le _⟩ [3, 4, 5, 6, 7, 8, 9, 10, 11, 12, 1, 2] rfl (by decide) [0, 1] rfl (Nat.le_of_ble_eq_true rfl) [(x0, .inr (5, [.ref h0, .ref t0, .ref n0, .ref i0, .ref d0, .ref r0, .ref p0, .int (iJ (hs)), .int (iJ (rf))]))] [0] rfl (by decide) (by decide) hA [0, 11, 12, 1, 2, 3, 4, 5, 6, 7, 8, 9, 10] (by decide) (fun u : (Nat → Nat) × (Nat → Nat) × (Nat → Int) × (Nat → Int) × (Nat → Int → Int) × Int => [(x0, .inr (5, [.ref h0, .ref t0, .ref n0, .ref i0, .ref d0, .ref r0, .ref p0, .int (iJ (hs)), .int (iJ (rf))])), (h0, .inr (2, [.ref h1, .int (iJ (n)), .int (iJ (q))])), (h1, cJ cI 32 (g)), (i0, .inr (0, [.ref i1, .int (iJ (u.2.2.2.2.2))])), (i1, cR cP 4 (hF u.1)), ((u.1 0), .inr (2, [.ref (u.2.1 0), .int (iJ (u.2.2.1 0)), .int (iJ (u.2.2.2.1 0))])), ((u.2.1 0), cJ cI 32 (u.2.2.2.2.1 0)), ((u.1 1), .inr (2, [.ref (u.2.1 1), .int (iJ (u.2.2.1 1)), .int (iJ (u.2.2.2.1 1))])), ((u.2.1 1), cJ cI 32 (u.2.2.2.2.1 1)), ((u.1 2), .inr (2, [.ref (u.2.1 2), .int (iJ (u.2.2.1 2)), .int (iJ (u.2.2.2.1 2))])), ((u.2.1 2), cJ cI 32 (u.2.2.2.2.1 2)), ((u.1 3), .inr (2, [.ref (u.2.1 3), .int (iJ (u.2.2.1 3)), .int (iJ (u.2.2.2.1 3))])), ((u.2.1 3), cJ cI 32 (u.2.2.2.2.1 3))]) (fun _ => rfl) ?_
  rintro ⟨xb, yb, lN, lQ, lG, mb⟩ hp_1
  refine r_cv (ws2 := [(x0, .inr (5, [.ref h0, .ref t0, .ref n0, .ref i0, .ref d0, .ref r0, .ref p0, .int (iJ (hs)), .int (iJ (rf))])), (h0, .inr (2, [.ref h1, .int (iJ (n)), .int (iJ (q))])), (h1, cJ cI 32 (g)), (i0, .inr (0, [.ref i1, .int (iJ (mb))])), (i1, cR cP 4 (hF xb)), ((xb 0), .inr (2, [.ref (yb 0), .int (iJ (lN 0)), .int (iJ (lQ 0))])), ((yb 0), cJ cI 32 (lG 0)), ((xb 1), .inr (2, [.ref (yb 1), .int (iJ (lN 1)), .int (iJ (lQ 1))])), ((yb 1), cJ cI 32 (lG 1)), ((xb 2), .inr (2, [.ref (yb 2), .int (iJ (lN 2)), .int (iJ (lQ 2))])), ((yb 2), cJ cI 32 (lG 2)), ((xb 3), .inr (2, [.ref (yb 3), .int (iJ (lN 3)), .int (iJ (lQ 3))])), ((yb 3), cJ cI 32 (lG 3))]) (st2 := []) rfl rfl rfl ?_
  have hp6 := hp_1
  try dsimp only at hp6
  have K_31 : ∀ (u : Int) (v : Int), (u = (if d = 0 then 2 else 1) ∧ 1 ≤ u ∧ u ≤ 2) → (v = (if d = 0 then 1 else 2) ∧ 1 ≤ v ∧ v ≤ 2) → GG p_ l e_ rm_X6_lean s_ m_ ar_ bw_ mt_ cd_ D vwCl B_ B_ s_.heap 7 0 0 Q_ [(x0, .inr (5, [.ref h0, .ref t0, .ref n0, .ref i0, .ref d0, .ref r0, .ref p0, .int (iJ (hs)), .int (iJ (rf))])), (h0, .inr (2, [.ref h1, .int (iJ (n)), .int (iJ (q))])), (h1, cJ cI 32 (g)), (i0, .inr (0, [.ref i1, .int (iJ (mb))])), (i1, cR cP 4 (hF xb)), ((xb 0), .inr (2, [.ref (yb 0), .int (iJ (lN 0)), .int (iJ (lQ 0))])), ((yb 0), cJ cI 32 (lG 0)), ((xb 1), .inr (2, [.ref (yb 1), .int (iJ (lN 1)), .int (iJ (lQ 1))])), ((yb 1), cJ cI 32 (lG 1)), ((xb 2), .inr (2, [.ref (yb 2), .int (iJ (lN 2)), .int (iJ (lQ 2))])), ((yb 2), cJ cI 32 (lG 2)), ((xb 3), .inr (2, [.ref (yb 3), .int (iJ (lN 3)), .int (iJ (lQ 3))])), ((yb 3), cJ cI 32 (lG 3))] [(0, .ref x0), (1, .int (iJ (d))), (2, .int (iJ (u))), (3, .int (iJ (v)))] 31 [] := by
    intro u v hu hv
    refine r_iconst E 0 rfl dX6_lean_31 ?_
    refine r_istore E [(4, .int (iJ (0))), (0, .ref x0), (1, .int (iJ (d))), (2, .int (iJ (u))), (3, .int (iJ (v)))] dX6_lean_32 (by decide) rfl ?_
    refine r_iconst E 0 rfl dX6_lean_34 ?_
    refine r_istore E [(5, .int (iJ (0))), (4, .int (iJ (0))), (0, .ref x0), (1, .int (iJ (d))), (2, .int (iJ (u))), (3, .int (iJ (v)))] dX6_lean_35 (by decide) rfl ?_
    have loop_37 : ∀ (N : Nat) (k : Int) (x : Int) (G : Int → Int), (0 ≤ k ∧ k ≤ n) → (x = sm (fun j => b2 (g j / 16 % 4 = (if d = 0 then 2 else 1))) k) → (G = mpF (fun _ c => leC d c) g k) → (n - k).toNat < N → GG p_ l e_ rm_X6_lean s_ m_ ar_ bw_ mt_ cd_ D vwCl B_ B_ s_.heap 7 0 0 Q_ [(x0, .inr (5, [.ref h0, .ref t0, .ref n0, .ref i0, .ref d0, .ref r0, .ref p0, .int (iJ (hs)), .int (iJ (rf))])), (h0, .inr (2, [.ref h1, .int (iJ (n)), .int (iJ (q))])), (h1, cJ cI 32 (G)), (i0, .inr (0, [.ref i1, .int (iJ (mb))])), (i1, cR cP 4 (hF xb)), ((xb 0), .inr (2, [.ref (yb 0), .int (iJ (lN 0)), .int (iJ (lQ 0))])), ((yb 0), cJ cI 32 (lG 0)), ((xb 1), .inr (2, [.ref (yb 1), .int (iJ (lN 1)), .int (iJ (lQ 1))])), ((yb 1), cJ cI 32 (lG 1)), ((xb 2), .inr (2, [.ref (yb 2), .int (iJ (lN 2)), .int (iJ (lQ 2))])), ((yb 2), cJ cI 32 (lG 2)), ((xb 3), .inr (2, [.ref (yb 3), .int (iJ (lN 3)), .int (iJ (lQ 3))])), ((yb 3), cJ cI 32 (lG 3))] [(0, .ref x0), (1, .int (iJ (d))), (2, .int (iJ (u))), (3, .int (iJ (v))), (4, .int (iJ (x))), (5, .int (iJ (k)))] 37 [] := by
      intro N; induction N with
      | zero => intro k x G hk hx hG hN; exact absurd hN (Nat.not_lt_zero _)
      | succ N ih37 =>
        intro k x G hk hx hG hN
        refine r_iload E 5 dX6_lean_37 rfl ?_
        refine r_aload_n E 0 dX6_lean_39 rfl rfl ?_
        refine r_get E 5 0 0 dX6_lean_40 in_X6_lean_X6 lk_X6_lean_10 rfl rfl (by decide) rfl ?_
        refine r_getN E 2 1 1 dX6_lean_43 in_X6_lean_X2 (by decide) rfl rfl rfl (by decide) rfl ?_
        refine r_icmp_ge E 93 dX6_lean_46 (by decide) ⟨by omega, by omega⟩ ⟨by omega, by omega⟩ (fun c_46 => ?_) (fun c_46 => ?_)
        · refine r_iload E 4 dX6_lean_93 rfl ?_
          exact r_retM E (xb, yb, lN, lQ, lG, mb) hr dX6_lean_95 (by
                have e : k = n := by omega
                rw [hx, e]) hp6 (by
                have e : k = n := by omega
                rw [hG, e]) hQ
        · refine r_aload_n E 0 dX6_lean_49 rfl rfl ?_
          refine r_get E 5 0 0 dX6_lean_50 in_X6_lean_X6 lk_X6_lean_10 rfl rfl (by decide) rfl ?_
          refine r_iload E 5 dX6_lean_53 rfl ?_
          refine r_vP E (st := []) (c_X2_at l D h0 h1 cI G n q k (by first | assumption | omega | exact ⟨by omega, by omega⟩) (by first | assumption | omega | exact ⟨by omega, by omega⟩)) gX6_lean_X2_at 1 kf_X2_at ⟨rfl, rfl⟩ ⟨by decide, by decide⟩ dX6_lean_55 rfl 1 rfl rfl rfl rfl ⟨Nat.zero_le _, Nat.zero_le _⟩ [1, 2] rfl (by decide) [0] rfl (Nat.le_of_ble_eq_true rfl) ?_
          refine r_top (b := (g k)) (by rw [hG]; exact pAt_mp ⟨by omega, by omega⟩) ?_
          refine r_istore E [(6, .int (iJ ((g k)))), (0, .ref x0), (1, .int (iJ (d))), (2, .int (iJ (u))), (3, .int (iJ (v))), (4, .int (iJ (x))), (5, .int (iJ (k)))] dX6_lean_58 (by decide) rfl ?_
          have f_g := hg k (by omega) (by omega)
          refine r_iload E 0 dX6_lean_60 rfl ?_
          refine r_sP E (st := []) (c_X5_ornament l D (g k) (by first | assumption | omega | exact ⟨by omega, by omega⟩)) gX6_lean_X5_ornament 1 kf_X5_ornament ⟨rfl, rfl⟩ ⟨by decide, by decide⟩ dX6_lean_62 rfl rfl ⟨Nat.zero_le _, Nat.zero_le _⟩ [] rfl (by decide) [] rfl (Nat.le_of_ble_eq_true rfl) ?_
          refine r_iload_n E 3 dX6_lean_65 rfl rfl ?_
          refine r_icmp_ne E 87 dX6_lean_66 (by decide) ⟨by omega, by omega⟩ ⟨by omega, by omega⟩ (fun c_66 => ?_) (fun c_66 => ?_)
          · refine r_iinc E (k := 6) [(5, .int (iJ ((k + 1)))), (6, .int (iJ ((g k)))), (0, .ref x0), (1, .int (iJ (d))), (2, .int (iJ (u))), (3, .int (iJ (v))), (4, .int (iJ (x)))] dX6_lean_87 rfl (by decide) rfl ?_
            refine r_goto E 37 dX6_lean_90 (by decide) ?_
            refine r_lv [2, 3, 4, 5, 6, 0] [(0, .ref x0), (1, .int (iJ (d))), (2, .int (iJ (u))), (3, .int (iJ (v))), (4, .int (iJ (x))), (5, .int (iJ ((k + 1))))] rfl ?_
            exact ih37 (k + 1) x G ⟨by omega, by omega⟩ (by rw [sm_s _ (by omega), hx, ← hu.1]; simp [b2, c_66]) (by
                  rw [hG]
                  first | exact mpF_s1 _ _ (by omega) (by unfold leC; rw [← hu.1, ← hv.1, if_pos c_66]) | exact mpF_s0 _ _ (by omega) (by unfold leC; rw [← hu.1, if_neg c_66])) (by omega)
          · refine r_aload_n E 1 dX6_lean_69 rfl rfl ?_
            refine r_get E 5 0 0 dX6_lean_70 in_X6_lean_X6 lk_X6_lean_10 rfl rfl (by decide) rfl ?_
            refine r_iload E 6 dX6_lean_73 rfl ?_
            refine r_iload E 0 dX6_lean_75 rfl ?_
            refine r_iload_n E 4 dX6_lean_77 rfl rfl ?_
            refine r_sP E (st := [.int (iJ (k)), .ref h0]) (c_X5_withOrnament l D (g k) v (by first | assumption | omega | exact ⟨by omega, by omega⟩) ⟨by omega, by omega⟩) gX6_lean_X5_withOrnament 2 kf_X5_withOrnament ⟨rfl, rfl⟩ ⟨by decide, by decide⟩ dX6_lean_78 rfl rfl ⟨Nat.zero_le _, Nat.zero_le _⟩ [] rfl (by decide) [] rfl (Nat.le_of_ble_eq_true rfl) ?_
            refine r_vV E (st := []) (c_X2_change l D h0 h1 cI G n q k (sOf ((g k) / 2 % 4) (b2 ((g k) / 8 % 2 = 1)) v) (by first | assumption | omega | exact ⟨by omega, by omega⟩) (by first | assumption | omega | exact ⟨by omega, by omega⟩)) gX6_lean_X2_change 2 kf_X2_change ⟨rfl, rfl⟩ ⟨by decide, by decide⟩ dX6_lean_81 rfl 1 rfl rfl rfl rfl ⟨Nat.zero_le _, Nat.zero_le _⟩ [1, 2] rfl (by decide) [0] rfl (Nat.le_of_ble_eq_true rfl) [(x0, .inr (5, [.ref h0, .ref t0, .ref n0, .ref i0, .ref d0, .ref r0, .ref p0, .int (iJ (hs)), .int (iJ (rf))])), (i0, .inr (0, [.ref i1, .int (iJ (mb))])), (i1, cR cP 4 (hF xb)), ((xb 0), .inr (2, [.ref (yb 0), .int (iJ (lN 0)), .int (iJ (lQ 0))])), ((yb 0), cJ cI 32 (lG 0)), ((xb 1), .inr (2, [.ref (yb 1), .int (iJ (lN 1)), .int (iJ (lQ 1))])), ((yb 1), cJ cI 32 (lG 1)), ((xb 2), .inr (2, [.ref (yb 2), .int (iJ (lN 2)), .int (iJ (lQ 2))])), ((yb 2), cJ cI 32 (lG 2)), ((xb 3), .inr (2, [.ref (yb 3), .int (iJ (lN 3)), .int (iJ (lQ 3))])), ((yb 3), cJ cI 32 (lG 3))] [0, 3, 4, 5, 6, 7, 8, 9, 10, 11, 12] rfl (by decide) (by decide) hA [0, 11, 12, 1, 2, 3, 4, 5, 6, 7, 8, 9, 10] (by decide) (fun (_ : Unit) => [(x0, .inr (5, [.ref h0, .ref t0, .ref n0, .ref i0, .ref d0, .ref r0, .ref p0, .int (iJ (hs)), .int (iJ (rf))])), (h0, .inr (2, [.ref h1, .int (iJ (n)), .int (iJ (q))])), (h1, cJ cI 32 (uJ G k (sOf ((g k) / 2 % 4) (b2 ((g k) / 8 % 2 = 1)) v))), (i0, .inr (0, [.ref i1, .int (iJ (mb))])), (i1, cR cP 4 (hF xb)), ((xb 0), .inr (2, [.ref (yb 0), .int (iJ (lN 0)), .int (iJ (lQ 0))])), ((yb 0), cJ cI 32 (lG 0)), ((xb 1), .inr (2, [.ref (yb 1), .int (iJ (lN 1)), .int (iJ (lQ 1))])), ((yb 1), cJ cI 32 (lG 1)), ((xb 2), .inr (2, [.ref (yb 2), .int (iJ (lN 2)), .int (iJ (lQ 2))])), ((yb 2), cJ cI 32 (lG 2)), ((xb 3), .inr (2, [.ref (yb 3), .int (iJ (lN 3)), .int (iJ (lQ 3))])), ((yb 3), cJ cI 32 (lG 3))]) (fun _ => rfl) ?_
            rintro ⟨⟩ hp_2
            refine r_iinc E (k := 5) [(4, .int (iJ ((x + 1)))), (6, .int (iJ ((g k)))), (0, .ref x0), (1, .int (iJ (d))), (2, .int (iJ (u))), (3, .int (iJ (v))), (5, .int (iJ (k)))] dX6_lean_84 rfl (by decide) rfl ?_
            refine r_iinc E (k := 6) [(5, .int (iJ ((k + 1)))), (4, .int (iJ ((x + 1)))), (6, .int (iJ ((g k)))), (0, .ref x0), (1, .int (iJ (d))), (2, .int (iJ (u))), (3, .int (iJ (v)))] dX6_lean_87 rfl (by decide) rfl ?_
            refine r_goto E 37 dX6_lean_90 (by decide) ?_
            refine r_lv [3, 4, 5, 6, 1, 0] [(0, .ref x0), (1, .int (iJ (d))), (2, .int (iJ (u))), (3, .int (iJ (v))), (4, .int (iJ ((x + 1)))), (5, .int (iJ ((k + 1))))] rfl ?_
            exact ih37 (k + 1) (x + 1) (uJ G k (sOf ((g k) / 2 % 4) (b2 ((g k) / 8 % 2 = 1)) v)) ⟨by omega, by omega⟩ (by rw [sm_s _ (by omega), hx, ← hu.1]; simp [b2, c_66]) (by
                  rw [hG]
                  first | exact mpF_s1 _ _ (by omega) (by unfold leC; rw [← hu.1, ← hv.1, if_pos c_66]) | exact mpF_s0 _ _ (by omega) (by unfold leC; rw [← hu.1, if_neg c_66])) (by omega)
    refine r_lv [2, 3, 4, 5, 1, 0] [(0, .ref x0), (1, .int (iJ (d))), (2, .int (iJ (u))), (3, .int (iJ (v))), (4, .int (iJ (0))), (5, .int (iJ (0)))] rfl ?_
    exact loop_37 _ 0 0 g ⟨by omega, by omega⟩ (sm_0 _).symm (mpF_0 _ _) (Nat.lt_succ_self _)
  refine r_iload_n E 1 dX6_lean_11 rfl rfl ?_
  refine r_if_eq E 19 dX6_lean_12 (by decide) ⟨by omega, by omega⟩ (fun c_12 => ?_) (fun c_12 => ?_)
  · refine r_iconst E 2 rfl dX6_lean_19 ?_
    refine r_istore_n E [(2, .int (iJ (2))), (0, .ref x0), (1, .int (iJ (d)))] dX6_lean_20 rfl (by decide) rfl ?_
    refine r_iload_n E 2 dX6_lean_21 rfl rfl ?_
    refine r_if_eq E 29 dX6_lean_22 (by decide) ⟨by omega, by omega⟩ (fun c_22 => ?_) (fun c_22 => ?_)
    · refine r_iconst E 1 rfl dX6_lean_29 ?_
      refine r_istore_n E [(3, .int (iJ (1))), (2, .int (iJ (2))), (0, .ref x0), (1, .int (iJ (d)))] dX6_lean_30 rfl (by decide) rfl ?_
      refine r_lv [2, 3, 1, 0] [(0, .ref x0), (1, .int (iJ (d))), (2, .int (iJ (2))), (3, .int (iJ (1)))] rfl ?_
      exact K_31 2 1 (by split <;> omega) (by split <;> omega)
    · refine r_iconst E 2 rfl dX6_lean_25 ?_
      refine r_goto E 30 dX6_lean_26 (by decide) ?_
      refine r_istore_n E [(3, .int (iJ (2))), (2, .int (iJ (2))), (0, .ref x0), (1, .int (iJ (d)))] dX6_lean_30 rfl (by decide) rfl ?_
      refine r_lv [2, 3, 1, 0] [(0, .ref x0), (1, .int (iJ (d))), (2, .int (iJ (2))), (3, .int (iJ (2)))] rfl ?_
      exact K_31 2 2 (by split <;> omega) (by split <;> omega)
  · refine r_iconst E 1 rfl dX6_lean_15 ?_
    refine r_goto E 20 dX6_lean_16 (by decide) ?_
    refine r_istore_n E [(2, .int (iJ (1))), (0, .ref x0), (1, .int (iJ (d)))] dX6_lean_20 rfl (by decide) rfl ?_
    refine r_iload_n E 2 dX6_lean_21 rfl rfl ?_
    refine r_if_eq E 29 dX6_lean_22 (by decide) ⟨by omega, by omega⟩ (fun c_22 => ?_) (fun c_22 => ?_)
    · refine r_iconst E 1 rfl dX6_lean_29 ?_
      refine r_istore_n E [(3, .int (iJ (1))), (2, .int (iJ (1))), (0, .ref x0), (1, .int (iJ (d)))] dX6_lean_30 rfl (by decide) rfl ?_
      refine r_lv [2, 3, 1, 0] [(0, .ref x0), (1, .int (iJ (d))), (2, .int (iJ (1))), (3, .int (iJ (1)))] rfl ?_
      exact K_31 1 1 (by split <;> omega) (by split <;> omega)
    · refine r_iconst E 2 rfl dX6_lean_25 ?_
      refine r_goto E 30 dX6_lean_26 (by decide) ?_
      refine r_istore_n E [(3, .int (iJ (2))), (2, .int (iJ (1))), (0, .ref x0), (1, .int (iJ (d)))] dX6_lean_30 rfl (by decide) rfl ?_
      refine r_lv [2, 3, 1, 0] [(0, .ref x0), (1, .int (iJ (d))), (2, .int (iJ (1))), (3, .int (iJ (2)))] rfl ?_
      exact K_31 1 2 (by split <;> omega) (by split <;> omega)
theorem kf_X6_set : KF yX6_set 1 wsX6_set cX6_set 3 (some .int) := ⟨rfl, by decide +kernel, by decide +kernel, by decide +kernel⟩
def rm_X6_set : Room := { frames := 3, cells := 0, slots := 0, locals := 64 }
set_option maxHeartbeats 1000000 in
set_option maxRecDepth 100000 in
theorem c_X6_setBad (l : Launch) (D : va_G) (x0 : Nat) (h0 : Nat) (t0 : Nat) (n0 : Nat) (i0 : Nat) (d0 : Nat) (r0 : Nat) (p0 : Nat) (hs : Int) (rf : Int) (h1 : Nat) (cI : ClassId) (g : Int → Int) (n : Int) (q : Int) (v : Int) (hn : 0 ≤ n ∧ n ≤ 32) (hv : jb v) (hx : ¬ (1 ≤ v ∧ v ≤ 4)) : MP l yX6_set wsX6_set rm_X6_set D vwCl [.ref x0, .int (iJ (v))] [(x0, .inr (5, [.ref h0, .ref t0, .ref n0, .ref i0, .ref d0, .ref r0, .ref p0, .int (iJ (hs)), .int (iJ (rf))])), (h0, .inr (2, [.ref h1, .int (iJ (n)), .int (iJ (q))])), (h1, cJ cI 32 (g))] [(cI, .int)] (-1) := by
  refine MP.mk (cc := cX6_set) (maxL := 3) (ret := (some .int)) (by decide) rfl (Nat.le_of_ble_eq_true rfl) rfl RX6 rfl ?_
  intro p_ e_ s_ m_ ar_ bw_ mt_ cd_ Q_ E hr hQ
  refine r_iload_n E 1 dX6_set_0 rfl rfl ?_
  refine r_iconst E 1 rfl dX6_set_1 ?_
  refine r_icmp_lt E 10 dX6_set_2 (by decide) hv ⟨by omega, by omega⟩ (fun c_2 => ?_) (fun c_2 => ?_)
  · refine r_iconst E (-1) rfl dX6_set_10 ?_
    exact r_retP E hr dX6_set_11 rfl hQ
  · refine r_iload_n E 1 dX6_set_5 rfl rfl ?_
    refine r_iconst E 4 rfl dX6_set_6 ?_
    refine r_icmp_le E 12 dX6_set_7 (by decide) hv ⟨by omega, by omega⟩ (fun c_7 => absurd c_7 (by omega)) (fun c_7 => ?_)
    refine r_iconst E (-1) rfl dX6_set_10 ?_
    exact r_retP E hr dX6_set_11 rfl hQ
set_option maxRecDepth 20000 in
theorem in_X6_set_X6 : ∀ w ∈ u_ws RX6 TX6 9, w ∈ wsX6_set := by decide +kernel
set_option maxRecDepth 20000 in
theorem lk_X6_set_25 : Cond.fieldLink RX6 25 (TX6 3).1 (TX6 3).2.1 (TX6 3).2.2.1 ∈ wsX6_set := by decide +kernel
set_option maxRecDepth 20000 in
theorem lk_X6_set_10 : Cond.fieldLink RX6 10 (TX6 0).1 (TX6 0).2.1 (TX6 0).2.2.1 ∈ wsX6_set := by decide +kernel
set_option maxRecDepth 20000 in
theorem in_X6_set_X2 : ∀ w ∈ u_ws RX2 TX2 3, w ∈ wsX6_set := by decide +kernel
set_option maxHeartbeats 1000000 in
set_option maxRecDepth 100000 in
theorem c_X6_set (l : Launch) (D : va_G) (x0 : Nat) (h0 : Nat) (t0 : Nat) (n0 : Nat) (i0 : Nat) (d0 : Nat) (r0 : Nat) (p0 : Nat) (hs : Int) (rf : Int) (h1 : Nat) (cI : ClassId) (g : Int → Int) (n : Int) (q : Int) (i1 : Nat) (cP : ClassId) (xa : Nat → Nat) (ya : Nat → Nat) (kN : Nat → Int) (kQ : Nat → Int) (kG : Nat → Int → Int) (m : Int) (v : Int) (hn : 0 ≤ n ∧ n ≤ 32) (hm : 0 ≤ m ∧ m ≤ 4) (hhN : ∀ i : Nat, 0 ≤ kN i ∧ kN i ≤ 32) (hx : 1 ≤ v ∧ v ≤ 4) : MM (S := (Nat → Nat) × (Nat → Nat) × (Nat → Int) × (Nat → Int) × (Nat → Int → Int) × Int) l yX6_set wsX6_set rm_X6_set D vwCl [.ref x0, .int (iJ (v))] [(x0, .inr (5, [.ref h0, .ref t0, .ref n0, .ref i0, .ref d0, .ref r0, .ref p0, .int (iJ (hs)), .int (iJ (rf))])), (h0, .inr (2, [.ref h1, .int (iJ (n)), .int (iJ (q))])), (h1, cJ cI 32 (g)), (i0, .inr (0, [.ref i1, .int (iJ (m))])), (i1, cR cP 4 (hF xa)), ((xa 0), .inr (2, [.ref (ya 0), .int (iJ (kN 0)), .int (iJ (kQ 0))])), ((ya 0), cJ cI 32 (kG 0)), ((xa 1), .inr (2, [.ref (ya 1), .int (iJ (kN 1)), .int (iJ (kQ 1))])), ((ya 1), cJ cI 32 (kG 1)), ((xa 2), .inr (2, [.ref (ya 2), .int (iJ (kN 2)), .int (iJ (kQ 2))])), ((ya 2), cJ cI 32 (kG 2)), ((xa 3), .inr (2, [.ref (ya 3), .int (iJ (kN 3)), .int (iJ (kQ 3))])), ((ya 3), cJ cI 32 (kG 3))] [(cI, .int), (cP, .object "LeanSticks$Piece")] (fun (u : (Nat → Nat) × (Nat → Nat) × (Nat → Int) × (Nat → Int) × (Nat → Int → Int) × Int) => q) (fun (u : (Nat → Nat) × (Nat → Nat) × (Nat → Int) × (Nat → Int) × (Nat → Int → Int) × Int) => (HPush m n q g kN kQ kG u.2.2.2.2.2 u.2.2.1 u.2.2.2.1 u.2.2.2.2.1)) (fun (u : (Nat → Nat) × (Nat → Nat) × (Nat → Int) × (Nat → Int) × (Nat → Int → Int) × Int) => [(x0, .inr (5, [.ref h0, .ref t0, .ref n0, .ref i0, .ref d0, .ref r0, .ref p0, .int (iJ (hs)), .int (iJ (rf))])), (h0, .inr (2, [.ref h1, .int (iJ (n)), .int (iJ (v))])), (h1, cJ cI 32 (g)), (i0, .inr (0, [.ref i1, .int (iJ (u.2.2.2.2.2))])), (i1, cR cP 4 (hF u.1)), ((u.1 0), .inr (2, [.ref (u.2.1 0), .int (iJ (u.2.2.1 0)), .int (iJ (u.2.2.2.1 0))])), ((u.2.1 0), cJ cI 32 (u.2.2.2.2.1 0)), ((u.1 1), .inr (2, [.ref (u.2.1 1), .int (iJ (u.2.2.1 1)), .int (iJ (u.2.2.2.1 1))])), ((u.2.1 1), cJ cI 32 (u.2.2.2.2.1 1)), ((u.1 2), .inr (2, [.ref (u.2.1 2), .int (iJ (u.2.2.1 2)), .int (iJ (u.2.2.2.1 2))])), ((u.2.1 2), cJ cI 32 (u.2.2.2.2.1 2)), ((u.1 3), .inr (2, [.ref (u.2.1 3), .int (iJ (u.2.2.1 3)), .int (iJ (u.2.2.2.1 3))])), ((u.2.1 3), cJ cI 32 (u.2.2.2.2.1 3))]) := by
  refine MM.mk (cc := cX6_set) (maxL := 3) (ret := (some .int)) (by decide) rfl (Nat.le_of_ble_eq_true rfl) rfl RX6 rfl ?_
  intro p_ e_ s_ m_ ar_ bw_ mt_ cd_ B_ Q_ hA E hr hQ
  refine r_iload_n E 1 dX6_set_0 rfl rfl ?_
  refine r_iconst E 1 rfl dX6_set_1 ?_
  refine r_icmp_lt E 10 dX6_set_2 (by decide) ⟨by omega, by omega⟩ ⟨by omega, by omega⟩ (fun c_2 => absurd c_2 (by omega)) (fun c_2 => ?_)
  refine r_iload_n E 1 dX6_set_5 rfl rfl ?_
  refine r_iconst E 4 rfl dX6_set_6 ?_
  refine r_icmp_le E 12 dX6_set_7 (by decide) ⟨by omega, by omega⟩ ⟨by omega, by omega⟩ (fun c_7 => ?_) (fun c_7 => absurd c_7 (by omega))
  refine r_aload_n E 0 dX6_set_12 rfl rfl ?_
  refine r_get E 5 0 3 dX6_set_13 in_X6_set_X6 lk_X6_set_25 rfl rfl (by decide) rfl ?_
  refine r_aload_n E 0 dX6_set_16 rfl rfl ?_
  refine r_get E 5 0 0 dX6_set_17 in_X6_set_X6 lk_X6_set_10 rfl rfl (by decide) rfl ?_
  refine r_vV E (st := []) (c_X0_remember l D i0 i1 cP xa ya kN kQ kG m h0 h1 cI g n q (by first | assumption | omega | exact ⟨by omega, by omega⟩) (by first | assumption | omega | exact ⟨by omega, by omega⟩) (by first | assumption | omega | exact ⟨by omega, by omega⟩)) gX6_set_X0_remember 1 kf_X0_remember ⟨rfl, rfl⟩ ⟨by decide, by decide⟩ dX6_set_20 rfl 3 rfl rfl rfl rfl ⟨Nat.zero_le _, Nat.zero_le _⟩ [3, 4, 5, 6, 7, 8, 9, 10, 11, 12, 1, 2] rfl (by decide) [0, 1] rfl (Nat.le_of_ble_eq_true rfl) [(x0, .inr (5, [.ref h0, .ref t0, .ref n0, .ref i0, .ref d0, .ref r0, .ref p0, .int (iJ (hs)), .int (iJ (rf))]))] [0] rfl (by decide) (by decide) hA [0, 11, 12, 1, 2, 3, 4, 5, 6, 7, 8, 9, 10] (by decide) (fun u : (Nat → Nat) × (Nat → Nat) × (Nat → Int) × (Nat → Int) × (Nat → Int → Int) × Int => [(x0, .inr (5, [.ref h0, .ref t0, .ref n0, .ref i0, .ref d0, .ref r0, .ref p0, .int (iJ (hs)), .int (iJ (rf))])), (h0, .inr (2, [.ref h1, .int (iJ (n)), .int (iJ (q))])), (h1, cJ cI 32 (g)), (i0, .inr (0, [.ref i1, .int (iJ (u.2.2.2.2.2))])), (i1, cR cP 4 (hF u.1)), ((u.1 0), .inr (2, [.ref (u.2.1 0), .int (iJ (u.2.2.1 0)), .int (iJ (u.2.2.2.1 0))])), ((u.2.1 0), cJ cI 32 (u.2.2.2.2.1 0)), ((u.1 1), .inr (2, [.ref (u.2.1 1), .int (iJ (u.2.2.1 1)), .int (iJ (u.2.2.2.1 1))])), ((u.2.1 1), cJ cI 32 (u.2.2.2.2.1 1)), ((u.1 2), .inr (2, [.ref (u.2.1 2), .int (iJ (u.2.2.1 2)), .int (iJ (u.2.2.2.1 2))])), ((u.2.1 2), cJ cI 32 (u.2.2.2.2.1 2)), ((u.1 3), .inr (2, [.ref (u.2.1 3), .int (iJ (u.2.2.1 3)), .int (iJ (u.2.2.2.1 3))])), ((u.2.1 3), cJ cI 32 (u.2.2.2.2.1 3))]) (fun _ => rfl) ?_
  rintro ⟨xb, yb, lN, lQ, lG, mb⟩ hp_1
  refine r_cv (ws2 := [(x0, .inr (5, [.ref h0, .ref t0, .ref n0, .ref i0, .ref d0, .ref r0, .ref p0, .int (iJ (hs)), .int (iJ (rf))])), (h0, .inr (2, [.ref h1, .int (iJ (n)), .int (iJ (q))])), (h1, cJ cI 32 (g)), (i0, .inr (0, [.ref i1, .int (iJ (mb))])), (i1, cR cP 4 (hF xb)), ((xb 0), .inr (2, [.ref (yb 0), .int (iJ (lN 0)), .int (iJ (lQ 0))])), ((yb 0), cJ cI 32 (lG 0)), ((xb 1), .inr (2, [.ref (yb 1), .int (iJ (lN 1)), .int (iJ (lQ 1))])), ((yb 1), cJ cI 32 (lG 1)), ((xb 2), .inr (2, [.ref (yb 2), .int (iJ (lN 2)), .int (iJ (lQ 2))])), ((yb 2), cJ cI 32 (lG 2)), ((xb 3), .inr (2, [.ref (yb 3), .int (iJ (lN 3)), .int (iJ (lQ 3))])), ((yb 3), cJ cI 32 (lG 3))]) (st2 := []) rfl rfl rfl ?_
  have hp6 := hp_1
  try dsimp only at hp6
  refine r_aload_n E 0 dX6_set_23 rfl rfl ?_
  refine r_get E 5 0 0 dX6_set_24 in_X6_set_X6 lk_X6_set_10 rfl rfl (by decide) rfl ?_
  refine r_getN E 2 1 2 dX6_set_27 in_X6_set_X2 (by decide) rfl rfl rfl (by decide) rfl ?_
  refine r_istore_n E [(2, .int (iJ (q))), (0, .ref x0), (1, .int (iJ (v)))] dX6_set_30 rfl (by decide) rfl ?_
  refine r_aload_n E 1 dX6_set_31 rfl rfl ?_
  refine r_get E 5 0 0 dX6_set_32 in_X6_set_X6 lk_X6_set_10 rfl rfl (by decide) rfl ?_
  refine r_iload_n E 2 dX6_set_35 rfl rfl ?_
  refine r_putN E (ty := .int) 2 1 2 tyX2 tyX2_ok nmX2 dX6_set_36 in_X6_set_X2 (by decide) rfl rfl rfl (by decide) rfl (by decide +kernel) rfl rfl (Nat.le_of_ble_eq_true rfl) [(x0, .inr (5, [.ref h0, .ref t0, .ref n0, .ref i0, .ref d0, .ref r0, .ref p0, .int (iJ (hs)), .int (iJ (rf))])), (h0, .inr (2, [.ref h1, .int (iJ (n)), .int (iJ (v))])), (h1, cJ cI 32 (g)), (i0, .inr (0, [.ref i1, .int (iJ (mb))])), (i1, cR cP 4 (hF xb)), ((xb 0), .inr (2, [.ref (yb 0), .int (iJ (lN 0)), .int (iJ (lQ 0))])), ((yb 0), cJ cI 32 (lG 0)), ((xb 1), .inr (2, [.ref (yb 1), .int (iJ (lN 1)), .int (iJ (lQ 1))])), ((yb 1), cJ cI 32 (lG 1)), ((xb 2), .inr (2, [.ref (yb 2), .int (iJ (lN 2)), .int (iJ (lQ 2))])), ((yb 2), cJ cI 32 (lG 2)), ((xb 3), .inr (2, [.ref (yb 3), .int (iJ (lN 3)), .int (iJ (lQ 3))])), ((yb 3), cJ cI 32 (lG 3))] rfl ?_
  refine r_iload_n E 0 dX6_set_39 rfl rfl ?_
  exact r_retM E (xb, yb, lN, lQ, lG, mb) hr dX6_set_40 rfl hp6 rfl hQ
