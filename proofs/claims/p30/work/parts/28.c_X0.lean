theorem kf_X0_dropOldest : KF yX0_dropOldest 0 wsX0_dropOldest cX0_dropOldest 3 none := ⟨rfl, by decide +kernel, by decide +kernel, by decide +kernel⟩
def rm_X0_dropOldest : Room := { frames := 0, cells := 0, slots := 0, locals := 0 }
set_option maxRecDepth 20000 in
theorem in_X0_dropOldest_X0 : ∀ w ∈ u_ws RX0 TX0 2, w ∈ wsX0_dropOldest := by decide +kernel
set_option maxRecDepth 20000 in
theorem lk_X0_dropOldest_11 : Cond.fieldLink RX0 11 (TX0 0).1 (TX0 0).2.1 (TX0 0).2.2.1 ∈ wsX0_dropOldest := by decide +kernel
set_option maxRecDepth 20000 in
theorem lk_X0_dropOldest_18 : Cond.fieldLink RX0 18 (TX0 1).1 (TX0 1).2.1 (TX0 1).2.2.1 ∈ wsX0_dropOldest := by decide +kernel
set_option maxHeartbeats 1000000 in
set_option maxRecDepth 100000 in
theorem c_X0_dropOldest (l : Launch) (D : va_G) (i0 : Nat) (i1 : Nat) (cP : ClassId) (xa : Nat → Nat) (ya : Nat → Nat) (kN : Nat → Int) (kQ : Nat → Int)  : MV (S := Unit) l yX0_dropOldest wsX0_dropOldest rm_X0_dropOldest D vwCl [.ref i0] [(i0, .inr (0, [.ref i1, .int (iJ (4))])), (i1, cR cP 4 (hF xa)), ((xa 0), .inr (2, [.ref (ya 0), .int (iJ (kN 0)), .int (iJ (kQ 0))])), ((xa 1), .inr (2, [.ref (ya 1), .int (iJ (kN 1)), .int (iJ (kQ 1))])), ((xa 2), .inr (2, [.ref (ya 2), .int (iJ (kN 2)), .int (iJ (kQ 2))])), ((xa 3), .inr (2, [.ref (ya 3), .int (iJ (kN 3)), .int (iJ (kQ 3))]))] [(cP, .object "LeanSticks$Piece")] (fun (_ : Unit) => True) (fun (_ : Unit) => [(i0, .inr (0, [.ref i1, .int (iJ (3))])), (i1, cR cP 4 (hF (xr xa))), ((xa 0), .inr (2, [.ref (ya 0), .int (iJ (kN 0)), .int (iJ (kQ 0))])), ((xa 1), .inr (2, [.ref (ya 1), .int (iJ (kN 1)), .int (iJ (kQ 1))])), ((xa 2), .inr (2, [.ref (ya 2), .int (iJ (kN 2)), .int (iJ (kQ 2))])), ((xa 3), .inr (2, [.ref (ya 3), .int (iJ (kN 3)), .int (iJ (kQ 3))]))]) := by
  refine MV.mk (cc := cX0_dropOldest) (maxL := 3) (ret := none) (by decide) rfl (Nat.le_of_ble_eq_true rfl) rfl RX0 rfl ?_
  intro p_ e_ s_ m_ ar_ bw_ mt_ cd_ B_ Q_ hA E hr hQ
  refine r_aload_n E 0 dX0_dropOldest_0 rfl rfl ?_
  refine r_get E 0 0 0 dX0_dropOldest_1 in_X0_dropOldest_X0 lk_X0_dropOldest_11 rfl rfl (by decide) rfl ?_
  refine r_iconst E 0 rfl dX0_dropOldest_4 ?_
  refine r_aldq E (i := 0) (r := (xa 0)) 1 0 dX0_dropOldest_5 rfl rfl (by decide) ⟨by omega, by omega⟩ rfl ?_
  refine r_astore_n E [(1, .ref (xa 0)), (0, .ref i0)] dX0_dropOldest_6 rfl (by decide) rfl ?_
  refine r_iconst E 1 rfl dX0_dropOldest_7 ?_
  refine r_istore_n E [(2, .int (iJ (1))), (1, .ref (xa 0)), (0, .ref i0)] dX0_dropOldest_8 rfl (by decide) rfl ?_
  refine r_iload_n E 0 dX0_dropOldest_9 rfl rfl ?_
  refine r_aload_n E 2 dX0_dropOldest_10 rfl rfl ?_
  refine r_get E 0 0 0 dX0_dropOldest_11 in_X0_dropOldest_X0 lk_X0_dropOldest_11 rfl rfl (by decide) rfl ?_
  refine r_alen E 1 0 4 dX0_dropOldest_14 rfl rfl rfl ?_
  refine r_top (b := 4) (by rfl) ?_
  refine r_icmp_ge E 38 dX0_dropOldest_15 (by decide) ⟨by omega, by omega⟩ ⟨by omega, by omega⟩ (fun c_15 => absurd c_15 (by omega)) (fun c_15 => ?_)
  refine r_aload_n E 2 dX0_dropOldest_18 rfl rfl ?_
  refine r_get E 0 0 0 dX0_dropOldest_19 in_X0_dropOldest_X0 lk_X0_dropOldest_11 rfl rfl (by decide) rfl ?_
  refine r_iload_n E 0 dX0_dropOldest_22 rfl rfl ?_
  refine r_iconst E 1 rfl dX0_dropOldest_23 ?_
  refine r_isub E dX0_dropOldest_24 ?_
  refine r_top 0 rfl ?_
  refine r_aload_n E 2 dX0_dropOldest_25 rfl rfl ?_
  refine r_get E 0 0 0 dX0_dropOldest_26 in_X0_dropOldest_X0 lk_X0_dropOldest_11 rfl rfl (by decide) rfl ?_
  refine r_iload_n E 0 dX0_dropOldest_29 rfl rfl ?_
  refine r_aldq E (i := 1) (r := (xa 1)) 1 0 dX0_dropOldest_30 rfl rfl (by decide) ⟨by omega, by omega⟩ rfl ?_
  refine r_astq E (i := 0) 1 0 3 2 dX0_dropOldest_31 rfl rfl rfl rfl (by decide) ⟨by omega, by omega⟩ [(i0, .inr (0, [.ref i1, .int (iJ (4))])), (i1, cR cP 4 (va_up (hF xa) (0 : Int).toNat (some (xa 1)))), ((xa 0), .inr (2, [.ref (ya 0), .int (iJ (kN 0)), .int (iJ (kQ 0))])), ((xa 1), .inr (2, [.ref (ya 1), .int (iJ (kN 1)), .int (iJ (kQ 1))])), ((xa 2), .inr (2, [.ref (ya 2), .int (iJ (kN 2)), .int (iJ (kQ 2))])), ((xa 3), .inr (2, [.ref (ya 3), .int (iJ (kN 3)), .int (iJ (kQ 3))]))] rfl ?_
  refine r_iinc E (k := 0) [(2, .int (iJ (2))), (1, .ref (xa 0)), (0, .ref i0)] dX0_dropOldest_32 rfl (by decide) rfl ?_
  refine r_goto E 9 dX0_dropOldest_35 (by decide) ?_
  refine r_iload_n E 0 dX0_dropOldest_9 rfl rfl ?_
  refine r_aload_n E 2 dX0_dropOldest_10 rfl rfl ?_
  refine r_get E 0 0 0 dX0_dropOldest_11 in_X0_dropOldest_X0 lk_X0_dropOldest_11 rfl rfl (by decide) rfl ?_
  refine r_alen E 1 0 4 dX0_dropOldest_14 rfl rfl rfl ?_
  refine r_top (b := 4) (by rfl) ?_
  refine r_icmp_ge E 38 dX0_dropOldest_15 (by decide) ⟨by omega, by omega⟩ ⟨by omega, by omega⟩ (fun c_15 => absurd c_15 (by omega)) (fun c_15 => ?_)
  refine r_aload_n E 2 dX0_dropOldest_18 rfl rfl ?_
  refine r_get E 0 0 0 dX0_dropOldest_19 in_X0_dropOldest_X0 lk_X0_dropOldest_11 rfl rfl (by decide) rfl ?_
  refine r_iload_n E 0 dX0_dropOldest_22 rfl rfl ?_
  refine r_iconst E 1 rfl dX0_dropOldest_23 ?_
  refine r_isub E dX0_dropOldest_24 ?_
  refine r_top 1 rfl ?_
  refine r_aload_n E 2 dX0_dropOldest_25 rfl rfl ?_
  refine r_get E 0 0 0 dX0_dropOldest_26 in_X0_dropOldest_X0 lk_X0_dropOldest_11 rfl rfl (by decide) rfl ?_
  refine r_iload_n E 0 dX0_dropOldest_29 rfl rfl ?_
  refine r_aldq E (i := 2) (r := (xa 2)) 1 0 dX0_dropOldest_30 rfl rfl (by decide) ⟨by omega, by omega⟩ rfl ?_
  refine r_astq E (i := 1) 1 0 4 2 dX0_dropOldest_31 rfl rfl rfl rfl (by decide) ⟨by omega, by omega⟩ [(i0, .inr (0, [.ref i1, .int (iJ (4))])), (i1, cR cP 4 (va_up (va_up (hF xa) (0 : Int).toNat (some (xa 1))) (1 : Int).toNat (some (xa 2)))), ((xa 0), .inr (2, [.ref (ya 0), .int (iJ (kN 0)), .int (iJ (kQ 0))])), ((xa 1), .inr (2, [.ref (ya 1), .int (iJ (kN 1)), .int (iJ (kQ 1))])), ((xa 2), .inr (2, [.ref (ya 2), .int (iJ (kN 2)), .int (iJ (kQ 2))])), ((xa 3), .inr (2, [.ref (ya 3), .int (iJ (kN 3)), .int (iJ (kQ 3))]))] rfl ?_
  refine r_iinc E (k := 0) [(2, .int (iJ (3))), (1, .ref (xa 0)), (0, .ref i0)] dX0_dropOldest_32 rfl (by decide) rfl ?_
  refine r_goto E 9 dX0_dropOldest_35 (by decide) ?_
  refine r_iload_n E 0 dX0_dropOldest_9 rfl rfl ?_
  refine r_aload_n E 2 dX0_dropOldest_10 rfl rfl ?_
  refine r_get E 0 0 0 dX0_dropOldest_11 in_X0_dropOldest_X0 lk_X0_dropOldest_11 rfl rfl (by decide) rfl ?_
  refine r_alen E 1 0 4 dX0_dropOldest_14 rfl rfl rfl ?_
  refine r_top (b := 4) (by rfl) ?_
  refine r_icmp_ge E 38 dX0_dropOldest_15 (by decide) ⟨by omega, by omega⟩ ⟨by omega, by omega⟩ (fun c_15 => absurd c_15 (by omega)) (fun c_15 => ?_)
  refine r_aload_n E 2 dX0_dropOldest_18 rfl rfl ?_
  refine r_get E 0 0 0 dX0_dropOldest_19 in_X0_dropOldest_X0 lk_X0_dropOldest_11 rfl rfl (by decide) rfl ?_
  refine r_iload_n E 0 dX0_dropOldest_22 rfl rfl ?_
  refine r_iconst E 1 rfl dX0_dropOldest_23 ?_
  refine r_isub E dX0_dropOldest_24 ?_
  refine r_top 2 rfl ?_
  refine r_aload_n E 2 dX0_dropOldest_25 rfl rfl ?_
  refine r_get E 0 0 0 dX0_dropOldest_26 in_X0_dropOldest_X0 lk_X0_dropOldest_11 rfl rfl (by decide) rfl ?_
  refine r_iload_n E 0 dX0_dropOldest_29 rfl rfl ?_
  refine r_aldq E (i := 3) (r := (xa 3)) 1 0 dX0_dropOldest_30 rfl rfl (by decide) ⟨by omega, by omega⟩ rfl ?_
  refine r_astq E (i := 2) 1 0 5 2 dX0_dropOldest_31 rfl rfl rfl rfl (by decide) ⟨by omega, by omega⟩ [(i0, .inr (0, [.ref i1, .int (iJ (4))])), (i1, cR cP 4 (va_up (va_up (va_up (hF xa) (0 : Int).toNat (some (xa 1))) (1 : Int).toNat (some (xa 2))) (2 : Int).toNat (some (xa 3)))), ((xa 0), .inr (2, [.ref (ya 0), .int (iJ (kN 0)), .int (iJ (kQ 0))])), ((xa 1), .inr (2, [.ref (ya 1), .int (iJ (kN 1)), .int (iJ (kQ 1))])), ((xa 2), .inr (2, [.ref (ya 2), .int (iJ (kN 2)), .int (iJ (kQ 2))])), ((xa 3), .inr (2, [.ref (ya 3), .int (iJ (kN 3)), .int (iJ (kQ 3))]))] rfl ?_
  refine r_iinc E (k := 0) [(2, .int (iJ (4))), (1, .ref (xa 0)), (0, .ref i0)] dX0_dropOldest_32 rfl (by decide) rfl ?_
  refine r_goto E 9 dX0_dropOldest_35 (by decide) ?_
  refine r_iload_n E 0 dX0_dropOldest_9 rfl rfl ?_
  refine r_aload_n E 2 dX0_dropOldest_10 rfl rfl ?_
  refine r_get E 0 0 0 dX0_dropOldest_11 in_X0_dropOldest_X0 lk_X0_dropOldest_11 rfl rfl (by decide) rfl ?_
  refine r_alen E 1 0 4 dX0_dropOldest_14 rfl rfl rfl ?_
  refine r_top (b := 4) (by rfl) ?_
  refine r_icmp_ge E 38 dX0_dropOldest_15 (by decide) ⟨by omega, by omega⟩ ⟨by omega, by omega⟩ (fun c_15 => ?_) (fun c_15 => absurd c_15 (by omega))
  refine r_aload_n E 2 dX0_dropOldest_38 rfl rfl ?_
  refine r_get E 0 0 0 dX0_dropOldest_39 in_X0_dropOldest_X0 lk_X0_dropOldest_11 rfl rfl (by decide) rfl ?_
  refine r_aload_n E 2 dX0_dropOldest_42 rfl rfl ?_
  refine r_get E 0 0 0 dX0_dropOldest_43 in_X0_dropOldest_X0 lk_X0_dropOldest_11 rfl rfl (by decide) rfl ?_
  refine r_alen E 1 0 4 dX0_dropOldest_46 rfl rfl rfl ?_
  refine r_top (b := 4) (by rfl) ?_
  refine r_iconst E 1 rfl dX0_dropOldest_47 ?_
  refine r_isub E dX0_dropOldest_48 ?_
  refine r_top 3 rfl ?_
  refine r_aload_n E 1 dX0_dropOldest_49 rfl rfl ?_
  refine r_astq E (i := 3) 1 0 2 2 dX0_dropOldest_50 rfl rfl rfl rfl (by decide) ⟨by omega, by omega⟩ [(i0, .inr (0, [.ref i1, .int (iJ (4))])), (i1, cR cP 4 (va_up (va_up (va_up (va_up (hF xa) (0 : Int).toNat (some (xa 1))) (1 : Int).toNat (some (xa 2))) (2 : Int).toNat (some (xa 3))) (3 : Int).toNat (some (xa 0)))), ((xa 0), .inr (2, [.ref (ya 0), .int (iJ (kN 0)), .int (iJ (kQ 0))])), ((xa 1), .inr (2, [.ref (ya 1), .int (iJ (kN 1)), .int (iJ (kQ 1))])), ((xa 2), .inr (2, [.ref (ya 2), .int (iJ (kN 2)), .int (iJ (kQ 2))])), ((xa 3), .inr (2, [.ref (ya 3), .int (iJ (kN 3)), .int (iJ (kQ 3))]))] rfl ?_
  refine r_cv (ws2 := [(i0, .inr (0, [.ref i1, .int (iJ (4))])), (i1, cR cP 4 (hF (xr xa))), ((xa 0), .inr (2, [.ref (ya 0), .int (iJ (kN 0)), .int (iJ (kQ 0))])), ((xa 1), .inr (2, [.ref (ya 1), .int (iJ (kN 1)), .int (iJ (kQ 1))])), ((xa 2), .inr (2, [.ref (ya 2), .int (iJ (kN 2)), .int (iJ (kQ 2))])), ((xa 3), .inr (2, [.ref (ya 3), .int (iJ (kN 3)), .int (iJ (kQ 3))]))]) (by rw [hF_rot]) rfl rfl ?_
  refine r_aload_n E 2 dX0_dropOldest_51 rfl rfl ?_
  refine r_aload_n E 2 dX0_dropOldest_52 rfl rfl ?_
  refine r_get E 0 0 0 dX0_dropOldest_53 in_X0_dropOldest_X0 lk_X0_dropOldest_11 rfl rfl (by decide) rfl ?_
  refine r_alen E 1 0 4 dX0_dropOldest_56 rfl rfl rfl ?_
  refine r_top (b := 4) (by rfl) ?_
  refine r_iconst E 1 rfl dX0_dropOldest_57 ?_
  refine r_isub E dX0_dropOldest_58 ?_
  refine r_top 3 rfl ?_
  refine r_put E (ty := .int) 0 0 1 tyX0 tyX0_ok nmX0 dX0_dropOldest_59 in_X0_dropOldest_X0 lk_X0_dropOldest_18 rfl rfl (by decide) rfl (by decide +kernel) rfl rfl (Nat.le_of_ble_eq_true rfl) [(i0, .inr (0, [.ref i1, .int (iJ (3))])), (i1, cR cP 4 (hF (xr xa))), ((xa 0), .inr (2, [.ref (ya 0), .int (iJ (kN 0)), .int (iJ (kQ 0))])), ((xa 1), .inr (2, [.ref (ya 1), .int (iJ (kN 1)), .int (iJ (kQ 1))])), ((xa 2), .inr (2, [.ref (ya 2), .int (iJ (kN 2)), .int (iJ (kQ 2))])), ((xa 3), .inr (2, [.ref (ya 3), .int (iJ (kN 3)), .int (iJ (kQ 3))]))] rfl ?_
  exact r_retMV E () hr dX0_dropOldest_62 trivial rfl hQ
theorem kf_X0_remember : KF yX0_remember 1 wsX0_remember cX0_remember 2 none := ⟨rfl, by decide +kernel, by decide +kernel, by decide +kernel⟩
def rm_X0_remember : Room := { frames := 2, cells := 0, slots := 0, locals := 43 }
set_option maxRecDepth 20000 in
theorem in_X0_remember_X0 : ∀ w ∈ u_ws RX0 TX0 2, w ∈ wsX0_remember := by decide +kernel
set_option maxRecDepth 20000 in
theorem lk_X0_remember_18 : Cond.fieldLink RX0 18 (TX0 1).1 (TX0 1).2.1 (TX0 1).2.2.1 ∈ wsX0_remember := by decide +kernel
set_option maxRecDepth 20000 in
theorem lk_X0_remember_11 : Cond.fieldLink RX0 11 (TX0 0).1 (TX0 0).2.1 (TX0 0).2.2.1 ∈ wsX0_remember := by decide +kernel
set_option maxHeartbeats 1000000 in
set_option maxRecDepth 100000 in
theorem c_X0_remember0 (l : Launch) (D : va_G) (i0 : Nat) (i1 : Nat) (cP : ClassId) (xa : Nat → Nat) (ya : Nat → Nat) (kN : Nat → Int) (kQ : Nat → Int) (kG : Nat → Int → Int) (h0 : Nat) (h1 : Nat) (cI : ClassId) (g : Int → Int) (n : Int) (q : Int) (hhN : ∀ i : Nat, 0 ≤ kN i ∧ kN i ≤ 32) (hn : 0 ≤ n ∧ n ≤ 32) : MV (S := Unit) l yX0_remember wsX0_remember rm_X0_remember D vwCl [.ref i0, .ref h0] [(i0, .inr (0, [.ref i1, .int (iJ (0))])), (i1, cR cP 4 (hF xa)), ((xa 0), .inr (2, [.ref (ya 0), .int (iJ (kN 0)), .int (iJ (kQ 0))])), ((ya 0), cJ cI 32 (kG 0)), ((xa 1), .inr (2, [.ref (ya 1), .int (iJ (kN 1)), .int (iJ (kQ 1))])), ((ya 1), cJ cI 32 (kG 1)), ((xa 2), .inr (2, [.ref (ya 2), .int (iJ (kN 2)), .int (iJ (kQ 2))])), ((ya 2), cJ cI 32 (kG 2)), ((xa 3), .inr (2, [.ref (ya 3), .int (iJ (kN 3)), .int (iJ (kQ 3))])), ((ya 3), cJ cI 32 (kG 3)), (h0, .inr (2, [.ref h1, .int (iJ (n)), .int (iJ (q))])), (h1, cJ cI 32 (g))] [(cI, .int), (cP, .object "LeanSticks$Piece")] (fun (_ : Unit) => True) (fun (_ : Unit) => [(i0, .inr (0, [.ref i1, .int (iJ (1))])), (i1, cR cP 4 (hF xa)), ((xa 0), .inr (2, [.ref (ya 0), .int (iJ (n)), .int (iJ (q))])), ((ya 0), cJ cI 32 (pCp (kG 0) g n)), ((xa 1), .inr (2, [.ref (ya 1), .int (iJ (kN 1)), .int (iJ (kQ 1))])), ((ya 1), cJ cI 32 (kG 1)), ((xa 2), .inr (2, [.ref (ya 2), .int (iJ (kN 2)), .int (iJ (kQ 2))])), ((ya 2), cJ cI 32 (kG 2)), ((xa 3), .inr (2, [.ref (ya 3), .int (iJ (kN 3)), .int (iJ (kQ 3))])), ((ya 3), cJ cI 32 (kG 3)), (h0, .inr (2, [.ref h1, .int (iJ (n)), .int (iJ (q))])), (h1, cJ cI 32 (g))]) := by
  refine MV.mk (cc := cX0_remember) (maxL := 2) (ret := none) (by decide) rfl (Nat.le_of_ble_eq_true rfl) rfl RX0 rfl ?_
  intro p_ e_ s_ m_ ar_ bw_ mt_ cd_ B_ Q_ hA E hr hQ
  refine r_aload_n E 0 dX0_remember_0 rfl rfl ?_
  refine r_get E 0 0 1 dX0_remember_1 in_X0_remember_X0 lk_X0_remember_18 rfl rfl (by decide) rfl ?_
  refine r_aload_n E 0 dX0_remember_4 rfl rfl ?_
  refine r_get E 0 0 0 dX0_remember_5 in_X0_remember_X0 lk_X0_remember_11 rfl rfl (by decide) rfl ?_
  refine r_alen E 1 1 4 dX0_remember_8 rfl rfl rfl ?_
  refine r_top (b := 4) (by rfl) ?_
  refine r_icmp_lt E 16 dX0_remember_9 (by decide) ⟨by omega, by omega⟩ ⟨by omega, by omega⟩ (fun c_9 => ?_) (fun c_9 => absurd c_9 (by omega))
  refine r_aload_n E 0 dX0_remember_16 rfl rfl ?_
  refine r_get E 0 0 0 dX0_remember_17 in_X0_remember_X0 lk_X0_remember_11 rfl rfl (by decide) rfl ?_
  refine r_aload_n E 0 dX0_remember_20 rfl rfl ?_
  refine r_get E 0 0 1 dX0_remember_21 in_X0_remember_X0 lk_X0_remember_18 rfl rfl (by decide) rfl ?_
  refine r_aldq E (i := 0) (r := (xa 0)) 1 1 dX0_remember_24 rfl rfl (by decide) ⟨by omega, by omega⟩ rfl ?_
  refine r_aload_n E 1 dX0_remember_25 rfl rfl ?_
  refine r_vV E (st := []) (c_X2_copy l D (xa 0) (ya 0) cI (kG 0) (kN 0) (kQ 0) h0 h1 g n q (hhN 0) hn) gX0_remember_X2_copy 1 kf_X2_copy ⟨rfl, rfl⟩ ⟨by decide, by decide⟩ dX0_remember_26 rfl 2 rfl rfl rfl rfl ⟨Nat.zero_le _, Nat.zero_le _⟩ [2, 3, 10, 11] rfl (by decide) [0] rfl (Nat.le_of_ble_eq_true rfl) [(i0, .inr (0, [.ref i1, .int (iJ (0))])), (i1, cR cP 4 (hF xa)), ((xa 1), .inr (2, [.ref (ya 1), .int (iJ (kN 1)), .int (iJ (kQ 1))])), ((ya 1), cJ cI 32 (kG 1)), ((xa 2), .inr (2, [.ref (ya 2), .int (iJ (kN 2)), .int (iJ (kQ 2))])), ((ya 2), cJ cI 32 (kG 2)), ((xa 3), .inr (2, [.ref (ya 3), .int (iJ (kN 3)), .int (iJ (kQ 3))])), ((ya 3), cJ cI 32 (kG 3))] [0, 1, 4, 5, 6, 7, 8, 9] rfl (by decide) (by decide) hA [0, 1, 8, 9, 2, 3, 4, 5, 6, 7, 10, 11] (by decide) (fun (_ : Unit) => [(i0, .inr (0, [.ref i1, .int (iJ (0))])), (i1, cR cP 4 (hF xa)), ((xa 0), .inr (2, [.ref (ya 0), .int (iJ (n)), .int (iJ (q))])), ((ya 0), cJ cI 32 (pCp (kG 0) g n)), ((xa 1), .inr (2, [.ref (ya 1), .int (iJ (kN 1)), .int (iJ (kQ 1))])), ((ya 1), cJ cI 32 (kG 1)), ((xa 2), .inr (2, [.ref (ya 2), .int (iJ (kN 2)), .int (iJ (kQ 2))])), ((ya 2), cJ cI 32 (kG 2)), ((xa 3), .inr (2, [.ref (ya 3), .int (iJ (kN 3)), .int (iJ (kQ 3))])), ((ya 3), cJ cI 32 (kG 3)), (h0, .inr (2, [.ref h1, .int (iJ (n)), .int (iJ (q))])), (h1, cJ cI 32 (g))]) (fun _ => rfl) ?_
  rintro ⟨⟩ hp_1
  refine r_aload_n E 0 dX0_remember_29 rfl rfl ?_
  refine r_dup E dX0_remember_30 rfl ?_
  refine r_get E 0 0 1 dX0_remember_31 in_X0_remember_X0 lk_X0_remember_18 rfl rfl (by decide) rfl ?_
  refine r_iconst E 1 rfl dX0_remember_34 ?_
  refine r_iadd E dX0_remember_35 ?_
  refine r_top 1 rfl ?_
  refine r_put E (ty := .int) 0 0 1 tyX0 tyX0_ok nmX0 dX0_remember_36 in_X0_remember_X0 lk_X0_remember_18 rfl rfl (by decide) rfl (by decide +kernel) rfl rfl (Nat.le_of_ble_eq_true rfl) [(i0, .inr (0, [.ref i1, .int (iJ (1))])), (i1, cR cP 4 (hF xa)), ((xa 0), .inr (2, [.ref (ya 0), .int (iJ (n)), .int (iJ (q))])), ((ya 0), cJ cI 32 (pCp (kG 0) g n)), ((xa 1), .inr (2, [.ref (ya 1), .int (iJ (kN 1)), .int (iJ (kQ 1))])), ((ya 1), cJ cI 32 (kG 1)), ((xa 2), .inr (2, [.ref (ya 2), .int (iJ (kN 2)), .int (iJ (kQ 2))])), ((ya 2), cJ cI 32 (kG 2)), ((xa 3), .inr (2, [.ref (ya 3), .int (iJ (kN 3)), .int (iJ (kQ 3))])), ((ya 3), cJ cI 32 (kG 3)), (h0, .inr (2, [.ref h1, .int (iJ (n)), .int (iJ (q))])), (h1, cJ cI 32 (g))] rfl ?_
  exact r_retMV E () hr dX0_remember_39 trivial rfl hQ
set_option maxHeartbeats 1000000 in
set_option maxRecDepth 100000 in
theorem c_X0_remember1 (l : Launch) (D : va_G) (i0 : Nat) (i1 : Nat) (cP : ClassId) (xa : Nat → Nat) (ya : Nat → Nat) (kN : Nat → Int) (kQ : Nat → Int) (kG : Nat → Int → Int) (h0 : Nat) (h1 : Nat) (cI : ClassId) (g : Int → Int) (n : Int) (q : Int) (hhN : ∀ i : Nat, 0 ≤ kN i ∧ kN i ≤ 32) (hn : 0 ≤ n ∧ n ≤ 32) : MV (S := Unit) l yX0_remember wsX0_remember rm_X0_remember D vwCl [.ref i0, .ref h0] [(i0, .inr (0, [.ref i1, .int (iJ (1))])), (i1, cR cP 4 (hF xa)), ((xa 0), .inr (2, [.ref (ya 0), .int (iJ (kN 0)), .int (iJ (kQ 0))])), ((ya 0), cJ cI 32 (kG 0)), ((xa 1), .inr (2, [.ref (ya 1), .int (iJ (kN 1)), .int (iJ (kQ 1))])), ((ya 1), cJ cI 32 (kG 1)), ((xa 2), .inr (2, [.ref (ya 2), .int (iJ (kN 2)), .int (iJ (kQ 2))])), ((ya 2), cJ cI 32 (kG 2)), ((xa 3), .inr (2, [.ref (ya 3), .int (iJ (kN 3)), .int (iJ (kQ 3))])), ((ya 3), cJ cI 32 (kG 3)), (h0, .inr (2, [.ref h1, .int (iJ (n)), .int (iJ (q))])), (h1, cJ cI 32 (g))] [(cI, .int), (cP, .object "LeanSticks$Piece")] (fun (_ : Unit) => True) (fun (_ : Unit) => [(i0, .inr (0, [.ref i1, .int (iJ (2))])), (i1, cR cP 4 (hF xa)), ((xa 0), .inr (2, [.ref (ya 0), .int (iJ (kN 0)), .int (iJ (kQ 0))])), ((ya 0), cJ cI 32 (kG 0)), ((xa 1), .inr (2, [.ref (ya 1), .int (iJ (n)), .int (iJ (q))])), ((ya 1), cJ cI 32 (pCp (kG 1) g n)), ((xa 2), .inr (2, [.ref (ya 2), .int (iJ (kN 2)), .int (iJ (kQ 2))])), ((ya 2), cJ cI 32 (kG 2)), ((xa 3), .inr (2, [.ref (ya 3), .int (iJ (kN 3)), .int (iJ (kQ 3))])), ((ya 3), cJ cI 32 (kG 3)), (h0, .inr (2, [.ref h1, .int (iJ (n)), .int (iJ (q))])), (h1, cJ cI 32 (g))]) := by
  refine MV.mk (cc := cX0_remember) (maxL := 2) (ret := none) (by decide) rfl (Nat.le_of_ble_eq_true rfl) rfl RX0 rfl ?_
  intro p_ e_ s_ m_ ar_ bw_ mt_ cd_ B_ Q_ hA E hr hQ
  refine r_aload_n E 0 dX0_remember_0 rfl rfl ?_
  refine r_get E 0 0 1 dX0_remember_1 in_X0_remember_X0 lk_X0_remember_18 rfl rfl (by decide) rfl ?_
  refine r_aload_n E 0 dX0_remember_4 rfl rfl ?_
  refine r_get E 0 0 0 dX0_remember_5 in_X0_remember_X0 lk_X0_remember_11 rfl rfl (by decide) rfl ?_
  refine r_alen E 1 1 4 dX0_remember_8 rfl rfl rfl ?_
  refine r_top (b := 4) (by rfl) ?_
  refine r_icmp_lt E 16 dX0_remember_9 (by decide) ⟨by omega, by omega⟩ ⟨by omega, by omega⟩ (fun c_9 => ?_) (fun c_9 => absurd c_9 (by omega))
  refine r_aload_n E 0 dX0_remember_16 rfl rfl ?_
  refine r_get E 0 0 0 dX0_remember_17 in_X0_remember_X0 lk_X0_remember_11 rfl rfl (by decide) rfl ?_
  refine r_aload_n E 0 dX0_remember_20 rfl rfl ?_
  refine r_get E 0 0 1 dX0_remember_21 in_X0_remember_X0 lk_X0_remember_18 rfl rfl (by decide) rfl ?_
  refine r_aldq E (i := 1) (r := (xa 1)) 1 1 dX0_remember_24 rfl rfl (by decide) ⟨by omega, by omega⟩ rfl ?_
  refine r_aload_n E 1 dX0_remember_25 rfl rfl ?_
  refine r_vV E (st := []) (c_X2_copy l D (xa 1) (ya 1) cI (kG 1) (kN 1) (kQ 1) h0 h1 g n q (hhN 1) hn) gX0_remember_X2_copy 1 kf_X2_copy ⟨rfl, rfl⟩ ⟨by decide, by decide⟩ dX0_remember_26 rfl 4 rfl rfl rfl rfl ⟨Nat.zero_le _, Nat.zero_le _⟩ [4, 5, 10, 11] rfl (by decide) [0] rfl (Nat.le_of_ble_eq_true rfl) [(i0, .inr (0, [.ref i1, .int (iJ (1))])), (i1, cR cP 4 (hF xa)), ((xa 0), .inr (2, [.ref (ya 0), .int (iJ (kN 0)), .int (iJ (kQ 0))])), ((ya 0), cJ cI 32 (kG 0)), ((xa 2), .inr (2, [.ref (ya 2), .int (iJ (kN 2)), .int (iJ (kQ 2))])), ((ya 2), cJ cI 32 (kG 2)), ((xa 3), .inr (2, [.ref (ya 3), .int (iJ (kN 3)), .int (iJ (kQ 3))])), ((ya 3), cJ cI 32 (kG 3))] [0, 1, 2, 3, 6, 7, 8, 9] rfl (by decide) (by decide) hA [0, 1, 2, 3, 8, 9, 4, 5, 6, 7, 10, 11] (by decide) (fun (_ : Unit) => [(i0, .inr (0, [.ref i1, .int (iJ (1))])), (i1, cR cP 4 (hF xa)), ((xa 0), .inr (2, [.ref (ya 0), .int (iJ (kN 0)), .int (iJ (kQ 0))])), ((ya 0), cJ cI 32 (kG 0)), ((xa 1), .inr (2, [.ref (ya 1), .int (iJ (n)), .int (iJ (q))])), ((ya 1), cJ cI 32 (pCp (kG 1) g n)), ((xa 2), .inr (2, [.ref (ya 2), .int (iJ (kN 2)), .int (iJ (kQ 2))])), ((ya 2), cJ cI 32 (kG 2)), ((xa 3), .inr (2, [.ref (ya 3), .int (iJ (kN 3)), .int (iJ (kQ 3))])), ((ya 3), cJ cI 32 (kG 3)), (h0, .inr (2, [.ref h1, .int (iJ (n)), .int (iJ (q))])), (h1, cJ cI 32 (g))]) (fun _ => rfl) ?_
  rintro ⟨⟩ hp_1
  refine r_aload_n E 0 dX0_remember_29 rfl rfl ?_
  refine r_dup E dX0_remember_30 rfl ?_
  refine r_get E 0 0 1 dX0_remember_31 in_X0_remember_X0 lk_X0_remember_18 rfl rfl (by decide) rfl ?_
  refine r_iconst E 1 rfl dX0_remember_34 ?_
  refine r_iadd E dX0_remember_35 ?_
  refine r_top 2 rfl ?_
  refine r_put E (ty := .int) 0 0 1 tyX0 tyX0_ok nmX0 dX0_remember_36 in_X0_remember_X0 lk_X0_remember_18 rfl rfl (by decide) rfl (by decide +kernel) rfl rfl (Nat.le_of_ble_eq_true rfl) [(i0, .inr (0, [.ref i1, .int (iJ (2))])), (i1, cR cP 4 (hF xa)), ((xa 0), .inr (2, [.ref (ya 0), .int (iJ (kN 0)), .int (iJ (kQ 0))])), ((ya 0), cJ cI 32 (kG 0)), ((xa 1), .inr (2, [.ref (ya 1), .int (iJ (n)), .int (iJ (q))])), ((ya 1), cJ cI 32 (pCp (kG 1) g n)), ((xa 2), .inr (2, [.ref (ya 2), .int (iJ (kN 2)), .int (iJ (kQ 2))])), ((ya 2), cJ cI 32 (kG 2)), ((xa 3), .inr (2, [.ref (ya 3), .int (iJ (kN 3)), .int (iJ (kQ 3))])), ((ya 3), cJ cI 32 (kG 3)), (h0, .inr (2, [.ref h1, .int (iJ (n)), .int (iJ (q))])), (h1, cJ cI 32 (g))] rfl ?_
  exact r_retMV E () hr dX0_remember_39 trivial rfl hQ
set_option maxHeartbeats 1000000 in
set_option maxRecDepth 100000 in
theorem c_X0_remember2 (l : Launch) (D : va_G) (i0 : Nat) (i1 : Nat) (cP : ClassId) (xa : Nat → Nat) (ya : Nat → Nat) (kN : Nat → Int) (kQ : Nat → Int) (kG : Nat → Int → Int) (h0 : Nat) (h1 : Nat) (cI : ClassId) (g : Int → Int) (n : Int) (q : Int) (hhN : ∀ i : Nat, 0 ≤ kN i ∧ kN i ≤ 32) (hn : 0 ≤ n ∧ n ≤ 32) : MV (S := Unit) l yX0_remember wsX0_remember rm_X0_remember D vwCl [.ref i0, .ref h0] [(i0, .inr (0, [.ref i1, .int (iJ (2))])), (i1, cR cP 4 (hF xa)), ((xa 0), .inr (2, [.ref (ya 0), .int (iJ (kN 0)), .int (iJ (kQ 0))])), ((ya 0), cJ cI 32 (kG 0)), ((xa 1), .inr (2, [.ref (ya 1), .int (iJ (kN 1)), .int (iJ (kQ 1))])), ((ya 1), cJ cI 32 (kG 1)), ((xa 2), .inr (2, [.ref (ya 2), .int (iJ (kN 2)), .int (iJ (kQ 2))])), ((ya 2), cJ cI 32 (kG 2)), ((xa 3), .inr (2, [.ref (ya 3), .int (iJ (kN 3)), .int (iJ (kQ 3))])), ((ya 3), cJ cI 32 (kG 3)), (h0, .inr (2, [.ref h1, .int (iJ (n)), .int (iJ (q))])), (h1, cJ cI 32 (g))] [(cI, .int), (cP, .object "LeanSticks$Piece")] (fun (_ : Unit) => True) (fun (_ : Unit) => [(i0, .inr (0, [.ref i1, .int (iJ (3))])), (i1, cR cP 4 (hF xa)), ((xa 0), .inr (2, [.ref (ya 0), .int (iJ (kN 0)), .int (iJ (kQ 0))])), ((ya 0), cJ cI 32 (kG 0)), ((xa 1), .inr (2, [.ref (ya 1), .int (iJ (kN 1)), .int (iJ (kQ 1))])), ((ya 1), cJ cI 32 (kG 1)), ((xa 2), .inr (2, [.ref (ya 2), .int (iJ (n)), .int (iJ (q))])), ((ya 2), cJ cI 32 (pCp (kG 2) g n)), ((xa 3), .inr (2, [.ref (ya 3), .int (iJ (kN 3)), .int (iJ (kQ 3))])), ((ya 3), cJ cI 32 (kG 3)), (h0, .inr (2, [.ref h1, .int (iJ (n)), .int (iJ (q))])), (h1, cJ cI 32 (g))]) := by
  refine MV.mk (cc := cX0_remember) (maxL := 2) (ret := none) (by decide) rfl (Nat.le_of_ble_eq_true rfl) rfl RX0 rfl ?_
  intro p_ e_ s_ m_ ar_ bw_ mt_ cd_ B_ Q_ hA E hr hQ
  refine r_aload_n E 0 dX0_remember_0 rfl rfl ?_
  refine r_get E 0 0 1 dX0_remember_1 in_X0_remember_X0 lk_X0_remember_18 rfl rfl (by decide) rfl ?_
  refine r_aload_n E 0 dX0_remember_4 rfl rfl ?_
  refine r_get E 0 0 0 dX0_remember_5 in_X0_remember_X0 lk_X0_remember_11 rfl rfl (by decide) rfl ?_
  refine r_alen E 1 1 4 dX0_remember_8 rfl rfl rfl ?_
  refine r_top (b := 4) (by rfl) ?_
  refine r_icmp_lt E 16 dX0_remember_9 (by decide) ⟨by omega, by omega⟩ ⟨by omega, by omega⟩ (fun c_9 => ?_) (fun c_9 => absurd c_9 (by omega))
  refine r_aload_n E 0 dX0_remember_16 rfl rfl ?_
  refine r_get E 0 0 0 dX0_remember_17 in_X0_remember_X0 lk_X0_remember_11 rfl rfl (by decide) rfl ?_
  refine r_aload_n E 0 dX0_remember_20 rfl rfl ?_
  refine r_get E 0 0 1 dX0_remember_21 in_X0_remember_X0 lk_X0_remember_18 rfl rfl (by decide) rfl ?_
  refine r_aldq E (i := 2) (r := (xa 2)) 1 1 dX0_remember_24 rfl rfl (by decide) ⟨by omega, by omega⟩ rfl ?_
  refine r_aload_n E 1 dX0_remember_25 rfl rfl ?_
  refine r_vV E (st := []) (c_X2_copy l D (xa 2) (ya 2) cI (kG 2) (kN 2) (kQ 2) h0 h1 g n q (hhN 2) hn) gX0_remember_X2_copy 1 kf_X2_copy ⟨rfl, rfl⟩ ⟨by decide, by decide⟩ dX0_remember_26 rfl 6 rfl rfl rfl rfl ⟨Nat.zero_le _, Nat.zero_le _⟩ [6, 7, 10, 11] rfl (by decide) [0] rfl (Nat.le_of_ble_eq_true rfl) [(i0, .inr (0, [.ref i1, .int (iJ (2))])), (i1, cR cP 4 (hF xa)), ((xa 0), .inr (2, [.ref (ya 0), .int (iJ (kN 0)), .int (iJ (kQ 0))])), ((ya 0), cJ cI 32 (kG 0)), ((xa 1), .inr (2, [.ref (ya 1), .int (iJ (kN 1)), .int (iJ (kQ 1))])), ((ya 1), cJ cI 32 (kG 1)), ((xa 3), .inr (2, [.ref (ya 3), .int (iJ (kN 3)), .int (iJ (kQ 3))])), ((ya 3), cJ cI 32 (kG 3))] [0, 1, 2, 3, 4, 5, 8, 9] rfl (by decide) (by decide) hA [0, 1, 2, 3, 4, 5, 8, 9, 6, 7, 10, 11] (by decide) (fun (_ : Unit) => [(i0, .inr (0, [.ref i1, .int (iJ (2))])), (i1, cR cP 4 (hF xa)), ((xa 0), .inr (2, [.ref (ya 0), .int (iJ (kN 0)), .int (iJ (kQ 0))])), ((ya 0), cJ cI 32 (kG 0)), ((xa 1), .inr (2, [.ref (ya 1), .int (iJ (kN 1)), .int (iJ (kQ 1))])), ((ya 1), cJ cI 32 (kG 1)), ((xa 2), .inr (2, [.ref (ya 2), .int (iJ (n)), .int (iJ (q))])), ((ya 2), cJ cI 32 (pCp (kG 2) g n)), ((xa 3), .inr (2, [.ref (ya 3), .int (iJ (kN 3)), .int (iJ (kQ 3))])), ((ya 3), cJ cI 32 (kG 3)), (h0, .inr (2, [.ref h1, .int (iJ (n)), .int (iJ (q))])), (h1, cJ cI 32 (g))]) (fun _ => rfl) ?_
  rintro ⟨⟩ hp_1
  refine r_aload_n E 0 dX0_remember_29 rfl rfl ?_
  refine r_dup E dX0_remember_30 rfl ?_
  refine r_get E 0 0 1 dX0_remember_31 in_X0_remember_X0 lk_X0_remember_18 rfl rfl (by decide) rfl ?_
  refine r_iconst E 1 rfl dX0_remember_34 ?_
  refine r_iadd E dX0_remember_35 ?_
  refine r_top 3 rfl ?_
  refine r_put E (ty := .int) 0 0 1 tyX0 tyX0_ok nmX0 dX0_remember_36 in_X0_remember_X0 lk_X0_remember_18 rfl rfl (by decide) rfl (by decide +kernel) rfl rfl (Nat.le_of_ble_eq_true rfl) [(i0, .inr (0, [.ref i1, .int (iJ (3))])), (i1, cR cP 4 (hF xa)), ((xa 0), .inr (2, [.ref (ya 0), .int (iJ (kN 0)), .int (iJ (kQ 0))])), ((ya 0), cJ cI 32 (kG 0)), ((xa 1), .inr (2, [.ref (ya 1), .int (iJ (kN 1)), .int (iJ (kQ 1))])), ((ya 1), cJ cI 32 (kG 1)), ((xa 2), .inr (2, [.ref (ya 2), .int (iJ (n)), .int (iJ (q))])), ((ya 2), cJ cI 32 (pCp (kG 2) g n)), ((xa 3), .inr (2, [.ref (ya 3), .int (iJ (kN 3)), .int (iJ (kQ 3))])), ((ya 3), cJ cI 32 (kG 3)), (h0, .inr (2, [.ref h1, .int (iJ (n)), .int (iJ (q))])), (h1, cJ cI 32 (g))] rfl ?_
  exact r_retMV E () hr dX0_remember_39 trivial rfl hQ
set_option maxHeartbeats 1000000 in
set_option maxRecDepth 100000 in
theorem c_X0_remember3 (l : Launch) (D : va_G) (i0 : Nat) (i1 : Nat) (cP : ClassId) (xa : Nat → Nat) (ya : Nat → Nat) (kN : Nat → Int) (kQ : Nat → Int) (kG : Nat → Int → Int) (h0 : Nat) (h1 : Nat) (cI : ClassId) (g : Int → Int) (n : Int) (q : Int) (hhN : ∀ i : Nat, 0 ≤ kN i ∧ kN i ≤ 32) (hn : 0 ≤ n ∧ n ≤ 32) : MV (S := Unit) l yX0_remember wsX0_remember rm_X0_remember D vwCl [.ref i0, .ref h0] [(i0, .inr (0, [.ref i1, .int (iJ (3))])), (i1, cR cP 4 (hF xa)), ((xa 0), .inr (2, [.ref (ya 0), .int (iJ (kN 0)), .int (iJ (kQ 0))])), ((ya 0), cJ cI 32 (kG 0)), ((xa 1), .inr (2, [.ref (ya 1), .int (iJ (kN 1)), .int (iJ (kQ 1))])), ((ya 1), cJ cI 32 (kG 1)), ((xa 2), .inr (2, [.ref (ya 2), .int (iJ (kN 2)), .int (iJ (kQ 2))])), ((ya 2), cJ cI 32 (kG 2)), ((xa 3), .inr (2, [.ref (ya 3), .int (iJ (kN 3)), .int (iJ (kQ 3))])), ((ya 3), cJ cI 32 (kG 3)), (h0, .inr (2, [.ref h1, .int (iJ (n)), .int (iJ (q))])), (h1, cJ cI 32 (g))] [(cI, .int), (cP, .object "LeanSticks$Piece")] (fun (_ : Unit) => True) (fun (_ : Unit) => [(i0, .inr (0, [.ref i1, .int (iJ (4))])), (i1, cR cP 4 (hF xa)), ((xa 0), .inr (2, [.ref (ya 0), .int (iJ (kN 0)), .int (iJ (kQ 0))])), ((ya 0), cJ cI 32 (kG 0)), ((xa 1), .inr (2, [.ref (ya 1), .int (iJ (kN 1)), .int (iJ (kQ 1))])), ((ya 1), cJ cI 32 (kG 1)), ((xa 2), .inr (2, [.ref (ya 2), .int (iJ (kN 2)), .int (iJ (kQ 2))])), ((ya 2), cJ cI 32 (kG 2)), ((xa 3), .inr (2, [.ref (ya 3), .int (iJ (n)), .int (iJ (q))])), ((ya 3), cJ cI 32 (pCp (kG 3) g n)), (h0, .inr (2, [.ref h1, .int (iJ (n)), .int (iJ (q))])), (h1, cJ cI 32 (g))]) := by
  refine MV.mk (cc := cX0_remember) (maxL := 2) (ret := none) (by decide) rfl (Nat.le_of_ble_eq_true rfl) rfl RX0 rfl ?_
  intro p_ e_ s_ m_ ar_ bw_ mt_ cd_ B_ Q_ hA E hr hQ
  refine r_aload_n E 0 dX0_remember_0 rfl rfl ?_
  refine r_get E 0 0 1 dX0_remember_1 in_X0_remember_X0 lk_X0_remember_18 rfl rfl (by decide) rfl ?_
  refine r_aload_n E 0 dX0_remember_4 rfl rfl ?_
  refine r_get E 0 0 0 dX0_remember_5 in_X0_remember_X0 lk_X0_remember_11 rfl rfl (by decide) rfl ?_
  refine r_alen E 1 1 4 dX0_remember_8 rfl rfl rfl ?_
  refine r_top (b := 4) (by rfl) ?_
  refine r_icmp_lt E 16 dX0_remember_9 (by decide) ⟨by omega, by omega⟩ ⟨by omega, by omega⟩ (fun c_9 => ?_) (fun c_9 => absurd c_9 (by omega))
  refine r_aload_n E 0 dX0_remember_16 rfl rfl ?_
  refine r_get E 0 0 0 dX0_remember_17 in_X0_remember_X0 lk_X0_remember_11 rfl rfl (by decide) rfl ?_
  refine r_aload_n E 0 dX0_remember_20 rfl rfl ?_
  refine r_get E 0 0 1 dX0_remember_21 in_X0_remember_X0 lk_X0_remember_18 rfl rfl (by decide) rfl ?_
  refine r_aldq E (i := 3) (r := (xa 3)) 1 1 dX0_remember_24 rfl rfl (by decide) ⟨by omega, by omega⟩ rfl ?_
  refine r_aload_n E 1 dX0_remember_25 rfl rfl ?_
  refine r_vV E (st := []) (c_X2_copy l D (xa 3) (ya 3) cI (kG 3) (kN 3) (kQ 3) h0 h1 g n q (hhN 3) hn) gX0_remember_X2_copy 1 kf_X2_copy ⟨rfl, rfl⟩ ⟨by decide, by decide⟩ dX0_remember_26 rfl 8 rfl rfl rfl rfl ⟨Nat.zero_le _, Nat.zero_le _⟩ [8, 9, 10, 11] rfl (by decide) [0] rfl (Nat.le_of_ble_eq_true rfl) [(i0, .inr (0, [.ref i1, .int (iJ (3))])), (i1, cR cP 4 (hF xa)), ((xa 0), .inr (2, [.ref (ya 0), .int (iJ (kN 0)), .int (iJ (kQ 0))])), ((ya 0), cJ cI 32 (kG 0)), ((xa 1), .inr (2, [.ref (ya 1), .int (iJ (kN 1)), .int (iJ (kQ 1))])), ((ya 1), cJ cI 32 (kG 1)), ((xa 2), .inr (2, [.ref (ya 2), .int (iJ (kN 2)), .int (iJ (kQ 2))])), ((ya 2), cJ cI 32 (kG 2))] [0, 1, 2, 3, 4, 5, 6, 7] rfl (by decide) (by decide) hA [0, 1, 2, 3, 4, 5, 6, 7, 8, 9, 10, 11] (by decide) (fun (_ : Unit) => [(i0, .inr (0, [.ref i1, .int (iJ (3))])), (i1, cR cP 4 (hF xa)), ((xa 0), .inr (2, [.ref (ya 0), .int (iJ (kN 0)), .int (iJ (kQ 0))])), ((ya 0), cJ cI 32 (kG 0)), ((xa 1), .inr (2, [.ref (ya 1), .int (iJ (kN 1)), .int (iJ (kQ 1))])), ((ya 1), cJ cI 32 (kG 1)), ((xa 2), .inr (2, [.ref (ya 2), .int (iJ (kN 2)), .int (iJ (kQ 2))])), ((ya 2), cJ cI 32 (kG 2)), ((xa 3), .inr (2, [.ref (ya 3), .int (iJ (n)), .int (iJ (q))])), ((ya 3), cJ cI 32 (pCp (kG 3) g n)), (h0, .inr (2, [.ref h1, .int (iJ (n)), .int (iJ (q))])), (h1, cJ cI 32 (g))]) (fun _ => rfl) ?_
  rintro ⟨⟩ hp_1
  refine r_aload_n E 0 dX0_remember_29 rfl rfl ?_
  refine r_dup E dX0_remember_30 rfl ?_
  refine r_get E 0 0 1 dX0_remember_31 in_X0_remember_X0 lk_X0_remember_18 rfl rfl (by decide) rfl ?_
  refine r_iconst E 1 rfl dX0_remember_34 ?_
  refine r_iadd E dX0_remember_35 ?_
  refine r_top 4 rfl ?_
  refine r_put E (ty := .int) 0 0 1 tyX0 tyX0_ok nmX0 dX0_remember_36 in_X0_remember_X0 lk_X0_remember_18 rfl rfl (by decide) rfl (by decide +kernel) rfl rfl (Nat.le_of_ble_eq_true rfl) [(i0, .inr (0, [.ref i1, .int (iJ (4))])), (i1, cR cP 4 (hF xa)), ((xa 0), .inr (2, [.ref (ya 0), .int (iJ (kN 0)), .int (iJ (kQ 0))])), ((ya 0), cJ cI 32 (kG 0)), ((xa 1), .inr (2, [.ref (ya 1), .int (iJ (kN 1)), .int (iJ (kQ 1))])), ((ya 1), cJ cI 32 (kG 1)), ((xa 2), .inr (2, [.ref (ya 2), .int (iJ (kN 2)), .int (iJ (kQ 2))])), ((ya 2), cJ cI 32 (kG 2)), ((xa 3), .inr (2, [.ref (ya 3), .int (iJ (n)), .int (iJ (q))])), ((ya 3), cJ cI 32 (pCp (kG 3) g n)), (h0, .inr (2, [.ref h1, .int (iJ (n)), .int (iJ (q))])), (h1, cJ cI 32 (g))] rfl ?_
  exact r_retMV E () hr dX0_remember_39 trivial rfl hQ
set_option maxHeartbeats 1000000 in
set_option maxRecDepth 100000 in
theorem c_X0_remember4 (l : Launch) (D : va_G) (i0 : Nat) (i1 : Nat) (cP : ClassId) (xa : Nat → Nat) (ya : Nat → Nat) (kN : Nat → Int) (kQ : Nat → Int) (kG : Nat → Int → Int) (h0 : Nat) (h1 : Nat) (cI : ClassId) (g : Int → Int) (n : Int) (q : Int) (hhN : ∀ i : Nat, 0 ≤ kN i ∧ kN i ≤ 32) (hn : 0 ≤ n ∧ n ≤ 32) : MV (S := Unit) l yX0_remember wsX0_remember rm_X0_remember D vwCl [.ref i0, .ref h0] [(i0, .inr (0, [.ref i1, .int (iJ (4))])), (i1, cR cP 4 (hF xa)), ((xa 0), .inr (2, [.ref (ya 0), .int (iJ (kN 0)), .int (iJ (kQ 0))])), ((ya 0), cJ cI 32 (kG 0)), ((xa 1), .inr (2, [.ref (ya 1), .int (iJ (kN 1)), .int (iJ (kQ 1))])), ((ya 1), cJ cI 32 (kG 1)), ((xa 2), .inr (2, [.ref (ya 2), .int (iJ (kN 2)), .int (iJ (kQ 2))])), ((ya 2), cJ cI 32 (kG 2)), ((xa 3), .inr (2, [.ref (ya 3), .int (iJ (kN 3)), .int (iJ (kQ 3))])), ((ya 3), cJ cI 32 (kG 3)), (h0, .inr (2, [.ref h1, .int (iJ (n)), .int (iJ (q))])), (h1, cJ cI 32 (g))] [(cI, .int), (cP, .object "LeanSticks$Piece")] (fun (_ : Unit) => True) (fun (_ : Unit) => [(i0, .inr (0, [.ref i1, .int (iJ (4))])), (i1, cR cP 4 (hF (xr xa))), ((xa 0), .inr (2, [.ref (ya 0), .int (iJ (n)), .int (iJ (q))])), ((ya 0), cJ cI 32 (pCp (kG 0) g n)), ((xa 1), .inr (2, [.ref (ya 1), .int (iJ (kN 1)), .int (iJ (kQ 1))])), ((ya 1), cJ cI 32 (kG 1)), ((xa 2), .inr (2, [.ref (ya 2), .int (iJ (kN 2)), .int (iJ (kQ 2))])), ((ya 2), cJ cI 32 (kG 2)), ((xa 3), .inr (2, [.ref (ya 3), .int (iJ (kN 3)), .int (iJ (kQ 3))])), ((ya 3), cJ cI 32 (kG 3)), (h0, .inr (2, [.ref h1, .int (iJ (n)), .int (iJ (q))])), (h1, cJ cI 32 (g))]) := by
  refine MV.mk (cc := cX0_remember) (maxL := 2) (ret := none) (by decide) rfl (Nat.le_of_ble_eq_true rfl) rfl RX0 rfl ?_
  intro p_ e_ s_ m_ ar_ bw_ mt_ cd_ B_ Q_ hA E hr hQ
  refine r_aload_n E 0 dX0_remember_0 rfl rfl ?_
  refine r_get E 0 0 1 dX0_remember_1 in_X0_remember_X0 lk_X0_remember_18 rfl rfl (by decide) rfl ?_
  refine r_aload_n E 0 dX0_remember_4 rfl rfl ?_
  refine r_get E 0 0 0 dX0_remember_5 in_X0_remember_X0 lk_X0_remember_11 rfl rfl (by decide) rfl ?_
  refine r_alen E 1 1 4 dX0_remember_8 rfl rfl rfl ?_
  refine r_top (b := 4) (by rfl) ?_
  refine r_icmp_lt E 16 dX0_remember_9 (by decide) ⟨by omega, by omega⟩ ⟨by omega, by omega⟩ (fun c_9 => absurd c_9 (by omega)) (fun c_9 => ?_)
  refine r_aload_n E 0 dX0_remember_12 rfl rfl ?_
  refine r_vV E (st := []) (c_X0_dropOldest l D i0 i1 cP xa ya kN kQ) gX0_remember_X0_dropOldest 0 kf_X0_dropOldest ⟨rfl, rfl⟩ ⟨by decide, by decide⟩ dX0_remember_13 rfl 0 rfl rfl rfl rfl ⟨Nat.zero_le _, Nat.zero_le _⟩ [0, 1, 2, 4, 6, 8] rfl (by decide) [1] rfl (Nat.le_of_ble_eq_true rfl) [((ya 0), cJ cI 32 (kG 0)), ((ya 1), cJ cI 32 (kG 1)), ((ya 2), cJ cI 32 (kG 2)), ((ya 3), cJ cI 32 (kG 3)), (h0, .inr (2, [.ref h1, .int (iJ (n)), .int (iJ (q))])), (h1, cJ cI 32 (g))] [3, 5, 7, 9, 10, 11] rfl (by decide) (by decide) hA [6, 7, 8, 0, 9, 1, 10, 2, 11, 3, 4, 5] (by decide) (fun (_ : Unit) => [(i0, .inr (0, [.ref i1, .int (iJ (3))])), (i1, cR cP 4 (hF (xr xa))), ((xa 0), .inr (2, [.ref (ya 0), .int (iJ (kN 0)), .int (iJ (kQ 0))])), ((ya 0), cJ cI 32 (kG 0)), ((xa 1), .inr (2, [.ref (ya 1), .int (iJ (kN 1)), .int (iJ (kQ 1))])), ((ya 1), cJ cI 32 (kG 1)), ((xa 2), .inr (2, [.ref (ya 2), .int (iJ (kN 2)), .int (iJ (kQ 2))])), ((ya 2), cJ cI 32 (kG 2)), ((xa 3), .inr (2, [.ref (ya 3), .int (iJ (kN 3)), .int (iJ (kQ 3))])), ((ya 3), cJ cI 32 (kG 3)), (h0, .inr (2, [.ref h1, .int (iJ (n)), .int (iJ (q))])), (h1, cJ cI 32 (g))]) (fun _ => rfl) ?_
  rintro ⟨⟩ hp_1
  refine r_aload_n E 0 dX0_remember_16 rfl rfl ?_
  refine r_get E 0 0 0 dX0_remember_17 in_X0_remember_X0 lk_X0_remember_11 rfl rfl (by decide) rfl ?_
  refine r_aload_n E 0 dX0_remember_20 rfl rfl ?_
  refine r_get E 0 0 1 dX0_remember_21 in_X0_remember_X0 lk_X0_remember_18 rfl rfl (by decide) rfl ?_
  refine r_aldq E (i := 3) (r := (xa 0)) 1 1 dX0_remember_24 rfl rfl (by decide) ⟨by omega, by omega⟩ rfl ?_
  refine r_aload_n E 1 dX0_remember_25 rfl rfl ?_
  refine r_vV E (st := []) (c_X2_copy l D (xa 0) (ya 0) cI (kG 0) (kN 0) (kQ 0) h0 h1 g n q (hhN 0) hn) gX0_remember_X2_copy 1 kf_X2_copy ⟨rfl, rfl⟩ ⟨by decide, by decide⟩ dX0_remember_26 rfl 2 rfl rfl rfl rfl ⟨Nat.zero_le _, Nat.zero_le _⟩ [2, 3, 10, 11] rfl (by decide) [0] rfl (Nat.le_of_ble_eq_true rfl) [(i0, .inr (0, [.ref i1, .int (iJ (3))])), (i1, cR cP 4 (hF (xr xa))), ((xa 1), .inr (2, [.ref (ya 1), .int (iJ (kN 1)), .int (iJ (kQ 1))])), ((ya 1), cJ cI 32 (kG 1)), ((xa 2), .inr (2, [.ref (ya 2), .int (iJ (kN 2)), .int (iJ (kQ 2))])), ((ya 2), cJ cI 32 (kG 2)), ((xa 3), .inr (2, [.ref (ya 3), .int (iJ (kN 3)), .int (iJ (kQ 3))])), ((ya 3), cJ cI 32 (kG 3))] [0, 1, 4, 5, 6, 7, 8, 9] rfl (by decide) (by decide) hA [0, 1, 8, 9, 2, 3, 4, 5, 6, 7, 10, 11] (by decide) (fun (_ : Unit) => [(i0, .inr (0, [.ref i1, .int (iJ (3))])), (i1, cR cP 4 (hF (xr xa))), ((xa 0), .inr (2, [.ref (ya 0), .int (iJ (n)), .int (iJ (q))])), ((ya 0), cJ cI 32 (pCp (kG 0) g n)), ((xa 1), .inr (2, [.ref (ya 1), .int (iJ (kN 1)), .int (iJ (kQ 1))])), ((ya 1), cJ cI 32 (kG 1)), ((xa 2), .inr (2, [.ref (ya 2), .int (iJ (kN 2)), .int (iJ (kQ 2))])), ((ya 2), cJ cI 32 (kG 2)), ((xa 3), .inr (2, [.ref (ya 3), .int (iJ (kN 3)), .int (iJ (kQ 3))])), ((ya 3), cJ cI 32 (kG 3)), (h0, .inr (2, [.ref h1, .int (iJ (n)), .int (iJ (q))])), (h1, cJ cI 32 (g))]) (fun _ => rfl) ?_
  rintro ⟨⟩ hp_2
  refine r_aload_n E 0 dX0_remember_29 rfl rfl ?_
  refine r_dup E dX0_remember_30 rfl ?_
  refine r_get E 0 0 1 dX0_remember_31 in_X0_remember_X0 lk_X0_remember_18 rfl rfl (by decide) rfl ?_
  refine r_iconst E 1 rfl dX0_remember_34 ?_
  refine r_iadd E dX0_remember_35 ?_
  refine r_top 4 rfl ?_
  refine r_put E (ty := .int) 0 0 1 tyX0 tyX0_ok nmX0 dX0_remember_36 in_X0_remember_X0 lk_X0_remember_18 rfl rfl (by decide) rfl (by decide +kernel) rfl rfl (Nat.le_of_ble_eq_true rfl) [(i0, .inr (0, [.ref i1, .int (iJ (4))])), (i1, cR cP 4 (hF (xr xa))), ((xa 0), .inr (2, [.ref (ya 0), .int (iJ (n)), .int (iJ (q))])), ((ya 0), cJ cI 32 (pCp (kG 0) g n)), ((xa 1), .inr (2, [.ref (ya 1), .int (iJ (kN 1)), .int (iJ (kQ 1))])), ((ya 1), cJ cI 32 (kG 1)), ((xa 2), .inr (2, [.ref (ya 2), .int (iJ (kN 2)), .int (iJ (kQ 2))])), ((ya 2), cJ cI 32 (kG 2)), ((xa 3), .inr (2, [.ref (ya 3), .int (iJ (kN 3)), .int (iJ (kQ 3))])), ((ya 3), cJ cI 32 (kG 3)), (h0, .inr (2, [.ref h1, .int (iJ (n)), .int (iJ (q))])), (h1, cJ cI 32 (g))] rfl ?_
  exact r_retMV E () hr dX0_remember_39 trivial rfl hQ
set_option maxHeartbeats 1000000 in
set_option maxRecDepth 100000 in
theorem c_X0_remember (l : Launch) (D : va_G) (i0 : Nat) (i1 : Nat) (cP : ClassId) (xa : Nat → Nat) (ya : Nat → Nat) (kN : Nat → Int) (kQ : Nat → Int) (kG : Nat → Int → Int) (m : Int) (h0 : Nat) (h1 : Nat) (cI : ClassId) (g : Int → Int) (n : Int) (q : Int) (hm : 0 ≤ m ∧ m ≤ 4) (hhN : ∀ i : Nat, 0 ≤ kN i ∧ kN i ≤ 32) (hn : 0 ≤ n ∧ n ≤ 32) : MV (S := (Nat → Nat) × (Nat → Nat) × (Nat → Int) × (Nat → Int) × (Nat → Int → Int) × Int) l yX0_remember wsX0_remember rm_X0_remember D vwCl [.ref i0, .ref h0] [(i0, .inr (0, [.ref i1, .int (iJ (m))])), (i1, cR cP 4 (hF xa)), ((xa 0), .inr (2, [.ref (ya 0), .int (iJ (kN 0)), .int (iJ (kQ 0))])), ((ya 0), cJ cI 32 (kG 0)), ((xa 1), .inr (2, [.ref (ya 1), .int (iJ (kN 1)), .int (iJ (kQ 1))])), ((ya 1), cJ cI 32 (kG 1)), ((xa 2), .inr (2, [.ref (ya 2), .int (iJ (kN 2)), .int (iJ (kQ 2))])), ((ya 2), cJ cI 32 (kG 2)), ((xa 3), .inr (2, [.ref (ya 3), .int (iJ (kN 3)), .int (iJ (kQ 3))])), ((ya 3), cJ cI 32 (kG 3)), (h0, .inr (2, [.ref h1, .int (iJ (n)), .int (iJ (q))])), (h1, cJ cI 32 (g))] [(cI, .int), (cP, .object "LeanSticks$Piece")] (fun (u : (Nat → Nat) × (Nat → Nat) × (Nat → Int) × (Nat → Int) × (Nat → Int → Int) × Int) => (HPush m n q g kN kQ kG u.2.2.2.2.2 u.2.2.1 u.2.2.2.1 u.2.2.2.2.1)) (fun (u : (Nat → Nat) × (Nat → Nat) × (Nat → Int) × (Nat → Int) × (Nat → Int → Int) × Int) => [(i0, .inr (0, [.ref i1, .int (iJ (u.2.2.2.2.2))])), (i1, cR cP 4 (hF u.1)), ((u.1 0), .inr (2, [.ref (u.2.1 0), .int (iJ (u.2.2.1 0)), .int (iJ (u.2.2.2.1 0))])), ((u.2.1 0), cJ cI 32 (u.2.2.2.2.1 0)), ((u.1 1), .inr (2, [.ref (u.2.1 1), .int (iJ (u.2.2.1 1)), .int (iJ (u.2.2.2.1 1))])), ((u.2.1 1), cJ cI 32 (u.2.2.2.2.1 1)), ((u.1 2), .inr (2, [.ref (u.2.1 2), .int (iJ (u.2.2.1 2)), .int (iJ (u.2.2.2.1 2))])), ((u.2.1 2), cJ cI 32 (u.2.2.2.2.1 2)), ((u.1 3), .inr (2, [.ref (u.2.1 3), .int (iJ (u.2.2.1 3)), .int (iJ (u.2.2.2.1 3))])), ((u.2.1 3), cJ cI 32 (u.2.2.2.2.1 3)), (h0, .inr (2, [.ref h1, .int (iJ (n)), .int (iJ (q))])), (h1, cJ cI 32 (g))]) := by
  rcases (by omega : m = 0 ∨ m = 1 ∨ m = 2 ∨ m = 3 ∨ m = 4) with rfl | rfl | rfl | rfl | rfl
  · exact (c_X0_remember0 l D i0 i1 cP xa ya kN kQ kG h0 h1 cI g n q hhN hn).weak (fun _ _ => ⟨(xa, ya, up kN 0 n, up kQ 0 q, up kG 0 (pCp (kG 0) g n), 1), [0, 1, 2, 3, 4, 5, 6, 7, 8, 9, 10, 11], hpush_lt (k := 0) (by decide) hn hhN, by decide, rfl⟩)
  · exact (c_X0_remember1 l D i0 i1 cP xa ya kN kQ kG h0 h1 cI g n q hhN hn).weak (fun _ _ => ⟨(xa, ya, up kN 1 n, up kQ 1 q, up kG 1 (pCp (kG 1) g n), 2), [0, 1, 2, 3, 4, 5, 6, 7, 8, 9, 10, 11], hpush_lt (k := 1) (by decide) hn hhN, by decide, rfl⟩)
  · exact (c_X0_remember2 l D i0 i1 cP xa ya kN kQ kG h0 h1 cI g n q hhN hn).weak (fun _ _ => ⟨(xa, ya, up kN 2 n, up kQ 2 q, up kG 2 (pCp (kG 2) g n), 3), [0, 1, 2, 3, 4, 5, 6, 7, 8, 9, 10, 11], hpush_lt (k := 2) (by decide) hn hhN, by decide, rfl⟩)
  · exact (c_X0_remember3 l D i0 i1 cP xa ya kN kQ kG h0 h1 cI g n q hhN hn).weak (fun _ _ => ⟨(xa, ya, up kN 3 n, up kQ 3 q, up kG 3 (pCp (kG 3) g n), 4), [0, 1, 2, 3, 4, 5, 6, 7, 8, 9, 10, 11], hpush_lt (k := 3) (by decide) hn hhN, by decide, rfl⟩)
  · exact (c_X0_remember4 l D i0 i1 cP xa ya kN kQ kG h0 h1 cI g n q hhN hn).weak (fun _ _ => ⟨(xr xa, xr ya, up (xr kN) 3 n, up (xr kQ) 3 q, up (xr kG) 3 (pCp (kG 0) g n), 4), [0, 1, 4, 5, 6, 7, 8, 9, 2, 3, 10, 11], hpush_4 hn hhN, by decide, rfl⟩)
theorem kf_X0_takeBack : KF yX0_takeBack 1 wsX0_takeBack cX0_takeBack 2 (some .boolean) := ⟨rfl, by decide +kernel, by decide +kernel, by decide +kernel⟩
def rm_X0_takeBack : Room := { frames := 2, cells := 0, slots := 0, locals := 43 }
set_option maxRecDepth 20000 in
theorem in_X0_takeBack_X0 : ∀ w ∈ u_ws RX0 TX0 2, w ∈ wsX0_takeBack := by decide +kernel
set_option maxRecDepth 20000 in
theorem lk_X0_takeBack_18 : Cond.fieldLink RX0 18 (TX0 1).1 (TX0 1).2.1 (TX0 1).2.2.1 ∈ wsX0_takeBack := by decide +kernel
set_option maxHeartbeats 1000000 in
set_option maxRecDepth 100000 in
theorem c_X0_takeBackNo (l : Launch) (D : va_G) (i0 : Nat) (i1 : Nat) (cP : ClassId) (xa : Nat → Nat) (ya : Nat → Nat) (kN : Nat → Int) (kQ : Nat → Int) (kG : Nat → Int → Int) (h0 : Nat) (h1 : Nat) (cI : ClassId) (g : Int → Int) (n : Int) (q : Int)  : MM (S := Unit) l yX0_takeBack wsX0_takeBack rm_X0_takeBack D vwCl [.ref i0, .ref h0] [(i0, .inr (0, [.ref i1, .int (iJ (0))])), (i1, cR cP 4 (hF xa)), ((xa 0), .inr (2, [.ref (ya 0), .int (iJ (kN 0)), .int (iJ (kQ 0))])), ((ya 0), cJ cI 32 (kG 0)), ((xa 1), .inr (2, [.ref (ya 1), .int (iJ (kN 1)), .int (iJ (kQ 1))])), ((ya 1), cJ cI 32 (kG 1)), ((xa 2), .inr (2, [.ref (ya 2), .int (iJ (kN 2)), .int (iJ (kQ 2))])), ((ya 2), cJ cI 32 (kG 2)), ((xa 3), .inr (2, [.ref (ya 3), .int (iJ (kN 3)), .int (iJ (kQ 3))])), ((ya 3), cJ cI 32 (kG 3)), (h0, .inr (2, [.ref h1, .int (iJ (n)), .int (iJ (q))])), (h1, cJ cI 32 (g))] [(cI, .int), (cP, .object "LeanSticks$Piece")] (fun (_ : Unit) => 0) (fun (_ : Unit) => True) (fun (_ : Unit) => [(i0, .inr (0, [.ref i1, .int (iJ (0))])), (i1, cR cP 4 (hF xa)), ((xa 0), .inr (2, [.ref (ya 0), .int (iJ (kN 0)), .int (iJ (kQ 0))])), ((ya 0), cJ cI 32 (kG 0)), ((xa 1), .inr (2, [.ref (ya 1), .int (iJ (kN 1)), .int (iJ (kQ 1))])), ((ya 1), cJ cI 32 (kG 1)), ((xa 2), .inr (2, [.ref (ya 2), .int (iJ (kN 2)), .int (iJ (kQ 2))])), ((ya 2), cJ cI 32 (kG 2)), ((xa 3), .inr (2, [.ref (ya 3), .int (iJ (kN 3)), .int (iJ (kQ 3))])), ((ya 3), cJ cI 32 (kG 3)), (h0, .inr (2, [.ref h1, .int (iJ (n)), .int (iJ (q))])), (h1, cJ cI 32 (g))]) := by
  refine MM.mk (cc := cX0_takeBack) (maxL := 2) (ret := (some .boolean)) (by decide) rfl (Nat.le_of_ble_eq_true rfl) rfl RX0 rfl ?_
  intro p_ e_ s_ m_ ar_ bw_ mt_ cd_ B_ Q_ hA E hr hQ
  refine r_aload_n E 0 dX0_takeBack_0 rfl rfl ?_
  refine r_get E 0 0 1 dX0_takeBack_1 in_X0_takeBack_X0 lk_X0_takeBack_18 rfl rfl (by decide) rfl ?_
  refine r_if_gt E 9 dX0_takeBack_4 (by decide) ⟨by omega, by omega⟩ (fun c_4 => absurd c_4 (by omega)) (fun c_4 => ?_)
  refine r_iconst E 0 rfl dX0_takeBack_7 ?_
  exact r_retMZ E () hr dX0_takeBack_8 (by omega) rfl trivial rfl hQ
set_option maxRecDepth 20000 in
theorem lk_X0_takeBack_11 : Cond.fieldLink RX0 11 (TX0 0).1 (TX0 0).2.1 (TX0 0).2.2.1 ∈ wsX0_takeBack := by decide +kernel
set_option maxHeartbeats 1000000 in
set_option maxRecDepth 100000 in
theorem c_X0_takeBack1 (l : Launch) (D : va_G) (i0 : Nat) (i1 : Nat) (cP : ClassId) (xa : Nat → Nat) (ya : Nat → Nat) (kN : Nat → Int) (kQ : Nat → Int) (kG : Nat → Int → Int) (h0 : Nat) (h1 : Nat) (cI : ClassId) (g : Int → Int) (n : Int) (q : Int) (hhN : ∀ i : Nat, 0 ≤ kN i ∧ kN i ≤ 32) (hn : 0 ≤ n ∧ n ≤ 32) : MM (S := Unit) l yX0_takeBack wsX0_takeBack rm_X0_takeBack D vwCl [.ref i0, .ref h0] [(i0, .inr (0, [.ref i1, .int (iJ (1))])), (i1, cR cP 4 (hF xa)), ((xa 0), .inr (2, [.ref (ya 0), .int (iJ (kN 0)), .int (iJ (kQ 0))])), ((ya 0), cJ cI 32 (kG 0)), ((xa 1), .inr (2, [.ref (ya 1), .int (iJ (kN 1)), .int (iJ (kQ 1))])), ((ya 1), cJ cI 32 (kG 1)), ((xa 2), .inr (2, [.ref (ya 2), .int (iJ (kN 2)), .int (iJ (kQ 2))])), ((ya 2), cJ cI 32 (kG 2)), ((xa 3), .inr (2, [.ref (ya 3), .int (iJ (kN 3)), .int (iJ (kQ 3))])), ((ya 3), cJ cI 32 (kG 3)), (h0, .inr (2, [.ref h1, .int (iJ (n)), .int (iJ (q))])), (h1, cJ cI 32 (g))] [(cI, .int), (cP, .object "LeanSticks$Piece")] (fun (_ : Unit) => 1) (fun (_ : Unit) => True) (fun (_ : Unit) => [(i0, .inr (0, [.ref i1, .int (iJ (0))])), (i1, cR cP 4 (hF xa)), ((xa 0), .inr (2, [.ref (ya 0), .int (iJ (kN 0)), .int (iJ (kQ 0))])), ((ya 0), cJ cI 32 (kG 0)), ((xa 1), .inr (2, [.ref (ya 1), .int (iJ (kN 1)), .int (iJ (kQ 1))])), ((ya 1), cJ cI 32 (kG 1)), ((xa 2), .inr (2, [.ref (ya 2), .int (iJ (kN 2)), .int (iJ (kQ 2))])), ((ya 2), cJ cI 32 (kG 2)), ((xa 3), .inr (2, [.ref (ya 3), .int (iJ (kN 3)), .int (iJ (kQ 3))])), ((ya 3), cJ cI 32 (kG 3)), (h0, .inr (2, [.ref h1, .int (iJ (kN 0)), .int (iJ (kQ 0))])), (h1, cJ cI 32 (pCp g (kG 0) (kN 0)))]) := by
  refine MM.mk (cc := cX0_takeBack) (maxL := 2) (ret := (some .boolean)) (by decide) rfl (Nat.le_of_ble_eq_true rfl) rfl RX0 rfl ?_
  intro p_ e_ s_ m_ ar_ bw_ mt_ cd_ B_ Q_ hA E hr hQ
  refine r_aload_n E 0 dX0_takeBack_0 rfl rfl ?_
  refine r_get E 0 0 1 dX0_takeBack_1 in_X0_takeBack_X0 lk_X0_takeBack_18 rfl rfl (by decide) rfl ?_
  refine r_if_gt E 9 dX0_takeBack_4 (by decide) ⟨by omega, by omega⟩ (fun c_4 => ?_) (fun c_4 => absurd c_4 (by omega))
  refine r_aload_n E 0 dX0_takeBack_9 rfl rfl ?_
  refine r_dup E dX0_takeBack_10 rfl ?_
  refine r_get E 0 0 1 dX0_takeBack_11 in_X0_takeBack_X0 lk_X0_takeBack_18 rfl rfl (by decide) rfl ?_
  refine r_iconst E 1 rfl dX0_takeBack_14 ?_
  refine r_isub E dX0_takeBack_15 ?_
  refine r_top 0 rfl ?_
  refine r_put E (ty := .int) 0 0 1 tyX0 tyX0_ok nmX0 dX0_takeBack_16 in_X0_takeBack_X0 lk_X0_takeBack_18 rfl rfl (by decide) rfl (by decide +kernel) rfl rfl (Nat.le_of_ble_eq_true rfl) [(i0, .inr (0, [.ref i1, .int (iJ (0))])), (i1, cR cP 4 (hF xa)), ((xa 0), .inr (2, [.ref (ya 0), .int (iJ (kN 0)), .int (iJ (kQ 0))])), ((ya 0), cJ cI 32 (kG 0)), ((xa 1), .inr (2, [.ref (ya 1), .int (iJ (kN 1)), .int (iJ (kQ 1))])), ((ya 1), cJ cI 32 (kG 1)), ((xa 2), .inr (2, [.ref (ya 2), .int (iJ (kN 2)), .int (iJ (kQ 2))])), ((ya 2), cJ cI 32 (kG 2)), ((xa 3), .inr (2, [.ref (ya 3), .int (iJ (kN 3)), .int (iJ (kQ 3))])), ((ya 3), cJ cI 32 (kG 3)), (h0, .inr (2, [.ref h1, .int (iJ (n)), .int (iJ (q))])), (h1, cJ cI 32 (g))] rfl ?_
  refine r_aload_n E 1 dX0_takeBack_19 rfl rfl ?_
  refine r_aload_n E 0 dX0_takeBack_20 rfl rfl ?_
  refine r_get E 0 0 0 dX0_takeBack_21 in_X0_takeBack_X0 lk_X0_takeBack_11 rfl rfl (by decide) rfl ?_
  refine r_aload_n E 0 dX0_takeBack_24 rfl rfl ?_
  refine r_get E 0 0 1 dX0_takeBack_25 in_X0_takeBack_X0 lk_X0_takeBack_18 rfl rfl (by decide) rfl ?_
  refine r_aldq E (i := 0) (r := (xa 0)) 1 1 dX0_takeBack_28 rfl rfl (by decide) ⟨by omega, by omega⟩ rfl ?_
  refine r_vV E (st := []) (c_X2_copy l D h0 h1 cI g n q (xa 0) (ya 0) (kG 0) (kN 0) (kQ 0) hn (hhN 0)) gX0_takeBack_X2_copy 1 kf_X2_copy ⟨rfl, rfl⟩ ⟨by decide, by decide⟩ dX0_takeBack_29 rfl 10 rfl rfl rfl rfl ⟨Nat.zero_le _, Nat.zero_le _⟩ [10, 11, 2, 3] rfl (by decide) [0] rfl (Nat.le_of_ble_eq_true rfl) [(i0, .inr (0, [.ref i1, .int (iJ (0))])), (i1, cR cP 4 (hF xa)), ((xa 1), .inr (2, [.ref (ya 1), .int (iJ (kN 1)), .int (iJ (kQ 1))])), ((ya 1), cJ cI 32 (kG 1)), ((xa 2), .inr (2, [.ref (ya 2), .int (iJ (kN 2)), .int (iJ (kQ 2))])), ((ya 2), cJ cI 32 (kG 2)), ((xa 3), .inr (2, [.ref (ya 3), .int (iJ (kN 3)), .int (iJ (kQ 3))])), ((ya 3), cJ cI 32 (kG 3))] [0, 1, 4, 5, 6, 7, 8, 9] rfl (by decide) (by decide) hA [0, 1, 10, 11, 2, 3, 4, 5, 6, 7, 8, 9] (by decide) (fun (_ : Unit) => [(i0, .inr (0, [.ref i1, .int (iJ (0))])), (i1, cR cP 4 (hF xa)), ((xa 0), .inr (2, [.ref (ya 0), .int (iJ ((kN 0))), .int (iJ ((kQ 0)))])), ((ya 0), cJ cI 32 (kG 0)), ((xa 1), .inr (2, [.ref (ya 1), .int (iJ (kN 1)), .int (iJ (kQ 1))])), ((ya 1), cJ cI 32 (kG 1)), ((xa 2), .inr (2, [.ref (ya 2), .int (iJ (kN 2)), .int (iJ (kQ 2))])), ((ya 2), cJ cI 32 (kG 2)), ((xa 3), .inr (2, [.ref (ya 3), .int (iJ (kN 3)), .int (iJ (kQ 3))])), ((ya 3), cJ cI 32 (kG 3)), (h0, .inr (2, [.ref h1, .int (iJ ((kN 0))), .int (iJ ((kQ 0)))])), (h1, cJ cI 32 (pCp g (kG 0) (kN 0)))]) (fun _ => rfl) ?_
  rintro ⟨⟩ hp_1
  refine r_iconst E 1 rfl dX0_takeBack_32 ?_
  exact r_retMZ E () hr dX0_takeBack_33 (by omega) rfl trivial rfl hQ
set_option maxHeartbeats 1000000 in
set_option maxRecDepth 100000 in
theorem c_X0_takeBack2 (l : Launch) (D : va_G) (i0 : Nat) (i1 : Nat) (cP : ClassId) (xa : Nat → Nat) (ya : Nat → Nat) (kN : Nat → Int) (kQ : Nat → Int) (kG : Nat → Int → Int) (h0 : Nat) (h1 : Nat) (cI : ClassId) (g : Int → Int) (n : Int) (q : Int) (hhN : ∀ i : Nat, 0 ≤ kN i ∧ kN i ≤ 32) (hn : 0 ≤ n ∧ n ≤ 32) : MM (S := Unit) l yX0_takeBack wsX0_takeBack rm_X0_takeBack D vwCl [.ref i0, .ref h0] [(i0, .inr (0, [.ref i1, .int (iJ (2))])), (i1, cR cP 4 (hF xa)), ((xa 0), .inr (2, [.ref (ya 0), .int (iJ (kN 0)), .int (iJ (kQ 0))])), ((ya 0), cJ cI 32 (kG 0)), ((xa 1), .inr (2, [.ref (ya 1), .int (iJ (kN 1)), .int (iJ (kQ 1))])), ((ya 1), cJ cI 32 (kG 1)), ((xa 2), .inr (2, [.ref (ya 2), .int (iJ (kN 2)), .int (iJ (kQ 2))])), ((ya 2), cJ cI 32 (kG 2)), ((xa 3), .inr (2, [.ref (ya 3), .int (iJ (kN 3)), .int (iJ (kQ 3))])), ((ya 3), cJ cI 32 (kG 3)), (h0, .inr (2, [.ref h1, .int (iJ (n)), .int (iJ (q))])), (h1, cJ cI 32 (g))] [(cI, .int), (cP, .object "LeanSticks$Piece")] (fun (_ : Unit) => 1) (fun (_ : Unit) => True) (fun (_ : Unit) => [(i0, .inr (0, [.ref i1, .int (iJ (1))])), (i1, cR cP 4 (hF xa)), ((xa 0), .inr (2, [.ref (ya 0), .int (iJ (kN 0)), .int (iJ (kQ 0))])), ((ya 0), cJ cI 32 (kG 0)), ((xa 1), .inr (2, [.ref (ya 1), .int (iJ (kN 1)), .int (iJ (kQ 1))])), ((ya 1), cJ cI 32 (kG 1)), ((xa 2), .inr (2, [.ref (ya 2), .int (iJ (kN 2)), .int (iJ (kQ 2))])), ((ya 2), cJ cI 32 (kG 2)), ((xa 3), .inr (2, [.ref (ya 3), .int (iJ (kN 3)), .int (iJ (kQ 3))])), ((ya 3), cJ cI 32 (kG 3)), (h0, .inr (2, [.ref h1, .int (iJ (kN 1)), .int (iJ (kQ 1))])), (h1, cJ cI 32 (pCp g (kG 1) (kN 1)))]) := by
  refine MM.mk (cc := cX0_takeBack) (maxL := 2) (ret := (some .boolean)) (by decide) rfl (Nat.le_of_ble_eq_true rfl) rfl RX0 rfl ?_
  intro p_ e_ s_ m_ ar_ bw_ mt_ cd_ B_ Q_ hA E hr hQ
  refine r_aload_n E 0 dX0_takeBack_0 rfl rfl ?_
  refine r_get E 0 0 1 dX0_takeBack_1 in_X0_takeBack_X0 lk_X0_takeBack_18 rfl rfl (by decide) rfl ?_
  refine r_if_gt E 9 dX0_takeBack_4 (by decide) ⟨by omega, by omega⟩ (fun c_4 => ?_) (fun c_4 => absurd c_4 (by omega))
  refine r_aload_n E 0 dX0_takeBack_9 rfl rfl ?_
  refine r_dup E dX0_takeBack_10 rfl ?_
  refine r_get E 0 0 1 dX0_takeBack_11 in_X0_takeBack_X0 lk_X0_takeBack_18 rfl rfl (by decide) rfl ?_
  refine r_iconst E 1 rfl dX0_takeBack_14 ?_
  refine r_isub E dX0_takeBack_15 ?_
  refine r_top 1 rfl ?_
  refine r_put E (ty := .int) 0 0 1 tyX0 tyX0_ok nmX0 dX0_takeBack_16 in_X0_takeBack_X0 lk_X0_takeBack_18 rfl rfl (by decide) rfl (by decide +kernel) rfl rfl (Nat.le_of_ble_eq_true rfl) [(i0, .inr (0, [.ref i1, .int (iJ (1))])), (i1, cR cP 4 (hF xa)), ((xa 0), .inr (2, [.ref (ya 0), .int (iJ (kN 0)), .int (iJ (kQ 0))])), ((ya 0), cJ cI 32 (kG 0)), ((xa 1), .inr (2, [.ref (ya 1), .int (iJ (kN 1)), .int (iJ (kQ 1))])), ((ya 1), cJ cI 32 (kG 1)), ((xa 2), .inr (2, [.ref (ya 2), .int (iJ (kN 2)), .int (iJ (kQ 2))])), ((ya 2), cJ cI 32 (kG 2)), ((xa 3), .inr (2, [.ref (ya 3), .int (iJ (kN 3)), .int (iJ (kQ 3))])), ((ya 3), cJ cI 32 (kG 3)), (h0, .inr (2, [.ref h1, .int (iJ (n)), .int (iJ (q))])), (h1, cJ cI 32 (g))] rfl ?_
  refine r_aload_n E 1 dX0_takeBack_19 rfl rfl ?_
  refine r_aload_n E 0 dX0_takeBack_20 rfl rfl ?_
  refine r_get E 0 0 0 dX0_takeBack_21 in_X0_takeBack_X0 lk_X0_takeBack_11 rfl rfl (by decide) rfl ?_
  refine r_aload_n E 0 dX0_takeBack_24 rfl rfl ?_
  refine r_get E 0 0 1 dX0_takeBack_25 in_X0_takeBack_X0 lk_X0_takeBack_18 rfl rfl (by decide) rfl ?_
  refine r_aldq E (i := 1) (r := (xa 1)) 1 1 dX0_takeBack_28 rfl rfl (by decide) ⟨by omega, by omega⟩ rfl ?_
  refine r_vV E (st := []) (c_X2_copy l D h0 h1 cI g n q (xa 1) (ya 1) (kG 1) (kN 1) (kQ 1) hn (hhN 1)) gX0_takeBack_X2_copy 1 kf_X2_copy ⟨rfl, rfl⟩ ⟨by decide, by decide⟩ dX0_takeBack_29 rfl 10 rfl rfl rfl rfl ⟨Nat.zero_le _, Nat.zero_le _⟩ [10, 11, 4, 5] rfl (by decide) [0] rfl (Nat.le_of_ble_eq_true rfl) [(i0, .inr (0, [.ref i1, .int (iJ (1))])), (i1, cR cP 4 (hF xa)), ((xa 0), .inr (2, [.ref (ya 0), .int (iJ (kN 0)), .int (iJ (kQ 0))])), ((ya 0), cJ cI 32 (kG 0)), ((xa 2), .inr (2, [.ref (ya 2), .int (iJ (kN 2)), .int (iJ (kQ 2))])), ((ya 2), cJ cI 32 (kG 2)), ((xa 3), .inr (2, [.ref (ya 3), .int (iJ (kN 3)), .int (iJ (kQ 3))])), ((ya 3), cJ cI 32 (kG 3))] [0, 1, 2, 3, 6, 7, 8, 9] rfl (by decide) (by decide) hA [0, 1, 2, 3, 10, 11, 4, 5, 6, 7, 8, 9] (by decide) (fun (_ : Unit) => [(i0, .inr (0, [.ref i1, .int (iJ (1))])), (i1, cR cP 4 (hF xa)), ((xa 0), .inr (2, [.ref (ya 0), .int (iJ (kN 0)), .int (iJ (kQ 0))])), ((ya 0), cJ cI 32 (kG 0)), ((xa 1), .inr (2, [.ref (ya 1), .int (iJ ((kN 1))), .int (iJ ((kQ 1)))])), ((ya 1), cJ cI 32 (kG 1)), ((xa 2), .inr (2, [.ref (ya 2), .int (iJ (kN 2)), .int (iJ (kQ 2))])), ((ya 2), cJ cI 32 (kG 2)), ((xa 3), .inr (2, [.ref (ya 3), .int (iJ (kN 3)), .int (iJ (kQ 3))])), ((ya 3), cJ cI 32 (kG 3)), (h0, .inr (2, [.ref h1, .int (iJ ((kN 1))), .int (iJ ((kQ 1)))])), (h1, cJ cI 32 (pCp g (kG 1) (kN 1)))]) (fun _ => rfl) ?_
  rintro ⟨⟩ hp_1
  refine r_iconst E 1 rfl dX0_takeBack_32 ?_
  exact r_retMZ E () hr dX0_takeBack_33 (by omega) rfl trivial rfl hQ
set_option maxHeartbeats 1000000 in
set_option maxRecDepth 100000 in
theorem c_X0_takeBack3 (l : Launch) (D : va_G) (i0 : Nat) (i1 : Nat) (cP : ClassId) (xa : Nat → Nat) (ya : Nat → Nat) (kN : Nat → Int) (kQ : Nat → Int) (kG : Nat → Int → Int) (h0 : Nat) (h1 : Nat) (cI : ClassId) (g : Int → Int) (n : Int) (q : Int) (hhN : ∀ i : Nat, 0 ≤ kN i ∧ kN i ≤ 32) (hn : 0 ≤ n ∧ n ≤ 32) : MM (S := Unit) l yX0_takeBack wsX0_takeBack rm_X0_takeBack D vwCl [.ref i0, .ref h0] [(i0, .inr (0, [.ref i1, .int (iJ (3))])), (i1, cR cP 4 (hF xa)), ((xa 0), .inr (2, [.ref (ya 0), .int (iJ (kN 0)), .int (iJ (kQ 0))])), ((ya 0), cJ cI 32 (kG 0)), ((xa 1), .inr (2, [.ref (ya 1), .int (iJ (kN 1)), .int (iJ (kQ 1))])), ((ya 1), cJ cI 32 (kG 1)), ((xa 2), .inr (2, [.ref (ya 2), .int (iJ (kN 2)), .int (iJ (kQ 2))])), ((ya 2), cJ cI 32 (kG 2)), ((xa 3), .inr (2, [.ref (ya 3), .int (iJ (kN 3)), .int (iJ (kQ 3))])), ((ya 3), cJ cI 32 (kG 3)), (h0, .inr (2, [.ref h1, .int (iJ (n)), .int (iJ (q))])), (h1, cJ cI 32 (g))] [(cI, .int), (cP, .object "LeanSticks$Piece")] (fun (_ : Unit) => 1) (fun (_ : Unit) => True) (fun (_ : Unit) => [(i0, .inr (0, [.ref i1, .int (iJ (2))])), (i1, cR cP 4 (hF xa)), ((xa 0), .inr (2, [.ref (ya 0), .int (iJ (kN 0)), .int (iJ (kQ 0))])), ((ya 0), cJ cI 32 (kG 0)), ((xa 1), .inr (2, [.ref (ya 1), .int (iJ (kN 1)), .int (iJ (kQ 1))])), ((ya 1), cJ cI 32 (kG 1)), ((xa 2), .inr (2, [.ref (ya 2), .int (iJ (kN 2)), .int (iJ (kQ 2))])), ((ya 2), cJ cI 32 (kG 2)), ((xa 3), .inr (2, [.ref (ya 3), .int (iJ (kN 3)), .int (iJ (kQ 3))])), ((ya 3), cJ cI 32 (kG 3)), (h0, .inr (2, [.ref h1, .int (iJ (kN 2)), .int (iJ (kQ 2))])), (h1, cJ cI 32 (pCp g (kG 2) (kN 2)))]) := by
  refine MM.mk (cc := cX0_takeBack) (maxL := 2) (ret := (some .boolean)) (by decide) rfl (Nat.le_of_ble_eq_true rfl) rfl RX0 rfl ?_
  intro p_ e_ s_ m_ ar_ bw_ mt_ cd_ B_ Q_ hA E hr hQ
  refine r_aload_n E 0 dX0_takeBack_0 rfl rfl ?_
  refine r_get E 0 0 1 dX0_takeBack_1 in_X0_takeBack_X0 lk_X0_takeBack_18 rfl rfl (by decide) rfl ?_
  refine r_if_gt E 9 dX0_takeBack_4 (by decide) ⟨by omega, by omega⟩ (fun c_4 => ?_) (fun c_4 => absurd c_4 (by omega))
  refine r_aload_n E 0 dX0_takeBack_9 rfl rfl ?_
  refine r_dup E dX0_takeBack_10 rfl ?_
  refine r_get E 0 0 1 dX0_takeBack_11 in_X0_takeBack_X0 lk_X0_takeBack_18 rfl rfl (by decide) rfl ?_
  refine r_iconst E 1 rfl dX0_takeBack_14 ?_
  refine r_isub E dX0_takeBack_15 ?_
  refine r_top 2 rfl ?_
  refine r_put E (ty := .int) 0 0 1 tyX0 tyX0_ok nmX0 dX0_takeBack_16 in_X0_takeBack_X0 lk_X0_takeBack_18 rfl rfl (by decide) rfl (by decide +kernel) rfl rfl (Nat.le_of_ble_eq_true rfl) [(i0, .inr (0, [.ref i1, .int (iJ (2))])), (i1, cR cP 4 (hF xa)), ((xa 0), .inr (2, [.ref (ya 0), .int (iJ (kN 0)), .int (iJ (kQ 0))])), ((ya 0), cJ cI 32 (kG 0)), ((xa 1), .inr (2, [.ref (ya 1), .int (iJ (kN 1)), .int (iJ (kQ 1))])), ((ya 1), cJ cI 32 (kG 1)), ((xa 2), .inr (2, [.ref (ya 2), .int (iJ (kN 2)), .int (iJ (kQ 2))])), ((ya 2), cJ cI 32 (kG 2)), ((xa 3), .inr (2, [.ref (ya 3), .int (iJ (kN 3)), .int (iJ (kQ 3))])), ((ya 3), cJ cI 32 (kG 3)), (h0, .inr (2, [.ref h1, .int (iJ (n)), .int (iJ (q))])), (h1, cJ cI 32 (g))] rfl ?_
  refine r_aload_n E 1 dX0_takeBack_19 rfl rfl ?_
  refine r_aload_n E 0 dX0_takeBack_20 rfl rfl ?_
  refine r_get E 0 0 0 dX0_takeBack_21 in_X0_takeBack_X0 lk_X0_takeBack_11 rfl rfl (by decide) rfl ?_
  refine r_aload_n E 0 dX0_takeBack_24 rfl rfl ?_
  refine r_get E 0 0 1 dX0_takeBack_25 in_X0_takeBack_X0 lk_X0_takeBack_18 rfl rfl (by decide) rfl ?_
  refine r_aldq E (i := 2) (r := (xa 2)) 1 1 dX0_takeBack_28 rfl rfl (by decide) ⟨by omega, by omega⟩ rfl ?_
  refine r_vV E (st := []) (c_X2_copy l D h0 h1 cI g n q (xa 2) (ya 2) (kG 2) (kN 2) (kQ 2) hn (hhN 2)) gX0_takeBack_X2_copy 1 kf_X2_copy ⟨rfl, rfl⟩ ⟨by decide, by decide⟩ dX0_takeBack_29 rfl 10 rfl rfl rfl rfl ⟨Nat.zero_le _, Nat.zero_le _⟩ [10, 11, 6, 7] rfl (by decide) [0] rfl (Nat.le_of_ble_eq_true rfl) [(i0, .inr (0, [.ref i1, .int (iJ (2))])), (i1, cR cP 4 (hF xa)), ((xa 0), .inr (2, [.ref (ya 0), .int (iJ (kN 0)), .int (iJ (kQ 0))])), ((ya 0), cJ cI 32 (kG 0)), ((xa 1), .inr (2, [.ref (ya 1), .int (iJ (kN 1)), .int (iJ (kQ 1))])), ((ya 1), cJ cI 32 (kG 1)), ((xa 3), .inr (2, [.ref (ya 3), .int (iJ (kN 3)), .int (iJ (kQ 3))])), ((ya 3), cJ cI 32 (kG 3))] [0, 1, 2, 3, 4, 5, 8, 9] rfl (by decide) (by decide) hA [0, 1, 2, 3, 4, 5, 10, 11, 6, 7, 8, 9] (by decide) (fun (_ : Unit) => [(i0, .inr (0, [.ref i1, .int (iJ (2))])), (i1, cR cP 4 (hF xa)), ((xa 0), .inr (2, [.ref (ya 0), .int (iJ (kN 0)), .int (iJ (kQ 0))])), ((ya 0), cJ cI 32 (kG 0)), ((xa 1), .inr (2, [.ref (ya 1), .int (iJ (kN 1)), .int (iJ (kQ 1))])), ((ya 1), cJ cI 32 (kG 1)), ((xa 2), .inr (2, [.ref (ya 2), .int (iJ ((kN 2))), .int (iJ ((kQ 2)))])), ((ya 2), cJ cI 32 (kG 2)), ((xa 3), .inr (2, [.ref (ya 3), .int (iJ (kN 3)), .int (iJ (kQ 3))])), ((ya 3), cJ cI 32 (kG 3)), (h0, .inr (2, [.ref h1, .int (iJ ((kN 2))), .int (iJ ((kQ 2)))])), (h1, cJ cI 32 (pCp g (kG 2) (kN 2)))]) (fun _ => rfl) ?_
  rintro ⟨⟩ hp_1
  refine r_iconst E 1 rfl dX0_takeBack_32 ?_
  exact r_retMZ E () hr dX0_takeBack_33 (by omega) rfl trivial rfl hQ
set_option maxHeartbeats 1000000 in
set_option maxRecDepth 100000 in
theorem c_X0_takeBack4 (l : Launch) (D : va_G) (i0 : Nat) (i1 : Nat) (cP : ClassId) (xa : Nat → Nat) (ya : Nat → Nat) (kN : Nat → Int) (kQ : Nat → Int) (kG : Nat → Int → Int) (h0 : Nat) (h1 : Nat) (cI : ClassId) (g : Int → Int) (n : Int) (q : Int) (hhN : ∀ i : Nat, 0 ≤ kN i ∧ kN i ≤ 32) (hn : 0 ≤ n ∧ n ≤ 32) : MM (S := Unit) l yX0_takeBack wsX0_takeBack rm_X0_takeBack D vwCl [.ref i0, .ref h0] [(i0, .inr (0, [.ref i1, .int (iJ (4))])), (i1, cR cP 4 (hF xa)), ((xa 0), .inr (2, [.ref (ya 0), .int (iJ (kN 0)), .int (iJ (kQ 0))])), ((ya 0), cJ cI 32 (kG 0)), ((xa 1), .inr (2, [.ref (ya 1), .int (iJ (kN 1)), .int (iJ (kQ 1))])), ((ya 1), cJ cI 32 (kG 1)), ((xa 2), .inr (2, [.ref (ya 2), .int (iJ (kN 2)), .int (iJ (kQ 2))])), ((ya 2), cJ cI 32 (kG 2)), ((xa 3), .inr (2, [.ref (ya 3), .int (iJ (kN 3)), .int (iJ (kQ 3))])), ((ya 3), cJ cI 32 (kG 3)), (h0, .inr (2, [.ref h1, .int (iJ (n)), .int (iJ (q))])), (h1, cJ cI 32 (g))] [(cI, .int), (cP, .object "LeanSticks$Piece")] (fun (_ : Unit) => 1) (fun (_ : Unit) => True) (fun (_ : Unit) => [(i0, .inr (0, [.ref i1, .int (iJ (3))])), (i1, cR cP 4 (hF xa)), ((xa 0), .inr (2, [.ref (ya 0), .int (iJ (kN 0)), .int (iJ (kQ 0))])), ((ya 0), cJ cI 32 (kG 0)), ((xa 1), .inr (2, [.ref (ya 1), .int (iJ (kN 1)), .int (iJ (kQ 1))])), ((ya 1), cJ cI 32 (kG 1)), ((xa 2), .inr (2, [.ref (ya 2), .int (iJ (kN 2)), .int (iJ (kQ 2))])), ((ya 2), cJ cI 32 (kG 2)), ((xa 3), .inr (2, [.ref (ya 3), .int (iJ (kN 3)), .int (iJ (kQ 3))])), ((ya 3), cJ cI 32 (kG 3)), (h0, .inr (2, [.ref h1, .int (iJ (kN 3)), .int (iJ (kQ 3))])), (h1, cJ cI 32 (pCp g (kG 3) (kN 3)))]) := by
  refine MM.mk (cc := cX0_takeBack) (maxL := 2) (ret := (some .boolean)) (by decide) rfl (Nat.le_of_ble_eq_true rfl) rfl RX0 rfl ?_
  intro p_ e_ s_ m_ ar_ bw_ mt_ cd_ B_ Q_ hA E hr hQ
  refine r_aload_n E 0 dX0_takeBack_0 rfl rfl ?_
  refine r_get E 0 0 1 dX0_takeBack_1 in_X0_takeBack_X0 lk_X0_takeBack_18 rfl rfl (by decide) rfl ?_
  refine r_if_gt E 9 dX0_takeBack_4 (by decide) ⟨by omega, by omega⟩ (fun c_4 => ?_) (fun c_4 => absurd c_4 (by omega))
  refine r_aload_n E 0 dX0_takeBack_9 rfl rfl ?_
  refine r_dup E dX0_takeBack_10 rfl ?_
  refine r_get E 0 0 1 dX0_takeBack_11 in_X0_takeBack_X0 lk_X0_takeBack_18 rfl rfl (by decide) rfl ?_
  refine r_iconst E 1 rfl dX0_takeBack_14 ?_
  refine r_isub E dX0_takeBack_15 ?_
  refine r_top 3 rfl ?_
  refine r_put E (ty := .int) 0 0 1 tyX0 tyX0_ok nmX0 dX0_takeBack_16 in_X0_takeBack_X0 lk_X0_takeBack_18 rfl rfl (by decide) rfl (by decide +kernel) rfl rfl (Nat.le_of_ble_eq_true rfl) [(i0, .inr (0, [.ref i1, .int (iJ (3))])), (i1, cR cP 4 (hF xa)), ((xa 0), .inr (2, [.ref (ya 0), .int (iJ (kN 0)), .int (iJ (kQ 0))])), ((ya 0), cJ cI 32 (kG 0)), ((xa 1), .inr (2, [.ref (ya 1), .int (iJ (kN 1)), .int (iJ (kQ 1))])), ((ya 1), cJ cI 32 (kG 1)), ((xa 2), .inr (2, [.ref (ya 2), .int (iJ (kN 2)), .int (iJ (kQ 2))])), ((ya 2), cJ cI 32 (kG 2)), ((xa 3), .inr (2, [.ref (ya 3), .int (iJ (kN 3)), .int (iJ (kQ 3))])), ((ya 3), cJ cI 32 (kG 3)), (h0, .inr (2, [.ref h1, .int (iJ (n)), .int (iJ (q))])), (h1, cJ cI 32 (g))] rfl ?_
  refine r_aload_n E 1 dX0_takeBack_19 rfl rfl ?_
  refine r_aload_n E 0 dX0_takeBack_20 rfl rfl ?_
  refine r_get E 0 0 0 dX0_takeBack_21 in_X0_takeBack_X0 lk_X0_takeBack_11 rfl rfl (by decide) rfl ?_
  refine r_aload_n E 0 dX0_takeBack_24 rfl rfl ?_
  refine r_get E 0 0 1 dX0_takeBack_25 in_X0_takeBack_X0 lk_X0_takeBack_18 rfl rfl (by decide) rfl ?_
  refine r_aldq E (i := 3) (r := (xa 3)) 1 1 dX0_takeBack_28 rfl rfl (by decide) ⟨by omega, by omega⟩ rfl ?_
  refine r_vV E (st := []) (c_X2_copy l D h0 h1 cI g n q (xa 3) (ya 3) (kG 3) (kN 3) (kQ 3) hn (hhN 3)) gX0_takeBack_X2_copy 1 kf_X2_copy ⟨rfl, rfl⟩ ⟨by decide, by decide⟩ dX0_takeBack_29 rfl 10 rfl rfl rfl rfl ⟨Nat.zero_le _, Nat.zero_le _⟩ [10, 11, 8, 9] rfl (by decide) [0] rfl (Nat.le_of_ble_eq_true rfl) [(i0, .inr (0, [.ref i1, .int (iJ (3))])), (i1, cR cP 4 (hF xa)), ((xa 0), .inr (2, [.ref (ya 0), .int (iJ (kN 0)), .int (iJ (kQ 0))])), ((ya 0), cJ cI 32 (kG 0)), ((xa 1), .inr (2, [.ref (ya 1), .int (iJ (kN 1)), .int (iJ (kQ 1))])), ((ya 1), cJ cI 32 (kG 1)), ((xa 2), .inr (2, [.ref (ya 2), .int (iJ (kN 2)), .int (iJ (kQ 2))])), ((ya 2), cJ cI 32 (kG 2))] [0, 1, 2, 3, 4, 5, 6, 7] rfl (by decide) (by decide) hA [0, 1, 2, 3, 4, 5, 6, 7, 10, 11, 8, 9] (by decide) (fun (_ : Unit) => [(i0, .inr (0, [.ref i1, .int (iJ (3))])), (i1, cR cP 4 (hF xa)), ((xa 0), .inr (2, [.ref (ya 0), .int (iJ (kN 0)), .int (iJ (kQ 0))])), ((ya 0), cJ cI 32 (kG 0)), ((xa 1), .inr (2, [.ref (ya 1), .int (iJ (kN 1)), .int (iJ (kQ 1))])), ((ya 1), cJ cI 32 (kG 1)), ((xa 2), .inr (2, [.ref (ya 2), .int (iJ (kN 2)), .int (iJ (kQ 2))])), ((ya 2), cJ cI 32 (kG 2)), ((xa 3), .inr (2, [.ref (ya 3), .int (iJ ((kN 3))), .int (iJ ((kQ 3)))])), ((ya 3), cJ cI 32 (kG 3)), (h0, .inr (2, [.ref h1, .int (iJ ((kN 3))), .int (iJ ((kQ 3)))])), (h1, cJ cI 32 (pCp g (kG 3) (kN 3)))]) (fun _ => rfl) ?_
  rintro ⟨⟩ hp_1
  refine r_iconst E 1 rfl dX0_takeBack_32 ?_
  exact r_retMZ E () hr dX0_takeBack_33 (by omega) rfl trivial rfl hQ
set_option maxHeartbeats 1000000 in
set_option maxRecDepth 100000 in
theorem c_X0_takeBack (l : Launch) (D : va_G) (i0 : Nat) (i1 : Nat) (cP : ClassId) (xa : Nat → Nat) (ya : Nat → Nat) (kN : Nat → Int) (kQ : Nat → Int) (kG : Nat → Int → Int) (m : Int) (h0 : Nat) (h1 : Nat) (cI : ClassId) (g : Int → Int) (n : Int) (q : Int) (hm : 1 ≤ m ∧ m ≤ 4) (hhN : ∀ i : Nat, 0 ≤ kN i ∧ kN i ≤ 32) (hn : 0 ≤ n ∧ n ≤ 32) : MM (S := Unit) l yX0_takeBack wsX0_takeBack rm_X0_takeBack D vwCl [.ref i0, .ref h0] [(i0, .inr (0, [.ref i1, .int (iJ (m))])), (i1, cR cP 4 (hF xa)), ((xa 0), .inr (2, [.ref (ya 0), .int (iJ (kN 0)), .int (iJ (kQ 0))])), ((ya 0), cJ cI 32 (kG 0)), ((xa 1), .inr (2, [.ref (ya 1), .int (iJ (kN 1)), .int (iJ (kQ 1))])), ((ya 1), cJ cI 32 (kG 1)), ((xa 2), .inr (2, [.ref (ya 2), .int (iJ (kN 2)), .int (iJ (kQ 2))])), ((ya 2), cJ cI 32 (kG 2)), ((xa 3), .inr (2, [.ref (ya 3), .int (iJ (kN 3)), .int (iJ (kQ 3))])), ((ya 3), cJ cI 32 (kG 3)), (h0, .inr (2, [.ref h1, .int (iJ (n)), .int (iJ (q))])), (h1, cJ cI 32 (g))] [(cI, .int), (cP, .object "LeanSticks$Piece")] (fun (_ : Unit) => 1) (fun (_ : Unit) => True) (fun (_ : Unit) => [(i0, .inr (0, [.ref i1, .int (iJ ((m - 1)))])), (i1, cR cP 4 (hF xa)), ((xa 0), .inr (2, [.ref (ya 0), .int (iJ (kN 0)), .int (iJ (kQ 0))])), ((ya 0), cJ cI 32 (kG 0)), ((xa 1), .inr (2, [.ref (ya 1), .int (iJ (kN 1)), .int (iJ (kQ 1))])), ((ya 1), cJ cI 32 (kG 1)), ((xa 2), .inr (2, [.ref (ya 2), .int (iJ (kN 2)), .int (iJ (kQ 2))])), ((ya 2), cJ cI 32 (kG 2)), ((xa 3), .inr (2, [.ref (ya 3), .int (iJ (kN 3)), .int (iJ (kQ 3))])), ((ya 3), cJ cI 32 (kG 3)), (h0, .inr (2, [.ref h1, .int (iJ (kN (m - 1).toNat)), .int (iJ (kQ (m - 1).toNat))])), (h1, cJ cI 32 (pCp g (kG (m - 1).toNat) (kN (m - 1).toNat)))]) := by
  rcases (by omega : m = 1 ∨ m = 2 ∨ m = 3 ∨ m = 4) with rfl | rfl | rfl | rfl
  · exact c_X0_takeBack1 l D i0 i1 cP xa ya kN kQ kG h0 h1 cI g n q hhN hn
  · exact c_X0_takeBack2 l D i0 i1 cP xa ya kN kQ kG h0 h1 cI g n q hhN hn
  · exact c_X0_takeBack3 l D i0 i1 cP xa ya kN kQ kG h0 h1 cI g n q hhN hn
  · exact c_X0_takeBack4 l D i0 i1 cP xa ya kN kQ kG h0 h1 cI g n q hhN hn
