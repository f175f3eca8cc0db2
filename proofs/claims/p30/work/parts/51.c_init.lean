theorem kf_X2_init : KF yX2_init 0 wsX2_init cX2_init 1 none := ⟨rfl, by decide +kernel, by decide +kernel, by decide +kernel⟩
def rm_X2_init : Room := { frames := 1, cells := 1, slots := 32, locals := 20 }
set_option maxRecDepth 20000 in
theorem ck_X2_init_o1 : Cond.methodLink RX2 3 Lib.objectInit ∈ wsX2_init := by decide +kernel
set_option maxRecDepth 20000 in
theorem ck_X2_init_o2 : Cond.instanceMethod Lib.objectInit ∈ wsX2_init := by decide +kernel
set_option maxRecDepth 20000 in
theorem ck_X2_init_o3 : Cond.code Lib.objectInit ⟨#[0xb1]⟩ 1 none ∈ wsX2_init := by decide +kernel
set_option maxRecDepth 20000 in
theorem ck_X2_init_arint : Cond.arrayClass (newarray.typeOf .int) ∈ wsX2_init := by decide +kernel
set_option maxRecDepth 20000 in
theorem in_X2_init_X2 : ∀ w ∈ u_ws RX2 TX2 3, w ∈ wsX2_init := by decide +kernel
set_option maxRecDepth 20000 in
theorem lk_X2_init_9 : Cond.fieldLink RX2 9 (TX2 0).1 (TX2 0).2.1 (TX2 0).2.2.1 ∈ wsX2_init := by decide +kernel
set_option maxRecDepth 20000 in
theorem lk_X2_init_15 : Cond.fieldLink RX2 15 (TX2 1).1 (TX2 1).2.1 (TX2 1).2.2.1 ∈ wsX2_init := by decide +kernel
set_option maxRecDepth 20000 in
theorem lk_X2_init_19 : Cond.fieldLink RX2 19 (TX2 2).1 (TX2 2).2.1 (TX2 2).2.2.1 ∈ wsX2_init := by decide +kernel
set_option maxHeartbeats 1000000 in
set_option maxRecDepth 100000 in
theorem c_X2_init (l : Launch) (D : va_G) (h0 : Nat) (cI : ClassId)  : MI (S := Nat) l yX2_init wsX2_init rm_X2_init D vwCl [.ref h0] [(h0, .inr (2, [.null, .int (iJ (0)), .int (iJ (0))]))] [(cI, .int)] 1 32 (fun (h1 : Nat) => [(h0, .inr (2, [.ref h1, .int (iJ (0)), .int (iJ (2))])), (h1, cJ cI 32 ((fun _ => 0)))]) := by
  refine MI.mk (cc := cX2_init) (maxL := 1) (ret := none) (by decide) rfl (Nat.le_of_ble_eq_true rfl) rfl RX2 rfl rfl ?_
  intro p_ e_ s_ m_ ar_ bw_ mt_ cd_ B_ Q_ hA hao hin E hr hQ
  refine r_aload_n E 0 dX2_init_0 rfl rfl ?_
  refine r_objI E dX2_init_1 ck_X2_init_o1 ck_X2_init_o2 ck_X2_init_o3 (by decide) (by decide) (Nat.le_of_ble_eq_true rfl) ?_
  refine r_aload_n E 0 dX2_init_4 rfl rfl ?_
  refine r_bipush E 32 rfl dX2_init_5 ?_
  refine r_newa E 0 rfl rfl dX2_init_7 ck_X2_init_arint (32, .inl (aJ (fun _ => 0))) (fun _ => rfl) (by decide) (by decide) (by decide) ⟨by decide, by decide⟩ 1 32 ⟨rfl, rfl⟩ hA ?_
  intro q_7_1
  refine r_cv (ws2 := [(h0, .inr (2, [.null, .int (iJ (0)), .int (iJ (0))])), (q_7_1, cJ cI 32 (fun _ => 0))]) rfl rfl rfl ?_
  refine r_putF E (ty := .array .int) 2 0 0 tyX2 tyX2_ok nmX2 dX2_init_9 in_X2_init_X2 lk_X2_init_9 rfl rfl (by decide) rfl hin rfl (by decide +kernel) rfl rfl (Nat.le_of_ble_eq_true rfl) [(h0, .inr (2, [.ref q_7_1, .int (iJ (0)), .int (iJ (0))])), (q_7_1, cJ cI 32 (fun _ => 0))] rfl ?_
  refine r_aload_n E 0 dX2_init_12 rfl rfl ?_
  refine r_iconst E 0 rfl dX2_init_13 ?_
  refine r_put E (ty := .int) 2 0 1 tyX2 tyX2_ok nmX2 dX2_init_14 in_X2_init_X2 lk_X2_init_15 rfl rfl (by decide) rfl (by decide +kernel) rfl rfl (Nat.le_of_ble_eq_true rfl) [(h0, .inr (2, [.ref q_7_1, .int (iJ (0)), .int (iJ (0))])), (q_7_1, cJ cI 32 (fun _ => 0))] rfl ?_
  refine r_aload_n E 0 dX2_init_17 rfl rfl ?_
  refine r_iconst E 2 rfl dX2_init_18 ?_
  refine r_put E (ty := .int) 2 0 2 tyX2 tyX2_ok nmX2 dX2_init_19 in_X2_init_X2 lk_X2_init_19 rfl rfl (by decide) rfl (by decide +kernel) rfl rfl (Nat.le_of_ble_eq_true rfl) [(h0, .inr (2, [.ref q_7_1, .int (iJ (0)), .int (iJ (2))])), (q_7_1, cJ cI 32 (fun _ => 0))] rfl ?_
  exact r_retMI E q_7_1 hr dX2_init_22 rfl hQ
theorem kf_X1_init : KF yX1_init 0 wsX1_init cX1_init 1 none := ⟨rfl, by decide +kernel, by decide +kernel, by decide +kernel⟩
def rm_X1_init : Room := { frames := 1, cells := 1, slots := 60, locals := 20 }
set_option maxRecDepth 20000 in
theorem ck_X1_init_o1 : Cond.methodLink RX1 3 Lib.objectInit ∈ wsX1_init := by decide +kernel
set_option maxRecDepth 20000 in
theorem ck_X1_init_o2 : Cond.instanceMethod Lib.objectInit ∈ wsX1_init := by decide +kernel
set_option maxRecDepth 20000 in
theorem ck_X1_init_o3 : Cond.code Lib.objectInit ⟨#[0xb1]⟩ 1 none ∈ wsX1_init := by decide +kernel
set_option maxRecDepth 20000 in
theorem ck_X1_init_arint : Cond.arrayClass (newarray.typeOf .int) ∈ wsX1_init := by decide +kernel
set_option maxRecDepth 20000 in
theorem in_X1_init_X1 : ∀ w ∈ u_ws RX1 TX1 2, w ∈ wsX1_init := by decide +kernel
set_option maxRecDepth 20000 in
theorem lk_X1_init_9 : Cond.fieldLink RX1 9 (TX1 0).1 (TX1 0).2.1 (TX1 0).2.2.1 ∈ wsX1_init := by decide +kernel
set_option maxRecDepth 20000 in
theorem lk_X1_init_15 : Cond.fieldLink RX1 15 (TX1 1).1 (TX1 1).2.1 (TX1 1).2.2.1 ∈ wsX1_init := by decide +kernel
set_option maxHeartbeats 1000000 in
set_option maxRecDepth 100000 in
theorem c_X1_init (l : Launch) (D : va_G) (h0 : Nat) (cI : ClassId)  : MI (S := Nat) l yX1_init wsX1_init rm_X1_init D vwCl [.ref h0] [(h0, .inr (1, [.null, .int (iJ (0))]))] [(cI, .int)] 1 60 (fun (h1 : Nat) => [(h0, .inr (1, [.ref h1, .int (iJ (0))])), (h1, cJ cI 60 ((fun _ => 0)))]) := by
  refine MI.mk (cc := cX1_init) (maxL := 1) (ret := none) (by decide) rfl (Nat.le_of_ble_eq_true rfl) rfl RX1 rfl rfl ?_
  intro p_ e_ s_ m_ ar_ bw_ mt_ cd_ B_ Q_ hA hao hin E hr hQ
  refine r_aload_n E 0 dX1_init_0 rfl rfl ?_
  refine r_objI E dX1_init_1 ck_X1_init_o1 ck_X1_init_o2 ck_X1_init_o3 (by decide) (by decide) (Nat.le_of_ble_eq_true rfl) ?_
  refine r_aload_n E 0 dX1_init_4 rfl rfl ?_
  refine r_bipush E 60 rfl dX1_init_5 ?_
  refine r_newa E 0 rfl rfl dX1_init_7 ck_X1_init_arint (60, .inl (aJ (fun _ => 0))) (fun _ => rfl) (by decide) (by decide) (by decide) ⟨by decide, by decide⟩ 1 60 ⟨rfl, rfl⟩ hA ?_
  intro q_7_1
  refine r_cv (ws2 := [(h0, .inr (1, [.null, .int (iJ (0))])), (q_7_1, cJ cI 60 (fun _ => 0))]) rfl rfl rfl ?_
  refine r_putF E (ty := .array .int) 1 0 0 tyX1 tyX1_ok nmX1 dX1_init_9 in_X1_init_X1 lk_X1_init_9 rfl rfl (by decide) rfl hin rfl (by decide +kernel) rfl rfl (Nat.le_of_ble_eq_true rfl) [(h0, .inr (1, [.ref q_7_1, .int (iJ (0))])), (q_7_1, cJ cI 60 (fun _ => 0))] rfl ?_
  refine r_aload_n E 0 dX1_init_12 rfl rfl ?_
  refine r_iconst E 0 rfl dX1_init_13 ?_
  refine r_put E (ty := .int) 1 0 1 tyX1 tyX1_ok nmX1 dX1_init_14 in_X1_init_X1 lk_X1_init_15 rfl rfl (by decide) rfl (by decide +kernel) rfl rfl (Nat.le_of_ble_eq_true rfl) [(h0, .inr (1, [.ref q_7_1, .int (iJ (0))])), (q_7_1, cJ cI 60 (fun _ => 0))] rfl ?_
  exact r_retMI E q_7_1 hr dX1_init_17 rfl hQ
theorem kf_X4_init : KF yX4_init 0 wsX4_init cX4_init 1 none := ⟨rfl, by decide +kernel, by decide +kernel, by decide +kernel⟩
def rm_X4_init : Room := { frames := 1, cells := 2, slots := 120, locals := 20 }
set_option maxRecDepth 20000 in
theorem ck_X4_init_o1 : Cond.methodLink RX4 3 Lib.objectInit ∈ wsX4_init := by decide +kernel
set_option maxRecDepth 20000 in
theorem ck_X4_init_o2 : Cond.instanceMethod Lib.objectInit ∈ wsX4_init := by decide +kernel
set_option maxRecDepth 20000 in
theorem ck_X4_init_o3 : Cond.code Lib.objectInit ⟨#[0xb1]⟩ 1 none ∈ wsX4_init := by decide +kernel
set_option maxRecDepth 20000 in
theorem ck_X4_init_arint : Cond.arrayClass (newarray.typeOf .int) ∈ wsX4_init := by decide +kernel
set_option maxRecDepth 20000 in
theorem in_X4_init_X4 : ∀ w ∈ u_ws RX4 TX4 2, w ∈ wsX4_init := by decide +kernel
set_option maxRecDepth 20000 in
theorem lk_X4_init_9 : Cond.fieldLink RX4 9 (TX4 0).1 (TX4 0).2.1 (TX4 0).2.2.1 ∈ wsX4_init := by decide +kernel
set_option maxRecDepth 20000 in
theorem lk_X4_init_15 : Cond.fieldLink RX4 15 (TX4 1).1 (TX4 1).2.1 (TX4 1).2.2.1 ∈ wsX4_init := by decide +kernel
set_option maxHeartbeats 1000000 in
set_option maxRecDepth 100000 in
theorem c_X4_init (l : Launch) (D : va_G) (r0 : Nat) (cI : ClassId)  : MI (S := Nat × Nat) l yX4_init wsX4_init rm_X4_init D vwCl [.ref r0] [(r0, .inr (4, [.null, .null]))] [(cI, .int)] 2 120 (fun (u : Nat × Nat) => [(r0, .inr (4, [.ref u.1, .ref u.2])), (u.1, cJ cI 60 ((fun _ => 0))), (u.2, cJ cI 60 ((fun _ => 0)))]) := by
  refine MI.mk (cc := cX4_init) (maxL := 1) (ret := none) (by decide) rfl (Nat.le_of_ble_eq_true rfl) rfl RX4 rfl rfl ?_
  intro p_ e_ s_ m_ ar_ bw_ mt_ cd_ B_ Q_ hA hao hin E hr hQ
  refine r_aload_n E 0 dX4_init_0 rfl rfl ?_
  refine r_objI E dX4_init_1 ck_X4_init_o1 ck_X4_init_o2 ck_X4_init_o3 (by decide) (by decide) (Nat.le_of_ble_eq_true rfl) ?_
  refine r_aload_n E 0 dX4_init_4 rfl rfl ?_
  refine r_bipush E 60 rfl dX4_init_5 ?_
  refine r_newa E 0 rfl rfl dX4_init_7 ck_X4_init_arint (60, .inl (aJ (fun _ => 0))) (fun _ => rfl) (by decide) (by decide) (by decide) ⟨by decide, by decide⟩ 1 60 ⟨rfl, rfl⟩ hA ?_
  intro q_7_1
  refine r_cv (ws2 := [(r0, .inr (4, [.null, .null])), (q_7_1, cJ cI 60 (fun _ => 0))]) rfl rfl rfl ?_
  refine r_putF E (ty := .array .int) 4 0 0 tyX4 tyX4_ok nmX4 dX4_init_9 in_X4_init_X4 lk_X4_init_9 rfl rfl (by decide) rfl hin rfl (by decide +kernel) rfl rfl (Nat.le_of_ble_eq_true rfl) [(r0, .inr (4, [.ref q_7_1, .null])), (q_7_1, cJ cI 60 (fun _ => 0))] rfl ?_
  refine r_aload_n E 0 dX4_init_12 rfl rfl ?_
  refine r_bipush E 60 rfl dX4_init_13 ?_
  refine r_newa E 0 rfl rfl dX4_init_15 ck_X4_init_arint (60, .inl (aJ (fun _ => 0))) (fun _ => rfl) (by decide) (by decide) (by decide) ⟨by decide, by decide⟩ 2 120 ⟨rfl, rfl⟩ hA ?_
  intro q_15_2
  refine r_cv (ws2 := [(r0, .inr (4, [.ref q_7_1, .null])), (q_7_1, cJ cI 60 (fun _ => 0)), (q_15_2, cJ cI 60 (fun _ => 0))]) rfl rfl rfl ?_
  refine r_putF E (ty := .array .int) 4 0 1 tyX4 tyX4_ok nmX4 dX4_init_17 in_X4_init_X4 lk_X4_init_15 rfl rfl (by decide) rfl hin rfl (by decide +kernel) rfl rfl (Nat.le_of_ble_eq_true rfl) [(r0, .inr (4, [.ref q_7_1, .ref q_15_2])), (q_7_1, cJ cI 60 (fun _ => 0)), (q_15_2, cJ cI 60 (fun _ => 0))] rfl ?_
  exact r_retMI E (q_7_1, q_15_2) hr dX4_init_20 rfl hQ
theorem kf_X3_init : KF yX3_init 0 wsX3_init cX3_init 2 none := ⟨rfl, by decide +kernel, by decide +kernel, by decide +kernel⟩
def rm_X3_init : Room := { frames := 2, cells := 6, slots := 292, locals := 49 }
set_option maxRecDepth 20000 in
theorem ck_X3_init_o1 : Cond.methodLink RX3 3 Lib.objectInit ∈ wsX3_init := by decide +kernel
set_option maxRecDepth 20000 in
theorem ck_X3_init_o2 : Cond.instanceMethod Lib.objectInit ∈ wsX3_init := by decide +kernel
set_option maxRecDepth 20000 in
theorem ck_X3_init_o3 : Cond.code Lib.objectInit ⟨#[0xb1]⟩ 1 none ∈ wsX3_init := by decide +kernel
set_option maxRecDepth 20000 in
theorem ck_X3_init_arint : Cond.arrayClass (newarray.typeOf .int) ∈ wsX3_init := by decide +kernel
set_option maxRecDepth 20000 in
theorem in_X3_init_X3 : ∀ w ∈ u_ws RX3 TX3 7, w ∈ wsX3_init := by decide +kernel
set_option maxRecDepth 20000 in
theorem lk_X3_init_11 : Cond.fieldLink RX3 11 (TX3 0).1 (TX3 0).2.1 (TX3 0).2.2.1 ∈ wsX3_init := by decide +kernel
set_option maxRecDepth 20000 in
theorem lk_X3_init_15 : Cond.fieldLink RX3 15 (TX3 1).1 (TX3 1).2.1 (TX3 1).2.2.1 ∈ wsX3_init := by decide +kernel
set_option maxRecDepth 20000 in
theorem ck_X3_init_arboolean : Cond.arrayClass (newarray.typeOf .boolean) ∈ wsX3_init := by decide +kernel
set_option maxRecDepth 20000 in
theorem lk_X3_init_18 : Cond.fieldLink RX3 18 (TX3 2).1 (TX3 2).2.1 (TX3 2).2.2.1 ∈ wsX3_init := by decide +kernel
set_option maxRecDepth 20000 in
theorem lk_X3_init_22 : Cond.fieldLink RX3 22 (TX3 3).1 (TX3 3).2.1 (TX3 3).2.2.1 ∈ wsX3_init := by decide +kernel
set_option maxRecDepth 20000 in
theorem lk_X3_init_25 : Cond.fieldLink RX3 25 (TX3 4).1 (TX3 4).2.1 (TX3 4).2.2.1 ∈ wsX3_init := by decide +kernel
set_option maxRecDepth 20000 in
theorem lk_X3_init_28 : Cond.fieldLink RX3 28 (TX3 5).1 (TX3 5).2.1 (TX3 5).2.2.1 ∈ wsX3_init := by decide +kernel
set_option maxRecDepth 20000 in
theorem lk_X3_init_31 : Cond.fieldLink RX3 31 (TX3 6).1 (TX3 6).2.1 (TX3 6).2.2.1 ∈ wsX3_init := by decide +kernel
set_option maxHeartbeats 1000000 in
set_option maxRecDepth 100000 in
theorem c_X3_init (l : Launch) (D : va_G) (p0 : Nat) (cI : ClassId) (cZ : ClassId)  : MI (S := Nat × Nat × Nat × Nat × Nat × Nat) l yX3_init wsX3_init rm_X3_init D vwCl [.ref p0] [(p0, .inr (3, [.null, .null, .null, .null, .null, .null, .int (iJ (0))]))] [(cI, .int), (cZ, .boolean)] 6 292 (fun (u : Nat × Nat × Nat × Nat × Nat × Nat) => [(p0, .inr (3, [.ref u.1, .ref u.2.1, .ref u.2.2.1, .ref u.2.2.2.1, .ref u.2.2.2.2.1, .ref u.2.2.2.2.2, .int (iJ (0))])), (u.1, cJ cI 32 (nrA)), (u.2.1, cJ cI 32 ((fun _ => 0))), (u.2.2.1, cJ cZ 32 ((fun _ => 0))), (u.2.2.2.1, cJ cZ 32 ((fun _ => 0))), (u.2.2.2.2.1, cJ cI 32 ((fun _ => 0))), (u.2.2.2.2.2, cJ cI 132 ((fun _ => 0)))]) := by
  refine MI.mk (cc := cX3_init) (maxL := 2) (ret := none) (by decide) rfl (Nat.le_of_ble_eq_true rfl) rfl RX3 rfl rfl ?_
  intro p_ e_ s_ m_ ar_ bw_ mt_ cd_ B_ Q_ hA hao hin E hr hQ
  refine r_aload_n E 0 dX3_init_0 rfl rfl ?_
  refine r_objI E dX3_init_1 ck_X3_init_o1 ck_X3_init_o2 ck_X3_init_o3 (by decide) (by decide) (Nat.le_of_ble_eq_true rfl) ?_
  refine r_aload_n E 0 dX3_init_4 rfl rfl ?_
  refine r_bipush E 32 rfl dX3_init_5 ?_
  refine r_newa E 0 rfl rfl dX3_init_7 ck_X3_init_arint (32, .inl (aJ (fun _ => 0))) (fun _ => rfl) (by decide) (by decide) (by decide) ⟨by decide, by decide⟩ 1 32 ⟨rfl, rfl⟩ hA ?_
  intro q_7_1
  refine r_cv (ws2 := [(p0, .inr (3, [.null, .null, .null, .null, .null, .null, .int (iJ (0))])), (q_7_1, cJ cI 32 (fun _ => 0))]) rfl rfl rfl ?_
  refine r_putF E (ty := .array .int) 3 0 0 tyX3 tyX3_ok nmX3 dX3_init_9 in_X3_init_X3 lk_X3_init_11 rfl rfl (by decide) rfl hin rfl (by decide +kernel) rfl rfl (Nat.le_of_ble_eq_true rfl) [(p0, .inr (3, [.ref q_7_1, .null, .null, .null, .null, .null, .int (iJ (0))])), (q_7_1, cJ cI 32 (fun _ => 0))] rfl ?_
  refine r_aload_n E 0 dX3_init_12 rfl rfl ?_
  refine r_bipush E 32 rfl dX3_init_13 ?_
  refine r_newa E 0 rfl rfl dX3_init_15 ck_X3_init_arint (32, .inl (aJ (fun _ => 0))) (fun _ => rfl) (by decide) (by decide) (by decide) ⟨by decide, by decide⟩ 2 64 ⟨rfl, rfl⟩ hA ?_
  intro q_15_2
  refine r_cv (ws2 := [(p0, .inr (3, [.ref q_7_1, .null, .null, .null, .null, .null, .int (iJ (0))])), (q_7_1, cJ cI 32 (fun _ => 0)), (q_15_2, cJ cI 32 (fun _ => 0))]) rfl rfl rfl ?_
  refine r_putF E (ty := .array .int) 3 0 1 tyX3 tyX3_ok nmX3 dX3_init_17 in_X3_init_X3 lk_X3_init_15 rfl rfl (by decide) rfl hin rfl (by decide +kernel) rfl rfl (Nat.le_of_ble_eq_true rfl) [(p0, .inr (3, [.ref q_7_1, .ref q_15_2, .null, .null, .null, .null, .int (iJ (0))])), (q_7_1, cJ cI 32 (fun _ => 0)), (q_15_2, cJ cI 32 (fun _ => 0))] rfl ?_
  refine r_aload_n E 0 dX3_init_20 rfl rfl ?_
  refine r_bipush E 32 rfl dX3_init_21 ?_
  refine r_newa E 1 rfl rfl dX3_init_23 ck_X3_init_arboolean (32, .inl (aJ (fun _ => 0))) (fun _ => rfl) (by decide) (by decide) (by decide) ⟨by decide, by decide⟩ 3 96 ⟨rfl, rfl⟩ hA ?_
  intro q_23_3
  refine r_cv (ws2 := [(p0, .inr (3, [.ref q_7_1, .ref q_15_2, .null, .null, .null, .null, .int (iJ (0))])), (q_7_1, cJ cI 32 (fun _ => 0)), (q_15_2, cJ cI 32 (fun _ => 0)), (q_23_3, cJ cZ 32 (fun _ => 0))]) rfl rfl rfl ?_
  refine r_putF E (ty := .array .boolean) 3 0 2 tyX3 tyX3_ok nmX3 dX3_init_25 in_X3_init_X3 lk_X3_init_18 rfl rfl (by decide) rfl hin rfl (by decide +kernel) rfl rfl (Nat.le_of_ble_eq_true rfl) [(p0, .inr (3, [.ref q_7_1, .ref q_15_2, .ref q_23_3, .null, .null, .null, .int (iJ (0))])), (q_7_1, cJ cI 32 (fun _ => 0)), (q_15_2, cJ cI 32 (fun _ => 0)), (q_23_3, cJ cZ 32 (fun _ => 0))] rfl ?_
  refine r_aload_n E 0 dX3_init_28 rfl rfl ?_
  refine r_bipush E 32 rfl dX3_init_29 ?_
  refine r_newa E 1 rfl rfl dX3_init_31 ck_X3_init_arboolean (32, .inl (aJ (fun _ => 0))) (fun _ => rfl) (by decide) (by decide) (by decide) ⟨by decide, by decide⟩ 4 128 ⟨rfl, rfl⟩ hA ?_
  intro q_31_4
  refine r_cv (ws2 := [(p0, .inr (3, [.ref q_7_1, .ref q_15_2, .ref q_23_3, .null, .null, .null, .int (iJ (0))])), (q_7_1, cJ cI 32 (fun _ => 0)), (q_15_2, cJ cI 32 (fun _ => 0)), (q_23_3, cJ cZ 32 (fun _ => 0)), (q_31_4, cJ cZ 32 (fun _ => 0))]) rfl rfl rfl ?_
  refine r_putF E (ty := .array .boolean) 3 0 3 tyX3 tyX3_ok nmX3 dX3_init_33 in_X3_init_X3 lk_X3_init_22 rfl rfl (by decide) rfl hin rfl (by decide +kernel) rfl rfl (Nat.le_of_ble_eq_true rfl) [(p0, .inr (3, [.ref q_7_1, .ref q_15_2, .ref q_23_3, .ref q_31_4, .null, .null, .int (iJ (0))])), (q_7_1, cJ cI 32 (fun _ => 0)), (q_15_2, cJ cI 32 (fun _ => 0)), (q_23_3, cJ cZ 32 (fun _ => 0)), (q_31_4, cJ cZ 32 (fun _ => 0))] rfl ?_
  refine r_aload_n E 0 dX3_init_36 rfl rfl ?_
  refine r_bipush E 32 rfl dX3_init_37 ?_
  refine r_newa E 0 rfl rfl dX3_init_39 ck_X3_init_arint (32, .inl (aJ (fun _ => 0))) (fun _ => rfl) (by decide) (by decide) (by decide) ⟨by decide, by decide⟩ 5 160 ⟨rfl, rfl⟩ hA ?_
  intro q_39_5
  refine r_cv (ws2 := [(p0, .inr (3, [.ref q_7_1, .ref q_15_2, .ref q_23_3, .ref q_31_4, .null, .null, .int (iJ (0))])), (q_7_1, cJ cI 32 (fun _ => 0)), (q_15_2, cJ cI 32 (fun _ => 0)), (q_23_3, cJ cZ 32 (fun _ => 0)), (q_31_4, cJ cZ 32 (fun _ => 0)), (q_39_5, cJ cI 32 (fun _ => 0))]) rfl rfl rfl ?_
  refine r_putF E (ty := .array .int) 3 0 4 tyX3 tyX3_ok nmX3 dX3_init_41 in_X3_init_X3 lk_X3_init_25 rfl rfl (by decide) rfl hin rfl (by decide +kernel) rfl rfl (Nat.le_of_ble_eq_true rfl) [(p0, .inr (3, [.ref q_7_1, .ref q_15_2, .ref q_23_3, .ref q_31_4, .ref q_39_5, .null, .int (iJ (0))])), (q_7_1, cJ cI 32 (fun _ => 0)), (q_15_2, cJ cI 32 (fun _ => 0)), (q_23_3, cJ cZ 32 (fun _ => 0)), (q_31_4, cJ cZ 32 (fun _ => 0)), (q_39_5, cJ cI 32 (fun _ => 0))] rfl ?_
  refine r_aload_n E 0 dX3_init_44 rfl rfl ?_
  refine r_sipush E 132 rfl dX3_init_45 ?_
  refine r_newa E 0 rfl rfl dX3_init_48 ck_X3_init_arint (132, .inl (aJ (fun _ => 0))) (fun _ => rfl) (by decide) (by decide) (by decide) ⟨by decide, by decide⟩ 6 292 ⟨rfl, rfl⟩ hA ?_
  intro q_48_6
  refine r_cv (ws2 := [(p0, .inr (3, [.ref q_7_1, .ref q_15_2, .ref q_23_3, .ref q_31_4, .ref q_39_5, .null, .int (iJ (0))])), (q_7_1, cJ cI 32 (fun _ => 0)), (q_15_2, cJ cI 32 (fun _ => 0)), (q_23_3, cJ cZ 32 (fun _ => 0)), (q_31_4, cJ cZ 32 (fun _ => 0)), (q_39_5, cJ cI 32 (fun _ => 0)), (q_48_6, cJ cI 132 (fun _ => 0))]) rfl rfl rfl ?_
  refine r_putF E (ty := .array .int) 3 0 5 tyX3 tyX3_ok nmX3 dX3_init_50 in_X3_init_X3 lk_X3_init_28 rfl rfl (by decide) rfl hin rfl (by decide +kernel) rfl rfl (Nat.le_of_ble_eq_true rfl) [(p0, .inr (3, [.ref q_7_1, .ref q_15_2, .ref q_23_3, .ref q_31_4, .ref q_39_5, .ref q_48_6, .int (iJ (0))])), (q_7_1, cJ cI 32 (fun _ => 0)), (q_15_2, cJ cI 32 (fun _ => 0)), (q_23_3, cJ cZ 32 (fun _ => 0)), (q_31_4, cJ cZ 32 (fun _ => 0)), (q_39_5, cJ cI 32 (fun _ => 0)), (q_48_6, cJ cI 132 (fun _ => 0))] rfl ?_
  refine r_aload_n E 0 dX3_init_53 rfl rfl ?_
  refine r_iconst E 0 rfl dX3_init_54 ?_
  refine r_put E (ty := .int) 3 0 6 tyX3 tyX3_ok nmX3 dX3_init_55 in_X3_init_X3 lk_X3_init_31 rfl rfl (by decide) rfl (by decide +kernel) rfl rfl (Nat.le_of_ble_eq_true rfl) [(p0, .inr (3, [.ref q_7_1, .ref q_15_2, .ref q_23_3, .ref q_31_4, .ref q_39_5, .ref q_48_6, .int (iJ (0))])), (q_7_1, cJ cI 32 (fun _ => 0)), (q_15_2, cJ cI 32 (fun _ => 0)), (q_23_3, cJ cZ 32 (fun _ => 0)), (q_31_4, cJ cZ 32 (fun _ => 0)), (q_39_5, cJ cI 32 (fun _ => 0)), (q_48_6, cJ cI 132 (fun _ => 0))] rfl ?_
  refine r_iconst E 0 rfl dX3_init_58 ?_
  refine r_istore_n E [(1, .int (iJ (0))), (0, .ref p0)] dX3_init_59 rfl (by decide) rfl ?_
  have loop_60 : ∀ (N : Nat) (k : Int) (G : Int → Int), (0 ≤ k ∧ k ≤ 32) → (∀ j : Int, G j = if 0 ≤ j ∧ j < k then nrT j else 0) → (32 - k).toNat < N → GG p_ l e_ rm_X3_init s_ m_ ar_ bw_ mt_ cd_ D vwCl B_ B_ s_.heap 2 6 292 Q_ [(p0, .inr (3, [.ref q_7_1, .ref q_15_2, .ref q_23_3, .ref q_31_4, .ref q_39_5, .ref q_48_6, .int (iJ (0))])), (q_7_1, cJ cI 32 (G)), (q_15_2, cJ cI 32 (fun _ => 0)), (q_23_3, cJ cZ 32 (fun _ => 0)), (q_31_4, cJ cZ 32 (fun _ => 0)), (q_39_5, cJ cI 32 (fun _ => 0)), (q_48_6, cJ cI 132 (fun _ => 0))] [(0, .ref p0), (1, .int (iJ (k)))] 60 [] := by
    intro N; induction N with
    | zero => intro k G hk hG hN; exact absurd hN (Nat.not_lt_zero _)
    | succ N ih60 =>
      intro k G hk hG hN
      refine r_iload_n E 1 dX3_init_60 rfl rfl ?_
      refine r_aload_n E 0 dX3_init_61 rfl rfl ?_
      refine r_get E 3 0 0 dX3_init_62 in_X3_init_X3 lk_X3_init_11 rfl rfl (by decide) rfl ?_
      refine r_alen E 1 0 32 dX3_init_65 rfl rfl rfl ?_
      refine r_top (b := 32) (by rfl) ?_
      refine r_icmp_ge E 104 dX3_init_66 (by decide) ⟨by omega, by omega⟩ ⟨by omega, by omega⟩ (fun c_66 => ?_) (fun c_66 => ?_)
      · exact r_retMI E (q_7_1, q_15_2, q_23_3, q_31_4, q_39_5, q_48_6) hr dX3_init_104 (by
              have ek : k = 32 := by omega
              have e : G = nrA := by funext j; rw [hG, ek]; rfl
              rw [e]) hQ
      · refine r_aload_n E 0 dX3_init_69 rfl rfl ?_
        refine r_get E 3 0 0 dX3_init_70 in_X3_init_X3 lk_X3_init_11 rfl rfl (by decide) rfl ?_
        refine r_iload_n E 1 dX3_init_73 rfl rfl ?_
        refine r_iload_n E 1 dX3_init_74 rfl rfl ?_
        refine r_iconst E 3 rfl dX3_init_75 ?_
        refine r_ishr E (k / 8) (iJ_shr ⟨by omega, by omega⟩ (iJ 3) 3 8 (by decide) rfl) dX3_init_76 ?_
        refine r_iload_n E 1 dX3_init_77 rfl rfl ?_
        refine r_iconst E 1 rfl dX3_init_78 ?_
        refine r_ishr E (k / 2) (iJ_shr ⟨by omega, by omega⟩ (iJ 1) 1 2 (by decide) rfl) dX3_init_79 ?_
        refine r_iconst E 3 rfl dX3_init_80 ?_
        refine r_iand E (k / 2 % 4) (iJ_and ⟨by omega, by omega⟩ (iJ 3) 2 4 (by decide) rfl) dX3_init_81 ?_
        refine r_iload_n E 1 dX3_init_82 rfl rfl ?_
        refine r_iconst E 1 rfl dX3_init_83 ?_
        refine r_iand E (k % 2) (iJ_and ⟨by omega, by omega⟩ (iJ 1) 1 2 (by decide) rfl) dX3_init_84 ?_
        refine r_iconst E 1 rfl dX3_init_85 ?_
        refine r_icmp_ne E 93 dX3_init_86 (by decide) ⟨by omega, by omega⟩ ⟨by omega, by omega⟩ (fun c_86 => ?_) (fun c_86 => ?_)
        · refine r_iconst E 0 rfl dX3_init_93 ?_
          refine r_sP E (st := [.int (iJ (k)), .ref q_7_1]) (c_X3_nearestOf l D (k / 8) (k / 2 % 4) 0 (by first | assumption | omega | exact ⟨by omega, by omega⟩) (by first | assumption | omega | exact ⟨by omega, by omega⟩) (by first | assumption | omega | exact ⟨by omega, by omega⟩)) gX3_init_X3_nearestOf 3 kf_X3_nearestOf ⟨rfl, rfl⟩ ⟨by decide, by decide⟩ dX3_init_94 rfl rfl ⟨by decide, by decide⟩ [] rfl (by decide) [] rfl (Nat.le_of_ble_eq_true rfl) ?_
          refine r_iast E (i := k) 1 0 dX3_init_97 rfl rfl (by decide) ⟨by omega, by omega⟩ [(p0, .inr (3, [.ref q_7_1, .ref q_15_2, .ref q_23_3, .ref q_31_4, .ref q_39_5, .ref q_48_6, .int (iJ (0))])), (q_7_1, cJ cI 32 (uJ G k (nrD (k / 8) (k / 2 % 4) 0))), (q_15_2, cJ cI 32 (fun _ => 0)), (q_23_3, cJ cZ 32 (fun _ => 0)), (q_31_4, cJ cZ 32 (fun _ => 0)), (q_39_5, cJ cI 32 (fun _ => 0)), (q_48_6, cJ cI 132 (fun _ => 0))] rfl ?_
          refine r_iinc E (k := 1) [(1, .int (iJ ((k + 1)))), (0, .ref p0)] dX3_init_98 rfl (by decide) rfl ?_
          refine r_goto E 60 dX3_init_101 (by decide) ?_
          refine r_lv [1, 0] [(0, .ref p0), (1, .int (iJ ((k + 1))))] rfl ?_
          exact ih60 (k + 1) (uJ G k (nrD (k / 8) (k / 2 % 4) 0)) ⟨by omega, by omega⟩ (fun j => by
                by_cases q0 : j = k
                · subst q0; rw [uJ_s, if_pos (by omega)]; unfold nrT; first | rw [show j % 2 = 1 by omega] | rw [show j % 2 = 0 by omega]
                · rw [uJ_n q0, hG]; by_cases q2 : 0 ≤ j ∧ j < k
                  · rw [if_pos q2, if_pos (by omega)]
                  · rw [if_neg q2, if_neg (by omega)]) (by omega)
        · refine r_iconst E 1 rfl dX3_init_89 ?_
          refine r_goto E 94 dX3_init_90 (by decide) ?_
          refine r_sP E (st := [.int (iJ (k)), .ref q_7_1]) (c_X3_nearestOf l D (k / 8) (k / 2 % 4) 1 (by first | assumption | omega | exact ⟨by omega, by omega⟩) (by first | assumption | omega | exact ⟨by omega, by omega⟩) (by first | assumption | omega | exact ⟨by omega, by omega⟩)) gX3_init_X3_nearestOf 3 kf_X3_nearestOf ⟨rfl, rfl⟩ ⟨by decide, by decide⟩ dX3_init_94 rfl rfl ⟨by decide, by decide⟩ [] rfl (by decide) [] rfl (Nat.le_of_ble_eq_true rfl) ?_
          refine r_iast E (i := k) 1 0 dX3_init_97 rfl rfl (by decide) ⟨by omega, by omega⟩ [(p0, .inr (3, [.ref q_7_1, .ref q_15_2, .ref q_23_3, .ref q_31_4, .ref q_39_5, .ref q_48_6, .int (iJ (0))])), (q_7_1, cJ cI 32 (uJ G k (nrD (k / 8) (k / 2 % 4) 1))), (q_15_2, cJ cI 32 (fun _ => 0)), (q_23_3, cJ cZ 32 (fun _ => 0)), (q_31_4, cJ cZ 32 (fun _ => 0)), (q_39_5, cJ cI 32 (fun _ => 0)), (q_48_6, cJ cI 132 (fun _ => 0))] rfl ?_
          refine r_iinc E (k := 1) [(1, .int (iJ ((k + 1)))), (0, .ref p0)] dX3_init_98 rfl (by decide) rfl ?_
          refine r_goto E 60 dX3_init_101 (by decide) ?_
          refine r_lv [1, 0] [(0, .ref p0), (1, .int (iJ ((k + 1))))] rfl ?_
          exact ih60 (k + 1) (uJ G k (nrD (k / 8) (k / 2 % 4) 1)) ⟨by omega, by omega⟩ (fun j => by
                by_cases q0 : j = k
                · subst q0; rw [uJ_s, if_pos (by omega)]; unfold nrT; first | rw [show j % 2 = 1 by omega] | rw [show j % 2 = 0 by omega]
                · rw [uJ_n q0, hG]; by_cases q2 : 0 ≤ j ∧ j < k
                  · rw [if_pos q2, if_pos (by omega)]
                  · rw [if_neg q2, if_neg (by omega)]) (by omega)
  refine r_lv [1, 0] [(0, .ref p0), (1, .int (iJ (0)))] rfl ?_
  exact loop_60 _ 0 (fun _ => 0) ⟨by omega, by omega⟩ (fun j => by rw [if_neg (by omega)]) (Nat.lt_succ_self _)
theorem kf_X0_init : KF yX0_init 0 wsX0_init cX0_init 2 none := ⟨rfl, by decide +kernel, by decide +kernel, by decide +kernel⟩
def rm_X0_init : Room := { frames := 2, cells := 9, slots := 144, locals := 40 }
set_option maxRecDepth 20000 in
theorem ck_X0_init_o1 : Cond.methodLink RX0 3 Lib.objectInit ∈ wsX0_init := by decide +kernel
set_option maxRecDepth 20000 in
theorem ck_X0_init_o2 : Cond.instanceMethod Lib.objectInit ∈ wsX0_init := by decide +kernel
set_option maxRecDepth 20000 in
theorem ck_X0_init_o3 : Cond.code Lib.objectInit ⟨#[0xb1]⟩ 1 none ∈ wsX0_init := by decide +kernel
set_option maxRecDepth 20000 in
theorem ck_X0_init_cl9 : Cond.classLink RX0 9 RX2 ∈ wsX0_init := by decide +kernel
set_option maxRecDepth 20000 in
theorem in_X0_init_X0 : ∀ w ∈ u_ws RX0 TX0 2, w ∈ wsX0_init := by decide +kernel
set_option maxRecDepth 20000 in
theorem lk_X0_init_11 : Cond.fieldLink RX0 11 (TX0 0).1 (TX0 0).2.1 (TX0 0).2.2.1 ∈ wsX0_init := by decide +kernel
set_option maxRecDepth 20000 in
theorem in_X0_init_X2 : ∀ w ∈ u_ws RX2 TX2 3, w ∈ wsX0_init := by decide +kernel
set_option maxRecDepth 20000 in
theorem ck_X0_init_itX2 : Cond.instantiable RX2 3 ∈ wsX0_init := by decide +kernel
set_option maxRecDepth 20000 in
theorem ck_X0_init_iiX2 : Cond.initialized RX2 ∈ wsX0_init := by decide +kernel
set_option maxRecDepth 20000 in
theorem ck_X0_init_ml17 : Cond.methodLink RX0 17 yX2_init ∈ wsX0_init := by decide +kernel
set_option maxRecDepth 20000 in
theorem ck_X0_init_imX2_init : Cond.instanceMethod yX2_init ∈ wsX0_init := by decide +kernel
set_option maxRecDepth 20000 in
theorem ck_X0_init_iniX2_init : Cond.initialized yX2_init.cls ∈ wsX0_init := by decide +kernel
set_option maxRecDepth 20000 in
theorem lk_X0_init_18 : Cond.fieldLink RX0 18 (TX0 1).1 (TX0 1).2.1 (TX0 1).2.2.1 ∈ wsX0_init := by decide +kernel
set_option maxHeartbeats 1000000 in
set_option maxRecDepth 100000 in
theorem c_X0_init (l : Launch) (D : va_G) (i0 : Nat) (cI : ClassId) (cP : ClassId)  : MI (S := Nat × (Nat → Nat) × (Nat → Nat)) l yX0_init wsX0_init rm_X0_init D vwCl [.ref i0] [(i0, .inr (0, [.null, .int (iJ (0))]))] [(cI, .int), (cP, .object "LeanSticks$Piece")] 9 144 (fun (u : Nat × (Nat → Nat) × (Nat → Nat)) => [(i0, .inr (0, [.ref u.1, .int (iJ (0))])), (u.1, cR cP 4 (hF u.2.1)), ((u.2.1 0), .inr (2, [.ref (u.2.2 0), .int (iJ ((fun _ => (0 : Int)) 0)), .int (iJ ((fun _ => (2 : Int)) 0))])), ((u.2.2 0), cJ cI 32 ((fun _ _ => (0 : Int)) 0)), ((u.2.1 1), .inr (2, [.ref (u.2.2 1), .int (iJ ((fun _ => (0 : Int)) 1)), .int (iJ ((fun _ => (2 : Int)) 1))])), ((u.2.2 1), cJ cI 32 ((fun _ _ => (0 : Int)) 1)), ((u.2.1 2), .inr (2, [.ref (u.2.2 2), .int (iJ ((fun _ => (0 : Int)) 2)), .int (iJ ((fun _ => (2 : Int)) 2))])), ((u.2.2 2), cJ cI 32 ((fun _ _ => (0 : Int)) 2)), ((u.2.1 3), .inr (2, [.ref (u.2.2 3), .int (iJ ((fun _ => (0 : Int)) 3)), .int (iJ ((fun _ => (2 : Int)) 3))])), ((u.2.2 3), cJ cI 32 ((fun _ _ => (0 : Int)) 3))]) := by
  refine MI.mk (cc := cX0_init) (maxL := 2) (ret := none) (by decide) rfl (Nat.le_of_ble_eq_true rfl) rfl RX0 rfl rfl ?_
  intro p_ e_ s_ m_ ar_ bw_ mt_ cd_ B_ Q_ hA hao hin E hr hQ
  refine r_aload_n E 0 dX0_init_0 rfl rfl ?_
  refine r_objI E dX0_init_1 ck_X0_init_o1 ck_X0_init_o2 ck_X0_init_o3 (by decide) (by decide) (Nat.le_of_ble_eq_true rfl) ?_
  refine r_aload_n E 0 dX0_init_4 rfl rfl ?_
  refine r_iconst E 4 rfl dX0_init_5 ?_
  refine r_newq E (N := 4) 1 rfl dX0_init_6 ck_X0_init_cl9 hao (by decide) (by decide) (by decide) ⟨by decide, by decide⟩ 1 4 ⟨rfl, rfl⟩ hA ?_
  intro q_6_1
  refine r_cv (ws2 := [(i0, .inr (0, [.null, .int (iJ (0))])), (q_6_1, cR cP 4 (fun _ => none))]) rfl rfl rfl ?_
  refine r_putF E (ty := .array (.object "LeanSticks$Piece")) 0 0 0 tyX0 tyX0_ok nmX0 dX0_init_9 in_X0_init_X0 lk_X0_init_11 rfl rfl (by decide) rfl hin rfl (by decide +kernel) rfl rfl (Nat.le_of_ble_eq_true rfl) [(i0, .inr (0, [.ref q_6_1, .int (iJ (0))])), (q_6_1, cR cP 4 (fun _ => none))] rfl ?_
  refine r_iconst E 0 rfl dX0_init_12 ?_
  refine r_istore_n E [(1, .int (iJ (0))), (0, .ref i0)] dX0_init_13 rfl (by decide) rfl ?_
  refine r_iload_n E 0 dX0_init_14 rfl rfl ?_
  refine r_aload_n E 1 dX0_init_15 rfl rfl ?_
  refine r_get E 0 0 0 dX0_init_16 in_X0_init_X0 lk_X0_init_11 rfl rfl (by decide) rfl ?_
  refine r_alen E 1 1 4 dX0_init_19 rfl rfl rfl ?_
  refine r_top (b := 4) (by rfl) ?_
  refine r_icmp_ge E 42 dX0_init_20 (by decide) ⟨by omega, by omega⟩ ⟨by omega, by omega⟩ (fun c_20 => absurd c_20 (by omega)) (fun c_20 => ?_)
  refine r_aload_n E 1 dX0_init_23 rfl rfl ?_
  refine r_get E 0 0 0 dX0_init_24 in_X0_init_X0 lk_X0_init_11 rfl rfl (by decide) rfl ?_
  refine r_iload_n E 0 dX0_init_27 rfl rfl ?_
  refine r_new E 2 [.null, .int (iJ (0)), .int (iJ (0))] tyX2 tyX2_ok dX0_init_28 in_X0_init_X2 ck_X0_init_cl9 ck_X0_init_itX2 ck_X0_init_iiX2 rfl (fun j hj => by rcases (show j = 0 ∨ j = 1 ∨ j = 2 by omega) with rfl | rfl | rfl <;> rfl) ⟨by decide, by decide⟩ 2 7 ⟨rfl, rfl⟩ hA ?_
  intro q_28_2
  refine r_cv (ws2 := [(i0, .inr (0, [.ref q_6_1, .int (iJ (0))])), (q_6_1, cR cP 4 (fun _ => none)), (q_28_2, .inr (2, [.null, .int (iJ (0)), .int (iJ (0))]))]) rfl rfl rfl ?_
  refine r_dup E dX0_init_31 rfl ?_
  refine r_iMI E hao (st := [.ref q_28_2, .int (iJ (0)), .ref q_6_1]) (c_X2_init l D q_28_2 cI) gX0_init_X2_init kf_X2_init rfl ck_X0_init_ml17 ck_X0_init_imX2_init ck_X0_init_iniX2_init ⟨rfl, rfl⟩ ⟨by decide, by decide⟩ dX0_init_32 ⟨by decide, by decide⟩ 3 39 ⟨rfl, rfl⟩ [2] rfl (by decide) [0] rfl (Nat.le_of_ble_eq_true rfl) [(i0, .inr (0, [.ref q_6_1, .int (iJ (0))])), (q_6_1, cR cP 4 (fun _ => none))] [0, 1] rfl (by decide) (by decide) hA [0, 1, 2, 3] (by decide) (fun (h1_32_2 : Nat) => [(i0, .inr (0, [.ref q_6_1, .int (iJ (0))])), (q_6_1, cR cP 4 (fun _ => none)), (q_28_2, .inr (2, [.ref h1_32_2, .int (iJ (0)), .int (iJ (2))])), (h1_32_2, cJ cI 32 (fun _ => 0))]) (fun _ => rfl) ?_
  intro h1_32_2
  refine r_cv (ws2 := [(i0, .inr (0, [.ref q_6_1, .int (iJ (0))])), (q_6_1, cR cP 4 (fun _ => none)), (q_28_2, .inr (2, [.ref h1_32_2, .int (iJ (0)), .int (iJ (2))])), (h1_32_2, cJ cI 32 (fun _ => 0))]) (st2 := [.ref q_28_2, .int (iJ (0)), .ref q_6_1]) rfl rfl rfl ?_
  refine r_astq E (i := 0) 1 1 2 2 dX0_init_35 rfl rfl rfl rfl (by decide) ⟨by omega, by omega⟩ [(i0, .inr (0, [.ref q_6_1, .int (iJ (0))])), (q_6_1, cR cP 4 (va_up (fun _ => none) (0 : Int).toNat (some q_28_2))), (q_28_2, .inr (2, [.ref h1_32_2, .int (iJ (0)), .int (iJ (2))])), (h1_32_2, cJ cI 32 (fun _ => 0))] rfl ?_
  refine r_iinc E (k := 0) [(1, .int (iJ (1))), (0, .ref i0)] dX0_init_36 rfl (by decide) rfl ?_
  refine r_goto E 14 dX0_init_39 (by decide) ?_
  refine r_iload_n E 0 dX0_init_14 rfl rfl ?_
  refine r_aload_n E 1 dX0_init_15 rfl rfl ?_
  refine r_get E 0 0 0 dX0_init_16 in_X0_init_X0 lk_X0_init_11 rfl rfl (by decide) rfl ?_
  refine r_alen E 1 1 4 dX0_init_19 rfl rfl rfl ?_
  refine r_top (b := 4) (by rfl) ?_
  refine r_icmp_ge E 42 dX0_init_20 (by decide) ⟨by omega, by omega⟩ ⟨by omega, by omega⟩ (fun c_20 => absurd c_20 (by omega)) (fun c_20 => ?_)
  refine r_aload_n E 1 dX0_init_23 rfl rfl ?_
  refine r_get E 0 0 0 dX0_init_24 in_X0_init_X0 lk_X0_init_11 rfl rfl (by decide) rfl ?_
  refine r_iload_n E 0 dX0_init_27 rfl rfl ?_
  refine r_new E 2 [.null, .int (iJ (0)), .int (iJ (0))] tyX2 tyX2_ok dX0_init_28 in_X0_init_X2 ck_X0_init_cl9 ck_X0_init_itX2 ck_X0_init_iiX2 rfl (fun j hj => by rcases (show j = 0 ∨ j = 1 ∨ j = 2 by omega) with rfl | rfl | rfl <;> rfl) ⟨by decide, by decide⟩ 4 42 ⟨rfl, rfl⟩ hA ?_
  intro q_28_4
  refine r_cv (ws2 := [(i0, .inr (0, [.ref q_6_1, .int (iJ (0))])), (q_6_1, cR cP 4 (va_up (fun _ => none) (0 : Int).toNat (some q_28_2))), (q_28_2, .inr (2, [.ref h1_32_2, .int (iJ (0)), .int (iJ (2))])), (h1_32_2, cJ cI 32 (fun _ => 0)), (q_28_4, .inr (2, [.null, .int (iJ (0)), .int (iJ (0))]))]) rfl rfl rfl ?_
  refine r_dup E dX0_init_31 rfl ?_
  refine r_iMI E hao (st := [.ref q_28_4, .int (iJ (1)), .ref q_6_1]) (c_X2_init l D q_28_4 cI) gX0_init_X2_init kf_X2_init rfl ck_X0_init_ml17 ck_X0_init_imX2_init ck_X0_init_iniX2_init ⟨rfl, rfl⟩ ⟨by decide, by decide⟩ dX0_init_32 ⟨by decide, by decide⟩ 5 74 ⟨rfl, rfl⟩ [4] rfl (by decide) [0] rfl (Nat.le_of_ble_eq_true rfl) [(i0, .inr (0, [.ref q_6_1, .int (iJ (0))])), (q_6_1, cR cP 4 (va_up (fun _ => none) (0 : Int).toNat (some q_28_2))), (q_28_2, .inr (2, [.ref h1_32_2, .int (iJ (0)), .int (iJ (2))])), (h1_32_2, cJ cI 32 (fun _ => 0))] [0, 1, 2, 3] rfl (by decide) (by decide) hA [0, 1, 2, 3, 4, 5] (by decide) (fun (h1_32_4 : Nat) => [(i0, .inr (0, [.ref q_6_1, .int (iJ (0))])), (q_6_1, cR cP 4 (va_up (fun _ => none) (0 : Int).toNat (some q_28_2))), (q_28_2, .inr (2, [.ref h1_32_2, .int (iJ (0)), .int (iJ (2))])), (h1_32_2, cJ cI 32 (fun _ => 0)), (q_28_4, .inr (2, [.ref h1_32_4, .int (iJ (0)), .int (iJ (2))])), (h1_32_4, cJ cI 32 (fun _ => 0))]) (fun _ => rfl) ?_
  intro h1_32_4
  refine r_cv (ws2 := [(i0, .inr (0, [.ref q_6_1, .int (iJ (0))])), (q_6_1, cR cP 4 (va_up (fun _ => none) (0 : Int).toNat (some q_28_2))), (q_28_2, .inr (2, [.ref h1_32_2, .int (iJ (0)), .int (iJ (2))])), (h1_32_2, cJ cI 32 (fun _ => 0)), (q_28_4, .inr (2, [.ref h1_32_4, .int (iJ (0)), .int (iJ (2))])), (h1_32_4, cJ cI 32 (fun _ => 0))]) (st2 := [.ref q_28_4, .int (iJ (1)), .ref q_6_1]) rfl rfl rfl ?_
  refine r_astq E (i := 1) 1 1 4 2 dX0_init_35 rfl rfl rfl rfl (by decide) ⟨by omega, by omega⟩ [(i0, .inr (0, [.ref q_6_1, .int (iJ (0))])), (q_6_1, cR cP 4 (va_up (va_up (fun _ => none) (0 : Int).toNat (some q_28_2)) (1 : Int).toNat (some q_28_4))), (q_28_2, .inr (2, [.ref h1_32_2, .int (iJ (0)), .int (iJ (2))])), (h1_32_2, cJ cI 32 (fun _ => 0)), (q_28_4, .inr (2, [.ref h1_32_4, .int (iJ (0)), .int (iJ (2))])), (h1_32_4, cJ cI 32 (fun _ => 0))] rfl ?_
  refine r_iinc E (k := 0) [(1, .int (iJ (2))), (0, .ref i0)] dX0_init_36 rfl (by decide) rfl ?_
  refine r_goto E 14 dX0_init_39 (by decide) ?_
  refine r_iload_n E 0 dX0_init_14 rfl rfl ?_
  refine r_aload_n E 1 dX0_init_15 rfl rfl ?_
  refine r_get E 0 0 0 dX0_init_16 in_X0_init_X0 lk_X0_init_11 rfl rfl (by decide) rfl ?_
  refine r_alen E 1 1 4 dX0_init_19 rfl rfl rfl ?_
  refine r_top (b := 4) (by rfl) ?_
  refine r_icmp_ge E 42 dX0_init_20 (by decide) ⟨by omega, by omega⟩ ⟨by omega, by omega⟩ (fun c_20 => absurd c_20 (by omega)) (fun c_20 => ?_)
  refine r_aload_n E 1 dX0_init_23 rfl rfl ?_
  refine r_get E 0 0 0 dX0_init_24 in_X0_init_X0 lk_X0_init_11 rfl rfl (by decide) rfl ?_
  refine r_iload_n E 0 dX0_init_27 rfl rfl ?_
  refine r_new E 2 [.null, .int (iJ (0)), .int (iJ (0))] tyX2 tyX2_ok dX0_init_28 in_X0_init_X2 ck_X0_init_cl9 ck_X0_init_itX2 ck_X0_init_iiX2 rfl (fun j hj => by rcases (show j = 0 ∨ j = 1 ∨ j = 2 by omega) with rfl | rfl | rfl <;> rfl) ⟨by decide, by decide⟩ 6 77 ⟨rfl, rfl⟩ hA ?_
  intro q_28_6
  refine r_cv (ws2 := [(i0, .inr (0, [.ref q_6_1, .int (iJ (0))])), (q_6_1, cR cP 4 (va_up (va_up (fun _ => none) (0 : Int).toNat (some q_28_2)) (1 : Int).toNat (some q_28_4))), (q_28_2, .inr (2, [.ref h1_32_2, .int (iJ (0)), .int (iJ (2))])), (h1_32_2, cJ cI 32 (fun _ => 0)), (q_28_4, .inr (2, [.ref h1_32_4, .int (iJ (0)), .int (iJ (2))])), (h1_32_4, cJ cI 32 (fun _ => 0)), (q_28_6, .inr (2, [.null, .int (iJ (0)), .int (iJ (0))]))]) rfl rfl rfl ?_
  refine r_dup E dX0_init_31 rfl ?_
  refine r_iMI E hao (st := [.ref q_28_6, .int (iJ (2)), .ref q_6_1]) (c_X2_init l D q_28_6 cI) gX0_init_X2_init kf_X2_init rfl ck_X0_init_ml17 ck_X0_init_imX2_init ck_X0_init_iniX2_init ⟨rfl, rfl⟩ ⟨by decide, by decide⟩ dX0_init_32 ⟨by decide, by decide⟩ 7 109 ⟨rfl, rfl⟩ [6] rfl (by decide) [0] rfl (Nat.le_of_ble_eq_true rfl) [(i0, .inr (0, [.ref q_6_1, .int (iJ (0))])), (q_6_1, cR cP 4 (va_up (va_up (fun _ => none) (0 : Int).toNat (some q_28_2)) (1 : Int).toNat (some q_28_4))), (q_28_2, .inr (2, [.ref h1_32_2, .int (iJ (0)), .int (iJ (2))])), (h1_32_2, cJ cI 32 (fun _ => 0)), (q_28_4, .inr (2, [.ref h1_32_4, .int (iJ (0)), .int (iJ (2))])), (h1_32_4, cJ cI 32 (fun _ => 0))] [0, 1, 2, 3, 4, 5] rfl (by decide) (by decide) hA [0, 1, 2, 3, 4, 5, 6, 7] (by decide) (fun (h1_32_6 : Nat) => [(i0, .inr (0, [.ref q_6_1, .int (iJ (0))])), (q_6_1, cR cP 4 (va_up (va_up (fun _ => none) (0 : Int).toNat (some q_28_2)) (1 : Int).toNat (some q_28_4))), (q_28_2, .inr (2, [.ref h1_32_2, .int (iJ (0)), .int (iJ (2))])), (h1_32_2, cJ cI 32 (fun _ => 0)), (q_28_4, .inr (2, [.ref h1_32_4, .int (iJ (0)), .int (iJ (2))])), (h1_32_4, cJ cI 32 (fun _ => 0)), (q_28_6, .inr (2, [.ref h1_32_6, .int (iJ (0)), .int (iJ (2))])), (h1_32_6, cJ cI 32 (fun _ => 0))]) (fun _ => rfl) ?_
  intro h1_32_6
  refine r_cv (ws2 := [(i0, .inr (0, [.ref q_6_1, .int (iJ (0))])), (q_6_1, cR cP 4 (va_up (va_up (fun _ => none) (0 : Int).toNat (some q_28_2)) (1 : Int).toNat (some q_28_4))), (q_28_2, .inr (2, [.ref h1_32_2, .int (iJ (0)), .int (iJ (2))])), (h1_32_2, cJ cI 32 (fun _ => 0)), (q_28_4, .inr (2, [.ref h1_32_4, .int (iJ (0)), .int (iJ (2))])), (h1_32_4, cJ cI 32 (fun _ => 0)), (q_28_6, .inr (2, [.ref h1_32_6, .int (iJ (0)), .int (iJ (2))])), (h1_32_6, cJ cI 32 (fun _ => 0))]) (st2 := [.ref q_28_6, .int (iJ (2)), .ref q_6_1]) rfl rfl rfl ?_
  refine r_astq E (i := 2) 1 1 6 2 dX0_init_35 rfl rfl rfl rfl (by decide) ⟨by omega, by omega⟩ [(i0, .inr (0, [.ref q_6_1, .int (iJ (0))])), (q_6_1, cR cP 4 (va_up (va_up (va_up (fun _ => none) (0 : Int).toNat (some q_28_2)) (1 : Int).toNat (some q_28_4)) (2 : Int).toNat (some q_28_6))), (q_28_2, .inr (2, [.ref h1_32_2, .int (iJ (0)), .int (iJ (2))])), (h1_32_2, cJ cI 32 (fun _ => 0)), (q_28_4, .inr (2, [.ref h1_32_4, .int (iJ (0)), .int (iJ (2))])), (h1_32_4, cJ cI 32 (fun _ => 0)), (q_28_6, .inr (2, [.ref h1_32_6, .int (iJ (0)), .int (iJ (2))])), (h1_32_6, cJ cI 32 (fun _ => 0))] rfl ?_
  refine r_iinc E (k := 0) [(1, .int (iJ (3))), (0, .ref i0)] dX0_init_36 rfl (by decide) rfl ?_
  refine r_goto E 14 dX0_init_39 (by decide) ?_
  refine r_iload_n E 0 dX0_init_14 rfl rfl ?_
  refine r_aload_n E 1 dX0_init_15 rfl rfl ?_
  refine r_get E 0 0 0 dX0_init_16 in_X0_init_X0 lk_X0_init_11 rfl rfl (by decide) rfl ?_
  refine r_alen E 1 1 4 dX0_init_19 rfl rfl rfl ?_
  refine r_top (b := 4) (by rfl) ?_
  refine r_icmp_ge E 42 dX0_init_20 (by decide) ⟨by omega, by omega⟩ ⟨by omega, by omega⟩ (fun c_20 => absurd c_20 (by omega)) (fun c_20 => ?_)
  refine r_aload_n E 1 dX0_init_23 rfl rfl ?_
  refine r_get E 0 0 0 dX0_init_24 in_X0_init_X0 lk_X0_init_11 rfl rfl (by decide) rfl ?_
  refine r_iload_n E 0 dX0_init_27 rfl rfl ?_
  refine r_new E 2 [.null, .int (iJ (0)), .int (iJ (0))] tyX2 tyX2_ok dX0_init_28 in_X0_init_X2 ck_X0_init_cl9 ck_X0_init_itX2 ck_X0_init_iiX2 rfl (fun j hj => by rcases (show j = 0 ∨ j = 1 ∨ j = 2 by omega) with rfl | rfl | rfl <;> rfl) ⟨by decide, by decide⟩ 8 112 ⟨rfl, rfl⟩ hA ?_
  intro q_28_8
  refine r_cv (ws2 := [(i0, .inr (0, [.ref q_6_1, .int (iJ (0))])), (q_6_1, cR cP 4 (va_up (va_up (va_up (fun _ => none) (0 : Int).toNat (some q_28_2)) (1 : Int).toNat (some q_28_4)) (2 : Int).toNat (some q_28_6))), (q_28_2, .inr (2, [.ref h1_32_2, .int (iJ (0)), .int (iJ (2))])), (h1_32_2, cJ cI 32 (fun _ => 0)), (q_28_4, .inr (2, [.ref h1_32_4, .int (iJ (0)), .int (iJ (2))])), (h1_32_4, cJ cI 32 (fun _ => 0)), (q_28_6, .inr (2, [.ref h1_32_6, .int (iJ (0)), .int (iJ (2))])), (h1_32_6, cJ cI 32 (fun _ => 0)), (q_28_8, .inr (2, [.null, .int (iJ (0)), .int (iJ (0))]))]) rfl rfl rfl ?_
  refine r_dup E dX0_init_31 rfl ?_
  refine r_iMI E hao (st := [.ref q_28_8, .int (iJ (3)), .ref q_6_1]) (c_X2_init l D q_28_8 cI) gX0_init_X2_init kf_X2_init rfl ck_X0_init_ml17 ck_X0_init_imX2_init ck_X0_init_iniX2_init ⟨rfl, rfl⟩ ⟨by decide, by decide⟩ dX0_init_32 ⟨by decide, by decide⟩ 9 144 ⟨rfl, rfl⟩ [8] rfl (by decide) [0] rfl (Nat.le_of_ble_eq_true rfl) [(i0, .inr (0, [.ref q_6_1, .int (iJ (0))])), (q_6_1, cR cP 4 (va_up (va_up (va_up (fun _ => none) (0 : Int).toNat (some q_28_2)) (1 : Int).toNat (some q_28_4)) (2 : Int).toNat (some q_28_6))), (q_28_2, .inr (2, [.ref h1_32_2, .int (iJ (0)), .int (iJ (2))])), (h1_32_2, cJ cI 32 (fun _ => 0)), (q_28_4, .inr (2, [.ref h1_32_4, .int (iJ (0)), .int (iJ (2))])), (h1_32_4, cJ cI 32 (fun _ => 0)), (q_28_6, .inr (2, [.ref h1_32_6, .int (iJ (0)), .int (iJ (2))])), (h1_32_6, cJ cI 32 (fun _ => 0))] [0, 1, 2, 3, 4, 5, 6, 7] rfl (by decide) (by decide) hA [0, 1, 2, 3, 4, 5, 6, 7, 8, 9] (by decide) (fun (h1_32_8 : Nat) => [(i0, .inr (0, [.ref q_6_1, .int (iJ (0))])), (q_6_1, cR cP 4 (va_up (va_up (va_up (fun _ => none) (0 : Int).toNat (some q_28_2)) (1 : Int).toNat (some q_28_4)) (2 : Int).toNat (some q_28_6))), (q_28_2, .inr (2, [.ref h1_32_2, .int (iJ (0)), .int (iJ (2))])), (h1_32_2, cJ cI 32 (fun _ => 0)), (q_28_4, .inr (2, [.ref h1_32_4, .int (iJ (0)), .int (iJ (2))])), (h1_32_4, cJ cI 32 (fun _ => 0)), (q_28_6, .inr (2, [.ref h1_32_6, .int (iJ (0)), .int (iJ (2))])), (h1_32_6, cJ cI 32 (fun _ => 0)), (q_28_8, .inr (2, [.ref h1_32_8, .int (iJ (0)), .int (iJ (2))])), (h1_32_8, cJ cI 32 (fun _ => 0))]) (fun _ => rfl) ?_
  intro h1_32_8
  refine r_cv (ws2 := [(i0, .inr (0, [.ref q_6_1, .int (iJ (0))])), (q_6_1, cR cP 4 (va_up (va_up (va_up (fun _ => none) (0 : Int).toNat (some q_28_2)) (1 : Int).toNat (some q_28_4)) (2 : Int).toNat (some q_28_6))), (q_28_2, .inr (2, [.ref h1_32_2, .int (iJ (0)), .int (iJ (2))])), (h1_32_2, cJ cI 32 (fun _ => 0)), (q_28_4, .inr (2, [.ref h1_32_4, .int (iJ (0)), .int (iJ (2))])), (h1_32_4, cJ cI 32 (fun _ => 0)), (q_28_6, .inr (2, [.ref h1_32_6, .int (iJ (0)), .int (iJ (2))])), (h1_32_6, cJ cI 32 (fun _ => 0)), (q_28_8, .inr (2, [.ref h1_32_8, .int (iJ (0)), .int (iJ (2))])), (h1_32_8, cJ cI 32 (fun _ => 0))]) (st2 := [.ref q_28_8, .int (iJ (3)), .ref q_6_1]) rfl rfl rfl ?_
  refine r_astq E (i := 3) 1 1 8 2 dX0_init_35 rfl rfl rfl rfl (by decide) ⟨by omega, by omega⟩ [(i0, .inr (0, [.ref q_6_1, .int (iJ (0))])), (q_6_1, cR cP 4 (va_up (va_up (va_up (va_up (fun _ => none) (0 : Int).toNat (some q_28_2)) (1 : Int).toNat (some q_28_4)) (2 : Int).toNat (some q_28_6)) (3 : Int).toNat (some q_28_8))), (q_28_2, .inr (2, [.ref h1_32_2, .int (iJ (0)), .int (iJ (2))])), (h1_32_2, cJ cI 32 (fun _ => 0)), (q_28_4, .inr (2, [.ref h1_32_4, .int (iJ (0)), .int (iJ (2))])), (h1_32_4, cJ cI 32 (fun _ => 0)), (q_28_6, .inr (2, [.ref h1_32_6, .int (iJ (0)), .int (iJ (2))])), (h1_32_6, cJ cI 32 (fun _ => 0)), (q_28_8, .inr (2, [.ref h1_32_8, .int (iJ (0)), .int (iJ (2))])), (h1_32_8, cJ cI 32 (fun _ => 0))] rfl ?_
  refine r_iinc E (k := 0) [(1, .int (iJ (4))), (0, .ref i0)] dX0_init_36 rfl (by decide) rfl ?_
  refine r_goto E 14 dX0_init_39 (by decide) ?_
  refine r_iload_n E 0 dX0_init_14 rfl rfl ?_
  refine r_aload_n E 1 dX0_init_15 rfl rfl ?_
  refine r_get E 0 0 0 dX0_init_16 in_X0_init_X0 lk_X0_init_11 rfl rfl (by decide) rfl ?_
  refine r_alen E 1 1 4 dX0_init_19 rfl rfl rfl ?_
  refine r_top (b := 4) (by rfl) ?_
  refine r_icmp_ge E 42 dX0_init_20 (by decide) ⟨by omega, by omega⟩ ⟨by omega, by omega⟩ (fun c_20 => ?_) (fun c_20 => absurd c_20 (by omega))
  refine r_aload_n E 1 dX0_init_42 rfl rfl ?_
  refine r_iconst E 0 rfl dX0_init_43 ?_
  refine r_put E (ty := .int) 0 0 1 tyX0 tyX0_ok nmX0 dX0_init_44 in_X0_init_X0 lk_X0_init_18 rfl rfl (by decide) rfl (by decide +kernel) rfl rfl (Nat.le_of_ble_eq_true rfl) [(i0, .inr (0, [.ref q_6_1, .int (iJ (0))])), (q_6_1, cR cP 4 (va_up (va_up (va_up (va_up (fun _ => none) (0 : Int).toNat (some q_28_2)) (1 : Int).toNat (some q_28_4)) (2 : Int).toNat (some q_28_6)) (3 : Int).toNat (some q_28_8))), (q_28_2, .inr (2, [.ref h1_32_2, .int (iJ (0)), .int (iJ (2))])), (h1_32_2, cJ cI 32 (fun _ => 0)), (q_28_4, .inr (2, [.ref h1_32_4, .int (iJ (0)), .int (iJ (2))])), (h1_32_4, cJ cI 32 (fun _ => 0)), (q_28_6, .inr (2, [.ref h1_32_6, .int (iJ (0)), .int (iJ (2))])), (h1_32_6, cJ cI 32 (fun _ => 0)), (q_28_8, .inr (2, [.ref h1_32_8, .int (iJ (0)), .int (iJ (2))])), (h1_32_8, cJ cI 32 (fun _ => 0))] rfl ?_
  exact r_retMI E (q_6_1, (fun k => if k = 0 then q_28_2 else if k = 1 then q_28_4 else if k = 2 then q_28_6 else q_28_8), (fun k => if k = 0 then h1_32_2 else if k = 1 then h1_32_4 else if k = 2 then h1_32_6 else h1_32_8)) hr dX0_init_47 (by rw [hF_new]; rfl) hQ
theorem kf_X6_init : KF yX6_init 0 wsX6_init cX6_init 1 none := ⟨rfl, by decide +kernel, by decide +kernel, by decide +kernel⟩
def rm_X6_init : Room := { frames := 3, cells := 28, slots := 734, locals := 70 }
set_option maxRecDepth 20000 in
theorem ck_X6_init_o1 : Cond.methodLink RX6 1 Lib.objectInit ∈ wsX6_init := by decide +kernel
set_option maxRecDepth 20000 in
theorem ck_X6_init_o2 : Cond.instanceMethod Lib.objectInit ∈ wsX6_init := by decide +kernel
set_option maxRecDepth 20000 in
theorem ck_X6_init_o3 : Cond.code Lib.objectInit ⟨#[0xb1]⟩ 1 none ∈ wsX6_init := by decide +kernel
set_option maxRecDepth 20000 in
theorem in_X6_init_X2 : ∀ w ∈ u_ws RX2 TX2 3, w ∈ wsX6_init := by decide +kernel
set_option maxRecDepth 20000 in
theorem ck_X6_init_cl7 : Cond.classLink RX6 7 RX2 ∈ wsX6_init := by decide +kernel
set_option maxRecDepth 20000 in
theorem ck_X6_init_itX2 : Cond.instantiable RX2 3 ∈ wsX6_init := by decide +kernel
set_option maxRecDepth 20000 in
theorem ck_X6_init_iiX2 : Cond.initialized RX2 ∈ wsX6_init := by decide +kernel
set_option maxRecDepth 20000 in
theorem ck_X6_init_ml9 : Cond.methodLink RX6 9 yX2_init ∈ wsX6_init := by decide +kernel
set_option maxRecDepth 20000 in
theorem ck_X6_init_imX2_init : Cond.instanceMethod yX2_init ∈ wsX6_init := by decide +kernel
set_option maxRecDepth 20000 in
theorem ck_X6_init_iniX2_init : Cond.initialized yX2_init.cls ∈ wsX6_init := by decide +kernel
set_option maxRecDepth 20000 in
theorem in_X6_init_X6 : ∀ w ∈ u_ws RX6 TX6 9, w ∈ wsX6_init := by decide +kernel
set_option maxRecDepth 20000 in
theorem lk_X6_init_10 : Cond.fieldLink RX6 10 (TX6 0).1 (TX6 0).2.1 (TX6 0).2.2.1 ∈ wsX6_init := by decide +kernel
set_option maxRecDepth 20000 in
theorem lk_X6_init_16 : Cond.fieldLink RX6 16 (TX6 1).1 (TX6 1).2.1 (TX6 1).2.2.1 ∈ wsX6_init := by decide +kernel
set_option maxRecDepth 20000 in
theorem lk_X6_init_19 : Cond.fieldLink RX6 19 (TX6 2).1 (TX6 2).2.1 (TX6 2).2.2.1 ∈ wsX6_init := by decide +kernel
set_option maxRecDepth 20000 in
theorem in_X6_init_X0 : ∀ w ∈ u_ws RX0 TX0 2, w ∈ wsX6_init := by decide +kernel
set_option maxRecDepth 20000 in
theorem ck_X6_init_cl22 : Cond.classLink RX6 22 RX0 ∈ wsX6_init := by decide +kernel
set_option maxRecDepth 20000 in
theorem ck_X6_init_itX0 : Cond.instantiable RX0 2 ∈ wsX6_init := by decide +kernel
set_option maxRecDepth 20000 in
theorem ck_X6_init_iiX0 : Cond.initialized RX0 ∈ wsX6_init := by decide +kernel
set_option maxRecDepth 20000 in
theorem ck_X6_init_ml24 : Cond.methodLink RX6 24 yX0_init ∈ wsX6_init := by decide +kernel
set_option maxRecDepth 20000 in
theorem ck_X6_init_imX0_init : Cond.instanceMethod yX0_init ∈ wsX6_init := by decide +kernel
set_option maxRecDepth 20000 in
theorem ck_X6_init_iniX0_init : Cond.initialized yX0_init.cls ∈ wsX6_init := by decide +kernel
set_option maxRecDepth 20000 in
theorem lk_X6_init_25 : Cond.fieldLink RX6 25 (TX6 3).1 (TX6 3).2.1 (TX6 3).2.2.1 ∈ wsX6_init := by decide +kernel
set_option maxRecDepth 20000 in
theorem in_X6_init_X1 : ∀ w ∈ u_ws RX1 TX1 2, w ∈ wsX6_init := by decide +kernel
set_option maxRecDepth 20000 in
theorem ck_X6_init_cl29 : Cond.classLink RX6 29 RX1 ∈ wsX6_init := by decide +kernel
set_option maxRecDepth 20000 in
theorem ck_X6_init_itX1 : Cond.instantiable RX1 2 ∈ wsX6_init := by decide +kernel
set_option maxRecDepth 20000 in
theorem ck_X6_init_iiX1 : Cond.initialized RX1 ∈ wsX6_init := by decide +kernel
set_option maxRecDepth 20000 in
theorem ck_X6_init_ml31 : Cond.methodLink RX6 31 yX1_init ∈ wsX6_init := by decide +kernel
set_option maxRecDepth 20000 in
theorem ck_X6_init_imX1_init : Cond.instanceMethod yX1_init ∈ wsX6_init := by decide +kernel
set_option maxRecDepth 20000 in
theorem ck_X6_init_iniX1_init : Cond.initialized yX1_init.cls ∈ wsX6_init := by decide +kernel
set_option maxRecDepth 20000 in
theorem lk_X6_init_32 : Cond.fieldLink RX6 32 (TX6 4).1 (TX6 4).2.1 (TX6 4).2.2.1 ∈ wsX6_init := by decide +kernel
set_option maxRecDepth 20000 in
theorem in_X6_init_X4 : ∀ w ∈ u_ws RX4 TX4 2, w ∈ wsX6_init := by decide +kernel
set_option maxRecDepth 20000 in
theorem ck_X6_init_cl36 : Cond.classLink RX6 36 RX4 ∈ wsX6_init := by decide +kernel
set_option maxRecDepth 20000 in
theorem ck_X6_init_itX4 : Cond.instantiable RX4 2 ∈ wsX6_init := by decide +kernel
set_option maxRecDepth 20000 in
theorem ck_X6_init_iiX4 : Cond.initialized RX4 ∈ wsX6_init := by decide +kernel
set_option maxRecDepth 20000 in
theorem ck_X6_init_ml38 : Cond.methodLink RX6 38 yX4_init ∈ wsX6_init := by decide +kernel
set_option maxRecDepth 20000 in
theorem ck_X6_init_imX4_init : Cond.instanceMethod yX4_init ∈ wsX6_init := by decide +kernel
set_option maxRecDepth 20000 in
theorem ck_X6_init_iniX4_init : Cond.initialized yX4_init.cls ∈ wsX6_init := by decide +kernel
set_option maxRecDepth 20000 in
theorem lk_X6_init_39 : Cond.fieldLink RX6 39 (TX6 5).1 (TX6 5).2.1 (TX6 5).2.2.1 ∈ wsX6_init := by decide +kernel
set_option maxRecDepth 20000 in
theorem in_X6_init_X3 : ∀ w ∈ u_ws RX3 TX3 7, w ∈ wsX6_init := by decide +kernel
set_option maxRecDepth 20000 in
theorem ck_X6_init_cl43 : Cond.classLink RX6 43 RX3 ∈ wsX6_init := by decide +kernel
set_option maxRecDepth 20000 in
theorem ck_X6_init_itX3 : Cond.instantiable RX3 7 ∈ wsX6_init := by decide +kernel
set_option maxRecDepth 20000 in
theorem ck_X6_init_iiX3 : Cond.initialized RX3 ∈ wsX6_init := by decide +kernel
set_option maxRecDepth 20000 in
theorem ck_X6_init_ml45 : Cond.methodLink RX6 45 yX3_init ∈ wsX6_init := by decide +kernel
set_option maxRecDepth 20000 in
theorem ck_X6_init_imX3_init : Cond.instanceMethod yX3_init ∈ wsX6_init := by decide +kernel
set_option maxRecDepth 20000 in
theorem ck_X6_init_iniX3_init : Cond.initialized yX3_init.cls ∈ wsX6_init := by decide +kernel
set_option maxRecDepth 20000 in
theorem lk_X6_init_46 : Cond.fieldLink RX6 46 (TX6 6).1 (TX6 6).2.1 (TX6 6).2.2.1 ∈ wsX6_init := by decide +kernel
set_option maxRecDepth 20000 in
theorem lk_X6_init_50 : Cond.fieldLink RX6 50 (TX6 7).1 (TX6 7).2.1 (TX6 7).2.2.1 ∈ wsX6_init := by decide +kernel
set_option maxRecDepth 20000 in
theorem lk_X6_init_54 : Cond.fieldLink RX6 54 (TX6 8).1 (TX6 8).2.1 (TX6 8).2.2.1 ∈ wsX6_init := by decide +kernel
set_option maxHeartbeats 1000000 in
set_option maxRecDepth 100000 in
theorem c_X6_init (l : Launch) (D : va_G) (x0 : Nat) (cI : ClassId) (cP : ClassId) (cZ : ClassId)  : MI (S := Nat × Nat × Nat × Nat × Nat × Nat × Nat × Nat × (Nat → Nat) × (Nat → Nat) × Nat × Nat × Nat × Nat × Nat × Nat × Nat × Nat × Nat × Nat × Nat × Nat) l yX6_init wsX6_init rm_X6_init D vwCl [.ref x0] [(x0, .inr (5, [.null, .null, .null, .null, .null, .null, .null, .int (iJ (0)), .int (iJ (0))]))] [(cI, .int), (cP, .object "LeanSticks$Piece"), (cZ, .boolean)] 28 734 (fun (u : Nat × Nat × Nat × Nat × Nat × Nat × Nat × Nat × (Nat → Nat) × (Nat → Nat) × Nat × Nat × Nat × Nat × Nat × Nat × Nat × Nat × Nat × Nat × Nat × Nat) => [(x0, .inr (5, [.ref u.1, .ref u.2.2.1, .ref u.2.2.2.2.1, .ref u.2.2.2.2.2.2.1, .ref u.2.2.2.2.2.2.2.2.2.2.1, .ref u.2.2.2.2.2.2.2.2.2.2.2.2.1, .ref u.2.2.2.2.2.2.2.2.2.2.2.2.2.2.2.1, .int (iJ (0)), .int (iJ (0))])), (u.1, .inr (2, [.ref u.2.1, .int (iJ (0)), .int (iJ (2))])), (u.2.1, cJ cI 32 ((fun _ => 0))), (u.2.2.1, .inr (2, [.ref u.2.2.2.1, .int (iJ (0)), .int (iJ (2))])), (u.2.2.2.1, cJ cI 32 ((fun _ => 0))), (u.2.2.2.2.1, .inr (2, [.ref u.2.2.2.2.2.1, .int (iJ (0)), .int (iJ (2))])), (u.2.2.2.2.2.1, cJ cI 32 ((fun _ => 0))), (u.2.2.2.2.2.2.1, .inr (0, [.ref u.2.2.2.2.2.2.2.1, .int (iJ (0))])), (u.2.2.2.2.2.2.2.1, cR cP 4 (hF u.2.2.2.2.2.2.2.2.1)), ((u.2.2.2.2.2.2.2.2.1 0), .inr (2, [.ref (u.2.2.2.2.2.2.2.2.2.1 0), .int (iJ ((fun _ => (0 : Int)) 0)), .int (iJ ((fun _ => (2 : Int)) 0))])), ((u.2.2.2.2.2.2.2.2.2.1 0), cJ cI 32 ((fun _ _ => (0 : Int)) 0)), ((u.2.2.2.2.2.2.2.2.1 1), .inr (2, [.ref (u.2.2.2.2.2.2.2.2.2.1 1), .int (iJ ((fun _ => (0 : Int)) 1)), .int (iJ ((fun _ => (2 : Int)) 1))])), ((u.2.2.2.2.2.2.2.2.2.1 1), cJ cI 32 ((fun _ _ => (0 : Int)) 1)), ((u.2.2.2.2.2.2.2.2.1 2), .inr (2, [.ref (u.2.2.2.2.2.2.2.2.2.1 2), .int (iJ ((fun _ => (0 : Int)) 2)), .int (iJ ((fun _ => (2 : Int)) 2))])), ((u.2.2.2.2.2.2.2.2.2.1 2), cJ cI 32 ((fun _ _ => (0 : Int)) 2)), ((u.2.2.2.2.2.2.2.2.1 3), .inr (2, [.ref (u.2.2.2.2.2.2.2.2.2.1 3), .int (iJ ((fun _ => (0 : Int)) 3)), .int (iJ ((fun _ => (2 : Int)) 3))])), ((u.2.2.2.2.2.2.2.2.2.1 3), cJ cI 32 ((fun _ _ => (0 : Int)) 3)), (u.2.2.2.2.2.2.2.2.2.2.1, .inr (1, [.ref u.2.2.2.2.2.2.2.2.2.2.2.1, .int (iJ (0))])), (u.2.2.2.2.2.2.2.2.2.2.2.1, cJ cI 60 ((fun _ => 0))), (u.2.2.2.2.2.2.2.2.2.2.2.2.1, .inr (4, [.ref u.2.2.2.2.2.2.2.2.2.2.2.2.2.1, .ref u.2.2.2.2.2.2.2.2.2.2.2.2.2.2.1])), (u.2.2.2.2.2.2.2.2.2.2.2.2.2.1, cJ cI 60 ((fun _ => 0))), (u.2.2.2.2.2.2.2.2.2.2.2.2.2.2.1, cJ cI 60 ((fun _ => 0))), (u.2.2.2.2.2.2.2.2.2.2.2.2.2.2.2.1, .inr (3, [.ref u.2.2.2.2.2.2.2.2.2.2.2.2.2.2.2.2.1, .ref u.2.2.2.2.2.2.2.2.2.2.2.2.2.2.2.2.2.1, .ref u.2.2.2.2.2.2.2.2.2.2.2.2.2.2.2.2.2.2.1, .ref u.2.2.2.2.2.2.2.2.2.2.2.2.2.2.2.2.2.2.2.1, .ref u.2.2.2.2.2.2.2.2.2.2.2.2.2.2.2.2.2.2.2.2.1, .ref u.2.2.2.2.2.2.2.2.2.2.2.2.2.2.2.2.2.2.2.2.2, .int (iJ (0))])), (u.2.2.2.2.2.2.2.2.2.2.2.2.2.2.2.2.1, cJ cI 32 (nrA)), (u.2.2.2.2.2.2.2.2.2.2.2.2.2.2.2.2.2.1, cJ cI 32 ((fun _ => 0))), (u.2.2.2.2.2.2.2.2.2.2.2.2.2.2.2.2.2.2.1, cJ cZ 32 ((fun _ => 0))), (u.2.2.2.2.2.2.2.2.2.2.2.2.2.2.2.2.2.2.2.1, cJ cZ 32 ((fun _ => 0))), (u.2.2.2.2.2.2.2.2.2.2.2.2.2.2.2.2.2.2.2.2.1, cJ cI 32 ((fun _ => 0))), (u.2.2.2.2.2.2.2.2.2.2.2.2.2.2.2.2.2.2.2.2.2, cJ cI 132 ((fun _ => 0)))]) := by
  refine MI.mk (cc := cX6_init) (maxL := 1) (ret := none) (by decide) rfl (Nat.le_of_ble_eq_true rfl) rfl RX6 rfl rfl ?_
  intro p_ e_ s_ m_ ar_ bw_ mt_ cd_ B_ Q_ hA hao hin E hr hQ
  refine r_aload_n E 0 dX6_init_0 rfl rfl ?_
  refine r_objI E dX6_init_1 ck_X6_init_o1 ck_X6_init_o2 ck_X6_init_o3 (by decide) (by decide) (Nat.le_of_ble_eq_true rfl) ?_
  refine r_aload_n E 0 dX6_init_4 rfl rfl ?_
  refine r_new E 2 [.null, .int (iJ (0)), .int (iJ (0))] tyX2 tyX2_ok dX6_init_5 in_X6_init_X2 ck_X6_init_cl7 ck_X6_init_itX2 ck_X6_init_iiX2 rfl (fun j hj => by rcases (show j = 0 ∨ j = 1 ∨ j = 2 by omega) with rfl | rfl | rfl <;> rfl) ⟨by decide, by decide⟩ 1 3 ⟨rfl, rfl⟩ hA ?_
  intro q_5_1
  refine r_cv (ws2 := [(x0, .inr (5, [.null, .null, .null, .null, .null, .null, .null, .int (iJ (0)), .int (iJ (0))])), (q_5_1, .inr (2, [.null, .int (iJ (0)), .int (iJ (0))]))]) rfl rfl rfl ?_
  refine r_dup E dX6_init_8 rfl ?_
  refine r_iMI E hao (st := [.ref q_5_1, .ref x0]) (c_X2_init l D q_5_1 cI) gX6_init_X2_init kf_X2_init rfl ck_X6_init_ml9 ck_X6_init_imX2_init ck_X6_init_iniX2_init ⟨rfl, rfl⟩ ⟨by decide, by decide⟩ dX6_init_9 ⟨by decide, by decide⟩ 2 35 ⟨rfl, rfl⟩ [1] rfl (by decide) [0] rfl (Nat.le_of_ble_eq_true rfl) [(x0, .inr (5, [.null, .null, .null, .null, .null, .null, .null, .int (iJ (0)), .int (iJ (0))]))] [0] rfl (by decide) (by decide) hA [0, 1, 2] (by decide) (fun (h1_9_1 : Nat) => [(x0, .inr (5, [.null, .null, .null, .null, .null, .null, .null, .int (iJ (0)), .int (iJ (0))])), (q_5_1, .inr (2, [.ref h1_9_1, .int (iJ (0)), .int (iJ (2))])), (h1_9_1, cJ cI 32 (fun _ => 0))]) (fun _ => rfl) ?_
  intro h1_9_1
  refine r_cv (ws2 := [(x0, .inr (5, [.null, .null, .null, .null, .null, .null, .null, .int (iJ (0)), .int (iJ (0))])), (q_5_1, .inr (2, [.ref h1_9_1, .int (iJ (0)), .int (iJ (2))])), (h1_9_1, cJ cI 32 (fun _ => 0))]) (st2 := [.ref q_5_1, .ref x0]) rfl rfl rfl ?_
  refine r_putF E (ty := .object "LeanSticks$Piece") 5 0 0 tyX6 tyX6_ok nmX6 dX6_init_12 in_X6_init_X6 lk_X6_init_10 rfl rfl (by decide) rfl hin rfl (by decide +kernel) rfl rfl (Nat.le_of_ble_eq_true rfl) [(x0, .inr (5, [.ref q_5_1, .null, .null, .null, .null, .null, .null, .int (iJ (0)), .int (iJ (0))])), (q_5_1, .inr (2, [.ref h1_9_1, .int (iJ (0)), .int (iJ (2))])), (h1_9_1, cJ cI 32 (fun _ => 0))] rfl ?_
  refine r_aload_n E 0 dX6_init_15 rfl rfl ?_
  refine r_new E 2 [.null, .int (iJ (0)), .int (iJ (0))] tyX2 tyX2_ok dX6_init_16 in_X6_init_X2 ck_X6_init_cl7 ck_X6_init_itX2 ck_X6_init_iiX2 rfl (fun j hj => by rcases (show j = 0 ∨ j = 1 ∨ j = 2 by omega) with rfl | rfl | rfl <;> rfl) ⟨by decide, by decide⟩ 3 38 ⟨rfl, rfl⟩ hA ?_
  intro q_16_3
  refine r_cv (ws2 := [(x0, .inr (5, [.ref q_5_1, .null, .null, .null, .null, .null, .null, .int (iJ (0)), .int (iJ (0))])), (q_5_1, .inr (2, [.ref h1_9_1, .int (iJ (0)), .int (iJ (2))])), (h1_9_1, cJ cI 32 (fun _ => 0)), (q_16_3, .inr (2, [.null, .int (iJ (0)), .int (iJ (0))]))]) rfl rfl rfl ?_
  refine r_dup E dX6_init_19 rfl ?_
  refine r_iMI E hao (st := [.ref q_16_3, .ref x0]) (c_X2_init l D q_16_3 cI) gX6_init_X2_init kf_X2_init rfl ck_X6_init_ml9 ck_X6_init_imX2_init ck_X6_init_iniX2_init ⟨rfl, rfl⟩ ⟨by decide, by decide⟩ dX6_init_20 ⟨by decide, by decide⟩ 4 70 ⟨rfl, rfl⟩ [3] rfl (by decide) [0] rfl (Nat.le_of_ble_eq_true rfl) [(x0, .inr (5, [.ref q_5_1, .null, .null, .null, .null, .null, .null, .int (iJ (0)), .int (iJ (0))])), (q_5_1, .inr (2, [.ref h1_9_1, .int (iJ (0)), .int (iJ (2))])), (h1_9_1, cJ cI 32 (fun _ => 0))] [0, 1, 2] rfl (by decide) (by decide) hA [0, 1, 2, 3, 4] (by decide) (fun (h1_20_3 : Nat) => [(x0, .inr (5, [.ref q_5_1, .null, .null, .null, .null, .null, .null, .int (iJ (0)), .int (iJ (0))])), (q_5_1, .inr (2, [.ref h1_9_1, .int (iJ (0)), .int (iJ (2))])), (h1_9_1, cJ cI 32 (fun _ => 0)), (q_16_3, .inr (2, [.ref h1_20_3, .int (iJ (0)), .int (iJ (2))])), (h1_20_3, cJ cI 32 (fun _ => 0))]) (fun _ => rfl) ?_
  intro h1_20_3
  refine r_cv (ws2 := [(x0, .inr (5, [.ref q_5_1, .null, .null, .null, .null, .null, .null, .int (iJ (0)), .int (iJ (0))])), (q_5_1, .inr (2, [.ref h1_9_1, .int (iJ (0)), .int (iJ (2))])), (h1_9_1, cJ cI 32 (fun _ => 0)), (q_16_3, .inr (2, [.ref h1_20_3, .int (iJ (0)), .int (iJ (2))])), (h1_20_3, cJ cI 32 (fun _ => 0))]) (st2 := [.ref q_16_3, .ref x0]) rfl rfl rfl ?_
  refine r_putF E (ty := .object "LeanSticks$Piece") 5 0 1 tyX6 tyX6_ok nmX6 dX6_init_23 in_X6_init_X6 lk_X6_init_16 rfl rfl (by decide) rfl hin rfl (by decide +kernel) rfl rfl (Nat.le_of_ble_eq_true rfl) [(x0, .inr (5, [.ref q_5_1, .ref q_16_3, .null, .null, .null, .null, .null, .int (iJ (0)), .int (iJ (0))])), (q_5_1, .inr (2, [.ref h1_9_1, .int (iJ (0)), .int (iJ (2))])), (h1_9_1, cJ cI 32 (fun _ => 0)), (q_16_3, .inr (2, [.ref h1_20_3, .int (iJ (0)), .int (iJ (2))])), (h1_20_3, cJ cI 32 (fun _ => 0))] rfl ?_
  refine r_aload_n E 0 dX6_init_26 rfl rfl ?_
  refine r_new E 2 [.null, .int (iJ (0)), .int (iJ (0))] tyX2 tyX2_ok dX6_init_27 in_X6_init_X2 ck_X6_init_cl7 ck_X6_init_itX2 ck_X6_init_iiX2 rfl (fun j hj => by rcases (show j = 0 ∨ j = 1 ∨ j = 2 by omega) with rfl | rfl | rfl <;> rfl) ⟨by decide, by decide⟩ 5 73 ⟨rfl, rfl⟩ hA ?_
  intro q_27_5
  refine r_cv (ws2 := [(x0, .inr (5, [.ref q_5_1, .ref q_16_3, .null, .null, .null, .null, .null, .int (iJ (0)), .int (iJ (0))])), (q_5_1, .inr (2, [.ref h1_9_1, .int (iJ (0)), .int (iJ (2))])), (h1_9_1, cJ cI 32 (fun _ => 0)), (q_16_3, .inr (2, [.ref h1_20_3, .int (iJ (0)), .int (iJ (2))])), (h1_20_3, cJ cI 32 (fun _ => 0)), (q_27_5, .inr (2, [.null, .int (iJ (0)), .int (iJ (0))]))]) rfl rfl rfl ?_
  refine r_dup E dX6_init_30 rfl ?_
  refine r_iMI E hao (st := [.ref q_27_5, .ref x0]) (c_X2_init l D q_27_5 cI) gX6_init_X2_init kf_X2_init rfl ck_X6_init_ml9 ck_X6_init_imX2_init ck_X6_init_iniX2_init ⟨rfl, rfl⟩ ⟨by decide, by decide⟩ dX6_init_31 ⟨by decide, by decide⟩ 6 105 ⟨rfl, rfl⟩ [5] rfl (by decide) [0] rfl (Nat.le_of_ble_eq_true rfl) [(x0, .inr (5, [.ref q_5_1, .ref q_16_3, .null, .null, .null, .null, .null, .int (iJ (0)), .int (iJ (0))])), (q_5_1, .inr (2, [.ref h1_9_1, .int (iJ (0)), .int (iJ (2))])), (h1_9_1, cJ cI 32 (fun _ => 0)), (q_16_3, .inr (2, [.ref h1_20_3, .int (iJ (0)), .int (iJ (2))])), (h1_20_3, cJ cI 32 (fun _ => 0))] [0, 1, 2, 3, 4] rfl (by decide) (by decide) hA [0, 1, 2, 3, 4, 5, 6] (by decide) (fun (h1_31_5 : Nat) => [(x0, .inr (5, [.ref q_5_1, .ref q_16_3, .null, .null, .null, .null, .null, .int (iJ (0)), .int (iJ (0))])), (q_5_1, .inr (2, [.ref h1_9_1, .int (iJ (0)), .int (iJ (2))])), (h1_9_1, cJ cI 32 (fun _ => 0)), (q_16_3, .inr (2, [.ref h1_20_3, .int (iJ (0)), .int (iJ (2))])), (h1_20_3, cJ cI 32 (fun _ => 0)), (q_27_5, .inr (2, [.ref h1_31_5, .int (iJ (0)), .int (iJ (2))])), (h1_31_5, cJ cI 32 (fun _ => 0))]) (fun _ => rfl) ?_
  intro h1_31_5
  refine r_cv (ws2 := [(x0, .inr (5, [.ref q_5_1, .ref q_16_3, .null, .null, .null, .null, .null, .int (iJ (0)), .int (iJ (0))])), (q_5_1, .inr (2, [.ref h1_9_1, .int (iJ (0)), .int (iJ (2))])), (h1_9_1, cJ cI 32 (fun _ => 0)), (q_16_3, .inr (2, [.ref h1_20_3, .int (iJ (0)), .int (iJ (2))])), (h1_20_3, cJ cI 32 (fun _ => 0)), (q_27_5, .inr (2, [.ref h1_31_5, .int (iJ (0)), .int (iJ (2))])), (h1_31_5, cJ cI 32 (fun _ => 0))]) (st2 := [.ref q_27_5, .ref x0]) rfl rfl rfl ?_
  refine r_putF E (ty := .object "LeanSticks$Piece") 5 0 2 tyX6 tyX6_ok nmX6 dX6_init_34 in_X6_init_X6 lk_X6_init_19 rfl rfl (by decide) rfl hin rfl (by decide +kernel) rfl rfl (Nat.le_of_ble_eq_true rfl) [(x0, .inr (5, [.ref q_5_1, .ref q_16_3, .ref q_27_5, .null, .null, .null, .null, .int (iJ (0)), .int (iJ (0))])), (q_5_1, .inr (2, [.ref h1_9_1, .int (iJ (0)), .int (iJ (2))])), (h1_9_1, cJ cI 32 (fun _ => 0)), (q_16_3, .inr (2, [.ref h1_20_3, .int (iJ (0)), .int (iJ (2))])), (h1_20_3, cJ cI 32 (fun _ => 0)), (q_27_5, .inr (2, [.ref h1_31_5, .int (iJ (0)), .int (iJ (2))])), (h1_31_5, cJ cI 32 (fun _ => 0))] rfl ?_
  refine r_aload_n E 0 dX6_init_37 rfl rfl ?_
  refine r_new E 0 [.null, .int (iJ (0))] tyX0 tyX0_ok dX6_init_38 in_X6_init_X0 ck_X6_init_cl22 ck_X6_init_itX0 ck_X6_init_iiX0 rfl (fun j hj => by rcases (show j = 0 ∨ j = 1 by omega) with rfl | rfl <;> rfl) ⟨by decide, by decide⟩ 7 107 ⟨rfl, rfl⟩ hA ?_
  intro q_38_7
  refine r_cv (ws2 := [(x0, .inr (5, [.ref q_5_1, .ref q_16_3, .ref q_27_5, .null, .null, .null, .null, .int (iJ (0)), .int (iJ (0))])), (q_5_1, .inr (2, [.ref h1_9_1, .int (iJ (0)), .int (iJ (2))])), (h1_9_1, cJ cI 32 (fun _ => 0)), (q_16_3, .inr (2, [.ref h1_20_3, .int (iJ (0)), .int (iJ (2))])), (h1_20_3, cJ cI 32 (fun _ => 0)), (q_27_5, .inr (2, [.ref h1_31_5, .int (iJ (0)), .int (iJ (2))])), (h1_31_5, cJ cI 32 (fun _ => 0)), (q_38_7, .inr (0, [.null, .int (iJ (0))]))]) rfl rfl rfl ?_
  refine r_dup E dX6_init_41 rfl ?_
  refine r_iMI E hao (st := [.ref q_38_7, .ref x0]) (c_X0_init l D q_38_7 cI cP) gX6_init_X0_init kf_X0_init rfl ck_X6_init_ml24 ck_X6_init_imX0_init ck_X6_init_iniX0_init ⟨rfl, rfl⟩ ⟨by decide, by decide⟩ dX6_init_42 ⟨by decide, by decide⟩ 16 251 ⟨rfl, rfl⟩ [7] rfl (by decide) [0, 1] rfl (Nat.le_of_ble_eq_true rfl) [(x0, .inr (5, [.ref q_5_1, .ref q_16_3, .ref q_27_5, .null, .null, .null, .null, .int (iJ (0)), .int (iJ (0))])), (q_5_1, .inr (2, [.ref h1_9_1, .int (iJ (0)), .int (iJ (2))])), (h1_9_1, cJ cI 32 (fun _ => 0)), (q_16_3, .inr (2, [.ref h1_20_3, .int (iJ (0)), .int (iJ (2))])), (h1_20_3, cJ cI 32 (fun _ => 0)), (q_27_5, .inr (2, [.ref h1_31_5, .int (iJ (0)), .int (iJ (2))])), (h1_31_5, cJ cI 32 (fun _ => 0))] [0, 1, 2, 3, 4, 5, 6] rfl (by decide) (by decide) hA [0, 1, 2, 3, 4, 5, 6, 7, 8, 9, 10, 11, 12, 13, 14, 15, 16] (by decide) (fun u : Nat × (Nat → Nat) × (Nat → Nat) => [(x0, .inr (5, [.ref q_5_1, .ref q_16_3, .ref q_27_5, .null, .null, .null, .null, .int (iJ (0)), .int (iJ (0))])), (q_5_1, .inr (2, [.ref h1_9_1, .int (iJ (0)), .int (iJ (2))])), (h1_9_1, cJ cI 32 (fun _ => 0)), (q_16_3, .inr (2, [.ref h1_20_3, .int (iJ (0)), .int (iJ (2))])), (h1_20_3, cJ cI 32 (fun _ => 0)), (q_27_5, .inr (2, [.ref h1_31_5, .int (iJ (0)), .int (iJ (2))])), (h1_31_5, cJ cI 32 (fun _ => 0)), (q_38_7, .inr (0, [.ref u.1, .int (iJ (0))])), (u.1, cR cP 4 (hF u.2.1)), ((u.2.1 0), .inr (2, [.ref (u.2.2 0), .int (iJ ((fun _ => (0 : Int)) 0)), .int (iJ ((fun _ => (2 : Int)) 0))])), ((u.2.2 0), cJ cI 32 ((fun _ _ => (0 : Int)) 0)), ((u.2.1 1), .inr (2, [.ref (u.2.2 1), .int (iJ ((fun _ => (0 : Int)) 1)), .int (iJ ((fun _ => (2 : Int)) 1))])), ((u.2.2 1), cJ cI 32 ((fun _ _ => (0 : Int)) 1)), ((u.2.1 2), .inr (2, [.ref (u.2.2 2), .int (iJ ((fun _ => (0 : Int)) 2)), .int (iJ ((fun _ => (2 : Int)) 2))])), ((u.2.2 2), cJ cI 32 ((fun _ _ => (0 : Int)) 2)), ((u.2.1 3), .inr (2, [.ref (u.2.2 3), .int (iJ ((fun _ => (0 : Int)) 3)), .int (iJ ((fun _ => (2 : Int)) 3))])), ((u.2.2 3), cJ cI 32 ((fun _ _ => (0 : Int)) 3))]) (fun _ => rfl) ?_
  rintro ⟨i1_42_7, xa_42_7, ya_42_7⟩
  refine r_cv (ws2 := [(x0, .inr (5, [.ref q_5_1, .ref q_16_3, .ref q_27_5, .null, .null, .null, .null, .int (iJ (0)), .int (iJ (0))])), (q_5_1, .inr (2, [.ref h1_9_1, .int (iJ (0)), .int (iJ (2))])), (h1_9_1, cJ cI 32 (fun _ => 0)), (q_16_3, .inr (2, [.ref h1_20_3, .int (iJ (0)), .int (iJ (2))])), (h1_20_3, cJ cI 32 (fun _ => 0)), (q_27_5, .inr (2, [.ref h1_31_5, .int (iJ (0)), .int (iJ (2))])), (h1_31_5, cJ cI 32 (fun _ => 0)), (q_38_7, .inr (0, [.ref i1_42_7, .int (iJ (0))])), (i1_42_7, cR cP 4 (hF xa_42_7)), ((xa_42_7 0), .inr (2, [.ref (ya_42_7 0), .int (iJ ((fun _ => (0 : Int)) 0)), .int (iJ ((fun _ => (2 : Int)) 0))])), ((ya_42_7 0), cJ cI 32 ((fun _ _ => (0 : Int)) 0)), ((xa_42_7 1), .inr (2, [.ref (ya_42_7 1), .int (iJ ((fun _ => (0 : Int)) 1)), .int (iJ ((fun _ => (2 : Int)) 1))])), ((ya_42_7 1), cJ cI 32 ((fun _ _ => (0 : Int)) 1)), ((xa_42_7 2), .inr (2, [.ref (ya_42_7 2), .int (iJ ((fun _ => (0 : Int)) 2)), .int (iJ ((fun _ => (2 : Int)) 2))])), ((ya_42_7 2), cJ cI 32 ((fun _ _ => (0 : Int)) 2)), ((xa_42_7 3), .inr (2, [.ref (ya_42_7 3), .int (iJ ((fun _ => (0 : Int)) 3)), .int (iJ ((fun _ => (2 : Int)) 3))])), ((ya_42_7 3), cJ cI 32 ((fun _ _ => (0 : Int)) 3))]) (st2 := [.ref q_38_7, .ref x0]) rfl rfl rfl ?_
  refine r_putF E (ty := .object "LeanSticks$History") 5 0 3 tyX6 tyX6_ok nmX6 dX6_init_45 in_X6_init_X6 lk_X6_init_25 rfl rfl (by decide) rfl hin rfl (by decide +kernel) rfl rfl (Nat.le_of_ble_eq_true rfl) [(x0, .inr (5, [.ref q_5_1, .ref q_16_3, .ref q_27_5, .ref q_38_7, .null, .null, .null, .int (iJ (0)), .int (iJ (0))])), (q_5_1, .inr (2, [.ref h1_9_1, .int (iJ (0)), .int (iJ (2))])), (h1_9_1, cJ cI 32 (fun _ => 0)), (q_16_3, .inr (2, [.ref h1_20_3, .int (iJ (0)), .int (iJ (2))])), (h1_20_3, cJ cI 32 (fun _ => 0)), (q_27_5, .inr (2, [.ref h1_31_5, .int (iJ (0)), .int (iJ (2))])), (h1_31_5, cJ cI 32 (fun _ => 0)), (q_38_7, .inr (0, [.ref i1_42_7, .int (iJ (0))])), (i1_42_7, cR cP 4 (hF xa_42_7)), ((xa_42_7 0), .inr (2, [.ref (ya_42_7 0), .int (iJ ((fun _ => (0 : Int)) 0)), .int (iJ ((fun _ => (2 : Int)) 0))])), ((ya_42_7 0), cJ cI 32 ((fun _ _ => (0 : Int)) 0)), ((xa_42_7 1), .inr (2, [.ref (ya_42_7 1), .int (iJ ((fun _ => (0 : Int)) 1)), .int (iJ ((fun _ => (2 : Int)) 1))])), ((ya_42_7 1), cJ cI 32 ((fun _ _ => (0 : Int)) 1)), ((xa_42_7 2), .inr (2, [.ref (ya_42_7 2), .int (iJ ((fun _ => (0 : Int)) 2)), .int (iJ ((fun _ => (2 : Int)) 2))])), ((ya_42_7 2), cJ cI 32 ((fun _ _ => (0 : Int)) 2)), ((xa_42_7 3), .inr (2, [.ref (ya_42_7 3), .int (iJ ((fun _ => (0 : Int)) 3)), .int (iJ ((fun _ => (2 : Int)) 3))])), ((ya_42_7 3), cJ cI 32 ((fun _ _ => (0 : Int)) 3))] rfl ?_
  refine r_aload_n E 0 dX6_init_48 rfl rfl ?_
  refine r_new E 1 [.null, .int (iJ (0))] tyX1 tyX1_ok dX6_init_49 in_X6_init_X1 ck_X6_init_cl29 ck_X6_init_itX1 ck_X6_init_iiX1 rfl (fun j hj => by rcases (show j = 0 ∨ j = 1 by omega) with rfl | rfl <;> rfl) ⟨by decide, by decide⟩ 17 253 ⟨rfl, rfl⟩ hA ?_
  intro q_49_17
  refine r_cv (ws2 := [(x0, .inr (5, [.ref q_5_1, .ref q_16_3, .ref q_27_5, .ref q_38_7, .null, .null, .null, .int (iJ (0)), .int (iJ (0))])), (q_5_1, .inr (2, [.ref h1_9_1, .int (iJ (0)), .int (iJ (2))])), (h1_9_1, cJ cI 32 (fun _ => 0)), (q_16_3, .inr (2, [.ref h1_20_3, .int (iJ (0)), .int (iJ (2))])), (h1_20_3, cJ cI 32 (fun _ => 0)), (q_27_5, .inr (2, [.ref h1_31_5, .int (iJ (0)), .int (iJ (2))])), (h1_31_5, cJ cI 32 (fun _ => 0)), (q_38_7, .inr (0, [.ref i1_42_7, .int (iJ (0))])), (i1_42_7, cR cP 4 (hF xa_42_7)), ((xa_42_7 0), .inr (2, [.ref (ya_42_7 0), .int (iJ ((fun _ => (0 : Int)) 0)), .int (iJ ((fun _ => (2 : Int)) 0))])), ((ya_42_7 0), cJ cI 32 ((fun _ _ => (0 : Int)) 0)), ((xa_42_7 1), .inr (2, [.ref (ya_42_7 1), .int (iJ ((fun _ => (0 : Int)) 1)), .int (iJ ((fun _ => (2 : Int)) 1))])), ((ya_42_7 1), cJ cI 32 ((fun _ _ => (0 : Int)) 1)), ((xa_42_7 2), .inr (2, [.ref (ya_42_7 2), .int (iJ ((fun _ => (0 : Int)) 2)), .int (iJ ((fun _ => (2 : Int)) 2))])), ((ya_42_7 2), cJ cI 32 ((fun _ _ => (0 : Int)) 2)), ((xa_42_7 3), .inr (2, [.ref (ya_42_7 3), .int (iJ ((fun _ => (0 : Int)) 3)), .int (iJ ((fun _ => (2 : Int)) 3))])), ((ya_42_7 3), cJ cI 32 ((fun _ _ => (0 : Int)) 3)), (q_49_17, .inr (1, [.null, .int (iJ (0))]))]) rfl rfl rfl ?_
  refine r_dup E dX6_init_52 rfl ?_
  refine r_iMI E hao (st := [.ref q_49_17, .ref x0]) (c_X1_init l D q_49_17 cI) gX6_init_X1_init kf_X1_init rfl ck_X6_init_ml31 ck_X6_init_imX1_init ck_X6_init_iniX1_init ⟨rfl, rfl⟩ ⟨by decide, by decide⟩ dX6_init_53 ⟨by decide, by decide⟩ 18 313 ⟨rfl, rfl⟩ [17] rfl (by decide) [0] rfl (Nat.le_of_ble_eq_true rfl) [(x0, .inr (5, [.ref q_5_1, .ref q_16_3, .ref q_27_5, .ref q_38_7, .null, .null, .null, .int (iJ (0)), .int (iJ (0))])), (q_5_1, .inr (2, [.ref h1_9_1, .int (iJ (0)), .int (iJ (2))])), (h1_9_1, cJ cI 32 (fun _ => 0)), (q_16_3, .inr (2, [.ref h1_20_3, .int (iJ (0)), .int (iJ (2))])), (h1_20_3, cJ cI 32 (fun _ => 0)), (q_27_5, .inr (2, [.ref h1_31_5, .int (iJ (0)), .int (iJ (2))])), (h1_31_5, cJ cI 32 (fun _ => 0)), (q_38_7, .inr (0, [.ref i1_42_7, .int (iJ (0))])), (i1_42_7, cR cP 4 (hF xa_42_7)), ((xa_42_7 0), .inr (2, [.ref (ya_42_7 0), .int (iJ ((fun _ => (0 : Int)) 0)), .int (iJ ((fun _ => (2 : Int)) 0))])), ((ya_42_7 0), cJ cI 32 ((fun _ _ => (0 : Int)) 0)), ((xa_42_7 1), .inr (2, [.ref (ya_42_7 1), .int (iJ ((fun _ => (0 : Int)) 1)), .int (iJ ((fun _ => (2 : Int)) 1))])), ((ya_42_7 1), cJ cI 32 ((fun _ _ => (0 : Int)) 1)), ((xa_42_7 2), .inr (2, [.ref (ya_42_7 2), .int (iJ ((fun _ => (0 : Int)) 2)), .int (iJ ((fun _ => (2 : Int)) 2))])), ((ya_42_7 2), cJ cI 32 ((fun _ _ => (0 : Int)) 2)), ((xa_42_7 3), .inr (2, [.ref (ya_42_7 3), .int (iJ ((fun _ => (0 : Int)) 3)), .int (iJ ((fun _ => (2 : Int)) 3))])), ((ya_42_7 3), cJ cI 32 ((fun _ _ => (0 : Int)) 3))] [0, 1, 2, 3, 4, 5, 6, 7, 8, 9, 10, 11, 12, 13, 14, 15, 16] rfl (by decide) (by decide) hA [0, 1, 2, 3, 4, 5, 6, 7, 8, 9, 10, 11, 12, 13, 14, 15, 16, 17, 18] (by decide) (fun (h1_53_17 : Nat) => [(x0, .inr (5, [.ref q_5_1, .ref q_16_3, .ref q_27_5, .ref q_38_7, .null, .null, .null, .int (iJ (0)), .int (iJ (0))])), (q_5_1, .inr (2, [.ref h1_9_1, .int (iJ (0)), .int (iJ (2))])), (h1_9_1, cJ cI 32 (fun _ => 0)), (q_16_3, .inr (2, [.ref h1_20_3, .int (iJ (0)), .int (iJ (2))])), (h1_20_3, cJ cI 32 (fun _ => 0)), (q_27_5, .inr (2, [.ref h1_31_5, .int (iJ (0)), .int (iJ (2))])), (h1_31_5, cJ cI 32 (fun _ => 0)), (q_38_7, .inr (0, [.ref i1_42_7, .int (iJ (0))])), (i1_42_7, cR cP 4 (hF xa_42_7)), ((xa_42_7 0), .inr (2, [.ref (ya_42_7 0), .int (iJ ((fun _ => (0 : Int)) 0)), .int (iJ ((fun _ => (2 : Int)) 0))])), ((ya_42_7 0), cJ cI 32 ((fun _ _ => (0 : Int)) 0)), ((xa_42_7 1), .inr (2, [.ref (ya_42_7 1), .int (iJ ((fun _ => (0 : Int)) 1)), .int (iJ ((fun _ => (2 : Int)) 1))])), ((ya_42_7 1), cJ cI 32 ((fun _ _ => (0 : Int)) 1)), ((xa_42_7 2), .inr (2, [.ref (ya_42_7 2), .int (iJ ((fun _ => (0 : Int)) 2)), .int (iJ ((fun _ => (2 : Int)) 2))])), ((ya_42_7 2), cJ cI 32 ((fun _ _ => (0 : Int)) 2)), ((xa_42_7 3), .inr (2, [.ref (ya_42_7 3), .int (iJ ((fun _ => (0 : Int)) 3)), .int (iJ ((fun _ => (2 : Int)) 3))])), ((ya_42_7 3), cJ cI 32 ((fun _ _ => (0 : Int)) 3)), (q_49_17, .inr (1, [.ref h1_53_17, .int (iJ (0))])), (h1_53_17, cJ cI 60 (fun _ => 0))]) (fun _ => rfl) ?_
  intro h1_53_17
  refine r_cv (ws2 := [(x0, .inr (5, [.ref q_5_1, .ref q_16_3, .ref q_27_5, .ref q_38_7, .null, .null, .null, .int (iJ (0)), .int (iJ (0))])), (q_5_1, .inr (2, [.ref h1_9_1, .int (iJ (0)), .int (iJ (2))])), (h1_9_1, cJ cI 32 (fun _ => 0)), (q_16_3, .inr (2, [.ref h1_20_3, .int (iJ (0)), .int (iJ (2))])), (h1_20_3, cJ cI 32 (fun _ => 0)), (q_27_5, .inr (2, [.ref h1_31_5, .int (iJ (0)), .int (iJ (2))])), (h1_31_5, cJ cI 32 (fun _ => 0)), (q_38_7, .inr (0, [.ref i1_42_7, .int (iJ (0))])), (i1_42_7, cR cP 4 (hF xa_42_7)), ((xa_42_7 0), .inr (2, [.ref (ya_42_7 0), .int (iJ ((fun _ => (0 : Int)) 0)), .int (iJ ((fun _ => (2 : Int)) 0))])), ((ya_42_7 0), cJ cI 32 ((fun _ _ => (0 : Int)) 0)), ((xa_42_7 1), .inr (2, [.ref (ya_42_7 1), .int (iJ ((fun _ => (0 : Int)) 1)), .int (iJ ((fun _ => (2 : Int)) 1))])), ((ya_42_7 1), cJ cI 32 ((fun _ _ => (0 : Int)) 1)), ((xa_42_7 2), .inr (2, [.ref (ya_42_7 2), .int (iJ ((fun _ => (0 : Int)) 2)), .int (iJ ((fun _ => (2 : Int)) 2))])), ((ya_42_7 2), cJ cI 32 ((fun _ _ => (0 : Int)) 2)), ((xa_42_7 3), .inr (2, [.ref (ya_42_7 3), .int (iJ ((fun _ => (0 : Int)) 3)), .int (iJ ((fun _ => (2 : Int)) 3))])), ((ya_42_7 3), cJ cI 32 ((fun _ _ => (0 : Int)) 3)), (q_49_17, .inr (1, [.ref h1_53_17, .int (iJ (0))])), (h1_53_17, cJ cI 60 (fun _ => 0))]) (st2 := [.ref q_49_17, .ref x0]) rfl rfl rfl ?_
  refine r_putF E (ty := .object "LeanSticks$Pad") 5 0 4 tyX6 tyX6_ok nmX6 dX6_init_56 in_X6_init_X6 lk_X6_init_32 rfl rfl (by decide) rfl hin rfl (by decide +kernel) rfl rfl (Nat.le_of_ble_eq_true rfl) [(x0, .inr (5, [.ref q_5_1, .ref q_16_3, .ref q_27_5, .ref q_38_7, .ref q_49_17, .null, .null, .int (iJ (0)), .int (iJ (0))])), (q_5_1, .inr (2, [.ref h1_9_1, .int (iJ (0)), .int (iJ (2))])), (h1_9_1, cJ cI 32 (fun _ => 0)), (q_16_3, .inr (2, [.ref h1_20_3, .int (iJ (0)), .int (iJ (2))])), (h1_20_3, cJ cI 32 (fun _ => 0)), (q_27_5, .inr (2, [.ref h1_31_5, .int (iJ (0)), .int (iJ (2))])), (h1_31_5, cJ cI 32 (fun _ => 0)), (q_38_7, .inr (0, [.ref i1_42_7, .int (iJ (0))])), (i1_42_7, cR cP 4 (hF xa_42_7)), ((xa_42_7 0), .inr (2, [.ref (ya_42_7 0), .int (iJ ((fun _ => (0 : Int)) 0)), .int (iJ ((fun _ => (2 : Int)) 0))])), ((ya_42_7 0), cJ cI 32 ((fun _ _ => (0 : Int)) 0)), ((xa_42_7 1), .inr (2, [.ref (ya_42_7 1), .int (iJ ((fun _ => (0 : Int)) 1)), .int (iJ ((fun _ => (2 : Int)) 1))])), ((ya_42_7 1), cJ cI 32 ((fun _ _ => (0 : Int)) 1)), ((xa_42_7 2), .inr (2, [.ref (ya_42_7 2), .int (iJ ((fun _ => (0 : Int)) 2)), .int (iJ ((fun _ => (2 : Int)) 2))])), ((ya_42_7 2), cJ cI 32 ((fun _ _ => (0 : Int)) 2)), ((xa_42_7 3), .inr (2, [.ref (ya_42_7 3), .int (iJ ((fun _ => (0 : Int)) 3)), .int (iJ ((fun _ => (2 : Int)) 3))])), ((ya_42_7 3), cJ cI 32 ((fun _ _ => (0 : Int)) 3)), (q_49_17, .inr (1, [.ref h1_53_17, .int (iJ (0))])), (h1_53_17, cJ cI 60 (fun _ => 0))] rfl ?_
  refine r_aload_n E 0 dX6_init_59 rfl rfl ?_
  refine r_new E 4 [.null, .null] tyX4 tyX4_ok dX6_init_60 in_X6_init_X4 ck_X6_init_cl36 ck_X6_init_itX4 ck_X6_init_iiX4 rfl (fun j hj => by rcases (show j = 0 ∨ j = 1 by omega) with rfl | rfl <;> rfl) ⟨by decide, by decide⟩ 19 315 ⟨rfl, rfl⟩ hA ?_
  intro q_60_19
  refine r_cv (ws2 := [(x0, .inr (5, [.ref q_5_1, .ref q_16_3, .ref q_27_5, .ref q_38_7, .ref q_49_17, .null, .null, .int (iJ (0)), .int (iJ (0))])), (q_5_1, .inr (2, [.ref h1_9_1, .int (iJ (0)), .int (iJ (2))])), (h1_9_1, cJ cI 32 (fun _ => 0)), (q_16_3, .inr (2, [.ref h1_20_3, .int (iJ (0)), .int (iJ (2))])), (h1_20_3, cJ cI 32 (fun _ => 0)), (q_27_5, .inr (2, [.ref h1_31_5, .int (iJ (0)), .int (iJ (2))])), (h1_31_5, cJ cI 32 (fun _ => 0)), (q_38_7, .inr (0, [.ref i1_42_7, .int (iJ (0))])), (i1_42_7, cR cP 4 (hF xa_42_7)), ((xa_42_7 0), .inr (2, [.ref (ya_42_7 0), .int (iJ ((fun _ => (0 : Int)) 0)), .int (iJ ((fun _ => (2 : Int)) 0))])), ((ya_42_7 0), cJ cI 32 ((fun _ _ => (0 : Int)) 0)), ((xa_42_7 1), .inr (2, [.ref (ya_42_7 1), .int (iJ ((fun _ => (0 : Int)) 1)), .int (iJ ((fun _ => (2 : Int)) 1))])), ((ya_42_7 1), cJ cI 32 ((fun _ _ => (0 : Int)) 1)), ((xa_42_7 2), .inr (2, [.ref (ya_42_7 2), .int (iJ ((fun _ => (0 : Int)) 2)), .int (iJ ((fun _ => (2 : Int)) 2))])), ((ya_42_7 2), cJ cI 32 ((fun _ _ => (0 : Int)) 2)), ((xa_42_7 3), .inr (2, [.ref (ya_42_7 3), .int (iJ ((fun _ => (0 : Int)) 3)), .int (iJ ((fun _ => (2 : Int)) 3))])), ((ya_42_7 3), cJ cI 32 ((fun _ _ => (0 : Int)) 3)), (q_49_17, .inr (1, [.ref h1_53_17, .int (iJ (0))])), (h1_53_17, cJ cI 60 (fun _ => 0)), (q_60_19, .inr (4, [.null, .null]))]) rfl rfl rfl ?_
  refine r_dup E dX6_init_63 rfl ?_
  refine r_iMI E hao (st := [.ref q_60_19, .ref x0]) (c_X4_init l D q_60_19 cI) gX6_init_X4_init kf_X4_init rfl ck_X6_init_ml38 ck_X6_init_imX4_init ck_X6_init_iniX4_init ⟨rfl, rfl⟩ ⟨by decide, by decide⟩ dX6_init_64 ⟨by decide, by decide⟩ 21 435 ⟨rfl, rfl⟩ [19] rfl (by decide) [0] rfl (Nat.le_of_ble_eq_true rfl) [(x0, .inr (5, [.ref q_5_1, .ref q_16_3, .ref q_27_5, .ref q_38_7, .ref q_49_17, .null, .null, .int (iJ (0)), .int (iJ (0))])), (q_5_1, .inr (2, [.ref h1_9_1, .int (iJ (0)), .int (iJ (2))])), (h1_9_1, cJ cI 32 (fun _ => 0)), (q_16_3, .inr (2, [.ref h1_20_3, .int (iJ (0)), .int (iJ (2))])), (h1_20_3, cJ cI 32 (fun _ => 0)), (q_27_5, .inr (2, [.ref h1_31_5, .int (iJ (0)), .int (iJ (2))])), (h1_31_5, cJ cI 32 (fun _ => 0)), (q_38_7, .inr (0, [.ref i1_42_7, .int (iJ (0))])), (i1_42_7, cR cP 4 (hF xa_42_7)), ((xa_42_7 0), .inr (2, [.ref (ya_42_7 0), .int (iJ ((fun _ => (0 : Int)) 0)), .int (iJ ((fun _ => (2 : Int)) 0))])), ((ya_42_7 0), cJ cI 32 ((fun _ _ => (0 : Int)) 0)), ((xa_42_7 1), .inr (2, [.ref (ya_42_7 1), .int (iJ ((fun _ => (0 : Int)) 1)), .int (iJ ((fun _ => (2 : Int)) 1))])), ((ya_42_7 1), cJ cI 32 ((fun _ _ => (0 : Int)) 1)), ((xa_42_7 2), .inr (2, [.ref (ya_42_7 2), .int (iJ ((fun _ => (0 : Int)) 2)), .int (iJ ((fun _ => (2 : Int)) 2))])), ((ya_42_7 2), cJ cI 32 ((fun _ _ => (0 : Int)) 2)), ((xa_42_7 3), .inr (2, [.ref (ya_42_7 3), .int (iJ ((fun _ => (0 : Int)) 3)), .int (iJ ((fun _ => (2 : Int)) 3))])), ((ya_42_7 3), cJ cI 32 ((fun _ _ => (0 : Int)) 3)), (q_49_17, .inr (1, [.ref h1_53_17, .int (iJ (0))])), (h1_53_17, cJ cI 60 (fun _ => 0))] [0, 1, 2, 3, 4, 5, 6, 7, 8, 9, 10, 11, 12, 13, 14, 15, 16, 17, 18] rfl (by decide) (by decide) hA [0, 1, 2, 3, 4, 5, 6, 7, 8, 9, 10, 11, 12, 13, 14, 15, 16, 17, 18, 19, 20, 21] (by decide) (fun u : Nat × Nat => [(x0, .inr (5, [.ref q_5_1, .ref q_16_3, .ref q_27_5, .ref q_38_7, .ref q_49_17, .null, .null, .int (iJ (0)), .int (iJ (0))])), (q_5_1, .inr (2, [.ref h1_9_1, .int (iJ (0)), .int (iJ (2))])), (h1_9_1, cJ cI 32 (fun _ => 0)), (q_16_3, .inr (2, [.ref h1_20_3, .int (iJ (0)), .int (iJ (2))])), (h1_20_3, cJ cI 32 (fun _ => 0)), (q_27_5, .inr (2, [.ref h1_31_5, .int (iJ (0)), .int (iJ (2))])), (h1_31_5, cJ cI 32 (fun _ => 0)), (q_38_7, .inr (0, [.ref i1_42_7, .int (iJ (0))])), (i1_42_7, cR cP 4 (hF xa_42_7)), ((xa_42_7 0), .inr (2, [.ref (ya_42_7 0), .int (iJ ((fun _ => (0 : Int)) 0)), .int (iJ ((fun _ => (2 : Int)) 0))])), ((ya_42_7 0), cJ cI 32 ((fun _ _ => (0 : Int)) 0)), ((xa_42_7 1), .inr (2, [.ref (ya_42_7 1), .int (iJ ((fun _ => (0 : Int)) 1)), .int (iJ ((fun _ => (2 : Int)) 1))])), ((ya_42_7 1), cJ cI 32 ((fun _ _ => (0 : Int)) 1)), ((xa_42_7 2), .inr (2, [.ref (ya_42_7 2), .int (iJ ((fun _ => (0 : Int)) 2)), .int (iJ ((fun _ => (2 : Int)) 2))])), ((ya_42_7 2), cJ cI 32 ((fun _ _ => (0 : Int)) 2)), ((xa_42_7 3), .inr (2, [.ref (ya_42_7 3), .int (iJ ((fun _ => (0 : Int)) 3)), .int (iJ ((fun _ => (2 : Int)) 3))])), ((ya_42_7 3), cJ cI 32 ((fun _ _ => (0 : Int)) 3)), (q_49_17, .inr (1, [.ref h1_53_17, .int (iJ (0))])), (h1_53_17, cJ cI 60 (fun _ => 0)), (q_60_19, .inr (4, [.ref u.1, .ref u.2])), (u.1, cJ cI 60 (fun _ => 0)), (u.2, cJ cI 60 (fun _ => 0))]) (fun _ => rfl) ?_
  rintro ⟨r1_64_19, r2_64_19⟩
  refine r_cv (ws2 := [(x0, .inr (5, [.ref q_5_1, .ref q_16_3, .ref q_27_5, .ref q_38_7, .ref q_49_17, .null, .null, .int (iJ (0)), .int (iJ (0))])), (q_5_1, .inr (2, [.ref h1_9_1, .int (iJ (0)), .int (iJ (2))])), (h1_9_1, cJ cI 32 (fun _ => 0)), (q_16_3, .inr (2, [.ref h1_20_3, .int (iJ (0)), .int (iJ (2))])), (h1_20_3, cJ cI 32 (fun _ => 0)), (q_27_5, .inr (2, [.ref h1_31_5, .int (iJ (0)), .int (iJ (2))])), (h1_31_5, cJ cI 32 (fun _ => 0)), (q_38_7, .inr (0, [.ref i1_42_7, .int (iJ (0))])), (i1_42_7, cR cP 4 (hF xa_42_7)), ((xa_42_7 0), .inr (2, [.ref (ya_42_7 0), .int (iJ ((fun _ => (0 : Int)) 0)), .int (iJ ((fun _ => (2 : Int)) 0))])), ((ya_42_7 0), cJ cI 32 ((fun _ _ => (0 : Int)) 0)), ((xa_42_7 1), .inr (2, [.ref (ya_42_7 1), .int (iJ ((fun _ => (0 : Int)) 1)), .int (iJ ((fun _ => (2 : Int)) 1))])), ((ya_42_7 1), cJ cI 32 ((fun _ _ => (0 : Int)) 1)), ((xa_42_7 2), .inr (2, [.ref (ya_42_7 2), .int (iJ ((fun _ => (0 : Int)) 2)), .int (iJ ((fun _ => (2 : Int)) 2))])), ((ya_42_7 2), cJ cI 32 ((fun _ _ => (0 : Int)) 2)), ((xa_42_7 3), .inr (2, [.ref (ya_42_7 3), .int (iJ ((fun _ => (0 : Int)) 3)), .int (iJ ((fun _ => (2 : Int)) 3))])), ((ya_42_7 3), cJ cI 32 ((fun _ _ => (0 : Int)) 3)), (q_49_17, .inr (1, [.ref h1_53_17, .int (iJ (0))])), (h1_53_17, cJ cI 60 (fun _ => 0)), (q_60_19, .inr (4, [.ref r1_64_19, .ref r2_64_19])), (r1_64_19, cJ cI 60 (fun _ => 0)), (r2_64_19, cJ cI 60 (fun _ => 0))]) (st2 := [.ref q_60_19, .ref x0]) rfl rfl rfl ?_
  refine r_putF E (ty := .object "LeanSticks$Reader") 5 0 5 tyX6 tyX6_ok nmX6 dX6_init_67 in_X6_init_X6 lk_X6_init_39 rfl rfl (by decide) rfl hin rfl (by decide +kernel) rfl rfl (Nat.le_of_ble_eq_true rfl) [(x0, .inr (5, [.ref q_5_1, .ref q_16_3, .ref q_27_5, .ref q_38_7, .ref q_49_17, .ref q_60_19, .null, .int (iJ (0)), .int (iJ (0))])), (q_5_1, .inr (2, [.ref h1_9_1, .int (iJ (0)), .int (iJ (2))])), (h1_9_1, cJ cI 32 (fun _ => 0)), (q_16_3, .inr (2, [.ref h1_20_3, .int (iJ (0)), .int (iJ (2))])), (h1_20_3, cJ cI 32 (fun _ => 0)), (q_27_5, .inr (2, [.ref h1_31_5, .int (iJ (0)), .int (iJ (2))])), (h1_31_5, cJ cI 32 (fun _ => 0)), (q_38_7, .inr (0, [.ref i1_42_7, .int (iJ (0))])), (i1_42_7, cR cP 4 (hF xa_42_7)), ((xa_42_7 0), .inr (2, [.ref (ya_42_7 0), .int (iJ ((fun _ => (0 : Int)) 0)), .int (iJ ((fun _ => (2 : Int)) 0))])), ((ya_42_7 0), cJ cI 32 ((fun _ _ => (0 : Int)) 0)), ((xa_42_7 1), .inr (2, [.ref (ya_42_7 1), .int (iJ ((fun _ => (0 : Int)) 1)), .int (iJ ((fun _ => (2 : Int)) 1))])), ((ya_42_7 1), cJ cI 32 ((fun _ _ => (0 : Int)) 1)), ((xa_42_7 2), .inr (2, [.ref (ya_42_7 2), .int (iJ ((fun _ => (0 : Int)) 2)), .int (iJ ((fun _ => (2 : Int)) 2))])), ((ya_42_7 2), cJ cI 32 ((fun _ _ => (0 : Int)) 2)), ((xa_42_7 3), .inr (2, [.ref (ya_42_7 3), .int (iJ ((fun _ => (0 : Int)) 3)), .int (iJ ((fun _ => (2 : Int)) 3))])), ((ya_42_7 3), cJ cI 32 ((fun _ _ => (0 : Int)) 3)), (q_49_17, .inr (1, [.ref h1_53_17, .int (iJ (0))])), (h1_53_17, cJ cI 60 (fun _ => 0)), (q_60_19, .inr (4, [.ref r1_64_19, .ref r2_64_19])), (r1_64_19, cJ cI 60 (fun _ => 0)), (r2_64_19, cJ cI 60 (fun _ => 0))] rfl ?_
  refine r_aload_n E 0 dX6_init_70 rfl rfl ?_
  refine r_new E 3 [.null, .null, .null, .null, .null, .null, .int (iJ (0))] tyX3 tyX3_ok dX6_init_71 in_X6_init_X3 ck_X6_init_cl43 ck_X6_init_itX3 ck_X6_init_iiX3 rfl (fun j hj => by rcases (show j = 0 ∨ j = 1 ∨ j = 2 ∨ j = 3 ∨ j = 4 ∨ j = 5 ∨ j = 6 by omega) with rfl | rfl | rfl | rfl | rfl | rfl | rfl <;> rfl) ⟨by decide, by decide⟩ 22 442 ⟨rfl, rfl⟩ hA ?_
  intro q_71_22
  refine r_cv (ws2 := [(x0, .inr (5, [.ref q_5_1, .ref q_16_3, .ref q_27_5, .ref q_38_7, .ref q_49_17, .ref q_60_19, .null, .int (iJ (0)), .int (iJ (0))])), (q_5_1, .inr (2, [.ref h1_9_1, .int (iJ (0)), .int (iJ (2))])), (h1_9_1, cJ cI 32 (fun _ => 0)), (q_16_3, .inr (2, [.ref h1_20_3, .int (iJ (0)), .int (iJ (2))])), (h1_20_3, cJ cI 32 (fun _ => 0)), (q_27_5, .inr (2, [.ref h1_31_5, .int (iJ (0)), .int (iJ (2))])), (h1_31_5, cJ cI 32 (fun _ => 0)), (q_38_7, .inr (0, [.ref i1_42_7, .int (iJ (0))])), (i1_42_7, cR cP 4 (hF xa_42_7)), ((xa_42_7 0), .inr (2, [.ref (ya_42_7 0), .int (iJ ((fun _ => (0 : Int)) 0)), .int (iJ ((fun _ => (2 : Int)) 0))])), ((ya_42_7 0), cJ cI 32 ((fun _ _ => (0 : Int)) 0)), ((xa_42_7 1), .inr (2, [.ref (ya_42_7 1), .int (iJ ((fun _ => (0 : Int)) 1)), .int (iJ ((fun _ => (2 : Int)) 1))])), ((ya_42_7 1), cJ cI 32 ((fun _ _ => (0 : Int)) 1)), ((xa_42_7 2), .inr (2, [.ref (ya_42_7 2), .int (iJ ((fun _ => (0 : Int)) 2)), .int (iJ ((fun _ => (2 : Int)) 2))])), ((ya_42_7 2), cJ cI 32 ((fun _ _ => (0 : Int)) 2)), ((xa_42_7 3), .inr (2, [.ref (ya_42_7 3), .int (iJ ((fun _ => (0 : Int)) 3)), .int (iJ ((fun _ => (2 : Int)) 3))])), ((ya_42_7 3), cJ cI 32 ((fun _ _ => (0 : Int)) 3)), (q_49_17, .inr (1, [.ref h1_53_17, .int (iJ (0))])), (h1_53_17, cJ cI 60 (fun _ => 0)), (q_60_19, .inr (4, [.ref r1_64_19, .ref r2_64_19])), (r1_64_19, cJ cI 60 (fun _ => 0)), (r2_64_19, cJ cI 60 (fun _ => 0)), (q_71_22, .inr (3, [.null, .null, .null, .null, .null, .null, .int (iJ (0))]))]) rfl rfl rfl ?_
  refine r_dup E dX6_init_74 rfl ?_
  refine r_iMI E hao (st := [.ref q_71_22, .ref x0]) (c_X3_init l D q_71_22 cI cZ) gX6_init_X3_init kf_X3_init rfl ck_X6_init_ml45 ck_X6_init_imX3_init ck_X6_init_iniX3_init ⟨rfl, rfl⟩ ⟨by decide, by decide⟩ dX6_init_75 ⟨by decide, by decide⟩ 28 734 ⟨rfl, rfl⟩ [22] rfl (by decide) [0, 2] rfl (Nat.le_of_ble_eq_true rfl) [(x0, .inr (5, [.ref q_5_1, .ref q_16_3, .ref q_27_5, .ref q_38_7, .ref q_49_17, .ref q_60_19, .null, .int (iJ (0)), .int (iJ (0))])), (q_5_1, .inr (2, [.ref h1_9_1, .int (iJ (0)), .int (iJ (2))])), (h1_9_1, cJ cI 32 (fun _ => 0)), (q_16_3, .inr (2, [.ref h1_20_3, .int (iJ (0)), .int (iJ (2))])), (h1_20_3, cJ cI 32 (fun _ => 0)), (q_27_5, .inr (2, [.ref h1_31_5, .int (iJ (0)), .int (iJ (2))])), (h1_31_5, cJ cI 32 (fun _ => 0)), (q_38_7, .inr (0, [.ref i1_42_7, .int (iJ (0))])), (i1_42_7, cR cP 4 (hF xa_42_7)), ((xa_42_7 0), .inr (2, [.ref (ya_42_7 0), .int (iJ ((fun _ => (0 : Int)) 0)), .int (iJ ((fun _ => (2 : Int)) 0))])), ((ya_42_7 0), cJ cI 32 ((fun _ _ => (0 : Int)) 0)), ((xa_42_7 1), .inr (2, [.ref (ya_42_7 1), .int (iJ ((fun _ => (0 : Int)) 1)), .int (iJ ((fun _ => (2 : Int)) 1))])), ((ya_42_7 1), cJ cI 32 ((fun _ _ => (0 : Int)) 1)), ((xa_42_7 2), .inr (2, [.ref (ya_42_7 2), .int (iJ ((fun _ => (0 : Int)) 2)), .int (iJ ((fun _ => (2 : Int)) 2))])), ((ya_42_7 2), cJ cI 32 ((fun _ _ => (0 : Int)) 2)), ((xa_42_7 3), .inr (2, [.ref (ya_42_7 3), .int (iJ ((fun _ => (0 : Int)) 3)), .int (iJ ((fun _ => (2 : Int)) 3))])), ((ya_42_7 3), cJ cI 32 ((fun _ _ => (0 : Int)) 3)), (q_49_17, .inr (1, [.ref h1_53_17, .int (iJ (0))])), (h1_53_17, cJ cI 60 (fun _ => 0)), (q_60_19, .inr (4, [.ref r1_64_19, .ref r2_64_19])), (r1_64_19, cJ cI 60 (fun _ => 0)), (r2_64_19, cJ cI 60 (fun _ => 0))] [0, 1, 2, 3, 4, 5, 6, 7, 8, 9, 10, 11, 12, 13, 14, 15, 16, 17, 18, 19, 20, 21] rfl (by decide) (by decide) hA [0, 1, 2, 3, 4, 5, 6, 7, 8, 9, 10, 11, 12, 13, 14, 15, 16, 17, 18, 19, 20, 21, 22, 23, 24, 25, 26, 27, 28] (by decide) (fun u : Nat × Nat × Nat × Nat × Nat × Nat => [(x0, .inr (5, [.ref q_5_1, .ref q_16_3, .ref q_27_5, .ref q_38_7, .ref q_49_17, .ref q_60_19, .null, .int (iJ (0)), .int (iJ (0))])), (q_5_1, .inr (2, [.ref h1_9_1, .int (iJ (0)), .int (iJ (2))])), (h1_9_1, cJ cI 32 (fun _ => 0)), (q_16_3, .inr (2, [.ref h1_20_3, .int (iJ (0)), .int (iJ (2))])), (h1_20_3, cJ cI 32 (fun _ => 0)), (q_27_5, .inr (2, [.ref h1_31_5, .int (iJ (0)), .int (iJ (2))])), (h1_31_5, cJ cI 32 (fun _ => 0)), (q_38_7, .inr (0, [.ref i1_42_7, .int (iJ (0))])), (i1_42_7, cR cP 4 (hF xa_42_7)), ((xa_42_7 0), .inr (2, [.ref (ya_42_7 0), .int (iJ ((fun _ => (0 : Int)) 0)), .int (iJ ((fun _ => (2 : Int)) 0))])), ((ya_42_7 0), cJ cI 32 ((fun _ _ => (0 : Int)) 0)), ((xa_42_7 1), .inr (2, [.ref (ya_42_7 1), .int (iJ ((fun _ => (0 : Int)) 1)), .int (iJ ((fun _ => (2 : Int)) 1))])), ((ya_42_7 1), cJ cI 32 ((fun _ _ => (0 : Int)) 1)), ((xa_42_7 2), .inr (2, [.ref (ya_42_7 2), .int (iJ ((fun _ => (0 : Int)) 2)), .int (iJ ((fun _ => (2 : Int)) 2))])), ((ya_42_7 2), cJ cI 32 ((fun _ _ => (0 : Int)) 2)), ((xa_42_7 3), .inr (2, [.ref (ya_42_7 3), .int (iJ ((fun _ => (0 : Int)) 3)), .int (iJ ((fun _ => (2 : Int)) 3))])), ((ya_42_7 3), cJ cI 32 ((fun _ _ => (0 : Int)) 3)), (q_49_17, .inr (1, [.ref h1_53_17, .int (iJ (0))])), (h1_53_17, cJ cI 60 (fun _ => 0)), (q_60_19, .inr (4, [.ref r1_64_19, .ref r2_64_19])), (r1_64_19, cJ cI 60 (fun _ => 0)), (r2_64_19, cJ cI 60 (fun _ => 0)), (q_71_22, .inr (3, [.ref u.1, .ref u.2.1, .ref u.2.2.1, .ref u.2.2.2.1, .ref u.2.2.2.2.1, .ref u.2.2.2.2.2, .int (iJ (0))])), (u.1, cJ cI 32 (nrA)), (u.2.1, cJ cI 32 (fun _ => 0)), (u.2.2.1, cJ cZ 32 (fun _ => 0)), (u.2.2.2.1, cJ cZ 32 (fun _ => 0)), (u.2.2.2.2.1, cJ cI 32 (fun _ => 0)), (u.2.2.2.2.2, cJ cI 132 (fun _ => 0))]) (fun _ => rfl) ?_
  rintro ⟨p1_75_22, p2_75_22, p3_75_22, p4_75_22, p5_75_22, p6_75_22⟩
  refine r_cv (ws2 := [(x0, .inr (5, [.ref q_5_1, .ref q_16_3, .ref q_27_5, .ref q_38_7, .ref q_49_17, .ref q_60_19, .null, .int (iJ (0)), .int (iJ (0))])), (q_5_1, .inr (2, [.ref h1_9_1, .int (iJ (0)), .int (iJ (2))])), (h1_9_1, cJ cI 32 (fun _ => 0)), (q_16_3, .inr (2, [.ref h1_20_3, .int (iJ (0)), .int (iJ (2))])), (h1_20_3, cJ cI 32 (fun _ => 0)), (q_27_5, .inr (2, [.ref h1_31_5, .int (iJ (0)), .int (iJ (2))])), (h1_31_5, cJ cI 32 (fun _ => 0)), (q_38_7, .inr (0, [.ref i1_42_7, .int (iJ (0))])), (i1_42_7, cR cP 4 (hF xa_42_7)), ((xa_42_7 0), .inr (2, [.ref (ya_42_7 0), .int (iJ ((fun _ => (0 : Int)) 0)), .int (iJ ((fun _ => (2 : Int)) 0))])), ((ya_42_7 0), cJ cI 32 ((fun _ _ => (0 : Int)) 0)), ((xa_42_7 1), .inr (2, [.ref (ya_42_7 1), .int (iJ ((fun _ => (0 : Int)) 1)), .int (iJ ((fun _ => (2 : Int)) 1))])), ((ya_42_7 1), cJ cI 32 ((fun _ _ => (0 : Int)) 1)), ((xa_42_7 2), .inr (2, [.ref (ya_42_7 2), .int (iJ ((fun _ => (0 : Int)) 2)), .int (iJ ((fun _ => (2 : Int)) 2))])), ((ya_42_7 2), cJ cI 32 ((fun _ _ => (0 : Int)) 2)), ((xa_42_7 3), .inr (2, [.ref (ya_42_7 3), .int (iJ ((fun _ => (0 : Int)) 3)), .int (iJ ((fun _ => (2 : Int)) 3))])), ((ya_42_7 3), cJ cI 32 ((fun _ _ => (0 : Int)) 3)), (q_49_17, .inr (1, [.ref h1_53_17, .int (iJ (0))])), (h1_53_17, cJ cI 60 (fun _ => 0)), (q_60_19, .inr (4, [.ref r1_64_19, .ref r2_64_19])), (r1_64_19, cJ cI 60 (fun _ => 0)), (r2_64_19, cJ cI 60 (fun _ => 0)), (q_71_22, .inr (3, [.ref p1_75_22, .ref p2_75_22, .ref p3_75_22, .ref p4_75_22, .ref p5_75_22, .ref p6_75_22, .int (iJ (0))])), (p1_75_22, cJ cI 32 (nrA)), (p2_75_22, cJ cI 32 (fun _ => 0)), (p3_75_22, cJ cZ 32 (fun _ => 0)), (p4_75_22, cJ cZ 32 (fun _ => 0)), (p5_75_22, cJ cI 32 (fun _ => 0)), (p6_75_22, cJ cI 132 (fun _ => 0))]) (st2 := [.ref q_71_22, .ref x0]) rfl rfl rfl ?_
  refine r_putF E (ty := .object "LeanSticks$Player") 5 0 6 tyX6 tyX6_ok nmX6 dX6_init_78 in_X6_init_X6 lk_X6_init_46 rfl rfl (by decide) rfl hin rfl (by decide +kernel) rfl rfl (Nat.le_of_ble_eq_true rfl) [(x0, .inr (5, [.ref q_5_1, .ref q_16_3, .ref q_27_5, .ref q_38_7, .ref q_49_17, .ref q_60_19, .ref q_71_22, .int (iJ (0)), .int (iJ (0))])), (q_5_1, .inr (2, [.ref h1_9_1, .int (iJ (0)), .int (iJ (2))])), (h1_9_1, cJ cI 32 (fun _ => 0)), (q_16_3, .inr (2, [.ref h1_20_3, .int (iJ (0)), .int (iJ (2))])), (h1_20_3, cJ cI 32 (fun _ => 0)), (q_27_5, .inr (2, [.ref h1_31_5, .int (iJ (0)), .int (iJ (2))])), (h1_31_5, cJ cI 32 (fun _ => 0)), (q_38_7, .inr (0, [.ref i1_42_7, .int (iJ (0))])), (i1_42_7, cR cP 4 (hF xa_42_7)), ((xa_42_7 0), .inr (2, [.ref (ya_42_7 0), .int (iJ ((fun _ => (0 : Int)) 0)), .int (iJ ((fun _ => (2 : Int)) 0))])), ((ya_42_7 0), cJ cI 32 ((fun _ _ => (0 : Int)) 0)), ((xa_42_7 1), .inr (2, [.ref (ya_42_7 1), .int (iJ ((fun _ => (0 : Int)) 1)), .int (iJ ((fun _ => (2 : Int)) 1))])), ((ya_42_7 1), cJ cI 32 ((fun _ _ => (0 : Int)) 1)), ((xa_42_7 2), .inr (2, [.ref (ya_42_7 2), .int (iJ ((fun _ => (0 : Int)) 2)), .int (iJ ((fun _ => (2 : Int)) 2))])), ((ya_42_7 2), cJ cI 32 ((fun _ _ => (0 : Int)) 2)), ((xa_42_7 3), .inr (2, [.ref (ya_42_7 3), .int (iJ ((fun _ => (0 : Int)) 3)), .int (iJ ((fun _ => (2 : Int)) 3))])), ((ya_42_7 3), cJ cI 32 ((fun _ _ => (0 : Int)) 3)), (q_49_17, .inr (1, [.ref h1_53_17, .int (iJ (0))])), (h1_53_17, cJ cI 60 (fun _ => 0)), (q_60_19, .inr (4, [.ref r1_64_19, .ref r2_64_19])), (r1_64_19, cJ cI 60 (fun _ => 0)), (r2_64_19, cJ cI 60 (fun _ => 0)), (q_71_22, .inr (3, [.ref p1_75_22, .ref p2_75_22, .ref p3_75_22, .ref p4_75_22, .ref p5_75_22, .ref p6_75_22, .int (iJ (0))])), (p1_75_22, cJ cI 32 (nrA)), (p2_75_22, cJ cI 32 (fun _ => 0)), (p3_75_22, cJ cZ 32 (fun _ => 0)), (p4_75_22, cJ cZ 32 (fun _ => 0)), (p5_75_22, cJ cI 32 (fun _ => 0)), (p6_75_22, cJ cI 132 (fun _ => 0))] rfl ?_
  refine r_aload_n E 0 dX6_init_81 rfl rfl ?_
  refine r_iconst E 0 rfl dX6_init_82 ?_
  refine r_put E (ty := .boolean) 5 0 7 tyX6 tyX6_ok nmX6 dX6_init_83 in_X6_init_X6 lk_X6_init_50 rfl rfl (by decide) rfl (by decide +kernel) (narZ (Or.inl rfl)) rfl (Nat.le_of_ble_eq_true rfl) [(x0, .inr (5, [.ref q_5_1, .ref q_16_3, .ref q_27_5, .ref q_38_7, .ref q_49_17, .ref q_60_19, .ref q_71_22, .int (iJ (0)), .int (iJ (0))])), (q_5_1, .inr (2, [.ref h1_9_1, .int (iJ (0)), .int (iJ (2))])), (h1_9_1, cJ cI 32 (fun _ => 0)), (q_16_3, .inr (2, [.ref h1_20_3, .int (iJ (0)), .int (iJ (2))])), (h1_20_3, cJ cI 32 (fun _ => 0)), (q_27_5, .inr (2, [.ref h1_31_5, .int (iJ (0)), .int (iJ (2))])), (h1_31_5, cJ cI 32 (fun _ => 0)), (q_38_7, .inr (0, [.ref i1_42_7, .int (iJ (0))])), (i1_42_7, cR cP 4 (hF xa_42_7)), ((xa_42_7 0), .inr (2, [.ref (ya_42_7 0), .int (iJ ((fun _ => (0 : Int)) 0)), .int (iJ ((fun _ => (2 : Int)) 0))])), ((ya_42_7 0), cJ cI 32 ((fun _ _ => (0 : Int)) 0)), ((xa_42_7 1), .inr (2, [.ref (ya_42_7 1), .int (iJ ((fun _ => (0 : Int)) 1)), .int (iJ ((fun _ => (2 : Int)) 1))])), ((ya_42_7 1), cJ cI 32 ((fun _ _ => (0 : Int)) 1)), ((xa_42_7 2), .inr (2, [.ref (ya_42_7 2), .int (iJ ((fun _ => (0 : Int)) 2)), .int (iJ ((fun _ => (2 : Int)) 2))])), ((ya_42_7 2), cJ cI 32 ((fun _ _ => (0 : Int)) 2)), ((xa_42_7 3), .inr (2, [.ref (ya_42_7 3), .int (iJ ((fun _ => (0 : Int)) 3)), .int (iJ ((fun _ => (2 : Int)) 3))])), ((ya_42_7 3), cJ cI 32 ((fun _ _ => (0 : Int)) 3)), (q_49_17, .inr (1, [.ref h1_53_17, .int (iJ (0))])), (h1_53_17, cJ cI 60 (fun _ => 0)), (q_60_19, .inr (4, [.ref r1_64_19, .ref r2_64_19])), (r1_64_19, cJ cI 60 (fun _ => 0)), (r2_64_19, cJ cI 60 (fun _ => 0)), (q_71_22, .inr (3, [.ref p1_75_22, .ref p2_75_22, .ref p3_75_22, .ref p4_75_22, .ref p5_75_22, .ref p6_75_22, .int (iJ (0))])), (p1_75_22, cJ cI 32 (nrA)), (p2_75_22, cJ cI 32 (fun _ => 0)), (p3_75_22, cJ cZ 32 (fun _ => 0)), (p4_75_22, cJ cZ 32 (fun _ => 0)), (p5_75_22, cJ cI 32 (fun _ => 0)), (p6_75_22, cJ cI 132 (fun _ => 0))] rfl ?_
  refine r_aload_n E 0 dX6_init_86 rfl rfl ?_
  refine r_iconst E 0 rfl dX6_init_87 ?_
  refine r_put E (ty := .int) 5 0 8 tyX6 tyX6_ok nmX6 dX6_init_88 in_X6_init_X6 lk_X6_init_54 rfl rfl (by decide) rfl (by decide +kernel) rfl rfl (Nat.le_of_ble_eq_true rfl) [(x0, .inr (5, [.ref q_5_1, .ref q_16_3, .ref q_27_5, .ref q_38_7, .ref q_49_17, .ref q_60_19, .ref q_71_22, .int (iJ (0)), .int (iJ (0))])), (q_5_1, .inr (2, [.ref h1_9_1, .int (iJ (0)), .int (iJ (2))])), (h1_9_1, cJ cI 32 (fun _ => 0)), (q_16_3, .inr (2, [.ref h1_20_3, .int (iJ (0)), .int (iJ (2))])), (h1_20_3, cJ cI 32 (fun _ => 0)), (q_27_5, .inr (2, [.ref h1_31_5, .int (iJ (0)), .int (iJ (2))])), (h1_31_5, cJ cI 32 (fun _ => 0)), (q_38_7, .inr (0, [.ref i1_42_7, .int (iJ (0))])), (i1_42_7, cR cP 4 (hF xa_42_7)), ((xa_42_7 0), .inr (2, [.ref (ya_42_7 0), .int (iJ ((fun _ => (0 : Int)) 0)), .int (iJ ((fun _ => (2 : Int)) 0))])), ((ya_42_7 0), cJ cI 32 ((fun _ _ => (0 : Int)) 0)), ((xa_42_7 1), .inr (2, [.ref (ya_42_7 1), .int (iJ ((fun _ => (0 : Int)) 1)), .int (iJ ((fun _ => (2 : Int)) 1))])), ((ya_42_7 1), cJ cI 32 ((fun _ _ => (0 : Int)) 1)), ((xa_42_7 2), .inr (2, [.ref (ya_42_7 2), .int (iJ ((fun _ => (0 : Int)) 2)), .int (iJ ((fun _ => (2 : Int)) 2))])), ((ya_42_7 2), cJ cI 32 ((fun _ _ => (0 : Int)) 2)), ((xa_42_7 3), .inr (2, [.ref (ya_42_7 3), .int (iJ ((fun _ => (0 : Int)) 3)), .int (iJ ((fun _ => (2 : Int)) 3))])), ((ya_42_7 3), cJ cI 32 ((fun _ _ => (0 : Int)) 3)), (q_49_17, .inr (1, [.ref h1_53_17, .int (iJ (0))])), (h1_53_17, cJ cI 60 (fun _ => 0)), (q_60_19, .inr (4, [.ref r1_64_19, .ref r2_64_19])), (r1_64_19, cJ cI 60 (fun _ => 0)), (r2_64_19, cJ cI 60 (fun _ => 0)), (q_71_22, .inr (3, [.ref p1_75_22, .ref p2_75_22, .ref p3_75_22, .ref p4_75_22, .ref p5_75_22, .ref p6_75_22, .int (iJ (0))])), (p1_75_22, cJ cI 32 (nrA)), (p2_75_22, cJ cI 32 (fun _ => 0)), (p3_75_22, cJ cZ 32 (fun _ => 0)), (p4_75_22, cJ cZ 32 (fun _ => 0)), (p5_75_22, cJ cI 32 (fun _ => 0)), (p6_75_22, cJ cI 132 (fun _ => 0))] rfl ?_
  exact r_retMI E (q_5_1, h1_9_1, q_16_3, h1_20_3, q_27_5, h1_31_5, q_38_7, i1_42_7, xa_42_7, ya_42_7, q_49_17, h1_53_17, q_60_19, r1_64_19, r2_64_19, q_71_22, p1_75_22, p2_75_22, p3_75_22, p4_75_22, p5_75_22, p6_75_22) hr dX6_init_91 rfl hQ
