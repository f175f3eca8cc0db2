theorem kf_X6_clear : KF yX6_clear 0 wsX6_clear cX6_clear 2 (some .int) := ⟨rfl, by decide +kernel, by decide +kernel, by decide +kernel⟩
def rm_X6_clear : Room := { frames := 0, cells := 0, slots := 0, locals := 0 }
set_option maxRecDepth 20000 in
theorem in_X6_clear_X6 : ∀ w ∈ u_ws RX6 TX6 9, w ∈ wsX6_clear := by decide +kernel
set_option maxRecDepth 20000 in
theorem lk_X6_clear_32 : Cond.fieldLink RX6 32 (TX6 4).1 (TX6 4).2.1 (TX6 4).2.2.1 ∈ wsX6_clear := by decide +kernel
set_option maxRecDepth 20000 in
theorem in_X6_clear_X1 : ∀ w ∈ u_ws RX1 TX1 2, w ∈ wsX6_clear := by decide +kernel
set_option maxHeartbeats 1000000 in
set_option maxRecDepth 100000 in
theorem c_X6_clear (l : Launch) (D : va_G) (x0 : Nat) (h0 : Nat) (t0 : Nat) (n0 : Nat) (i0 : Nat) (d0 : Nat) (r0 : Nat) (p0 : Nat) (hs : Int) (rf : Int) (cI : ClassId) (d1 : Nat) (gp : Int → Int) (np : Int) (hnp : 0 ≤ np ∧ np ≤ 60) : MM (S := Unit) l yX6_clear wsX6_clear rm_X6_clear D vwCl [.ref x0] [(x0, .inr (5, [.ref h0, .ref t0, .ref n0, .ref i0, .ref d0, .ref r0, .ref p0, .int (iJ (hs)), .int (iJ (rf))])), (d0, .inr (1, [.ref d1, .int (iJ (np))])), (d1, cJ cI 60 (gp))] [(cI, .int)] (fun (_ : Unit) => np) (fun (_ : Unit) => True) (fun (_ : Unit) => [(x0, .inr (5, [.ref h0, .ref t0, .ref n0, .ref i0, .ref d0, .ref r0, .ref p0, .int (iJ (hs)), .int (iJ (rf))])), (d0, .inr (1, [.ref d1, .int (iJ (0))])), (d1, cJ cI 60 (gp))]) := by
  refine MM.mk (cc := cX6_clear) (maxL := 2) (ret := (some .int)) (by decide) rfl (Nat.le_of_ble_eq_true rfl) rfl RX6 rfl ?_
  intro p_ e_ s_ m_ ar_ bw_ mt_ cd_ B_ Q_ hA E hr hQ
  refine r_aload_n E 0 dX6_clear_0 rfl rfl ?_
  refine r_get E 5 0 4 dX6_clear_1 in_X6_clear_X6 lk_X6_clear_32 rfl rfl (by decide) rfl ?_
  refine r_getN E 1 1 1 dX6_clear_4 in_X6_clear_X1 (by decide) rfl rfl rfl (by decide) rfl ?_
  refine r_istore_n E [(1, .int (iJ (np))), (0, .ref x0)] dX6_clear_7 rfl (by decide) rfl ?_
  refine r_aload_n E 1 dX6_clear_8 rfl rfl ?_
  refine r_get E 5 0 4 dX6_clear_9 in_X6_clear_X6 lk_X6_clear_32 rfl rfl (by decide) rfl ?_
  refine r_iconst E 0 rfl dX6_clear_12 ?_
  refine r_putN E (ty := .int) 1 1 1 tyX1 tyX1_ok nmX1 dX6_clear_13 in_X6_clear_X1 (by decide) rfl rfl rfl (by decide) rfl (by decide +kernel) rfl rfl (Nat.le_of_ble_eq_true rfl) [(x0, .inr (5, [.ref h0, .ref t0, .ref n0, .ref i0, .ref d0, .ref r0, .ref p0, .int (iJ (hs)), .int (iJ (rf))])), (d0, .inr (1, [.ref d1, .int (iJ (0))])), (d1, cJ cI 60 (gp))] rfl ?_
  refine r_iload_n E 0 dX6_clear_16 rfl rfl ?_
  exact r_retM E () hr dX6_clear_17 rfl trivial rfl hQ
theorem kf_X6_sign : KF yX6_sign 1 wsX6_sign cX6_sign 2 (some .int) := ⟨rfl, by decide +kernel, by decide +kernel, by decide +kernel⟩
def rm_X6_sign : Room := { frames := 3, cells := 0, slots := 0, locals := 67 }
set_option maxHeartbeats 1000000 in
set_option maxRecDepth 100000 in
theorem c_X6_signBad (l : Launch) (D : va_G) (x0 : Nat) (h0 : Nat) (t0 : Nat) (n0 : Nat) (i0 : Nat) (d0 : Nat) (r0 : Nat) (p0 : Nat) (hs : Int) (rf : Int) (h1 : Nat) (cI : ClassId) (g : Int → Int) (n : Int) (q : Int) (p : Int) (hn : 0 ≤ n ∧ n ≤ 32) (hp : jb p) (hx : p < 0) : MP l yX6_sign wsX6_sign rm_X6_sign D vwCl [.ref x0, .int (iJ (p))] [(x0, .inr (5, [.ref h0, .ref t0, .ref n0, .ref i0, .ref d0, .ref r0, .ref p0, .int (iJ (hs)), .int (iJ (rf))])), (h0, .inr (2, [.ref h1, .int (iJ (n)), .int (iJ (q))])), (h1, cJ cI 32 (g))] [(cI, .int)] (-1) := by
  refine MP.mk (cc := cX6_sign) (maxL := 2) (ret := (some .int)) (by decide) rfl (Nat.le_of_ble_eq_true rfl) rfl RX6 rfl ?_
  intro p_ e_ s_ m_ ar_ bw_ mt_ cd_ Q_ E hr hQ
  refine r_iload_n E 1 dX6_sign_0 rfl rfl ?_
  refine r_if_ge E 8 dX6_sign_1 (by decide) ⟨by omega, by omega⟩ (fun c_1 => absurd c_1 (by omega)) (fun c_1 => ?_)
  refine r_iconst E (-1) rfl dX6_sign_4 ?_
  refine r_goto E 16 dX6_sign_5 (by decide) ?_
  exact r_retP E hr dX6_sign_16 rfl hQ
set_option maxRecDepth 20000 in
theorem in_X6_sign_X6 : ∀ w ∈ u_ws RX6 TX6 9, w ∈ wsX6_sign := by decide +kernel
set_option maxRecDepth 20000 in
theorem lk_X6_sign_10 : Cond.fieldLink RX6 10 (TX6 0).1 (TX6 0).2.1 (TX6 0).2.2.1 ∈ wsX6_sign := by decide +kernel
set_option maxHeartbeats 1000000 in
set_option maxRecDepth 100000 in
theorem c_X6_sign (l : Launch) (D : va_G) (x0 : Nat) (h0 : Nat) (t0 : Nat) (n0 : Nat) (i0 : Nat) (d0 : Nat) (r0 : Nat) (p0 : Nat) (hs : Int) (rf : Int) (h1 : Nat) (cI : ClassId) (g : Int → Int) (n : Int) (q : Int) (p : Int) (hn : 0 ≤ n ∧ n ≤ 32) (hg : ∀ j : Int, 0 ≤ j → j < n → 0 ≤ g j ∧ g j < 64) (hp : jb p) (hx : 0 ≤ p) : MP l yX6_sign wsX6_sign rm_X6_sign D vwCl [.ref x0, .int (iJ (p))] [(x0, .inr (5, [.ref h0, .ref t0, .ref n0, .ref i0, .ref d0, .ref r0, .ref p0, .int (iJ (hs)), .int (iJ (rf))])), (h0, .inr (2, [.ref h1, .int (iJ (n)), .int (iJ (q))])), (h1, cJ cI 32 (g))] [(cI, .int)] (sgF g n.toNat 0 p) := by
  refine MP.mk (cc := cX6_sign) (maxL := 2) (ret := (some .int)) (by decide) rfl (Nat.le_of_ble_eq_true rfl) rfl RX6 rfl ?_
  intro p_ e_ s_ m_ ar_ bw_ mt_ cd_ Q_ E hr hQ
  refine r_iload_n E 1 dX6_sign_0 rfl rfl ?_
  refine r_if_ge E 8 dX6_sign_1 (by decide) ⟨by omega, by omega⟩ (fun c_1 => ?_) (fun c_1 => absurd c_1 (by omega))
  refine r_aload_n E 0 dX6_sign_8 rfl rfl ?_
  refine r_get E 5 0 0 dX6_sign_9 in_X6_sign_X6 lk_X6_sign_10 rfl rfl (by decide) rfl ?_
  refine r_iload_n E 1 dX6_sign_12 rfl rfl ?_
  refine r_vP E (st := []) (c_X2_signAt l D h0 h1 cI g n q p (by first | assumption | omega | exact ⟨by omega, by omega⟩) (by first | assumption | omega | exact ⟨by omega, by omega⟩) ⟨by omega, by omega⟩) gX6_sign_X2_signAt 1 kf_X2_signAt ⟨rfl, rfl⟩ ⟨by decide, by decide⟩ dX6_sign_13 rfl 1 rfl rfl rfl rfl ⟨Nat.zero_le _, Nat.zero_le _⟩ [1, 2] rfl (by decide) [0] rfl (Nat.le_of_ble_eq_true rfl) ?_
  exact r_retP E hr dX6_sign_16 rfl hQ
theorem kf_X6_heard : KF yX6_heard 1 wsX6_heard cX6_heard 4 (some .int) := ⟨rfl, by decide +kernel, by decide +kernel, by decide +kernel⟩
def rm_X6_heard : Room := { frames := 3, cells := 0, slots := 0, locals := 64 }
set_option maxRecDepth 20000 in
theorem in_X6_heard_X6 : ∀ w ∈ u_ws RX6 TX6 9, w ∈ wsX6_heard := by decide +kernel
set_option maxRecDepth 20000 in
theorem lk_X6_heard_10 : Cond.fieldLink RX6 10 (TX6 0).1 (TX6 0).2.1 (TX6 0).2.2.1 ∈ wsX6_heard := by decide +kernel
set_option maxRecDepth 20000 in
theorem in_X6_heard_X2 : ∀ w ∈ u_ws RX2 TX2 3, w ∈ wsX6_heard := by decide +kernel
set_option maxHeartbeats 1000000 in
set_option maxRecDepth 100000 in
theorem c_X6_heardBad (l : Launch) (D : va_G) (x0 : Nat) (h0 : Nat) (t0 : Nat) (n0 : Nat) (i0 : Nat) (d0 : Nat) (r0 : Nat) (p0 : Nat) (hs : Int) (rf : Int) (h1 : Nat) (cI : ClassId) (g : Int → Int) (n : Int) (q : Int) (t : Int) (hn : 0 ≤ n ∧ n ≤ 32) (ht : jb t) (hx : ¬ (-2 ≤ t ∧ t ≤ 4 * n)) : MP l yX6_heard wsX6_heard rm_X6_heard D vwCl [.ref x0, .int (iJ (t))] [(x0, .inr (5, [.ref h0, .ref t0, .ref n0, .ref i0, .ref d0, .ref r0, .ref p0, .int (iJ (hs)), .int (iJ (rf))])), (h0, .inr (2, [.ref h1, .int (iJ (n)), .int (iJ (q))])), (h1, cJ cI 32 (g))] [(cI, .int)] (-1) := by
  refine MP.mk (cc := cX6_heard) (maxL := 4) (ret := (some .int)) (by decide) rfl (Nat.le_of_ble_eq_true rfl) rfl RX6 rfl ?_
  intro p_ e_ s_ m_ ar_ bw_ mt_ cd_ Q_ E hr hQ
  refine r_iload_n E 1 dX6_heard_0 rfl rfl ?_
  refine r_bipush E (-2) rfl dX6_heard_1 ?_
  refine r_icmp_lt E 19 dX6_heard_3 (by decide) ht ⟨by omega, by omega⟩ (fun c_3 => ?_) (fun c_3 => ?_)
  · refine r_iconst E (-1) rfl dX6_heard_19 ?_
    exact r_retP E hr dX6_heard_20 rfl hQ
  · refine r_iload_n E 1 dX6_heard_6 rfl rfl ?_
    refine r_iconst E 4 rfl dX6_heard_7 ?_
    refine r_aload_n E 0 dX6_heard_8 rfl rfl ?_
    refine r_get E 5 0 0 dX6_heard_9 in_X6_heard_X6 lk_X6_heard_10 rfl rfl (by decide) rfl ?_
    refine r_getN E 2 1 1 dX6_heard_12 in_X6_heard_X2 (by decide) rfl rfl rfl (by decide) rfl ?_
    refine r_imul E dX6_heard_15 ?_
    refine r_icmp_le E 21 dX6_heard_16 (by decide) ht ⟨by omega, by omega⟩ (fun c_16 => absurd c_16 (by omega)) (fun c_16 => ?_)
    refine r_iconst E (-1) rfl dX6_heard_19 ?_
    exact r_retP E hr dX6_heard_20 rfl hQ
set_option maxHeartbeats 1000000 in
set_option maxRecDepth 100000 in
theorem c_X6_heard (l : Launch) (D : va_G) (x0 : Nat) (h0 : Nat) (t0 : Nat) (n0 : Nat) (i0 : Nat) (d0 : Nat) (r0 : Nat) (p0 : Nat) (hs : Int) (rf : Int) (h1 : Nat) (cI : ClassId) (g : Int → Int) (n : Int) (q : Int) (t : Int) (hn : 0 ≤ n ∧ n ≤ 32) (hg : ∀ j : Int, 0 ≤ j → j < n → 0 ≤ g j ∧ g j < 64) (hx : -2 ≤ t ∧ t ≤ 4 * n) : MP l yX6_heard wsX6_heard rm_X6_heard D vwCl [.ref x0, .int (iJ (t))] [(x0, .inr (5, [.ref h0, .ref t0, .ref n0, .ref i0, .ref d0, .ref r0, .ref p0, .int (iJ (hs)), .int (iJ (rf))])), (h0, .inr (2, [.ref h1, .int (iJ (n)), .int (iJ (q))])), (h1, cJ cI 32 (g))] [(cI, .int)] (sm (fun k => sFa (g k) (t - 4 * k)) n) := by
  refine MP.mk (cc := cX6_heard) (maxL := 4) (ret := (some .int)) (by decide) rfl (Nat.le_of_ble_eq_true rfl) rfl RX6 rfl ?_
  intro p_ e_ s_ m_ ar_ bw_ mt_ cd_ Q_ E hr hQ
  refine r_iload_n E 1 dX6_heard_0 rfl rfl ?_
  refine r_bipush E (-2) rfl dX6_heard_1 ?_
  refine r_icmp_lt E 19 dX6_heard_3 (by decide) ⟨by omega, by omega⟩ ⟨by omega, by omega⟩ (fun c_3 => absurd c_3 (by omega)) (fun c_3 => ?_)
  refine r_iload_n E 1 dX6_heard_6 rfl rfl ?_
  refine r_iconst E 4 rfl dX6_heard_7 ?_
  refine r_aload_n E 0 dX6_heard_8 rfl rfl ?_
  refine r_get E 5 0 0 dX6_heard_9 in_X6_heard_X6 lk_X6_heard_10 rfl rfl (by decide) rfl ?_
  refine r_getN E 2 1 1 dX6_heard_12 in_X6_heard_X2 (by decide) rfl rfl rfl (by decide) rfl ?_
  refine r_imul E dX6_heard_15 ?_
  refine r_icmp_le E 21 dX6_heard_16 (by decide) ⟨by omega, by omega⟩ ⟨by omega, by omega⟩ (fun c_16 => ?_) (fun c_16 => absurd c_16 (by omega))
  refine r_iconst E 0 rfl dX6_heard_21 ?_
  refine r_istore_n E [(2, .int (iJ (0))), (0, .ref x0), (1, .int (iJ (t)))] dX6_heard_22 rfl (by decide) rfl ?_
  refine r_iconst E 0 rfl dX6_heard_23 ?_
  refine r_istore_n E [(3, .int (iJ (0))), (2, .int (iJ (0))), (0, .ref x0), (1, .int (iJ (t)))] dX6_heard_24 rfl (by decide) rfl ?_
  have loop_25 : ∀ (N : Nat) (k : Int) (x : Int), (0 ≤ k ∧ k ≤ n) → (x = sm (fun k => sFa (g k) (t - 4 * k)) k) → (n - k).toNat < N → GG p_ l e_ rm_X6_heard s_ m_ ar_ bw_ mt_ cd_ D vwCl (fun _ => True) (fun _ => False) s_.heap 4 0 0 Q_ [(x0, .inr (5, [.ref h0, .ref t0, .ref n0, .ref i0, .ref d0, .ref r0, .ref p0, .int (iJ (hs)), .int (iJ (rf))])), (h0, .inr (2, [.ref h1, .int (iJ (n)), .int (iJ (q))])), (h1, cJ cI 32 (g))] [(0, .ref x0), (1, .int (iJ (t))), (2, .int (iJ (x))), (3, .int (iJ (k)))] 25 [] := by
    intro N; induction N with
    | zero => intro k x hk hs hN; exact absurd hN (Nat.not_lt_zero _)
    | succ N ih25 =>
      intro k x hk hs hN
      refine r_iload_n E 3 dX6_heard_25 rfl rfl ?_
      refine r_aload_n E 0 dX6_heard_26 rfl rfl ?_
      refine r_get E 5 0 0 dX6_heard_27 in_X6_heard_X6 lk_X6_heard_10 rfl rfl (by decide) rfl ?_
      refine r_getN E 2 1 1 dX6_heard_30 in_X6_heard_X2 (by decide) rfl rfl rfl (by decide) rfl ?_
      refine r_icmp_ge E 61 dX6_heard_33 (by decide) ⟨by omega, by omega⟩ ⟨by omega, by omega⟩ (fun c_33 => ?_) (fun c_33 => ?_)
      · refine r_iload_n E 2 dX6_heard_61 rfl rfl ?_
        exact r_retP E hr dX6_heard_62 (by
              have e : k = n := by omega
              rw [hs, e]) hQ
      · refine r_iload_n E 2 dX6_heard_36 rfl rfl ?_
        refine r_aload_n E 0 dX6_heard_37 rfl rfl ?_
        refine r_get E 5 0 0 dX6_heard_38 in_X6_heard_X6 lk_X6_heard_10 rfl rfl (by decide) rfl ?_
        refine r_iload_n E 3 dX6_heard_41 rfl rfl ?_
        refine r_vP E (st := [.int (iJ (x))]) (c_X2_at l D h0 h1 cI g n q k (by first | assumption | omega | exact ⟨by omega, by omega⟩) (by first | assumption | omega | exact ⟨by omega, by omega⟩)) gX6_heard_X2_at 1 kf_X2_at ⟨rfl, rfl⟩ ⟨by decide, by decide⟩ dX6_heard_42 rfl 1 rfl rfl rfl rfl ⟨Nat.zero_le _, Nat.zero_le _⟩ [1, 2] rfl (by decide) [0] rfl (Nat.le_of_ble_eq_true rfl) ?_
        refine r_top (b := (g k)) (pAt_t ⟨by omega, by omega⟩) ?_
        refine r_iload_n E 1 dX6_heard_45 rfl rfl ?_
        have f_g := hg k (by omega) (by omega)
        refine r_iconst E 4 rfl dX6_heard_46 ?_
        refine r_iload_n E 3 dX6_heard_47 rfl rfl ?_
        refine r_imul E dX6_heard_48 ?_
        refine r_isub E dX6_heard_49 ?_
        refine r_sP E (st := [.int (iJ (x))]) (c_X5_forcesAt l D (g k) (t - (4 * k)) (by first | assumption | omega | exact ⟨by omega, by omega⟩) (by first | assumption | omega | exact ⟨by omega, by omega⟩)) gX6_heard_X5_forcesAt 2 kf_X5_forcesAt ⟨rfl, rfl⟩ ⟨by decide, by decide⟩ dX6_heard_50 rfl rfl ⟨Nat.zero_le _, Nat.zero_le _⟩ [] rfl (by decide) [] rfl (Nat.le_of_ble_eq_true rfl) ?_
        refine r_iadd E dX6_heard_53 ?_
        refine r_istore_n E [(2, .int (iJ ((x + (sFa (g k) (t - (4 * k))))))), (0, .ref x0), (1, .int (iJ (t))), (3, .int (iJ (k)))] dX6_heard_54 rfl (by decide) rfl ?_
        refine r_iinc E (k := 3) [(3, .int (iJ ((k + 1)))), (2, .int (iJ ((x + (sFa (g k) (t - (4 * k))))))), (0, .ref x0), (1, .int (iJ (t)))] dX6_heard_55 rfl (by decide) rfl ?_
        refine r_goto E 25 dX6_heard_58 (by decide) ?_
        refine r_lv [2, 3, 1, 0] [(0, .ref x0), (1, .int (iJ (t))), (2, .int (iJ ((x + (sFa (g k) (t - (4 * k))))))), (3, .int (iJ ((k + 1))))] rfl ?_
        exact ih25 (k + 1) (x + (sFa (g k) (t - (4 * k)))) ⟨by omega, by omega⟩ (by rw [sm_s _ (by omega), hs]) (by omega)
  refine r_lv [2, 3, 1, 0] [(0, .ref x0), (1, .int (iJ (t))), (2, .int (iJ (0))), (3, .int (iJ (0)))] rfl ?_
  exact loop_25 _ 0 0 ⟨by omega, by omega⟩ (sm_0 _).symm (Nat.lt_succ_self _)
theorem kf_X6_count : KF yX6_count 1 wsX6_count cX6_count 2 (some .int) := ⟨rfl, by decide +kernel, by decide +kernel, by decide +kernel⟩
def rm_X6_count : Room := { frames := 4, cells := 0, slots := 0, locals := 85 }
set_option maxRecDepth 20000 in
theorem in_X6_count_X6 : ∀ w ∈ u_ws RX6 TX6 9, w ∈ wsX6_count := by decide +kernel
set_option maxRecDepth 20000 in
theorem lk_X6_count_10 : Cond.fieldLink RX6 10 (TX6 0).1 (TX6 0).2.1 (TX6 0).2.2.1 ∈ wsX6_count := by decide +kernel
set_option maxRecDepth 20000 in
theorem in_X6_count_X2 : ∀ w ∈ u_ws RX2 TX2 3, w ∈ wsX6_count := by decide +kernel
set_option maxRecDepth 20000 in
theorem lk_X6_count_32 : Cond.fieldLink RX6 32 (TX6 4).1 (TX6 4).2.1 (TX6 4).2.2.1 ∈ wsX6_count := by decide +kernel
set_option maxRecDepth 20000 in
theorem in_X6_count_X1 : ∀ w ∈ u_ws RX1 TX1 2, w ∈ wsX6_count := by decide +kernel
set_option maxRecDepth 20000 in
theorem lk_X6_count_25 : Cond.fieldLink RX6 25 (TX6 3).1 (TX6 3).2.1 (TX6 3).2.2.1 ∈ wsX6_count := by decide +kernel
set_option maxRecDepth 20000 in
theorem in_X6_count_X0 : ∀ w ∈ u_ws RX0 TX0 2, w ∈ wsX6_count := by decide +kernel
set_option maxHeartbeats 1000000 in
set_option maxRecDepth 100000 in
theorem c_X6_count (l : Launch) (D : va_G) (x0 : Nat) (h0 : Nat) (t0 : Nat) (n0 : Nat) (i0 : Nat) (d0 : Nat) (r0 : Nat) (p0 : Nat) (hs : Int) (rf : Int) (h1 : Nat) (cI : ClassId) (g : Int → Int) (n : Int) (q : Int) (d1 : Nat) (gp : Int → Int) (np : Int) (i1 : Nat) (m : Int) (w : Int) (hn : 0 ≤ n ∧ n ≤ 32) (hg : ∀ j : Int, 0 ≤ j → j < n → 0 ≤ g j ∧ g j < 64) (hw : jb w) : MP l yX6_count wsX6_count rm_X6_count D vwCl [.ref x0, .int (iJ (w))] [(x0, .inr (5, [.ref h0, .ref t0, .ref n0, .ref i0, .ref d0, .ref r0, .ref p0, .int (iJ (hs)), .int (iJ (rf))])), (h0, .inr (2, [.ref h1, .int (iJ (n)), .int (iJ (q))])), (h1, cJ cI 32 (g)), (d0, .inr (1, [.ref d1, .int (iJ (np))])), (d1, cJ cI 60 (gp)), (i0, .inr (0, [.ref i1, .int (iJ (m))]))] [(cI, .int)] (if w = 0 then n else if w = 1 then n - sm (fun j => b2 (¬ g j = 0)) n else if w = 2 then sm (fun j => b2 (¬ g j = 0 ∧ g j / 2 % 4 = 0)) n else if w = 3 then sm (fun j => b2 (¬ g j = 0 ∧ g j / 2 % 4 = 1)) n else if w = 4 then sm (fun j => b2 (¬ g j = 0 ∧ g j / 2 % 4 = 2)) n else if w = 5 then sm (fun j => b2 (g j / 8 % 2 = 1)) n else if w = 6 then sm (fun j => b2 (¬ g j = 0 ∧ g j / 16 % 4 = 1)) n else if w = 7 then sm (fun j => b2 (¬ g j = 0 ∧ g j / 16 % 4 = 2)) n else if w = 8 then sm (fun j => b2 (¬ g j = 0 ∧ g j / 16 % 4 = 3)) n else if w = 9 then sm (fun j => sBl (g j)) n else if w = 10 then sm (fun j => sFs (g j)) n else if w = 11 then q else if w = 12 then lrL g n else if w = 13 then sm (fun j => sTl (g j)) n else if w = 14 then np else if w = 15 then m else -1) := by
  refine MP.mk (cc := cX6_count) (maxL := 2) (ret := (some .int)) (by decide) rfl (Nat.le_of_ble_eq_true rfl) rfl RX6 rfl ?_
  intro p_ e_ s_ m_ ar_ bw_ mt_ cd_ Q_ E hr hQ
  refine r_iload_n E 1 dX6_count_0 rfl rfl ?_
  by_cases c_1_0 : w = 0
  · refine r_tabIn E 0 80 dX6_count_1 c_1_0 ⟨by decide, by decide⟩ (by decide) (by decide) rfl (by decide) ?_
    refine r_aload_n E 0 dX6_count_80 rfl rfl ?_
    refine r_get E 5 0 0 dX6_count_81 in_X6_count_X6 lk_X6_count_10 rfl rfl (by decide) rfl ?_
    refine r_getN E 2 1 1 dX6_count_84 in_X6_count_X2 (by decide) rfl rfl rfl (by decide) rfl ?_
    exact r_retP E hr dX6_count_87 (by
          first | (subst w; rfl) | (simp [*]; done) | (repeat' (first | rw [if_neg (by omega)] | rfl))) hQ
  by_cases c_1_1 : w = 1
  · refine r_tabIn E 1 88 dX6_count_1 c_1_1 ⟨by decide, by decide⟩ (by decide) (by decide) rfl (by decide) ?_
    refine r_aload_n E 0 dX6_count_88 rfl rfl ?_
    refine r_get E 5 0 0 dX6_count_89 in_X6_count_X6 lk_X6_count_10 rfl rfl (by decide) rfl ?_
    refine r_getN E 2 1 1 dX6_count_92 in_X6_count_X2 (by decide) rfl rfl rfl (by decide) rfl ?_
    refine r_aload_n E 0 dX6_count_95 rfl rfl ?_
    refine r_get E 5 0 0 dX6_count_96 in_X6_count_X6 lk_X6_count_10 rfl rfl (by decide) rfl ?_
    refine r_vP E (st := [.int (iJ (n))]) (c_X2_strokes l D h0 h1 cI g n q (by first | assumption | omega | exact ⟨by omega, by omega⟩) (by first | assumption | omega | exact ⟨by omega, by omega⟩)) gX6_count_X2_strokes 0 kf_X2_strokes ⟨rfl, rfl⟩ ⟨by decide, by decide⟩ dX6_count_99 rfl 1 rfl rfl rfl rfl ⟨Nat.zero_le _, Nat.zero_le _⟩ [1, 2] rfl (by decide) [0] rfl (Nat.le_of_ble_eq_true rfl) ?_
    refine r_isub E dX6_count_102 ?_
    exact r_retP E hr dX6_count_103 (by
          first | (subst w; rfl) | (simp [*]; done) | (repeat' (first | rw [if_neg (by omega)] | rfl))) hQ
  by_cases c_1_2 : w = 2
  · refine r_tabIn E 2 104 dX6_count_1 c_1_2 ⟨by decide, by decide⟩ (by decide) (by decide) rfl (by decide) ?_
    refine r_aload_n E 0 dX6_count_104 rfl rfl ?_
    refine r_get E 5 0 0 dX6_count_105 in_X6_count_X6 lk_X6_count_10 rfl rfl (by decide) rfl ?_
    refine r_iconst E 0 rfl dX6_count_108 ?_
    refine r_vP E (st := []) (c_X2_strokesOf l D h0 h1 cI g n q 0 (by first | assumption | omega | exact ⟨by omega, by omega⟩) (by first | assumption | omega | exact ⟨by omega, by omega⟩) (by first | assumption | omega | exact ⟨by omega, by omega⟩)) gX6_count_X2_strokesOf 1 kf_X2_strokesOf ⟨rfl, rfl⟩ ⟨by decide, by decide⟩ dX6_count_109 rfl 1 rfl rfl rfl rfl ⟨Nat.zero_le _, Nat.zero_le _⟩ [1, 2] rfl (by decide) [0] rfl (Nat.le_of_ble_eq_true rfl) ?_
    exact r_retP E hr dX6_count_112 (by
          first | (subst w; rfl) | (simp [*]; done) | (repeat' (first | rw [if_neg (by omega)] | rfl))) hQ
  by_cases c_1_3 : w = 3
  · refine r_tabIn E 3 113 dX6_count_1 c_1_3 ⟨by decide, by decide⟩ (by decide) (by decide) rfl (by decide) ?_
    refine r_aload_n E 0 dX6_count_113 rfl rfl ?_
    refine r_get E 5 0 0 dX6_count_114 in_X6_count_X6 lk_X6_count_10 rfl rfl (by decide) rfl ?_
    refine r_iconst E 1 rfl dX6_count_117 ?_
    refine r_vP E (st := []) (c_X2_strokesOf l D h0 h1 cI g n q 1 (by first | assumption | omega | exact ⟨by omega, by omega⟩) (by first | assumption | omega | exact ⟨by omega, by omega⟩) (by first | assumption | omega | exact ⟨by omega, by omega⟩)) gX6_count_X2_strokesOf 1 kf_X2_strokesOf ⟨rfl, rfl⟩ ⟨by decide, by decide⟩ dX6_count_118 rfl 1 rfl rfl rfl rfl ⟨Nat.zero_le _, Nat.zero_le _⟩ [1, 2] rfl (by decide) [0] rfl (Nat.le_of_ble_eq_true rfl) ?_
    exact r_retP E hr dX6_count_121 (by
          first | (subst w; rfl) | (simp [*]; done) | (repeat' (first | rw [if_neg (by omega)] | rfl))) hQ
  by_cases c_1_4 : w = 4
  · refine r_tabIn E 4 122 dX6_count_1 c_1_4 ⟨by decide, by decide⟩ (by decide) (by decide) rfl (by decide) ?_
    refine r_aload_n E 0 dX6_count_122 rfl rfl ?_
    refine r_get E 5 0 0 dX6_count_123 in_X6_count_X6 lk_X6_count_10 rfl rfl (by decide) rfl ?_
    refine r_iconst E 2 rfl dX6_count_126 ?_
    refine r_vP E (st := []) (c_X2_strokesOf l D h0 h1 cI g n q 2 (by first | assumption | omega | exact ⟨by omega, by omega⟩) (by first | assumption | omega | exact ⟨by omega, by omega⟩) (by first | assumption | omega | exact ⟨by omega, by omega⟩)) gX6_count_X2_strokesOf 1 kf_X2_strokesOf ⟨rfl, rfl⟩ ⟨by decide, by decide⟩ dX6_count_127 rfl 1 rfl rfl rfl rfl ⟨Nat.zero_le _, Nat.zero_le _⟩ [1, 2] rfl (by decide) [0] rfl (Nat.le_of_ble_eq_true rfl) ?_
    exact r_retP E hr dX6_count_130 (by
          first | (subst w; rfl) | (simp [*]; done) | (repeat' (first | rw [if_neg (by omega)] | rfl))) hQ
  by_cases c_1_5 : w = 5
  · refine r_tabIn E 5 131 dX6_count_1 c_1_5 ⟨by decide, by decide⟩ (by decide) (by decide) rfl (by decide) ?_
    refine r_aload_n E 0 dX6_count_131 rfl rfl ?_
    refine r_get E 5 0 0 dX6_count_132 in_X6_count_X6 lk_X6_count_10 rfl rfl (by decide) rfl ?_
    refine r_vP E (st := []) (c_X2_accents l D h0 h1 cI g n q (by first | assumption | omega | exact ⟨by omega, by omega⟩) (by first | assumption | omega | exact ⟨by omega, by omega⟩)) gX6_count_X2_accents 0 kf_X2_accents ⟨rfl, rfl⟩ ⟨by decide, by decide⟩ dX6_count_135 rfl 1 rfl rfl rfl rfl ⟨Nat.zero_le _, Nat.zero_le _⟩ [1, 2] rfl (by decide) [0] rfl (Nat.le_of_ble_eq_true rfl) ?_
    exact r_retP E hr dX6_count_138 (by
          first | (subst w; rfl) | (simp [*]; done) | (repeat' (first | rw [if_neg (by omega)] | rfl))) hQ
  by_cases c_1_6 : w = 6
  · refine r_tabIn E 6 139 dX6_count_1 c_1_6 ⟨by decide, by decide⟩ (by decide) (by decide) rfl (by decide) ?_
    refine r_aload_n E 0 dX6_count_139 rfl rfl ?_
    refine r_get E 5 0 0 dX6_count_140 in_X6_count_X6 lk_X6_count_10 rfl rfl (by decide) rfl ?_
    refine r_iconst E 1 rfl dX6_count_143 ?_
    refine r_vP E (st := []) (c_X2_strokesWith l D h0 h1 cI g n q 1 (by first | assumption | omega | exact ⟨by omega, by omega⟩) (by first | assumption | omega | exact ⟨by omega, by omega⟩) (by first | assumption | omega | exact ⟨by omega, by omega⟩)) gX6_count_X2_strokesWith 1 kf_X2_strokesWith ⟨rfl, rfl⟩ ⟨by decide, by decide⟩ dX6_count_144 rfl 1 rfl rfl rfl rfl ⟨Nat.zero_le _, Nat.zero_le _⟩ [1, 2] rfl (by decide) [0] rfl (Nat.le_of_ble_eq_true rfl) ?_
    exact r_retP E hr dX6_count_147 (by
          first | (subst w; rfl) | (simp [*]; done) | (repeat' (first | rw [if_neg (by omega)] | rfl))) hQ
  by_cases c_1_7 : w = 7
  · refine r_tabIn E 7 148 dX6_count_1 c_1_7 ⟨by decide, by decide⟩ (by decide) (by decide) rfl (by decide) ?_
    refine r_aload_n E 0 dX6_count_148 rfl rfl ?_
    refine r_get E 5 0 0 dX6_count_149 in_X6_count_X6 lk_X6_count_10 rfl rfl (by decide) rfl ?_
    refine r_iconst E 2 rfl dX6_count_152 ?_
    refine r_vP E (st := []) (c_X2_strokesWith l D h0 h1 cI g n q 2 (by first | assumption | omega | exact ⟨by omega, by omega⟩) (by first | assumption | omega | exact ⟨by omega, by omega⟩) (by first | assumption | omega | exact ⟨by omega, by omega⟩)) gX6_count_X2_strokesWith 1 kf_X2_strokesWith ⟨rfl, rfl⟩ ⟨by decide, by decide⟩ dX6_count_153 rfl 1 rfl rfl rfl rfl ⟨Nat.zero_le _, Nat.zero_le _⟩ [1, 2] rfl (by decide) [0] rfl (Nat.le_of_ble_eq_true rfl) ?_
    exact r_retP E hr dX6_count_156 (by
          first | (subst w; rfl) | (simp [*]; done) | (repeat' (first | rw [if_neg (by omega)] | rfl))) hQ
  by_cases c_1_8 : w = 8
  · refine r_tabIn E 8 157 dX6_count_1 c_1_8 ⟨by decide, by decide⟩ (by decide) (by decide) rfl (by decide) ?_
    refine r_aload_n E 0 dX6_count_157 rfl rfl ?_
    refine r_get E 5 0 0 dX6_count_158 in_X6_count_X6 lk_X6_count_10 rfl rfl (by decide) rfl ?_
    refine r_iconst E 3 rfl dX6_count_161 ?_
    refine r_vP E (st := []) (c_X2_strokesWith l D h0 h1 cI g n q 3 (by first | assumption | omega | exact ⟨by omega, by omega⟩) (by first | assumption | omega | exact ⟨by omega, by omega⟩) (by first | assumption | omega | exact ⟨by omega, by omega⟩)) gX6_count_X2_strokesWith 1 kf_X2_strokesWith ⟨rfl, rfl⟩ ⟨by decide, by decide⟩ dX6_count_162 rfl 1 rfl rfl rfl rfl ⟨Nat.zero_le _, Nat.zero_le _⟩ [1, 2] rfl (by decide) [0] rfl (Nat.le_of_ble_eq_true rfl) ?_
    exact r_retP E hr dX6_count_165 (by
          first | (subst w; rfl) | (simp [*]; done) | (repeat' (first | rw [if_neg (by omega)] | rfl))) hQ
  by_cases c_1_9 : w = 9
  · refine r_tabIn E 9 166 dX6_count_1 c_1_9 ⟨by decide, by decide⟩ (by decide) (by decide) rfl (by decide) ?_
    refine r_aload_n E 0 dX6_count_166 rfl rfl ?_
    refine r_get E 5 0 0 dX6_count_167 in_X6_count_X6 lk_X6_count_10 rfl rfl (by decide) rfl ?_
    refine r_vP E (st := []) (c_X2_blows l D h0 h1 cI g n q (by first | assumption | omega | exact ⟨by omega, by omega⟩) (by first | assumption | omega | exact ⟨by omega, by omega⟩)) gX6_count_X2_blows 0 kf_X2_blows ⟨rfl, rfl⟩ ⟨by decide, by decide⟩ dX6_count_170 rfl 1 rfl rfl rfl rfl ⟨Nat.zero_le _, Nat.zero_le _⟩ [1, 2] rfl (by decide) [0] rfl (Nat.le_of_ble_eq_true rfl) ?_
    exact r_retP E hr dX6_count_173 (by
          first | (subst w; rfl) | (simp [*]; done) | (repeat' (first | rw [if_neg (by omega)] | rfl))) hQ
  by_cases c_1_10 : w = 10
  · refine r_tabIn E 10 174 dX6_count_1 c_1_10 ⟨by decide, by decide⟩ (by decide) (by decide) rfl (by decide) ?_
    refine r_aload_n E 0 dX6_count_174 rfl rfl ?_
    refine r_get E 5 0 0 dX6_count_175 in_X6_count_X6 lk_X6_count_10 rfl rfl (by decide) rfl ?_
    refine r_vP E (st := []) (c_X2_forces l D h0 h1 cI g n q (by first | assumption | omega | exact ⟨by omega, by omega⟩) (by first | assumption | omega | exact ⟨by omega, by omega⟩)) gX6_count_X2_forces 0 kf_X2_forces ⟨rfl, rfl⟩ ⟨by decide, by decide⟩ dX6_count_178 rfl 1 rfl rfl rfl rfl ⟨Nat.zero_le _, Nat.zero_le _⟩ [1, 2] rfl (by decide) [0] rfl (Nat.le_of_ble_eq_true rfl) ?_
    exact r_retP E hr dX6_count_181 (by
          first | (subst w; rfl) | (simp [*]; done) | (repeat' (first | rw [if_neg (by omega)] | rfl))) hQ
  by_cases c_1_11 : w = 11
  · refine r_tabIn E 11 182 dX6_count_1 c_1_11 ⟨by decide, by decide⟩ (by decide) (by decide) rfl (by decide) ?_
    refine r_aload_n E 0 dX6_count_182 rfl rfl ?_
    refine r_get E 5 0 0 dX6_count_183 in_X6_count_X6 lk_X6_count_10 rfl rfl (by decide) rfl ?_
    refine r_getN E 2 1 2 dX6_count_186 in_X6_count_X2 (by decide) rfl rfl rfl (by decide) rfl ?_
    exact r_retP E hr dX6_count_189 (by
          first | (subst w; rfl) | (simp [*]; done) | (repeat' (first | rw [if_neg (by omega)] | rfl))) hQ
  by_cases c_1_12 : w = 12
  · refine r_tabIn E 12 190 dX6_count_1 c_1_12 ⟨by decide, by decide⟩ (by decide) (by decide) rfl (by decide) ?_
    refine r_aload_n E 0 dX6_count_190 rfl rfl ?_
    refine r_get E 5 0 0 dX6_count_191 in_X6_count_X6 lk_X6_count_10 rfl rfl (by decide) rfl ?_
    refine r_vP E (st := []) (c_X2_longestRow l D h0 h1 cI g n q (by first | assumption | omega | exact ⟨by omega, by omega⟩) (by first | assumption | omega | exact ⟨by omega, by omega⟩)) gX6_count_X2_longestRow 0 kf_X2_longestRow ⟨rfl, rfl⟩ ⟨by decide, by decide⟩ dX6_count_194 rfl 1 rfl rfl rfl rfl ⟨Nat.zero_le _, Nat.zero_le _⟩ [1, 2] rfl (by decide) [0] rfl (Nat.le_of_ble_eq_true rfl) ?_
    exact r_retP E hr dX6_count_197 (by
          first | (subst w; rfl) | (simp [*]; done) | (repeat' (first | rw [if_neg (by omega)] | rfl))) hQ
  by_cases c_1_13 : w = 13
  · refine r_tabIn E 13 198 dX6_count_1 c_1_13 ⟨by decide, by decide⟩ (by decide) (by decide) rfl (by decide) ?_
    refine r_aload_n E 0 dX6_count_198 rfl rfl ?_
    refine r_get E 5 0 0 dX6_count_199 in_X6_count_X6 lk_X6_count_10 rfl rfl (by decide) rfl ?_
    refine r_vP E (st := []) (c_X2_textLength l D h0 h1 cI g n q (by first | assumption | omega | exact ⟨by omega, by omega⟩) (by first | assumption | omega | exact ⟨by omega, by omega⟩)) gX6_count_X2_textLength 0 kf_X2_textLength ⟨rfl, rfl⟩ ⟨by decide, by decide⟩ dX6_count_202 rfl 1 rfl rfl rfl rfl ⟨Nat.zero_le _, Nat.zero_le _⟩ [1, 2] rfl (by decide) [0] rfl (Nat.le_of_ble_eq_true rfl) ?_
    exact r_retP E hr dX6_count_205 (by
          first | (subst w; rfl) | (simp [*]; done) | (repeat' (first | rw [if_neg (by omega)] | rfl))) hQ
  by_cases c_1_14 : w = 14
  · refine r_tabIn E 14 206 dX6_count_1 c_1_14 ⟨by decide, by decide⟩ (by decide) (by decide) rfl (by decide) ?_
    refine r_aload_n E 0 dX6_count_206 rfl rfl ?_
    refine r_get E 5 0 4 dX6_count_207 in_X6_count_X6 lk_X6_count_32 rfl rfl (by decide) rfl ?_
    refine r_getN E 1 3 1 dX6_count_210 in_X6_count_X1 (by decide) rfl rfl rfl (by decide) rfl ?_
    exact r_retP E hr dX6_count_213 (by
          first | (subst w; rfl) | (simp [*]; done) | (repeat' (first | rw [if_neg (by omega)] | rfl))) hQ
  by_cases c_1_15 : w = 15
  · refine r_tabIn E 15 214 dX6_count_1 c_1_15 ⟨by decide, by decide⟩ (by decide) (by decide) rfl (by decide) ?_
    refine r_aload_n E 0 dX6_count_214 rfl rfl ?_
    refine r_get E 5 0 3 dX6_count_215 in_X6_count_X6 lk_X6_count_25 rfl rfl (by decide) rfl ?_
    refine r_getN E 0 5 1 dX6_count_218 in_X6_count_X0 (by decide) rfl rfl rfl (by decide) rfl ?_
    exact r_retP E hr dX6_count_221 (by
          first | (subst w; rfl) | (simp [*]; done) | (repeat' (first | rw [if_neg (by omega)] | rfl))) hQ
  refine r_tabOut E 222 dX6_count_1 hw (by omega) (by decide) ?_
  refine r_iconst E (-1) rfl dX6_count_222 ?_
  exact r_retP E hr dX6_count_223 (by
        first | (subst w; rfl) | (simp [*]; done) | (repeat' (first | rw [if_neg (by omega)] | rfl))) hQ
theorem kf_X6_clash : KF yX6_clash 0 wsX6_clash cX6_clash 1 (some .int) := ⟨rfl, by decide +kernel, by decide +kernel, by decide +kernel⟩
def rm_X6_clash : Room := { frames := 4, cells := 0, slots := 0, locals := 91 }
set_option maxRecDepth 20000 in
theorem in_X6_clash_X6 : ∀ w ∈ u_ws RX6 TX6 9, w ∈ wsX6_clash := by decide +kernel
set_option maxRecDepth 20000 in
theorem lk_X6_clash_10 : Cond.fieldLink RX6 10 (TX6 0).1 (TX6 0).2.1 (TX6 0).2.2.1 ∈ wsX6_clash := by decide +kernel
set_option maxHeartbeats 1000000 in
set_option maxRecDepth 100000 in
theorem c_X6_clashNo (l : Launch) (D : va_G) (x0 : Nat) (h0 : Nat) (t0 : Nat) (n0 : Nat) (i0 : Nat) (d0 : Nat) (r0 : Nat) (p0 : Nat) (hs : Int) (rf : Int) (h1 : Nat) (cI : ClassId) (g : Int → Int) (n : Int) (q : Int) (p1 : Nat) (p2 : Nat) (p3 : Nat) (p4 : Nat) (p5 : Nat) (p6 : Nat) (cZ : ClassId) (L : Int) (ow : Int → Int) (cA : Int → Int) (cU : Int → Int) (hd : Int → Int) (fw : Int → Int) (hn : 0 ≤ n ∧ n ≤ 32) (hg : ∀ j : Int, 0 ≤ j → j < n → 0 ≤ g j ∧ g j < 64) (hq : 1 ≤ q ∧ q ≤ 4) (hx : 0 < sm (fun j => b2 (¬ g j = 0 ∧ g j / 2 % 4 = 2)) n) : MM (S := Int × (Int → Int) × (Int → Int) × (Int → Int) × (Int → Int) × (Int → Int)) l yX6_clash wsX6_clash rm_X6_clash D vwCl [.ref x0] [(x0, .inr (5, [.ref h0, .ref t0, .ref n0, .ref i0, .ref d0, .ref r0, .ref p0, .int (iJ (hs)), .int (iJ (rf))])), (h0, .inr (2, [.ref h1, .int (iJ (n)), .int (iJ (q))])), (h1, cJ cI 32 (g)), (p0, .inr (3, [.ref p1, .ref p2, .ref p3, .ref p4, .ref p5, .ref p6, .int (iJ (L))])), (p1, cJ cI 32 (nrA)), (p2, cJ cI 32 (ow)), (p3, cJ cZ 32 (cA)), (p4, cJ cZ 32 (cU)), (p5, cJ cI 32 (hd)), (p6, cJ cI 132 (fw))] [(cI, .int), (cZ, .boolean)] (fun (u : Int × (Int → Int) × (Int → Int) × (Int → Int) × (Int → Int) × (Int → Int)) => -2) (fun (u : Int × (Int → Int) × (Int → Int) × (Int → Int) × (Int → Int) × (Int → Int)) => True) (fun (u : Int × (Int → Int) × (Int → Int) × (Int → Int) × (Int → Int) × (Int → Int)) => [(x0, .inr (5, [.ref h0, .ref t0, .ref n0, .ref i0, .ref d0, .ref r0, .ref p0, .int (iJ (hs)), .int (iJ (rf))])), (h0, .inr (2, [.ref h1, .int (iJ (n)), .int (iJ (q))])), (h1, cJ cI 32 (g)), (p0, .inr (3, [.ref p1, .ref p2, .ref p3, .ref p4, .ref p5, .ref p6, .int (iJ (u.1))])), (p1, cJ cI 32 (nrA)), (p2, cJ cI 32 (u.2.1)), (p3, cJ cZ 32 (u.2.2.1)), (p4, cJ cZ 32 (u.2.2.2.1)), (p5, cJ cI 32 (u.2.2.2.2.1)), (p6, cJ cI 132 (u.2.2.2.2.2))]) := by
  refine MM.mk (cc := cX6_clash) (maxL := 1) (ret := (some .int)) (by decide) rfl (Nat.le_of_ble_eq_true rfl) rfl RX6 rfl ?_
  intro p_ e_ s_ m_ ar_ bw_ mt_ cd_ B_ Q_ hA E hr hQ
  have f_S := sm_le (f := fun j => b2 (¬ g j = 0 ∧ g j / 2 % 4 = 2)) (c := 1) (k := n) (by omega) (fun j _ _ => by rcases b2_01 (¬ g j = 0 ∧ g j / 2 % 4 = 2) with z | z <;> (rw [z]; omega))
  refine r_aload_n E 0 dX6_clash_0 rfl rfl ?_
  refine r_get E 5 0 0 dX6_clash_1 in_X6_clash_X6 lk_X6_clash_10 rfl rfl (by decide) rfl ?_
  refine r_iconst E 2 rfl dX6_clash_4 ?_
  refine r_vP E (st := []) (c_X2_strokesOf l D h0 h1 cI g n q 2 (by first | assumption | omega | exact ⟨by omega, by omega⟩) (by first | assumption | omega | exact ⟨by omega, by omega⟩) (by first | assumption | omega | exact ⟨by omega, by omega⟩)) gX6_clash_X2_strokesOf 1 kf_X2_strokesOf ⟨rfl, rfl⟩ ⟨by decide, by decide⟩ dX6_clash_5 rfl 1 rfl rfl rfl rfl ⟨Nat.zero_le _, Nat.zero_le _⟩ [1, 2] rfl (by decide) [0] rfl (Nat.le_of_ble_eq_true rfl) ?_
  refine r_if_le E 14 dX6_clash_8 (by decide) ⟨by omega, by omega⟩ (fun c_8 => absurd c_8 (by omega)) (fun c_8 => ?_)
  refine r_bipush E (-2) rfl dX6_clash_11 ?_
  exact r_retM E (L, ow, cA, cU, hd, fw) hr dX6_clash_13 rfl trivial rfl hQ
set_option maxRecDepth 20000 in
theorem lk_X6_clash_46 : Cond.fieldLink RX6 46 (TX6 6).1 (TX6 6).2.1 (TX6 6).2.2.1 ∈ wsX6_clash := by decide +kernel
set_option maxHeartbeats 1000000 in
set_option maxRecDepth 100000 in
theorem c_X6_clash (l : Launch) (D : va_G) (x0 : Nat) (h0 : Nat) (t0 : Nat) (n0 : Nat) (i0 : Nat) (d0 : Nat) (r0 : Nat) (p0 : Nat) (hs : Int) (rf : Int) (h1 : Nat) (cI : ClassId) (g : Int → Int) (n : Int) (q : Int) (p1 : Nat) (p2 : Nat) (p3 : Nat) (p4 : Nat) (p5 : Nat) (p6 : Nat) (cZ : ClassId) (L : Int) (ow : Int → Int) (cA : Int → Int) (cU : Int → Int) (hd : Int → Int) (fw : Int → Int) (hn : 0 ≤ n ∧ n ≤ 32) (hg : ∀ j : Int, 0 ≤ j → j < n → 0 ≤ g j ∧ g j < 64) (hq : 1 ≤ q ∧ q ≤ 4) (hx : sm (fun j => b2 (¬ g j = 0 ∧ g j / 2 % 4 = 2)) n = 0) : MM (S := Int × (Int → Int) × (Int → Int) × (Int → Int) × (Int → Int) × (Int → Int)) l yX6_clash wsX6_clash rm_X6_clash D vwCl [.ref x0] [(x0, .inr (5, [.ref h0, .ref t0, .ref n0, .ref i0, .ref d0, .ref r0, .ref p0, .int (iJ (hs)), .int (iJ (rf))])), (h0, .inr (2, [.ref h1, .int (iJ (n)), .int (iJ (q))])), (h1, cJ cI 32 (g)), (p0, .inr (3, [.ref p1, .ref p2, .ref p3, .ref p4, .ref p5, .ref p6, .int (iJ (L))])), (p1, cJ cI 32 (nrA)), (p2, cJ cI 32 (ow)), (p3, cJ cZ 32 (cA)), (p4, cJ cZ 32 (cU)), (p5, cJ cI 32 (hd)), (p6, cJ cI 132 (fw))] [(cI, .int), (cZ, .boolean)] (fun (u : Int × (Int → Int) × (Int → Int) × (Int → Int) × (Int → Int) × (Int → Int)) => fcP g n q) (fun (u : Int × (Int → Int) × (Int → Int) × (Int → Int) × (Int → Int) × (Int → Int)) => True) (fun (u : Int × (Int → Int) × (Int → Int) × (Int → Int) × (Int → Int) × (Int → Int)) => [(x0, .inr (5, [.ref h0, .ref t0, .ref n0, .ref i0, .ref d0, .ref r0, .ref p0, .int (iJ (hs)), .int (iJ (rf))])), (h0, .inr (2, [.ref h1, .int (iJ (n)), .int (iJ (q))])), (h1, cJ cI 32 (g)), (p0, .inr (3, [.ref p1, .ref p2, .ref p3, .ref p4, .ref p5, .ref p6, .int (iJ (u.1))])), (p1, cJ cI 32 (nrA)), (p2, cJ cI 32 (u.2.1)), (p3, cJ cZ 32 (u.2.2.1)), (p4, cJ cZ 32 (u.2.2.2.1)), (p5, cJ cI 32 (u.2.2.2.2.1)), (p6, cJ cI 132 (u.2.2.2.2.2))]) := by
  refine MM.mk (cc := cX6_clash) (maxL := 1) (ret := (some .int)) (by decide) rfl (Nat.le_of_ble_eq_true rfl) rfl RX6 rfl ?_
  intro p_ e_ s_ m_ ar_ bw_ mt_ cd_ B_ Q_ hA E hr hQ
  have f_S := sm_le (f := fun j => b2 (¬ g j = 0 ∧ g j / 2 % 4 = 2)) (c := 1) (k := n) (by omega) (fun j _ _ => by rcases b2_01 (¬ g j = 0 ∧ g j / 2 % 4 = 2) with z | z <;> (rw [z]; omega))
  refine r_aload_n E 0 dX6_clash_0 rfl rfl ?_
  refine r_get E 5 0 0 dX6_clash_1 in_X6_clash_X6 lk_X6_clash_10 rfl rfl (by decide) rfl ?_
  refine r_iconst E 2 rfl dX6_clash_4 ?_
  refine r_vP E (st := []) (c_X2_strokesOf l D h0 h1 cI g n q 2 (by first | assumption | omega | exact ⟨by omega, by omega⟩) (by first | assumption | omega | exact ⟨by omega, by omega⟩) (by first | assumption | omega | exact ⟨by omega, by omega⟩)) gX6_clash_X2_strokesOf 1 kf_X2_strokesOf ⟨rfl, rfl⟩ ⟨by decide, by decide⟩ dX6_clash_5 rfl 1 rfl rfl rfl rfl ⟨Nat.zero_le _, Nat.zero_le _⟩ [1, 2] rfl (by decide) [0] rfl (Nat.le_of_ble_eq_true rfl) ?_
  refine r_if_le E 14 dX6_clash_8 (by decide) ⟨by omega, by omega⟩ (fun c_8 => ?_) (fun c_8 => absurd c_8 (by omega))
  refine r_aload_n E 0 dX6_clash_14 rfl rfl ?_
  refine r_get E 5 0 6 dX6_clash_15 in_X6_clash_X6 lk_X6_clash_46 rfl rfl (by decide) rfl ?_
  refine r_aload_n E 0 dX6_clash_18 rfl rfl ?_
  refine r_get E 5 0 0 dX6_clash_19 in_X6_clash_X6 lk_X6_clash_10 rfl rfl (by decide) rfl ?_
  refine r_vM E (st := []) (c_X3_onlyP l D p0 p1 p2 p3 p4 p5 p6 cI cZ L ow cA cU hd fw h0 h1 g n q (by first | assumption | omega | exact ⟨by omega, by omega⟩) (by first | assumption | omega | exact ⟨by omega, by omega⟩) (by first | assumption | omega | exact ⟨by omega, by omega⟩)) gX6_clash_X3_clashOfOnly 1 kf_X3_clashOfOnly ⟨rfl, rfl⟩ ⟨by decide, by decide⟩ dX6_clash_22 rfl 3 rfl rfl rfl rfl ⟨Nat.zero_le _, Nat.zero_le _⟩ [3, 4, 5, 6, 7, 8, 9, 1, 2] rfl (by decide) [0, 1] rfl (Nat.le_of_ble_eq_true rfl) [(x0, .inr (5, [.ref h0, .ref t0, .ref n0, .ref i0, .ref d0, .ref r0, .ref p0, .int (iJ (hs)), .int (iJ (rf))]))] [0] rfl (by decide) (by decide) hA [0, 8, 9, 1, 2, 3, 4, 5, 6, 7] (by decide) (fun u : (Int → Int) × (Int → Int) × (Int → Int) × (Int → Int) × Int => [(x0, .inr (5, [.ref h0, .ref t0, .ref n0, .ref i0, .ref d0, .ref r0, .ref p0, .int (iJ (hs)), .int (iJ (rf))])), (h0, .inr (2, [.ref h1, .int (iJ (n)), .int (iJ (q))])), (h1, cJ cI 32 (g)), (p0, .inr (3, [.ref p1, .ref p2, .ref p3, .ref p4, .ref p5, .ref p6, .int (iJ (u.2.2.2.2))])), (p1, cJ cI 32 (nrA)), (p2, cJ cI 32 (u.1)), (p3, cJ cZ 32 (u.2.1)), (p4, cJ cZ 32 (u.2.2.1)), (p5, cJ cI 32 (u.2.2.2.1)), (p6, cJ cI 132 (fw))]) (fun _ => rfl) ?_
  rintro ⟨Oc, Ac, Uc, Hc, Lc⟩ hp_1
  refine r_cv (ws2 := [(x0, .inr (5, [.ref h0, .ref t0, .ref n0, .ref i0, .ref d0, .ref r0, .ref p0, .int (iJ (hs)), .int (iJ (rf))])), (h0, .inr (2, [.ref h1, .int (iJ (n)), .int (iJ (q))])), (h1, cJ cI 32 (g)), (p0, .inr (3, [.ref p1, .ref p2, .ref p3, .ref p4, .ref p5, .ref p6, .int (iJ (Lc))])), (p1, cJ cI 32 (nrA)), (p2, cJ cI 32 (Oc)), (p3, cJ cZ 32 (Ac)), (p4, cJ cZ 32 (Uc)), (p5, cJ cI 32 (Hc)), (p6, cJ cI 132 (fw))]) (st2 := [.int (iJ (fcP g n q))]) rfl rfl rfl ?_
  exact r_retM E (Lc, Oc, Ac, Uc, Hc, fw) hr dX6_clash_25 rfl trivial rfl hQ
theorem kf_X6_stickings : KF yX6_stickings 2 wsX6_stickings cX6_stickings 3 (some .int) := ⟨rfl, by decide +kernel, by decide +kernel, by decide +kernel⟩
def rm_X6_stickings : Room := { frames := 5, cells := 0, slots := 0, locals := 125 }
set_option maxHeartbeats 1000000 in
set_option maxRecDepth 100000 in
theorem c_X6_stickBad (l : Launch) (D : va_G) (x0 : Nat) (h0 : Nat) (t0 : Nat) (n0 : Nat) (i0 : Nat) (d0 : Nat) (r0 : Nat) (p0 : Nat) (hs : Int) (rf : Int) (h1 : Nat) (cI : ClassId) (g : Int → Int) (n : Int) (q : Int) (p1 : Nat) (p2 : Nat) (p3 : Nat) (p4 : Nat) (p5 : Nat) (p6 : Nat) (cZ : ClassId) (L : Int) (ow : Int → Int) (cA : Int → Int) (cU : Int → Int) (hd : Int → Int) (fw : Int → Int) (ov : Int) (w : Int) (hn : 0 ≤ n ∧ n ≤ 32) (hg : ∀ j : Int, 0 ≤ j → j < n → 0 ≤ g j ∧ g j < 64) (hq : 1 ≤ q ∧ q ≤ 4) (hw : jb w) (hx : ¬ (0 ≤ w ∧ w ≤ 1)) : MM (S := Int × (Int → Int) × (Int → Int) × (Int → Int) × (Int → Int) × (Int → Int)) l yX6_stickings wsX6_stickings rm_X6_stickings D vwCl [.ref x0, .int (iJ (ov)), .int (iJ (w))] [(x0, .inr (5, [.ref h0, .ref t0, .ref n0, .ref i0, .ref d0, .ref r0, .ref p0, .int (iJ (hs)), .int (iJ (rf))])), (h0, .inr (2, [.ref h1, .int (iJ (n)), .int (iJ (q))])), (h1, cJ cI 32 (g)), (p0, .inr (3, [.ref p1, .ref p2, .ref p3, .ref p4, .ref p5, .ref p6, .int (iJ (L))])), (p1, cJ cI 32 (nrA)), (p2, cJ cI 32 (ow)), (p3, cJ cZ 32 (cA)), (p4, cJ cZ 32 (cU)), (p5, cJ cI 32 (hd)), (p6, cJ cI 132 (fw))] [(cI, .int), (cZ, .boolean)] (fun (u : Int × (Int → Int) × (Int → Int) × (Int → Int) × (Int → Int) × (Int → Int)) => -1) (fun (u : Int × (Int → Int) × (Int → Int) × (Int → Int) × (Int → Int) × (Int → Int)) => True) (fun (u : Int × (Int → Int) × (Int → Int) × (Int → Int) × (Int → Int) × (Int → Int)) => [(x0, .inr (5, [.ref h0, .ref t0, .ref n0, .ref i0, .ref d0, .ref r0, .ref p0, .int (iJ (hs)), .int (iJ (rf))])), (h0, .inr (2, [.ref h1, .int (iJ (n)), .int (iJ (q))])), (h1, cJ cI 32 (g)), (p0, .inr (3, [.ref p1, .ref p2, .ref p3, .ref p4, .ref p5, .ref p6, .int (iJ (u.1))])), (p1, cJ cI 32 (nrA)), (p2, cJ cI 32 (u.2.1)), (p3, cJ cZ 32 (u.2.2.1)), (p4, cJ cZ 32 (u.2.2.2.1)), (p5, cJ cI 32 (u.2.2.2.2.1)), (p6, cJ cI 132 (u.2.2.2.2.2))]) := by
  refine MM.mk (cc := cX6_stickings) (maxL := 3) (ret := (some .int)) (by decide) rfl (Nat.le_of_ble_eq_true rfl) rfl RX6 rfl ?_
  intro p_ e_ s_ m_ ar_ bw_ mt_ cd_ B_ Q_ hA E hr hQ
  refine r_iload_n E 2 dX6_stickings_0 rfl rfl ?_
  refine r_if_eq E 11 dX6_stickings_1 (by decide) hw (fun c_1 => absurd c_1 (by omega)) (fun c_1 => ?_)
  refine r_iload_n E 2 dX6_stickings_4 rfl rfl ?_
  refine r_iconst E 1 rfl dX6_stickings_5 ?_
  refine r_icmp_eq E 11 dX6_stickings_6 (by decide) hw ⟨by omega, by omega⟩ (fun c_6 => absurd c_6 (by omega)) (fun c_6 => ?_)
  refine r_iconst E (-1) rfl dX6_stickings_9 ?_
  exact r_retM E (L, ow, cA, cU, hd, fw) hr dX6_stickings_10 rfl trivial rfl hQ
set_option maxRecDepth 20000 in
theorem in_X6_stickings_X6 : ∀ w ∈ u_ws RX6 TX6 9, w ∈ wsX6_stickings := by decide +kernel
set_option maxRecDepth 20000 in
theorem lk_X6_stickings_10 : Cond.fieldLink RX6 10 (TX6 0).1 (TX6 0).2.1 (TX6 0).2.2.1 ∈ wsX6_stickings := by decide +kernel
set_option maxRecDepth 20000 in
theorem lk_X6_stickings_46 : Cond.fieldLink RX6 46 (TX6 6).1 (TX6 6).2.1 (TX6 6).2.2.1 ∈ wsX6_stickings := by decide +kernel
set_option maxHeartbeats 1000000 in
set_option maxRecDepth 100000 in
theorem c_X6_stickEach (l : Launch) (D : va_G) (x0 : Nat) (h0 : Nat) (t0 : Nat) (n0 : Nat) (i0 : Nat) (d0 : Nat) (r0 : Nat) (p0 : Nat) (hs : Int) (rf : Int) (h1 : Nat) (cI : ClassId) (g : Int → Int) (n : Int) (q : Int) (p1 : Nat) (p2 : Nat) (p3 : Nat) (p4 : Nat) (p5 : Nat) (p6 : Nat) (cZ : ClassId) (L : Int) (ow : Int → Int) (cA : Int → Int) (cU : Int → Int) (hd : Int → Int) (fw : Int → Int) (ov : Int) (w : Int) (hn : 0 ≤ n ∧ n ≤ 32) (hg : ∀ j : Int, 0 ≤ j → j < n → 0 ≤ g j ∧ g j < 64) (hq : 1 ≤ q ∧ q ≤ 4) (hov : ov = 0 ∨ ov = 1) (hx : w = 1 ∧ sm (fun j => b2 (¬ g j = 0 ∧ g j / 2 % 4 = 2)) n ≤ 8) : MM (S := Int × (Int → Int) × (Int → Int) × (Int → Int) × (Int → Int) × (Int → Int)) l yX6_stickings wsX6_stickings rm_X6_stickings D vwCl [.ref x0, .int (iJ (ov)), .int (iJ (w))] [(x0, .inr (5, [.ref h0, .ref t0, .ref n0, .ref i0, .ref d0, .ref r0, .ref p0, .int (iJ (hs)), .int (iJ (rf))])), (h0, .inr (2, [.ref h1, .int (iJ (n)), .int (iJ (q))])), (h1, cJ cI 32 (g)), (p0, .inr (3, [.ref p1, .ref p2, .ref p3, .ref p4, .ref p5, .ref p6, .int (iJ (L))])), (p1, cJ cI 32 (nrA)), (p2, cJ cI 32 (ow)), (p3, cJ cZ 32 (cA)), (p4, cJ cZ 32 (cU)), (p5, cJ cI 32 (hd)), (p6, cJ cI 132 (fw))] [(cI, .int), (cZ, .boolean)] (fun (u : Int × (Int → Int) × (Int → Int) × (Int → Int) × (Int → Int) × (Int → Int)) => teP g n q ov (2 ^ (sm (fun j => b2 (¬ g j = 0 ∧ g j / 2 % 4 = 2)) n).toNat)) (fun (u : Int × (Int → Int) × (Int → Int) × (Int → Int) × (Int → Int) × (Int → Int)) => True) (fun (u : Int × (Int → Int) × (Int → Int) × (Int → Int) × (Int → Int) × (Int → Int)) => [(x0, .inr (5, [.ref h0, .ref t0, .ref n0, .ref i0, .ref d0, .ref r0, .ref p0, .int (iJ (hs)), .int (iJ (rf))])), (h0, .inr (2, [.ref h1, .int (iJ (n)), .int (iJ (q))])), (h1, cJ cI 32 (g)), (p0, .inr (3, [.ref p1, .ref p2, .ref p3, .ref p4, .ref p5, .ref p6, .int (iJ (u.1))])), (p1, cJ cI 32 (nrA)), (p2, cJ cI 32 (u.2.1)), (p3, cJ cZ 32 (u.2.2.1)), (p4, cJ cZ 32 (u.2.2.2.1)), (p5, cJ cI 32 (u.2.2.2.2.1)), (p6, cJ cI 132 (u.2.2.2.2.2))]) := by
  refine MM.mk (cc := cX6_stickings) (maxL := 3) (ret := (some .int)) (by decide) rfl (Nat.le_of_ble_eq_true rfl) rfl RX6 rfl ?_
  intro p_ e_ s_ m_ ar_ bw_ mt_ cd_ B_ Q_ hA E hr hQ
  have f_S := sm_le (f := fun j => b2 (¬ g j = 0 ∧ g j / 2 % 4 = 2)) (c := 1) (k := n) (by omega) (fun j _ _ => by rcases b2_01 (¬ g j = 0 ∧ g j / 2 % 4 = 2) with z | z <;> (rw [z]; omega))
  refine r_iload_n E 2 dX6_stickings_0 rfl rfl ?_
  refine r_if_eq E 11 dX6_stickings_1 (by decide) ⟨by omega, by omega⟩ (fun c_1 => absurd c_1 (by omega)) (fun c_1 => ?_)
  refine r_iload_n E 2 dX6_stickings_4 rfl rfl ?_
  refine r_iconst E 1 rfl dX6_stickings_5 ?_
  refine r_icmp_eq E 11 dX6_stickings_6 (by decide) ⟨by omega, by omega⟩ ⟨by omega, by omega⟩ (fun c_6 => ?_) (fun c_6 => absurd c_6 (by omega))
  refine r_iload_n E 2 dX6_stickings_11 rfl rfl ?_
  refine r_iconst E 1 rfl dX6_stickings_12 ?_
  refine r_icmp_ne E 42 dX6_stickings_13 (by decide) ⟨by omega, by omega⟩ ⟨by omega, by omega⟩ (fun c_13 => absurd c_13 (by omega)) (fun c_13 => ?_)
  refine r_aload_n E 0 dX6_stickings_16 rfl rfl ?_
  refine r_get E 5 0 0 dX6_stickings_17 in_X6_stickings_X6 lk_X6_stickings_10 rfl rfl (by decide) rfl ?_
  refine r_iconst E 2 rfl dX6_stickings_20 ?_
  refine r_vP E (st := []) (c_X2_strokesOf l D h0 h1 cI g n q 2 (by first | assumption | omega | exact ⟨by omega, by omega⟩) (by first | assumption | omega | exact ⟨by omega, by omega⟩) (by first | assumption | omega | exact ⟨by omega, by omega⟩)) gX6_stickings_X2_strokesOf 1 kf_X2_strokesOf ⟨rfl, rfl⟩ ⟨by decide, by decide⟩ dX6_stickings_21 rfl 1 rfl rfl rfl rfl ⟨Nat.zero_le _, Nat.zero_le _⟩ [1, 2] rfl (by decide) [0] rfl (Nat.le_of_ble_eq_true rfl) ?_
  refine r_bipush E 8 rfl dX6_stickings_24 ?_
  refine r_icmp_gt E 42 dX6_stickings_26 (by decide) ⟨by omega, by omega⟩ ⟨by omega, by omega⟩ (fun c_26 => absurd c_26 (by omega)) (fun c_26 => ?_)
  refine r_aload_n E 0 dX6_stickings_29 rfl rfl ?_
  refine r_get E 5 0 6 dX6_stickings_30 in_X6_stickings_X6 lk_X6_stickings_46 rfl rfl (by decide) rfl ?_
  refine r_aload_n E 0 dX6_stickings_33 rfl rfl ?_
  refine r_get E 5 0 0 dX6_stickings_34 in_X6_stickings_X6 lk_X6_stickings_10 rfl rfl (by decide) rfl ?_
  refine r_iload_n E 1 dX6_stickings_37 rfl rfl ?_
  refine r_vM E (st := []) (c_X3_eachP l D p0 p1 p2 p3 p4 p5 p6 cI cZ L ow cA cU hd fw h0 h1 g n q ov (by first | assumption | omega | exact ⟨by omega, by omega⟩) (by first | assumption | omega | exact ⟨by omega, by omega⟩) (by first | assumption | omega | exact ⟨by omega, by omega⟩) (by first | assumption | omega | exact ⟨by omega, by omega⟩) hx.2) gX6_stickings_X3_tellEach 2 kf_X3_tellEach ⟨rfl, rfl⟩ ⟨by decide, by decide⟩ dX6_stickings_38 rfl 3 rfl rfl rfl rfl ⟨Nat.zero_le _, Nat.zero_le _⟩ [3, 4, 5, 6, 7, 8, 9, 1, 2] rfl (by decide) [0, 1] rfl (Nat.le_of_ble_eq_true rfl) [(x0, .inr (5, [.ref h0, .ref t0, .ref n0, .ref i0, .ref d0, .ref r0, .ref p0, .int (iJ (hs)), .int (iJ (rf))]))] [0] rfl (by decide) (by decide) hA [0, 8, 9, 1, 2, 3, 4, 5, 6, 7] (by decide) (fun u : (Int → Int) × (Int → Int) × (Int → Int) × (Int → Int) × Int => [(x0, .inr (5, [.ref h0, .ref t0, .ref n0, .ref i0, .ref d0, .ref r0, .ref p0, .int (iJ (hs)), .int (iJ (rf))])), (h0, .inr (2, [.ref h1, .int (iJ (n)), .int (iJ (q))])), (h1, cJ cI 32 (g)), (p0, .inr (3, [.ref p1, .ref p2, .ref p3, .ref p4, .ref p5, .ref p6, .int (iJ (u.2.2.2.2))])), (p1, cJ cI 32 (nrA)), (p2, cJ cI 32 (u.1)), (p3, cJ cZ 32 (u.2.1)), (p4, cJ cZ 32 (u.2.2.1)), (p5, cJ cI 32 (u.2.2.2.1)), (p6, cJ cI 132 (fw))]) (fun _ => rfl) ?_
  rintro ⟨Oc, Ac, Uc, Hc, Lc⟩ hp_1
  refine r_cv (ws2 := [(x0, .inr (5, [.ref h0, .ref t0, .ref n0, .ref i0, .ref d0, .ref r0, .ref p0, .int (iJ (hs)), .int (iJ (rf))])), (h0, .inr (2, [.ref h1, .int (iJ (n)), .int (iJ (q))])), (h1, cJ cI 32 (g)), (p0, .inr (3, [.ref p1, .ref p2, .ref p3, .ref p4, .ref p5, .ref p6, .int (iJ (Lc))])), (p1, cJ cI 32 (nrA)), (p2, cJ cI 32 (Oc)), (p3, cJ cZ 32 (Ac)), (p4, cJ cZ 32 (Uc)), (p5, cJ cI 32 (Hc)), (p6, cJ cI 132 (fw))]) (st2 := [.int (iJ (teP g n q ov (2 ^ (sm (fun j => b2 (¬ g j = 0 ∧ g j / 2 % 4 = 2)) n).toNat)))]) rfl rfl rfl ?_
  exact r_retM E (Lc, Oc, Ac, Uc, Hc, fw) hr dX6_stickings_41 rfl trivial rfl hQ
set_option maxHeartbeats 1000000 in
set_option maxRecDepth 100000 in
theorem c_X6_stickings (l : Launch) (D : va_G) (x0 : Nat) (h0 : Nat) (t0 : Nat) (n0 : Nat) (i0 : Nat) (d0 : Nat) (r0 : Nat) (p0 : Nat) (hs : Int) (rf : Int) (h1 : Nat) (cI : ClassId) (g : Int → Int) (n : Int) (q : Int) (p1 : Nat) (p2 : Nat) (p3 : Nat) (p4 : Nat) (p5 : Nat) (p6 : Nat) (cZ : ClassId) (L : Int) (ow : Int → Int) (cA : Int → Int) (cU : Int → Int) (hd : Int → Int) (fw : Int → Int) (ov : Int) (w : Int) (hn : 0 ≤ n ∧ n ≤ 32) (hg : ∀ j : Int, 0 ≤ j → j < n → 0 ≤ g j ∧ g j < 64) (hq : 1 ≤ q ∧ q ≤ 4) (hov : ov = 0 ∨ ov = 1) (hx : w = 0 ∨ (w = 1 ∧ 8 < sm (fun j => b2 (¬ g j = 0 ∧ g j / 2 % 4 = 2)) n)) : MM (S := Int × (Int → Int) × (Int → Int) × (Int → Int) × (Int → Int) × (Int → Int)) l yX6_stickings wsX6_stickings rm_X6_stickings D vwCl [.ref x0, .int (iJ (ov)), .int (iJ (w))] [(x0, .inr (5, [.ref h0, .ref t0, .ref n0, .ref i0, .ref d0, .ref r0, .ref p0, .int (iJ (hs)), .int (iJ (rf))])), (h0, .inr (2, [.ref h1, .int (iJ (n)), .int (iJ (q))])), (h1, cJ cI 32 (g)), (p0, .inr (3, [.ref p1, .ref p2, .ref p3, .ref p4, .ref p5, .ref p6, .int (iJ (L))])), (p1, cJ cI 32 (nrA)), (p2, cJ cI 32 (ow)), (p3, cJ cZ 32 (cA)), (p4, cJ cZ 32 (cU)), (p5, cJ cI 32 (hd)), (p6, cJ cI 132 (fw))] [(cI, .int), (cZ, .boolean)] (fun (u : Int × (Int → Int) × (Int → Int) × (Int → Int) × (Int → Int) × (Int → Int)) => (if sm (fun j => b2 (¬ g j = 0)) n = 0 then 1 else (if 1000000000 < tlP g n q ov then 1000000000 else tlP g n q ov))) (fun (u : Int × (Int → Int) × (Int → Int) × (Int → Int) × (Int → Int) × (Int → Int)) => True) (fun (u : Int × (Int → Int) × (Int → Int) × (Int → Int) × (Int → Int) × (Int → Int)) => [(x0, .inr (5, [.ref h0, .ref t0, .ref n0, .ref i0, .ref d0, .ref r0, .ref p0, .int (iJ (hs)), .int (iJ (rf))])), (h0, .inr (2, [.ref h1, .int (iJ (n)), .int (iJ (q))])), (h1, cJ cI 32 (g)), (p0, .inr (3, [.ref p1, .ref p2, .ref p3, .ref p4, .ref p5, .ref p6, .int (iJ (u.1))])), (p1, cJ cI 32 (nrA)), (p2, cJ cI 32 (u.2.1)), (p3, cJ cZ 32 (u.2.2.1)), (p4, cJ cZ 32 (u.2.2.2.1)), (p5, cJ cI 32 (u.2.2.2.2.1)), (p6, cJ cI 132 (u.2.2.2.2.2))]) := by
  refine MM.mk (cc := cX6_stickings) (maxL := 3) (ret := (some .int)) (by decide) rfl (Nat.le_of_ble_eq_true rfl) rfl RX6 rfl ?_
  intro p_ e_ s_ m_ ar_ bw_ mt_ cd_ B_ Q_ hA E hr hQ
  have f_S := sm_le (f := fun j => b2 (¬ g j = 0 ∧ g j / 2 % 4 = 2)) (c := 1) (k := n) (by omega) (fun j _ _ => by rcases b2_01 (¬ g j = 0 ∧ g j / 2 % 4 = 2) with z | z <;> (rw [z]; omega))
  refine r_iload_n E 2 dX6_stickings_0 rfl rfl ?_
  refine r_if_eq E 11 dX6_stickings_1 (by decide) ⟨by omega, by omega⟩ (fun c_1 => ?_) (fun c_1 => ?_)
  · refine r_iload_n E 2 dX6_stickings_11 rfl rfl ?_
    refine r_iconst E 1 rfl dX6_stickings_12 ?_
    refine r_icmp_ne E 42 dX6_stickings_13 (by decide) ⟨by omega, by omega⟩ ⟨by omega, by omega⟩ (fun c_13 => ?_) (fun c_13 => ?_)
    · refine r_aload_n E 0 dX6_stickings_42 rfl rfl ?_
      refine r_get E 5 0 6 dX6_stickings_43 in_X6_stickings_X6 lk_X6_stickings_46 rfl rfl (by decide) rfl ?_
      refine r_aload_n E 0 dX6_stickings_46 rfl rfl ?_
      refine r_get E 5 0 0 dX6_stickings_47 in_X6_stickings_X6 lk_X6_stickings_10 rfl rfl (by decide) rfl ?_
      refine r_iload_n E 1 dX6_stickings_50 rfl rfl ?_
      refine r_vM E (st := []) (c_X3_tellP l D p0 p1 p2 p3 p4 p5 p6 cI cZ L ow cA cU hd fw h0 h1 g n q ov (by first | assumption | omega | exact ⟨by omega, by omega⟩) (by first | assumption | omega | exact ⟨by omega, by omega⟩) (by first | assumption | omega | exact ⟨by omega, by omega⟩) (by first | assumption | omega | exact ⟨by omega, by omega⟩)) gX6_stickings_X3_tell 2 kf_X3_tell ⟨rfl, rfl⟩ ⟨by decide, by decide⟩ dX6_stickings_51 rfl 3 rfl rfl rfl rfl ⟨Nat.zero_le _, Nat.zero_le _⟩ [3, 4, 5, 6, 7, 8, 9, 1, 2] rfl (by decide) [0, 1] rfl (Nat.le_of_ble_eq_true rfl) [(x0, .inr (5, [.ref h0, .ref t0, .ref n0, .ref i0, .ref d0, .ref r0, .ref p0, .int (iJ (hs)), .int (iJ (rf))]))] [0] rfl (by decide) (by decide) hA [0, 8, 9, 1, 2, 3, 4, 5, 6, 7] (by decide) (fun u : (Int → Int) × (Int → Int) × (Int → Int) × Int => [(x0, .inr (5, [.ref h0, .ref t0, .ref n0, .ref i0, .ref d0, .ref r0, .ref p0, .int (iJ (hs)), .int (iJ (rf))])), (h0, .inr (2, [.ref h1, .int (iJ (n)), .int (iJ (q))])), (h1, cJ cI 32 (g)), (p0, .inr (3, [.ref p1, .ref p2, .ref p3, .ref p4, .ref p5, .ref p6, .int (iJ (u.2.2.2))])), (p1, cJ cI 32 (nrA)), (p2, cJ cI 32 (u.1)), (p3, cJ cZ 32 (u.2.1)), (p4, cJ cZ 32 (u.2.2.1)), (p5, cJ cI 32 (hd)), (p6, cJ cI 132 (fw))]) (fun _ => rfl) ?_
      rintro ⟨Oc, Ac, Uc, Lc⟩ hp_1
      refine r_cv (ws2 := [(x0, .inr (5, [.ref h0, .ref t0, .ref n0, .ref i0, .ref d0, .ref r0, .ref p0, .int (iJ (hs)), .int (iJ (rf))])), (h0, .inr (2, [.ref h1, .int (iJ (n)), .int (iJ (q))])), (h1, cJ cI 32 (g)), (p0, .inr (3, [.ref p1, .ref p2, .ref p3, .ref p4, .ref p5, .ref p6, .int (iJ (Lc))])), (p1, cJ cI 32 (nrA)), (p2, cJ cI 32 (Oc)), (p3, cJ cZ 32 (Ac)), (p4, cJ cZ 32 (Uc)), (p5, cJ cI 32 (hd)), (p6, cJ cI 132 (fw))]) (st2 := [.int (iJ ((if sm (fun j => b2 (¬ g j = 0)) n = 0 then 1 else (if 1000000000 < tlP g n q ov then 1000000000 else tlP g n q ov))))]) rfl rfl rfl ?_
      exact r_retM E (Lc, Oc, Ac, Uc, hd, fw) hr dX6_stickings_54 rfl trivial rfl hQ
    · refine r_aload_n E 0 dX6_stickings_16 rfl rfl ?_
      refine r_get E 5 0 0 dX6_stickings_17 in_X6_stickings_X6 lk_X6_stickings_10 rfl rfl (by decide) rfl ?_
      refine r_iconst E 2 rfl dX6_stickings_20 ?_
      refine r_vP E (st := []) (c_X2_strokesOf l D h0 h1 cI g n q 2 (by first | assumption | omega | exact ⟨by omega, by omega⟩) (by first | assumption | omega | exact ⟨by omega, by omega⟩) (by first | assumption | omega | exact ⟨by omega, by omega⟩)) gX6_stickings_X2_strokesOf 1 kf_X2_strokesOf ⟨rfl, rfl⟩ ⟨by decide, by decide⟩ dX6_stickings_21 rfl 1 rfl rfl rfl rfl ⟨Nat.zero_le _, Nat.zero_le _⟩ [1, 2] rfl (by decide) [0] rfl (Nat.le_of_ble_eq_true rfl) ?_
      refine r_bipush E 8 rfl dX6_stickings_24 ?_
      refine r_icmp_gt E 42 dX6_stickings_26 (by decide) ⟨by omega, by omega⟩ ⟨by omega, by omega⟩ (fun c_26 => ?_) (fun c_26 => absurd c_26 (by omega))
      refine r_aload_n E 0 dX6_stickings_42 rfl rfl ?_
      refine r_get E 5 0 6 dX6_stickings_43 in_X6_stickings_X6 lk_X6_stickings_46 rfl rfl (by decide) rfl ?_
      refine r_aload_n E 0 dX6_stickings_46 rfl rfl ?_
      refine r_get E 5 0 0 dX6_stickings_47 in_X6_stickings_X6 lk_X6_stickings_10 rfl rfl (by decide) rfl ?_
      refine r_iload_n E 1 dX6_stickings_50 rfl rfl ?_
      refine r_vM E (st := []) (c_X3_tellP l D p0 p1 p2 p3 p4 p5 p6 cI cZ L ow cA cU hd fw h0 h1 g n q ov (by first | assumption | omega | exact ⟨by omega, by omega⟩) (by first | assumption | omega | exact ⟨by omega, by omega⟩) (by first | assumption | omega | exact ⟨by omega, by omega⟩) (by first | assumption | omega | exact ⟨by omega, by omega⟩)) gX6_stickings_X3_tell 2 kf_X3_tell ⟨rfl, rfl⟩ ⟨by decide, by decide⟩ dX6_stickings_51 rfl 3 rfl rfl rfl rfl ⟨Nat.zero_le _, Nat.zero_le _⟩ [3, 4, 5, 6, 7, 8, 9, 1, 2] rfl (by decide) [0, 1] rfl (Nat.le_of_ble_eq_true rfl) [(x0, .inr (5, [.ref h0, .ref t0, .ref n0, .ref i0, .ref d0, .ref r0, .ref p0, .int (iJ (hs)), .int (iJ (rf))]))] [0] rfl (by decide) (by decide) hA [0, 8, 9, 1, 2, 3, 4, 5, 6, 7] (by decide) (fun u : (Int → Int) × (Int → Int) × (Int → Int) × Int => [(x0, .inr (5, [.ref h0, .ref t0, .ref n0, .ref i0, .ref d0, .ref r0, .ref p0, .int (iJ (hs)), .int (iJ (rf))])), (h0, .inr (2, [.ref h1, .int (iJ (n)), .int (iJ (q))])), (h1, cJ cI 32 (g)), (p0, .inr (3, [.ref p1, .ref p2, .ref p3, .ref p4, .ref p5, .ref p6, .int (iJ (u.2.2.2))])), (p1, cJ cI 32 (nrA)), (p2, cJ cI 32 (u.1)), (p3, cJ cZ 32 (u.2.1)), (p4, cJ cZ 32 (u.2.2.1)), (p5, cJ cI 32 (hd)), (p6, cJ cI 132 (fw))]) (fun _ => rfl) ?_
      rintro ⟨Oc, Ac, Uc, Lc⟩ hp_2
      refine r_cv (ws2 := [(x0, .inr (5, [.ref h0, .ref t0, .ref n0, .ref i0, .ref d0, .ref r0, .ref p0, .int (iJ (hs)), .int (iJ (rf))])), (h0, .inr (2, [.ref h1, .int (iJ (n)), .int (iJ (q))])), (h1, cJ cI 32 (g)), (p0, .inr (3, [.ref p1, .ref p2, .ref p3, .ref p4, .ref p5, .ref p6, .int (iJ (Lc))])), (p1, cJ cI 32 (nrA)), (p2, cJ cI 32 (Oc)), (p3, cJ cZ 32 (Ac)), (p4, cJ cZ 32 (Uc)), (p5, cJ cI 32 (hd)), (p6, cJ cI 132 (fw))]) (st2 := [.int (iJ ((if sm (fun j => b2 (¬ g j = 0)) n = 0 then 1 else (if 1000000000 < tlP g n q ov then 1000000000 else tlP g n q ov))))]) rfl rfl rfl ?_
      exact r_retM E (Lc, Oc, Ac, Uc, hd, fw) hr dX6_stickings_54 rfl trivial rfl hQ
  · refine r_iload_n E 2 dX6_stickings_4 rfl rfl ?_
    refine r_iconst E 1 rfl dX6_stickings_5 ?_
    refine r_icmp_eq E 11 dX6_stickings_6 (by decide) ⟨by omega, by omega⟩ ⟨by omega, by omega⟩ (fun c_6 => ?_) (fun c_6 => absurd c_6 (by omega))
    refine r_iload_n E 2 dX6_stickings_11 rfl rfl ?_
    refine r_iconst E 1 rfl dX6_stickings_12 ?_
    refine r_icmp_ne E 42 dX6_stickings_13 (by decide) ⟨by omega, by omega⟩ ⟨by omega, by omega⟩ (fun c_13 => ?_) (fun c_13 => ?_)
    · refine r_aload_n E 0 dX6_stickings_42 rfl rfl ?_
      refine r_get E 5 0 6 dX6_stickings_43 in_X6_stickings_X6 lk_X6_stickings_46 rfl rfl (by decide) rfl ?_
      refine r_aload_n E 0 dX6_stickings_46 rfl rfl ?_
      refine r_get E 5 0 0 dX6_stickings_47 in_X6_stickings_X6 lk_X6_stickings_10 rfl rfl (by decide) rfl ?_
      refine r_iload_n E 1 dX6_stickings_50 rfl rfl ?_
      refine r_vM E (st := []) (c_X3_tellP l D p0 p1 p2 p3 p4 p5 p6 cI cZ L ow cA cU hd fw h0 h1 g n q ov (by first | assumption | omega | exact ⟨by omega, by omega⟩) (by first | assumption | omega | exact ⟨by omega, by omega⟩) (by first | assumption | omega | exact ⟨by omega, by omega⟩) (by first | assumption | omega | exact ⟨by omega, by omega⟩)) gX6_stickings_X3_tell 2 kf_X3_tell ⟨rfl, rfl⟩ ⟨by decide, by decide⟩ dX6_stickings_51 rfl 3 rfl rfl rfl rfl ⟨Nat.zero_le _, Nat.zero_le _⟩ [3, 4, 5, 6, 7, 8, 9, 1, 2] rfl (by decide) [0, 1] rfl (Nat.le_of_ble_eq_true rfl) [(x0, .inr (5, [.ref h0, .ref t0, .ref n0, .ref i0, .ref d0, .ref r0, .ref p0, .int (iJ (hs)), .int (iJ (rf))]))] [0] rfl (by decide) (by decide) hA [0, 8, 9, 1, 2, 3, 4, 5, 6, 7] (by decide) (fun u : (Int → Int) × (Int → Int) × (Int → Int) × Int => [(x0, .inr (5, [.ref h0, .ref t0, .ref n0, .ref i0, .ref d0, .ref r0, .ref p0, .int (iJ (hs)), .int (iJ (rf))])), (h0, .inr (2, [.ref h1, .int (iJ (n)), .int (iJ (q))])), (h1, cJ cI 32 (g)), (p0, .inr (3, [.ref p1, .ref p2, .ref p3, .ref p4, .ref p5, .ref p6, .int (iJ (u.2.2.2))])), (p1, cJ cI 32 (nrA)), (p2, cJ cI 32 (u.1)), (p3, cJ cZ 32 (u.2.1)), (p4, cJ cZ 32 (u.2.2.1)), (p5, cJ cI 32 (hd)), (p6, cJ cI 132 (fw))]) (fun _ => rfl) ?_
      rintro ⟨Oc, Ac, Uc, Lc⟩ hp_3
      refine r_cv (ws2 := [(x0, .inr (5, [.ref h0, .ref t0, .ref n0, .ref i0, .ref d0, .ref r0, .ref p0, .int (iJ (hs)), .int (iJ (rf))])), (h0, .inr (2, [.ref h1, .int (iJ (n)), .int (iJ (q))])), (h1, cJ cI 32 (g)), (p0, .inr (3, [.ref p1, .ref p2, .ref p3, .ref p4, .ref p5, .ref p6, .int (iJ (Lc))])), (p1, cJ cI 32 (nrA)), (p2, cJ cI 32 (Oc)), (p3, cJ cZ 32 (Ac)), (p4, cJ cZ 32 (Uc)), (p5, cJ cI 32 (hd)), (p6, cJ cI 132 (fw))]) (st2 := [.int (iJ ((if sm (fun j => b2 (¬ g j = 0)) n = 0 then 1 else (if 1000000000 < tlP g n q ov then 1000000000 else tlP g n q ov))))]) rfl rfl rfl ?_
      exact r_retM E (Lc, Oc, Ac, Uc, hd, fw) hr dX6_stickings_54 rfl trivial rfl hQ
    · refine r_aload_n E 0 dX6_stickings_16 rfl rfl ?_
      refine r_get E 5 0 0 dX6_stickings_17 in_X6_stickings_X6 lk_X6_stickings_10 rfl rfl (by decide) rfl ?_
      refine r_iconst E 2 rfl dX6_stickings_20 ?_
      refine r_vP E (st := []) (c_X2_strokesOf l D h0 h1 cI g n q 2 (by first | assumption | omega | exact ⟨by omega, by omega⟩) (by first | assumption | omega | exact ⟨by omega, by omega⟩) (by first | assumption | omega | exact ⟨by omega, by omega⟩)) gX6_stickings_X2_strokesOf 1 kf_X2_strokesOf ⟨rfl, rfl⟩ ⟨by decide, by decide⟩ dX6_stickings_21 rfl 1 rfl rfl rfl rfl ⟨Nat.zero_le _, Nat.zero_le _⟩ [1, 2] rfl (by decide) [0] rfl (Nat.le_of_ble_eq_true rfl) ?_
      refine r_bipush E 8 rfl dX6_stickings_24 ?_
      refine r_icmp_gt E 42 dX6_stickings_26 (by decide) ⟨by omega, by omega⟩ ⟨by omega, by omega⟩ (fun c_26 => ?_) (fun c_26 => absurd c_26 (by omega))
      refine r_aload_n E 0 dX6_stickings_42 rfl rfl ?_
      refine r_get E 5 0 6 dX6_stickings_43 in_X6_stickings_X6 lk_X6_stickings_46 rfl rfl (by decide) rfl ?_
      refine r_aload_n E 0 dX6_stickings_46 rfl rfl ?_
      refine r_get E 5 0 0 dX6_stickings_47 in_X6_stickings_X6 lk_X6_stickings_10 rfl rfl (by decide) rfl ?_
      refine r_iload_n E 1 dX6_stickings_50 rfl rfl ?_
      refine r_vM E (st := []) (c_X3_tellP l D p0 p1 p2 p3 p4 p5 p6 cI cZ L ow cA cU hd fw h0 h1 g n q ov (by first | assumption | omega | exact ⟨by omega, by omega⟩) (by first | assumption | omega | exact ⟨by omega, by omega⟩) (by first | assumption | omega | exact ⟨by omega, by omega⟩) (by first | assumption | omega | exact ⟨by omega, by omega⟩)) gX6_stickings_X3_tell 2 kf_X3_tell ⟨rfl, rfl⟩ ⟨by decide, by decide⟩ dX6_stickings_51 rfl 3 rfl rfl rfl rfl ⟨Nat.zero_le _, Nat.zero_le _⟩ [3, 4, 5, 6, 7, 8, 9, 1, 2] rfl (by decide) [0, 1] rfl (Nat.le_of_ble_eq_true rfl) [(x0, .inr (5, [.ref h0, .ref t0, .ref n0, .ref i0, .ref d0, .ref r0, .ref p0, .int (iJ (hs)), .int (iJ (rf))]))] [0] rfl (by decide) (by decide) hA [0, 8, 9, 1, 2, 3, 4, 5, 6, 7] (by decide) (fun u : (Int → Int) × (Int → Int) × (Int → Int) × Int => [(x0, .inr (5, [.ref h0, .ref t0, .ref n0, .ref i0, .ref d0, .ref r0, .ref p0, .int (iJ (hs)), .int (iJ (rf))])), (h0, .inr (2, [.ref h1, .int (iJ (n)), .int (iJ (q))])), (h1, cJ cI 32 (g)), (p0, .inr (3, [.ref p1, .ref p2, .ref p3, .ref p4, .ref p5, .ref p6, .int (iJ (u.2.2.2))])), (p1, cJ cI 32 (nrA)), (p2, cJ cI 32 (u.1)), (p3, cJ cZ 32 (u.2.1)), (p4, cJ cZ 32 (u.2.2.1)), (p5, cJ cI 32 (hd)), (p6, cJ cI 132 (fw))]) (fun _ => rfl) ?_
      rintro ⟨Oc, Ac, Uc, Lc⟩ hp_4
      refine r_cv (ws2 := [(x0, .inr (5, [.ref h0, .ref t0, .ref n0, .ref i0, .ref d0, .ref r0, .ref p0, .int (iJ (hs)), .int (iJ (rf))])), (h0, .inr (2, [.ref h1, .int (iJ (n)), .int (iJ (q))])), (h1, cJ cI 32 (g)), (p0, .inr (3, [.ref p1, .ref p2, .ref p3, .ref p4, .ref p5, .ref p6, .int (iJ (Lc))])), (p1, cJ cI 32 (nrA)), (p2, cJ cI 32 (Oc)), (p3, cJ cZ 32 (Ac)), (p4, cJ cZ 32 (Uc)), (p5, cJ cI 32 (hd)), (p6, cJ cI 132 (fw))]) (st2 := [.int (iJ ((if sm (fun j => b2 (¬ g j = 0)) n = 0 then 1 else (if 1000000000 < tlP g n q ov then 1000000000 else tlP g n q ov))))]) rfl rfl rfl ?_
      exact r_retM E (Lc, Oc, Ac, Uc, hd, fw) hr dX6_stickings_54 rfl trivial rfl hQ
