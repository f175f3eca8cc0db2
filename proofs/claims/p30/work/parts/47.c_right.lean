theorem kf_X5_forcesOfRight : KF yX5_forcesOfRight 2 wsX5_forcesOfRight cX5_forcesOfRight 5 (some .int) := ⟨rfl, by decide +kernel, by decide +kernel, by decide +kernel⟩
def rm_X5_forcesOfRight : Room := { frames := 2, cells := 0, slots := 0, locals := 41 }
set_option maxRecDepth 20000 in
theorem ns_X5_forcesOfRight : Cond.static yX6_otherHand ∈ wsX5_forcesOfRight ∧ Cond.initialized yX6_otherHand.cls ∈ wsX5_forcesOfRight := by decide +kernel
set_option maxHeartbeats 1000000 in
set_option maxRecDepth 100000 in
theorem c_X5_forcesOfRight (l : Launch) (D : va_G) (c : Int) (h : Int) (hc : 0 ≤ c ∧ c < 64) (hh : c = 0 ∨ (0 ≤ h ∧ h < 4)) : MP l yX5_forcesOfRight wsX5_forcesOfRight rm_X5_forcesOfRight D vwCl [.int (iJ (c)), .int (iJ (h))] [] [] (sFr c h) := by
  refine MP.mk (cc := cX5_forcesOfRight) (maxL := 5) (ret := (some .int)) (by decide) rfl (Nat.le_of_ble_eq_true rfl) rfl RX5 rfl ?_
  intro p_ e_ s_ m_ ar_ bw_ mt_ cd_ Q_ E hr hQ
  have hB := sBl_v (c := c)
  refine r_iconst E 0 rfl dX5_forcesOfRight_0 ?_
  refine r_istore_n E [(2, .int (iJ (0))), (0, .int (iJ (c))), (1, .int (iJ (h)))] dX5_forcesOfRight_1 rfl (by decide) rfl ?_
  refine r_iconst E 0 rfl dX5_forcesOfRight_2 ?_
  refine r_istore_n E [(3, .int (iJ (0))), (2, .int (iJ (0))), (0, .int (iJ (c))), (1, .int (iJ (h)))] dX5_forcesOfRight_3 rfl (by decide) rfl ?_
  have loop_4 : ∀ (N : Nat) (k : Int) (sum : Int), (0 ≤ k ∧ k ≤ sBl c) → (sum = sm (sFw c h) k) → (sBl c - k).toNat < N → GG p_ l e_ rm_X5_forcesOfRight s_ m_ ar_ bw_ mt_ cd_ D vwCl (fun _ => True) (fun _ => False) s_.heap 5 0 0 Q_ [] [(0, .int (iJ (c))), (1, .int (iJ (h))), (2, .int (iJ (sum))), (3, .int (iJ (k)))] 4 [] := by
    intro N; induction N with
    | zero => intro k sum hk hs hN; exact absurd hN (Nat.not_lt_zero _)
    | succ N ih4 =>
      intro k sum hk hs hN
      refine r_iload_n E 3 dX5_forcesOfRight_4 rfl rfl ?_
      refine r_iload_n E 0 dX5_forcesOfRight_5 rfl rfl ?_
      refine r_sP E (st := [.int (iJ (k))]) (c_X5_blows l D c (by first | assumption | omega | exact ⟨by omega, by omega⟩)) gX5_forcesOfRight_X5_blows 1 kf_X5_blows ⟨rfl, rfl⟩ ⟨by decide, by decide⟩ dX5_forcesOfRight_6 rfl rfl ⟨Nat.zero_le _, Nat.zero_le _⟩ [] rfl (by decide) [] rfl (Nat.le_of_ble_eq_true rfl) ?_
      refine r_icmp_ge E 52 dX5_forcesOfRight_9 (by decide) ⟨by omega, by omega⟩ ⟨by omega, by omega⟩ (fun c_9 => ?_) (fun c_9 => ?_)
      · refine r_iload_n E 2 dX5_forcesOfRight_52 rfl rfl ?_
        exact r_retP E hr dX5_forcesOfRight_53 (by
              have e : k = sBl c := by omega
              rw [hs, e]; try rfl) hQ
      · have f_c : 0 ≤ h ∧ h < 4 := hh.elim (fun z => by rw [z, show sBl 0 = 0 from rfl] at c_9; omega) id
        refine r_iload_n E 0 dX5_forcesOfRight_12 rfl rfl ?_
        refine r_sP E (st := []) (c_X5_ornament l D c (by first | assumption | omega | exact ⟨by omega, by omega⟩)) gX5_forcesOfRight_X5_ornament 1 kf_X5_ornament ⟨rfl, rfl⟩ ⟨by decide, by decide⟩ dX5_forcesOfRight_13 rfl rfl ⟨Nat.zero_le _, Nat.zero_le _⟩ [] rfl (by decide) [] rfl (Nat.le_of_ble_eq_true rfl) ?_
        refine r_iload_n E 3 dX5_forcesOfRight_16 rfl rfl ?_
        refine r_sP E (st := []) (c_X5_isOfOwnHand l D (c / 16 % 4) k (by first | assumption | omega | exact ⟨by omega, by omega⟩) (by first | assumption | omega | exact ⟨by omega, by omega⟩)) gX5_forcesOfRight_X5_isOfOwnHand 2 kf_X5_isOfOwnHand ⟨rfl, rfl⟩ ⟨by decide, by decide⟩ dX5_forcesOfRight_17 rfl rfl ⟨Nat.zero_le _, Nat.zero_le _⟩ [] rfl (by decide) [] rfl (Nat.le_of_ble_eq_true rfl) ?_
        refine r_ifeq_b E 27 dX5_forcesOfRight_20 (by decide) (fun c_20 => ?_) (fun c_20 => ?_)
        · refine r_iload_n E 1 dX5_forcesOfRight_27 rfl rfl ?_
          refine r_sPN E (st := []) (c_X6_otherHand l D h (by first | assumption | omega | exact ⟨by omega, by omega⟩)) gX5_forcesOfRight_X6_otherHand_n46 ns_X5_forcesOfRight 1 kf_X6_otherHand ⟨rfl, rfl⟩ ⟨by decide, by decide⟩ dX5_forcesOfRight_28 rfl rfl rfl rfl ⟨Nat.zero_le _, Nat.zero_le _⟩ (Nat.le_of_ble_eq_true rfl) ?_
          refine r_istore E [(4, .int (iJ ((if h = 0 then 1 else 0)))), (0, .int (iJ (c))), (1, .int (iJ (h))), (2, .int (iJ (sum))), (3, .int (iJ (k)))] dX5_forcesOfRight_31 (by decide) rfl ?_
          refine r_iload E 0 dX5_forcesOfRight_33 rfl ?_
          refine r_if_ne E 46 dX5_forcesOfRight_35 (by decide) ⟨by omega, by omega⟩ (fun c_35 => ?_) (fun c_35 => ?_)
          · refine r_iinc E (k := 4) [(3, .int (iJ ((k + 1)))), (4, .int (iJ ((if h = 0 then 1 else 0)))), (0, .int (iJ (c))), (1, .int (iJ (h))), (2, .int (iJ (sum)))] dX5_forcesOfRight_46 rfl (by decide) rfl ?_
            refine r_goto E 4 dX5_forcesOfRight_49 (by decide) ?_
            refine r_lv [2, 3, 4, 0] [(0, .int (iJ (c))), (1, .int (iJ (h))), (2, .int (iJ (sum))), (3, .int (iJ ((k + 1))))] rfl ?_
            exact ih4 (k + 1) sum ⟨by omega, by omega⟩ (by
                  rw [sm_s _ (by omega), hs]
                  have e : sFw c h k = (if (if k = 0 ∨ c / 16 % 4 = 3 then h else (if h = 0 then 1 else 0)) = 0 then sFo c k else 0) := rfl
                  rw [e]
                  first
                  | (rw [if_pos c_20, if_pos c_35]; done)
                  | (rw [if_pos c_20, if_neg c_35, Int.add_zero]; done)
                  | (rw [if_neg c_20, if_pos c_35]; done)
                  | (rw [if_neg c_20, if_neg c_35, Int.add_zero]; done)) (by omega)
          · refine r_iload_n E 3 dX5_forcesOfRight_38 rfl rfl ?_
            refine r_iload_n E 1 dX5_forcesOfRight_39 rfl rfl ?_
            refine r_iload_n E 4 dX5_forcesOfRight_40 rfl rfl ?_
            refine r_sP E (st := [.int (iJ (sum))]) (c_X5_force l D c k (by first | assumption | omega | exact ⟨by omega, by omega⟩) (by first | assumption | omega | exact ⟨by omega, by omega⟩)) gX5_forcesOfRight_X5_force 2 kf_X5_force ⟨rfl, rfl⟩ ⟨by decide, by decide⟩ dX5_forcesOfRight_41 rfl rfl ⟨Nat.zero_le _, Nat.zero_le _⟩ [] rfl (by decide) [] rfl (Nat.le_of_ble_eq_true rfl) ?_
            refine r_iadd E dX5_forcesOfRight_44 ?_
            refine r_istore_n E [(2, .int (iJ ((sum + (sFo c k))))), (4, .int (iJ ((if h = 0 then 1 else 0)))), (0, .int (iJ (c))), (1, .int (iJ (h))), (3, .int (iJ (k)))] dX5_forcesOfRight_45 rfl (by decide) rfl ?_
            refine r_iinc E (k := 4) [(3, .int (iJ ((k + 1)))), (2, .int (iJ ((sum + (sFo c k))))), (4, .int (iJ ((if h = 0 then 1 else 0)))), (0, .int (iJ (c))), (1, .int (iJ (h)))] dX5_forcesOfRight_46 rfl (by decide) rfl ?_
            refine r_goto E 4 dX5_forcesOfRight_49 (by decide) ?_
            refine r_lv [3, 4, 1, 0] [(0, .int (iJ (c))), (1, .int (iJ (h))), (2, .int (iJ ((sum + (sFo c k))))), (3, .int (iJ ((k + 1))))] rfl ?_
            exact ih4 (k + 1) (sum + (sFo c k)) ⟨by omega, by omega⟩ (by
                  rw [sm_s _ (by omega), hs]
                  have e : sFw c h k = (if (if k = 0 ∨ c / 16 % 4 = 3 then h else (if h = 0 then 1 else 0)) = 0 then sFo c k else 0) := rfl
                  rw [e]
                  first
                  | (rw [if_pos c_20, if_pos c_35]; done)
                  | (rw [if_pos c_20, if_neg c_35, Int.add_zero]; done)
                  | (rw [if_neg c_20, if_pos c_35]; done)
                  | (rw [if_neg c_20, if_neg c_35, Int.add_zero]; done)) (by omega)
        · refine r_iload_n E 1 dX5_forcesOfRight_23 rfl rfl ?_
          refine r_goto E 31 dX5_forcesOfRight_24 (by decide) ?_
          refine r_istore E [(4, .int (iJ (h))), (0, .int (iJ (c))), (1, .int (iJ (h))), (2, .int (iJ (sum))), (3, .int (iJ (k)))] dX5_forcesOfRight_31 (by decide) rfl ?_
          refine r_iload E 0 dX5_forcesOfRight_33 rfl ?_
          refine r_if_ne E 46 dX5_forcesOfRight_35 (by decide) ⟨by omega, by omega⟩ (fun c_35 => ?_) (fun c_35 => ?_)
          · refine r_iinc E (k := 4) [(3, .int (iJ ((k + 1)))), (4, .int (iJ (h))), (0, .int (iJ (c))), (1, .int (iJ (h))), (2, .int (iJ (sum)))] dX5_forcesOfRight_46 rfl (by decide) rfl ?_
            refine r_goto E 4 dX5_forcesOfRight_49 (by decide) ?_
            refine r_lv [2, 3, 4, 0] [(0, .int (iJ (c))), (1, .int (iJ (h))), (2, .int (iJ (sum))), (3, .int (iJ ((k + 1))))] rfl ?_
            exact ih4 (k + 1) sum ⟨by omega, by omega⟩ (by
                  rw [sm_s _ (by omega), hs]
                  have e : sFw c h k = (if (if k = 0 ∨ c / 16 % 4 = 3 then h else (if h = 0 then 1 else 0)) = 0 then sFo c k else 0) := rfl
                  rw [e]
                  first
                  | (rw [if_pos c_20, if_pos c_35]; done)
                  | (rw [if_pos c_20, if_neg c_35, Int.add_zero]; done)
                  | (rw [if_neg c_20, if_pos c_35]; done)
                  | (rw [if_neg c_20, if_neg c_35, Int.add_zero]; done)) (by omega)
          · refine r_iload_n E 3 dX5_forcesOfRight_38 rfl rfl ?_
            refine r_iload_n E 1 dX5_forcesOfRight_39 rfl rfl ?_
            refine r_iload_n E 4 dX5_forcesOfRight_40 rfl rfl ?_
            refine r_sP E (st := [.int (iJ (sum))]) (c_X5_force l D c k (by first | assumption | omega | exact ⟨by omega, by omega⟩) (by first | assumption | omega | exact ⟨by omega, by omega⟩)) gX5_forcesOfRight_X5_force 2 kf_X5_force ⟨rfl, rfl⟩ ⟨by decide, by decide⟩ dX5_forcesOfRight_41 rfl rfl ⟨Nat.zero_le _, Nat.zero_le _⟩ [] rfl (by decide) [] rfl (Nat.le_of_ble_eq_true rfl) ?_
            refine r_iadd E dX5_forcesOfRight_44 ?_
            refine r_istore_n E [(2, .int (iJ ((sum + (sFo c k))))), (4, .int (iJ (h))), (0, .int (iJ (c))), (1, .int (iJ (h))), (3, .int (iJ (k)))] dX5_forcesOfRight_45 rfl (by decide) rfl ?_
            refine r_iinc E (k := 4) [(3, .int (iJ ((k + 1)))), (2, .int (iJ ((sum + (sFo c k))))), (4, .int (iJ (h))), (0, .int (iJ (c))), (1, .int (iJ (h)))] dX5_forcesOfRight_46 rfl (by decide) rfl ?_
            refine r_goto E 4 dX5_forcesOfRight_49 (by decide) ?_
            refine r_lv [3, 4, 1, 0] [(0, .int (iJ (c))), (1, .int (iJ (h))), (2, .int (iJ ((sum + (sFo c k))))), (3, .int (iJ ((k + 1))))] rfl ?_
            exact ih4 (k + 1) (sum + (sFo c k)) ⟨by omega, by omega⟩ (by
                  rw [sm_s _ (by omega), hs]
                  have e : sFw c h k = (if (if k = 0 ∨ c / 16 % 4 = 3 then h else (if h = 0 then 1 else 0)) = 0 then sFo c k else 0) := rfl
                  rw [e]
                  first
                  | (rw [if_pos c_20, if_pos c_35]; done)
                  | (rw [if_pos c_20, if_neg c_35, Int.add_zero]; done)
                  | (rw [if_neg c_20, if_pos c_35]; done)
                  | (rw [if_neg c_20, if_neg c_35, Int.add_zero]; done)) (by omega)
  refine r_lv [2, 3, 1, 0] [(0, .int (iJ (c))), (1, .int (iJ (h))), (2, .int (iJ (0))), (3, .int (iJ (0)))] rfl ?_
  exact loop_4 _ 0 0 ⟨by omega, by omega⟩ (sm_0 _).symm (Nat.lt_succ_self _)
theorem kf_X6_right : KF yX6_right 1 wsX6_right cX6_right 5 (some .double) := ⟨rfl, by decide +kernel, by decide +kernel, by decide +kernel⟩
def rm_X6_right : Room := { frames := 5, cells := 0, slots := 0, locals := 122 }
set_option maxRecDepth 20000 in
theorem in_X6_right_X6 : ∀ w ∈ u_ws RX6 TX6 9, w ∈ wsX6_right := by decide +kernel
set_option maxRecDepth 20000 in
theorem lk_X6_right_10 : Cond.fieldLink RX6 10 (TX6 0).1 (TX6 0).2.1 (TX6 0).2.2.1 ∈ wsX6_right := by decide +kernel
set_option maxRecDepth 20000 in
theorem ck_X6_right_208 : Cond.constantDouble RX6 208 13830554455654793216 ∈ wsX6_right := by decide +kernel
set_option maxRecDepth 20000 in
theorem lk_X6_right_46 : Cond.fieldLink RX6 46 (TX6 6).1 (TX6 6).2.1 (TX6 6).2.2.1 ∈ wsX6_right := by decide +kernel
set_option maxRecDepth 20000 in
theorem in_X6_right_X2 : ∀ w ∈ u_ws RX2 TX2 3, w ∈ wsX6_right := by decide +kernel
set_option maxHeartbeats 1000000 in
set_option maxRecDepth 100000 in
theorem c_X6_right (l : Launch) (D : va_G) (x0 : Nat) (h0 : Nat) (t0 : Nat) (n0 : Nat) (i0 : Nat) (d0 : Nat) (r0 : Nat) (p0 : Nat) (hs : Int) (rf : Int) (h1 : Nat) (cI : ClassId) (g : Int → Int) (n : Int) (q : Int) (p1 : Nat) (p2 : Nat) (p3 : Nat) (p4 : Nat) (p5 : Nat) (p6 : Nat) (cZ : ClassId) (L : Int) (ow : Int → Int) (cA : Int → Int) (cU : Int → Int) (hd : Int → Int) (fw : Int → Int) (pr : Int) (hn : 0 ≤ n ∧ n ≤ 32) (hg : ∀ j : Int, 0 ≤ j → j < n → 0 ≤ g j ∧ g j < 64) (hg3 : ∀ j : Int, 0 ≤ j → j < n → ¬ g j / 2 % 4 = 3) (hq : 1 ≤ q ∧ q ≤ 4) (hpr : pr = 0 ∨ pr = 1) : MDb (S := Int × (Int → Int) × (Int → Int) × (Int → Int) × (Int → Int) × (Int → Int)) l yX6_right wsX6_right rm_X6_right D vwCl [.ref x0, .int (iJ (pr))] [(x0, .inr (5, [.ref h0, .ref t0, .ref n0, .ref i0, .ref d0, .ref r0, .ref p0, .int (iJ (hs)), .int (iJ (rf))])), (h0, .inr (2, [.ref h1, .int (iJ (n)), .int (iJ (q))])), (h1, cJ cI 32 (g)), (p0, .inr (3, [.ref p1, .ref p2, .ref p3, .ref p4, .ref p5, .ref p6, .int (iJ (L))])), (p1, cJ cI 32 (nrA)), (p2, cJ cI 32 (ow)), (p3, cJ cZ 32 (cA)), (p4, cJ cZ 32 (cU)), (p5, cJ cI 32 (hd)), (p6, cJ cI 132 (fw))] [(cI, .int), (cZ, .boolean)] (fun (u : Int × (Int → Int) × (Int → Int) × (Int → Int) × (Int → Int) × (Int → Int)) => rgC g n q pr) (fun (u : Int × (Int → Int) × (Int → Int) × (Int → Int) × (Int → Int) × (Int → Int)) => True) (fun (u : Int × (Int → Int) × (Int → Int) × (Int → Int) × (Int → Int) × (Int → Int)) => [(x0, .inr (5, [.ref h0, .ref t0, .ref n0, .ref i0, .ref d0, .ref r0, .ref p0, .int (iJ (hs)), .int (iJ (rf))])), (h0, .inr (2, [.ref h1, .int (iJ (n)), .int (iJ (q))])), (h1, cJ cI 32 (g)), (p0, .inr (3, [.ref p1, .ref p2, .ref p3, .ref p4, .ref p5, .ref p6, .int (iJ (u.1))])), (p1, cJ cI 32 (nrA)), (p2, cJ cI 32 (u.2.1)), (p3, cJ cZ 32 (u.2.2.1)), (p4, cJ cZ 32 (u.2.2.2.1)), (p5, cJ cI 32 (u.2.2.2.2.1)), (p6, cJ cI 132 (u.2.2.2.2.2))]) := by
  refine MDb.mk (cc := cX6_right) (maxL := 5) (ret := (some .double)) (by decide) rfl (Nat.le_of_ble_eq_true rfl) rfl RX6 rfl ?_
  intro p_ e_ s_ m_ ar_ bw_ mt_ cd_ B_ Q_ hA E hr hQ
  have hS := smS_160 (g := g) hn
  refine r_aload_n E 0 dX6_right_0 rfl rfl ?_
  refine r_get E 5 0 0 dX6_right_1 in_X6_right_X6 lk_X6_right_10 rfl rfl (by decide) rfl ?_
  refine r_vP E (st := []) (c_X2_forces l D h0 h1 cI g n q (by first | assumption | omega | exact ⟨by omega, by omega⟩) (by first | assumption | omega | exact ⟨by omega, by omega⟩)) gX6_right_X2_forces 0 kf_X2_forces ⟨rfl, rfl⟩ ⟨by decide, by decide⟩ dX6_right_4 rfl 1 rfl rfl rfl rfl ⟨Nat.zero_le _, Nat.zero_le _⟩ [1, 2] rfl (by decide) [0] rfl (Nat.le_of_ble_eq_true rfl) ?_
  refine r_istore_n E [(2, .int (iJ (sm (fun j => sFs (g j)) n))), (0, .ref x0), (1, .int (iJ (pr)))] dX6_right_7 rfl (by decide) rfl ?_
  refine r_iload_n E 0 dX6_right_8 rfl rfl ?_
  refine r_if_eq E 27 dX6_right_9 (by decide) ⟨by omega, by omega⟩ (fun c_9 => ?_) (fun c_9 => ?_)
  · refine r_ldc2d E 13830554455654793216 dX6_right_27 ck_X6_right_208 ?_
    exact r_retD E (L, ow, cA, cU, hd, fw) hr dX6_right_30 (by unfold rgC; first | (rw [if_pos (Or.inl c_9)]; done) | (rw [if_pos (Or.inr c_24)]; done)) trivial rfl hQ
  · refine r_aload_n E 1 dX6_right_12 rfl rfl ?_
    refine r_get E 5 0 6 dX6_right_13 in_X6_right_X6 lk_X6_right_46 rfl rfl (by decide) rfl ?_
    refine r_aload_n E 1 dX6_right_16 rfl rfl ?_
    refine r_get E 5 0 0 dX6_right_17 in_X6_right_X6 lk_X6_right_10 rfl rfl (by decide) rfl ?_
    refine r_iload_n E 2 dX6_right_20 rfl rfl ?_
    refine r_vM E (st := []) (c_X3_choose l D p0 p1 p2 p3 p4 p5 p6 cI cZ L ow cA cU hd fw h0 h1 g n q pr (by first | assumption | omega | exact ⟨by omega, by omega⟩) (by first | assumption | omega | exact ⟨by omega, by omega⟩) (by first | assumption | omega | exact ⟨by omega, by omega⟩) (by first | assumption | omega | exact ⟨by omega, by omega⟩) (by first | assumption | omega | exact ⟨by omega, by omega⟩)) gX6_right_X3_canChoose 2 kf_X3_canChoose ⟨rfl, rfl⟩ ⟨by decide, by decide⟩ dX6_right_21 rfl 3 rfl rfl rfl rfl ⟨Nat.zero_le _, Nat.zero_le _⟩ [3, 4, 5, 6, 7, 8, 9, 1, 2] rfl (by decide) [0, 1] rfl (Nat.le_of_ble_eq_true rfl) [(x0, .inr (5, [.ref h0, .ref t0, .ref n0, .ref i0, .ref d0, .ref r0, .ref p0, .int (iJ (hs)), .int (iJ (rf))]))] [0] rfl (by decide) (by decide) hA [0, 8, 9, 1, 2, 3, 4, 5, 6, 7] (by decide) (fun u : Int × (Int → Int) × (Int → Int) × (Int → Int) × (Int → Int) × (Int → Int) => [(x0, .inr (5, [.ref h0, .ref t0, .ref n0, .ref i0, .ref d0, .ref r0, .ref p0, .int (iJ (hs)), .int (iJ (rf))])), (h0, .inr (2, [.ref h1, .int (iJ (n)), .int (iJ (q))])), (h1, cJ cI 32 (g)), (p0, .inr (3, [.ref p1, .ref p2, .ref p3, .ref p4, .ref p5, .ref p6, .int (iJ (u.1))])), (p1, cJ cI 32 (nrA)), (p2, cJ cI 32 (u.2.1)), (p3, cJ cZ 32 (u.2.2.1)), (p4, cJ cZ 32 (u.2.2.2.1)), (p5, cJ cI 32 (u.2.2.2.2.1)), (p6, cJ cI 132 (u.2.2.2.2.2))]) (fun _ => rfl) ?_
    rintro ⟨Lc, Oc, Ac, Uc, Hc, Fc⟩ hp_1
    refine r_cv (ws2 := [(x0, .inr (5, [.ref h0, .ref t0, .ref n0, .ref i0, .ref d0, .ref r0, .ref p0, .int (iJ (hs)), .int (iJ (rf))])), (h0, .inr (2, [.ref h1, .int (iJ (n)), .int (iJ (q))])), (h1, cJ cI 32 (g)), (p0, .inr (3, [.ref p1, .ref p2, .ref p3, .ref p4, .ref p5, .ref p6, .int (iJ (Lc))])), (p1, cJ cI 32 (nrA)), (p2, cJ cI 32 (Oc)), (p3, cJ cZ 32 (Ac)), (p4, cJ cZ 32 (Uc)), (p5, cJ cI 32 (Hc)), (p6, cJ cI 132 (Fc))]) (st2 := [.int (iJ (b2 (fcB g n q pr < 1000)))]) rfl rfl rfl ?_
    obtain ⟨hFc, hHc, hLc⟩ := hp_1
    try dsimp only at hFc hHc hLc
    refine r_ifne_b E 31 dX6_right_24 (by decide) (fun c_24 => ?_) (fun c_24 => ?_)
    · refine r_iconst E 0 rfl dX6_right_31 ?_
      refine r_istore_n E [(3, .int (iJ (0))), (2, .int (iJ (sm (fun j => sFs (g j)) n))), (0, .ref x0), (1, .int (iJ (pr)))] dX6_right_32 rfl (by decide) rfl ?_
      refine r_iconst E 0 rfl dX6_right_33 ?_
      refine r_istore E [(4, .int (iJ (0))), (3, .int (iJ (0))), (2, .int (iJ (sm (fun j => sFs (g j)) n))), (0, .ref x0), (1, .int (iJ (pr)))] dX6_right_34 (by decide) rfl ?_
      have loop_36 : ∀ (N : Nat) (k : Int) (x : Int), (0 ≤ k ∧ k ≤ n) → (x = rgR g n q pr k) → (n - k).toNat < N → GG p_ l e_ rm_X6_right s_ m_ ar_ bw_ mt_ cd_ D vwCl B_ B_ s_.heap 5 0 0 Q_ [(x0, .inr (5, [.ref h0, .ref t0, .ref n0, .ref i0, .ref d0, .ref r0, .ref p0, .int (iJ (hs)), .int (iJ (rf))])), (h0, .inr (2, [.ref h1, .int (iJ (n)), .int (iJ (q))])), (h1, cJ cI 32 (g)), (p0, .inr (3, [.ref p1, .ref p2, .ref p3, .ref p4, .ref p5, .ref p6, .int (iJ (Lc))])), (p1, cJ cI 32 (nrA)), (p2, cJ cI 32 (Oc)), (p3, cJ cZ 32 (Ac)), (p4, cJ cZ 32 (Uc)), (p5, cJ cI 32 (Hc)), (p6, cJ cI 132 (Fc))] [(0, .ref x0), (1, .int (iJ (pr))), (2, .int (iJ (sm (fun j => sFs (g j)) n))), (3, .int (iJ (x))), (4, .int (iJ (k)))] 36 [] := by
        intro N; induction N with
        | zero => intro k x hk hx2 hN; exact absurd hN (Nat.not_lt_zero _)
        | succ N ih36 =>
          intro k x hk hx2 hN
          refine r_iload E 4 dX6_right_36 rfl ?_
          refine r_aload_n E 0 dX6_right_38 rfl rfl ?_
          refine r_get E 5 0 0 dX6_right_39 in_X6_right_X6 lk_X6_right_10 rfl rfl (by decide) rfl ?_
          refine r_getN E 2 1 1 dX6_right_42 in_X6_right_X2 (by decide) rfl rfl rfl (by decide) rfl ?_
          refine r_icmp_ge E 78 dX6_right_45 (by decide) ⟨by omega, by omega⟩ ⟨by omega, by omega⟩ (fun c_45 => ?_) (fun c_45 => ?_)
          · have e_k : k = n := by omega
            have f_R := rgR_in (g := g) (n := n) (q := q) (pr := pr) (k := n) hn
            have f_L := rgR_le (g := g) (n := n) (q := q) (pr := pr)
            subst e_k
            subst hx2
            refine r_iload_n E 3 dX6_right_78 rfl rfl ?_
            refine r_i2d E dX6_right_79 ?_
            refine r_iload_n E 2 dX6_right_80 rfl rfl ?_
            refine r_i2d E dX6_right_81 ?_
            refine r_ddiv E (ddv_n ⟨f_R.1, f_L⟩ ⟨by omega, hS.2⟩) dX6_right_82 ?_
            exact r_retD E (Lc, Oc, Ac, Uc, Hc, Fc) hr dX6_right_83 (by unfold rgC; rw [if_neg (fun z => z.elim c_9 (fun y => y c_24))]; rfl) trivial rfl hQ
          · refine r_iload_n E 3 dX6_right_48 rfl rfl ?_
            refine r_aload_n E 0 dX6_right_49 rfl rfl ?_
            refine r_get E 5 0 0 dX6_right_50 in_X6_right_X6 lk_X6_right_10 rfl rfl (by decide) rfl ?_
            refine r_iload E 4 dX6_right_53 rfl ?_
            have f_g := hg k (by omega) (by omega)
            have f_r := rgR_in (g := g) (n := n) (q := q) (pr := pr) (k := k) (by omega)
            refine r_vP E (st := [.int (iJ (x))]) (c_X2_at l D h0 h1 cI g n q k (by first | assumption | omega | exact ⟨by omega, by omega⟩) (by first | assumption | omega | exact ⟨by omega, by omega⟩)) gX6_right_X2_at 1 kf_X2_at ⟨rfl, rfl⟩ ⟨by decide, by decide⟩ dX6_right_55 rfl 1 rfl rfl rfl rfl ⟨Nat.zero_le _, Nat.zero_le _⟩ [1, 2] rfl (by decide) [0] rfl (Nat.le_of_ble_eq_true rfl) ?_
            refine r_top (b := (g k)) (pAt_t ⟨by omega, by omega⟩) ?_
            refine r_aload_n E 0 dX6_right_58 rfl rfl ?_
            refine r_get E 5 0 6 dX6_right_59 in_X6_right_X6 lk_X6_right_46 rfl rfl (by decide) rfl ?_
            refine r_iload E 4 dX6_right_62 rfl ?_
            refine r_vP E (st := [.int (iJ ((g k))), .int (iJ (x))]) (c_X3_handAt l D p0 p1 p2 p3 p4 p5 p6 cI cZ Lc Oc Ac Uc Hc Fc k (by rw [hLc]; exact hn) (by first | assumption | omega | exact ⟨by omega, by omega⟩)) gX6_right_X3_handAt 1 kf_X3_handAt ⟨rfl, rfl⟩ ⟨by decide, by decide⟩ dX6_right_64 rfl 3 rfl rfl rfl rfl ⟨Nat.zero_le _, Nat.zero_le _⟩ [3, 4, 5, 6, 7, 8, 9] rfl (by decide) [0, 1] rfl (Nat.le_of_ble_eq_true rfl) ?_
            refine r_sP E (st := [.int (iJ (x))]) (c_X5_forcesOfRight l D (g k) (haA Lc Hc k) (by first | assumption | omega | exact ⟨by omega, by omega⟩) (by
                  by_cases z : g k = 0
                  · exact Or.inl z
                  · rw [hLc, haA_t ⟨by omega, by omega⟩, hHc c_24 k (by omega) (by omega) z]; exact Or.inr (by have := chP_in (g := g) (n := n) (q := q) (pr := pr) (k := k); omega))) gX6_right_X5_forcesOfRight 2 kf_X5_forcesOfRight ⟨rfl, rfl⟩ ⟨by decide, by decide⟩ dX6_right_67 rfl rfl ⟨Nat.zero_le _, Nat.zero_le _⟩ [] rfl (by decide) [] rfl (Nat.le_of_ble_eq_true rfl) ?_
            refine r_iadd E dX6_right_70 ?_
            refine r_istore_n E [(3, .int (iJ ((x + (sFr (g k) (haA Lc Hc k)))))), (0, .ref x0), (1, .int (iJ (pr))), (2, .int (iJ (sm (fun j => sFs (g j)) n))), (4, .int (iJ (k)))] dX6_right_71 rfl (by decide) rfl ?_
            refine r_iinc E (k := 4) [(4, .int (iJ ((k + 1)))), (3, .int (iJ ((x + (sFr (g k) (haA Lc Hc k)))))), (0, .ref x0), (1, .int (iJ (pr))), (2, .int (iJ (sm (fun j => sFs (g j)) n)))] dX6_right_72 rfl (by decide) rfl ?_
            refine r_goto E 36 dX6_right_75 (by decide) ?_
            refine r_lv [2, 3, 4, 1, 0] [(0, .ref x0), (1, .int (iJ (pr))), (2, .int (iJ (sm (fun j => sFs (g j)) n))), (3, .int (iJ ((x + (sFr (g k) (haA Lc Hc k)))))), (4, .int (iJ ((k + 1))))] rfl ?_
            exact ih36 (k + 1) (x + (sFr (g k) (haA Lc Hc k))) ⟨by omega, by omega⟩ (by
                  unfold rgR at hx2 ⊢; rw [sm_s _ (by omega), ← hx2]
                  by_cases z : g k = 0
                  · rw [z, sFr_0, sFr_0]
                  · rw [hLc, haA_t ⟨by omega, by omega⟩, hHc c_24 k (by omega) (by omega) z]) (by omega)
      refine r_lv [3, 4, 2, 1, 0] [(0, .ref x0), (1, .int (iJ (pr))), (2, .int (iJ (sm (fun j => sFs (g j)) n))), (3, .int (iJ (0))), (4, .int (iJ (0)))] rfl ?_
      exact loop_36 _ 0 0 ⟨by omega, by omega⟩ rfl (Nat.lt_succ_self _)
    · refine r_ldc2d E 13830554455654793216 dX6_right_27 ck_X6_right_208 ?_
      exact r_retD E (Lc, Oc, Ac, Uc, Hc, Fc) hr dX6_right_30 (by unfold rgC; first | (rw [if_pos (Or.inl c_9)]; done) | (rw [if_pos (Or.inr c_24)]; done)) trivial rfl hQ
