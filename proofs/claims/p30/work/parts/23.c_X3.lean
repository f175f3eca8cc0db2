theorem kf_X3_nearestOf : KF yX3_nearestOf 3 wsX3_nearestOf cX3_nearestOf 7 (some .int) := ⟨rfl, by decide +kernel, by decide +kernel, by decide +kernel⟩
def rm_X3_nearestOf : Room := { frames := 1, cells := 0, slots := 0, locals := 23 }
set_option maxRecDepth 20000 in
theorem mk_X3_nearestOf_53 : Cond.methodLink RX3 53 Lib.Math.min.name ∈ wsX3_nearestOf ∧ Cond.static Lib.Math.min.name ∈ wsX3_nearestOf ∧ Cond.initialized "java/lang/Math" ∈ wsX3_nearestOf ∧ Cond.code Lib.Math.min.name Lib.Math.min.code 2 (some .int) ∈ wsX3_nearestOf := by decide +kernel
set_option maxHeartbeats 1000000 in
set_option maxRecDepth 100000 in
theorem c_X3_nearestOf (l : Launch) (D : va_G) (b : Int) (o : Int) (al : Int) (hb : 0 ≤ b ∧ b < 4) (ho : 0 ≤ o ∧ o < 4) (hal : al = 0 ∨ al = 1) : MP l yX3_nearestOf wsX3_nearestOf rm_X3_nearestOf D vwCl [.int (iJ (b)), .int (iJ (o)), .int (iJ (al))] [] [] (nrD b o al) := by
  refine MP.mk (cc := cX3_nearestOf) (maxL := 7) (ret := (some .int)) (by decide) rfl (Nat.le_of_ble_eq_true rfl) rfl RX3 rfl ?_
  intro p_ e_ s_ m_ ar_ bw_ mt_ cd_ Q_ E hr hQ
  have hB1 := sBo_in (o := b)
  have hB2 := sBo_in (o := o)
  refine r_iconst E 4 rfl dX3_nearestOf_0 ?_
  refine r_istore_n E [(3, .int (iJ (4))), (0, .int (iJ (b))), (1, .int (iJ (o))), (2, .int (iJ (al)))] dX3_nearestOf_1 rfl (by decide) rfl ?_
  refine r_iconst E 0 rfl dX3_nearestOf_2 ?_
  refine r_istore E [(4, .int (iJ (0))), (3, .int (iJ (4))), (0, .int (iJ (b))), (1, .int (iJ (o))), (2, .int (iJ (al)))] dX3_nearestOf_3 (by decide) rfl ?_
  have loop_5 : ∀ (N : Nat) (k : Int) (x : Int), (0 ≤ k ∧ k ≤ sBo b) → (x = nrO b o al k.toNat) → (sBo b - k).toNat < N → GG p_ l e_ rm_X3_nearestOf s_ m_ ar_ bw_ mt_ cd_ D vwCl (fun _ => True) (fun _ => False) s_.heap 7 0 0 Q_ [] [(0, .int (iJ (b))), (1, .int (iJ (o))), (2, .int (iJ (al))), (3, .int (iJ (x))), (4, .int (iJ (k)))] 5 [] := by
    intro N; induction N with
    | zero => intro k x hk hx hN; exact absurd hN (Nat.not_lt_zero _)
    | succ N ih5 =>
      intro k x hk hx hN
      refine r_iload E 4 dX3_nearestOf_5 rfl ?_
      refine r_iload_n E 0 dX3_nearestOf_7 rfl rfl ?_
      refine r_sP E (st := [.int (iJ (k))]) (c_X5_blowsOf l D b (by first | assumption | omega | exact ⟨by omega, by omega⟩)) gX3_nearestOf_X5_blowsOf 1 kf_X5_blowsOf ⟨rfl, rfl⟩ ⟨by decide, by decide⟩ dX3_nearestOf_8 rfl rfl ⟨Nat.zero_le _, Nat.zero_le _⟩ [] rfl (by decide) [] rfl (Nat.le_of_ble_eq_true rfl) ?_
      refine r_icmp_ge E 86 dX3_nearestOf_11 (by decide) ⟨by omega, by omega⟩ ⟨by omega, by omega⟩ (fun c_11 => ?_) (fun c_11 => ?_)
      · refine r_iload_n E 3 dX3_nearestOf_86 rfl rfl ?_
        exact r_retP E hr dX3_nearestOf_87 (by
              have e : k = sBo b := by omega
              rw [hx, e]; rfl) hQ
      · refine r_iconst E 0 rfl dX3_nearestOf_14 ?_
        refine r_istore E [(5, .int (iJ (0))), (0, .int (iJ (b))), (1, .int (iJ (o))), (2, .int (iJ (al))), (3, .int (iJ (x))), (4, .int (iJ (k)))] dX3_nearestOf_15 (by decide) rfl ?_
        have loop_17 : ∀ (N : Nat) (j : Int) (y : Int), (0 ≤ j ∧ j ≤ sBo o) → (y = nrI b o al k j.toNat (nrO b o al k.toNat)) → (sBo o - j).toNat < N → GG p_ l e_ rm_X3_nearestOf s_ m_ ar_ bw_ mt_ cd_ D vwCl (fun _ => True) (fun _ => False) s_.heap 7 0 0 Q_ [] [(0, .int (iJ (b))), (1, .int (iJ (o))), (2, .int (iJ (al))), (3, .int (iJ (y))), (4, .int (iJ (k))), (5, .int (iJ (j)))] 17 [] := by
          intro N; induction N with
          | zero => intro j y hj hy hN; exact absurd hN (Nat.not_lt_zero _)
          | succ N ih17 =>
            intro j y hj hy hN
            refine r_iload E 5 dX3_nearestOf_17 rfl ?_
            refine r_iload_n E 1 dX3_nearestOf_19 rfl rfl ?_
            refine r_sP E (st := [.int (iJ (j))]) (c_X5_blowsOf l D o (by first | assumption | omega | exact ⟨by omega, by omega⟩)) gX3_nearestOf_X5_blowsOf 1 kf_X5_blowsOf ⟨rfl, rfl⟩ ⟨by decide, by decide⟩ dX3_nearestOf_20 rfl rfl ⟨Nat.zero_le _, Nat.zero_le _⟩ [] rfl (by decide) [] rfl (Nat.le_of_ble_eq_true rfl) ?_
            refine r_icmp_ge E 80 dX3_nearestOf_23 (by decide) ⟨by omega, by omega⟩ ⟨by omega, by omega⟩ (fun c_23 => ?_) (fun c_23 => ?_)
            · refine r_iinc E (k := 4) [(4, .int (iJ ((k + 1)))), (0, .int (iJ (b))), (1, .int (iJ (o))), (2, .int (iJ (al))), (3, .int (iJ (y))), (5, .int (iJ (j)))] dX3_nearestOf_80 rfl (by decide) rfl ?_
              refine r_goto E 5 dX3_nearestOf_83 (by decide) ?_
              refine r_lv [1, 2, 3, 4, 0] [(0, .int (iJ (b))), (1, .int (iJ (o))), (2, .int (iJ (al))), (3, .int (iJ (y))), (4, .int (iJ ((k + 1))))] rfl ?_
              exact ih5 (k + 1) y ⟨by omega, by omega⟩ (by
                    have e : j = sBo o := by omega
                    rw [nrO_s _ _ _ (by omega), hy, e]) (by omega)
            · refine r_iload_n E 0 dX3_nearestOf_26 rfl rfl ?_
              refine r_iload E 4 dX3_nearestOf_27 rfl ?_
              refine r_sP E (st := []) (c_X5_isOfOwnHand l D b k (by first | assumption | omega | exact ⟨by omega, by omega⟩) (by first | assumption | omega | exact ⟨by omega, by omega⟩)) gX3_nearestOf_X5_isOfOwnHand 2 kf_X5_isOfOwnHand ⟨rfl, rfl⟩ ⟨by decide, by decide⟩ dX3_nearestOf_29 rfl rfl ⟨Nat.zero_le _, Nat.zero_le _⟩ [] rfl (by decide) [] rfl (Nat.le_of_ble_eq_true rfl) ?_
              refine r_iload_n E 1 dX3_nearestOf_32 rfl rfl ?_
              refine r_iload E 5 dX3_nearestOf_33 rfl ?_
              refine r_sP E (st := [.int (iJ (b2 (k = 0 ∨ b = 3)))]) (c_X5_isOfOwnHand l D o j (by first | assumption | omega | exact ⟨by omega, by omega⟩) (by first | assumption | omega | exact ⟨by omega, by omega⟩)) gX3_nearestOf_X5_isOfOwnHand 2 kf_X5_isOfOwnHand ⟨rfl, rfl⟩ ⟨by decide, by decide⟩ dX3_nearestOf_35 rfl rfl ⟨Nat.zero_le _, Nat.zero_le _⟩ [] rfl (by decide) [] rfl (Nat.le_of_ble_eq_true rfl) ?_
              refine r_icmp_ne E 45 dX3_nearestOf_38 (by decide) (by rcases b2_01 (k = 0 ∨ b = 3) with z | z <;> (rw [z]; exact ⟨by decide, by decide⟩)) (by rcases b2_01 (j = 0 ∨ o = 3) with z | z <;> (rw [z]; exact ⟨by decide, by decide⟩)) (fun c_38 => ?_) (fun c_38 => ?_)
              · refine r_iconst E 0 rfl dX3_nearestOf_45 ?_
                refine r_istore E [(6, .int (iJ (0))), (0, .int (iJ (b))), (1, .int (iJ (o))), (2, .int (iJ (al))), (3, .int (iJ (y))), (4, .int (iJ (k))), (5, .int (iJ (j)))] dX3_nearestOf_46 (by decide) rfl ?_
                refine r_iload E 0 dX3_nearestOf_48 rfl ?_
                refine r_iload_n E 3 dX3_nearestOf_50 rfl rfl ?_
                refine r_icmp_ne E 74 dX3_nearestOf_51 (by decide) ⟨by omega, by omega⟩ ⟨by omega, by omega⟩ (fun c_51 => ?_) (fun c_51 => ?_)
                · refine r_iinc E (k := 6) [(5, .int (iJ ((j + 1)))), (6, .int (iJ (0))), (0, .int (iJ (b))), (1, .int (iJ (o))), (2, .int (iJ (al))), (3, .int (iJ (y))), (4, .int (iJ (k)))] dX3_nearestOf_74 rfl (by decide) rfl ?_
                  refine r_goto E 17 dX3_nearestOf_77 (by decide) ?_
                  refine r_lv [2, 3, 4, 5, 6, 0] [(0, .int (iJ (b))), (1, .int (iJ (o))), (2, .int (iJ (al))), (3, .int (iJ (y))), (4, .int (iJ (k))), (5, .int (iJ ((j + 1))))] rfl ?_
                  exact ih17 (j + 1) y ⟨by omega, by omega⟩ (by
                        rw [nrI_s _ _ _ _ _ (by omega), ← hy]; unfold nrY
                        first | rw [if_pos c_38, if_neg c_51] | rw [if_neg c_38, if_neg c_51] | rw [if_pos c_38, if_pos c_51] | rw [if_neg c_38, if_pos c_51]) (by omega)
                · have e_y := nrI_in (b := b) (o := o) (al := al) (bl := k) j.toNat (nrO_in (b := b) (o := o) (al := al) k.toNat)
                  rw [← hy] at e_y
                  have f_1 := sOff_in (o := o) (b := j)
                  have f_2 := sOff_in (o := b) (b := k)
                  refine r_iload_n E 4 dX3_nearestOf_54 rfl rfl ?_
                  refine r_iconst E 4 rfl dX3_nearestOf_55 ?_
                  refine r_iload_n E 2 dX3_nearestOf_56 rfl rfl ?_
                  refine r_iload E 6 dX3_nearestOf_57 rfl ?_
                  refine r_sP E (st := [.int (iJ (4)), .int (iJ (y))]) (c_X5_offset l D o j (by first | assumption | omega | exact ⟨by omega, by omega⟩) (by first | assumption | omega | exact ⟨by omega, by omega⟩)) gX3_nearestOf_X5_offset 2 kf_X5_offset ⟨rfl, rfl⟩ ⟨by decide, by decide⟩ dX3_nearestOf_59 rfl rfl ⟨Nat.zero_le _, Nat.zero_le _⟩ [] rfl (by decide) [] rfl (Nat.le_of_ble_eq_true rfl) ?_
                  refine r_iadd E dX3_nearestOf_62 ?_
                  refine r_iload_n E 1 dX3_nearestOf_63 rfl rfl ?_
                  refine r_iload E 5 dX3_nearestOf_64 rfl ?_
                  refine r_sP E (st := [.int (iJ ((4 + (sOff o j)))), .int (iJ (y))]) (c_X5_offset l D b k (by first | assumption | omega | exact ⟨by omega, by omega⟩) (by first | assumption | omega | exact ⟨by omega, by omega⟩)) gX3_nearestOf_X5_offset 2 kf_X5_offset ⟨rfl, rfl⟩ ⟨by decide, by decide⟩ dX3_nearestOf_66 rfl rfl ⟨Nat.zero_le _, Nat.zero_le _⟩ [] rfl (by decide) [] rfl (Nat.le_of_ble_eq_true rfl) ?_
                  refine r_isub E dX3_nearestOf_69 ?_
                  refine r_imin E (if ((4 + (sOff o j)) - (sOff b k)) < y then ((4 + (sOff o j)) - (sOff b k)) else y) dX3_nearestOf_70 ⟨⟨by omega, by omega⟩, ⟨by omega, by omega⟩, rfl⟩ mk_X3_nearestOf_53 ⟨by decide, by decide⟩ (Nat.le_of_ble_eq_true rfl) ⟨Nat.zero_le _, Nat.zero_le _⟩ ?_
                  refine r_istore_n E [(3, .int (iJ ((if ((4 + (sOff o j)) - (sOff b k)) < y then ((4 + (sOff o j)) - (sOff b k)) else y)))), (6, .int (iJ (0))), (0, .int (iJ (b))), (1, .int (iJ (o))), (2, .int (iJ (al))), (4, .int (iJ (k))), (5, .int (iJ (j)))] dX3_nearestOf_73 rfl (by decide) rfl ?_
                  refine r_iinc E (k := 6) [(5, .int (iJ ((j + 1)))), (3, .int (iJ ((if ((4 + (sOff o j)) - (sOff b k)) < y then ((4 + (sOff o j)) - (sOff b k)) else y)))), (6, .int (iJ (0))), (0, .int (iJ (b))), (1, .int (iJ (o))), (2, .int (iJ (al))), (4, .int (iJ (k)))] dX3_nearestOf_74 rfl (by decide) rfl ?_
                  refine r_goto E 17 dX3_nearestOf_77 (by decide) ?_
                  refine r_lv [3, 4, 5, 1, 6, 0] [(0, .int (iJ (b))), (1, .int (iJ (o))), (2, .int (iJ (al))), (3, .int (iJ ((if ((4 + (sOff o j)) - (sOff b k)) < y then ((4 + (sOff o j)) - (sOff b k)) else y)))), (4, .int (iJ (k))), (5, .int (iJ ((j + 1))))] rfl ?_
                  exact ih17 (j + 1) (if ((4 + (sOff o j)) - (sOff b k)) < y then ((4 + (sOff o j)) - (sOff b k)) else y) ⟨by omega, by omega⟩ (by
                        rw [nrI_s _ _ _ _ _ (by omega), ← hy]; unfold nrY
                        first | rw [if_pos c_38, if_neg c_51] | rw [if_neg c_38, if_neg c_51] | rw [if_pos c_38, if_pos c_51] | rw [if_neg c_38, if_pos c_51]) (by omega)
              · refine r_iconst E 1 rfl dX3_nearestOf_41 ?_
                refine r_goto E 46 dX3_nearestOf_42 (by decide) ?_
                refine r_istore E [(6, .int (iJ (1))), (0, .int (iJ (b))), (1, .int (iJ (o))), (2, .int (iJ (al))), (3, .int (iJ (y))), (4, .int (iJ (k))), (5, .int (iJ (j)))] dX3_nearestOf_46 (by decide) rfl ?_
                refine r_iload E 0 dX3_nearestOf_48 rfl ?_
                refine r_iload_n E 3 dX3_nearestOf_50 rfl rfl ?_
                refine r_icmp_ne E 74 dX3_nearestOf_51 (by decide) ⟨by omega, by omega⟩ ⟨by omega, by omega⟩ (fun c_51 => ?_) (fun c_51 => ?_)
                · refine r_iinc E (k := 6) [(5, .int (iJ ((j + 1)))), (6, .int (iJ (1))), (0, .int (iJ (b))), (1, .int (iJ (o))), (2, .int (iJ (al))), (3, .int (iJ (y))), (4, .int (iJ (k)))] dX3_nearestOf_74 rfl (by decide) rfl ?_
                  refine r_goto E 17 dX3_nearestOf_77 (by decide) ?_
                  refine r_lv [2, 3, 4, 5, 6, 0] [(0, .int (iJ (b))), (1, .int (iJ (o))), (2, .int (iJ (al))), (3, .int (iJ (y))), (4, .int (iJ (k))), (5, .int (iJ ((j + 1))))] rfl ?_
                  exact ih17 (j + 1) y ⟨by omega, by omega⟩ (by
                        rw [nrI_s _ _ _ _ _ (by omega), ← hy]; unfold nrY
                        first | rw [if_pos c_38, if_neg c_51] | rw [if_neg c_38, if_neg c_51] | rw [if_pos c_38, if_pos c_51] | rw [if_neg c_38, if_pos c_51]) (by omega)
                · have e_y := nrI_in (b := b) (o := o) (al := al) (bl := k) j.toNat (nrO_in (b := b) (o := o) (al := al) k.toNat)
                  rw [← hy] at e_y
                  have f_1 := sOff_in (o := o) (b := j)
                  have f_2 := sOff_in (o := b) (b := k)
                  refine r_iload_n E 4 dX3_nearestOf_54 rfl rfl ?_
                  refine r_iconst E 4 rfl dX3_nearestOf_55 ?_
                  refine r_iload_n E 2 dX3_nearestOf_56 rfl rfl ?_
                  refine r_iload E 6 dX3_nearestOf_57 rfl ?_
                  refine r_sP E (st := [.int (iJ (4)), .int (iJ (y))]) (c_X5_offset l D o j (by first | assumption | omega | exact ⟨by omega, by omega⟩) (by first | assumption | omega | exact ⟨by omega, by omega⟩)) gX3_nearestOf_X5_offset 2 kf_X5_offset ⟨rfl, rfl⟩ ⟨by decide, by decide⟩ dX3_nearestOf_59 rfl rfl ⟨Nat.zero_le _, Nat.zero_le _⟩ [] rfl (by decide) [] rfl (Nat.le_of_ble_eq_true rfl) ?_
                  refine r_iadd E dX3_nearestOf_62 ?_
                  refine r_iload_n E 1 dX3_nearestOf_63 rfl rfl ?_
                  refine r_iload E 5 dX3_nearestOf_64 rfl ?_
                  refine r_sP E (st := [.int (iJ ((4 + (sOff o j)))), .int (iJ (y))]) (c_X5_offset l D b k (by first | assumption | omega | exact ⟨by omega, by omega⟩) (by first | assumption | omega | exact ⟨by omega, by omega⟩)) gX3_nearestOf_X5_offset 2 kf_X5_offset ⟨rfl, rfl⟩ ⟨by decide, by decide⟩ dX3_nearestOf_66 rfl rfl ⟨Nat.zero_le _, Nat.zero_le _⟩ [] rfl (by decide) [] rfl (Nat.le_of_ble_eq_true rfl) ?_
                  refine r_isub E dX3_nearestOf_69 ?_
                  refine r_imin E (if ((4 + (sOff o j)) - (sOff b k)) < y then ((4 + (sOff o j)) - (sOff b k)) else y) dX3_nearestOf_70 ⟨⟨by omega, by omega⟩, ⟨by omega, by omega⟩, rfl⟩ mk_X3_nearestOf_53 ⟨by decide, by decide⟩ (Nat.le_of_ble_eq_true rfl) ⟨Nat.zero_le _, Nat.zero_le _⟩ ?_
                  refine r_istore_n E [(3, .int (iJ ((if ((4 + (sOff o j)) - (sOff b k)) < y then ((4 + (sOff o j)) - (sOff b k)) else y)))), (6, .int (iJ (1))), (0, .int (iJ (b))), (1, .int (iJ (o))), (2, .int (iJ (al))), (4, .int (iJ (k))), (5, .int (iJ (j)))] dX3_nearestOf_73 rfl (by decide) rfl ?_
                  refine r_iinc E (k := 6) [(5, .int (iJ ((j + 1)))), (3, .int (iJ ((if ((4 + (sOff o j)) - (sOff b k)) < y then ((4 + (sOff o j)) - (sOff b k)) else y)))), (6, .int (iJ (1))), (0, .int (iJ (b))), (1, .int (iJ (o))), (2, .int (iJ (al))), (4, .int (iJ (k)))] dX3_nearestOf_74 rfl (by decide) rfl ?_
                  refine r_goto E 17 dX3_nearestOf_77 (by decide) ?_
                  refine r_lv [3, 4, 5, 1, 6, 0] [(0, .int (iJ (b))), (1, .int (iJ (o))), (2, .int (iJ (al))), (3, .int (iJ ((if ((4 + (sOff o j)) - (sOff b k)) < y then ((4 + (sOff o j)) - (sOff b k)) else y)))), (4, .int (iJ (k))), (5, .int (iJ ((j + 1))))] rfl ?_
                  exact ih17 (j + 1) (if ((4 + (sOff o j)) - (sOff b k)) < y then ((4 + (sOff o j)) - (sOff b k)) else y) ⟨by omega, by omega⟩ (by
                        rw [nrI_s _ _ _ _ _ (by omega), ← hy]; unfold nrY
                        first | rw [if_pos c_38, if_neg c_51] | rw [if_neg c_38, if_neg c_51] | rw [if_pos c_38, if_pos c_51] | rw [if_neg c_38, if_pos c_51]) (by omega)
        refine r_lv [1, 2, 3, 4, 5, 0] [(0, .int (iJ (b))), (1, .int (iJ (o))), (2, .int (iJ (al))), (3, .int (iJ (x))), (4, .int (iJ (k))), (5, .int (iJ (0)))] rfl ?_
        exact loop_17 _ 0 x ⟨by omega, by omega⟩ (by rw [hx]; rfl) (Nat.lt_succ_self _)
  refine r_lv [2, 3, 4, 1, 0] [(0, .int (iJ (b))), (1, .int (iJ (o))), (2, .int (iJ (al))), (3, .int (iJ (4))), (4, .int (iJ (0)))] rfl ?_
  exact loop_5 _ 0 4 ⟨by omega, by omega⟩ rfl (Nat.lt_succ_self _)
theorem kf_X3_comesNearer : KF yX3_comesNearer 4 wsX3_comesNearer cX3_comesNearer 6 (some .boolean) := ⟨rfl, by decide +kernel, by decide +kernel, by decide +kernel⟩
def rm_X3_comesNearer : Room := { frames := 1, cells := 0, slots := 0, locals := 20 }
set_option maxRecDepth 20000 in
theorem in_X3_comesNearer_X3 : ∀ w ∈ u_ws RX3 TX3 7, w ∈ wsX3_comesNearer := by decide +kernel
set_option maxRecDepth 20000 in
theorem lk_X3_comesNearer_11 : Cond.fieldLink RX3 11 (TX3 0).1 (TX3 0).2.1 (TX3 0).2.2.1 ∈ wsX3_comesNearer := by decide +kernel
set_option maxHeartbeats 1000000 in
set_option maxRecDepth 100000 in
theorem c_X3_comesNearer (l : Launch) (D : va_G) (p0 : Nat) (p1 : Nat) (p2 : Nat) (p3 : Nat) (p4 : Nat) (p5 : Nat) (p6 : Nat) (cI : ClassId) (L : Int) (b : Int) (c : Int) (al : Int) (q : Int) (hb : 0 ≤ b ∧ b < 64) (hc : 0 ≤ c ∧ c < 64) (hal : al = 0 ∨ al = 1) (hq : 1 ≤ q ∧ q ≤ 4) : MP l yX3_comesNearer wsX3_comesNearer rm_X3_comesNearer D vwCl [.ref p0, .int (iJ (b)), .int (iJ (c)), .int (iJ (al)), .int (iJ (q))] [(p0, .inr (3, [.ref p1, .ref p2, .ref p3, .ref p4, .ref p5, .ref p6, .int (iJ (L))])), (p1, cJ cI 32 (nrA))] [(cI, .int)] (b2 (cnD q b c al)) := by
  refine MP.mk (cc := cX3_comesNearer) (maxL := 6) (ret := (some .boolean)) (by decide) rfl (Nat.le_of_ble_eq_true rfl) rfl RX3 rfl ?_
  intro p_ e_ s_ m_ ar_ bw_ mt_ cd_ Q_ E hr hQ
  refine r_iload_n E 1 dX3_comesNearer_0 rfl rfl ?_
  refine r_sP E (st := []) (c_X5_isStroke l D b (by first | assumption | omega | exact ⟨by omega, by omega⟩)) gX3_comesNearer_X5_isStroke 1 kf_X5_isStroke ⟨rfl, rfl⟩ ⟨by decide, by decide⟩ dX3_comesNearer_1 rfl rfl ⟨Nat.zero_le _, Nat.zero_le _⟩ [] rfl (by decide) [] rfl (Nat.le_of_ble_eq_true rfl) ?_
  refine r_ifeq_n E 14 dX3_comesNearer_4 (by decide) (fun c_4 => ?_) (fun c_4 => ?_)
  · refine r_iconst E 0 rfl dX3_comesNearer_14 ?_
    exact r_retPZ E hr dX3_comesNearer_15 (by omega) (by first | exact (b2_t ⟨⟨by assumption, by assumption⟩, by omega⟩).symm | exact (b2_f (by rintro ⟨⟨z1, z2⟩, z3⟩; first | exact c_4 z1 | exact c_11 z2 | omega)).symm) hQ
  · refine r_iload_n E 2 dX3_comesNearer_7 rfl rfl ?_
    refine r_sP E (st := []) (c_X5_isStroke l D c (by first | assumption | omega | exact ⟨by omega, by omega⟩)) gX3_comesNearer_X5_isStroke 1 kf_X5_isStroke ⟨rfl, rfl⟩ ⟨by decide, by decide⟩ dX3_comesNearer_8 rfl rfl ⟨Nat.zero_le _, Nat.zero_le _⟩ [] rfl (by decide) [] rfl (Nat.le_of_ble_eq_true rfl) ?_
    refine r_ifne_n E 16 dX3_comesNearer_11 (by decide) (fun c_11 => ?_) (fun c_11 => ?_)
    · refine r_iload_n E 1 dX3_comesNearer_16 rfl rfl ?_
      refine r_sP E (st := []) (c_X5_ornament l D b (by first | assumption | omega | exact ⟨by omega, by omega⟩)) gX3_comesNearer_X5_ornament 1 kf_X5_ornament ⟨rfl, rfl⟩ ⟨by decide, by decide⟩ dX3_comesNearer_17 rfl rfl ⟨Nat.zero_le _, Nat.zero_le _⟩ [] rfl (by decide) [] rfl (Nat.le_of_ble_eq_true rfl) ?_
      refine r_iconst E 3 rfl dX3_comesNearer_20 ?_
      refine r_ishl E (b / 16 % 4 * 8) (bit_sl3 ⟨by omega, by omega⟩) dX3_comesNearer_21 ?_
      refine r_iload_n E 2 dX3_comesNearer_22 rfl rfl ?_
      refine r_sP E (st := [.int (iJ ((b / 16 % 4 * 8)))]) (c_X5_ornament l D c (by first | assumption | omega | exact ⟨by omega, by omega⟩)) gX3_comesNearer_X5_ornament 1 kf_X5_ornament ⟨rfl, rfl⟩ ⟨by decide, by decide⟩ dX3_comesNearer_23 rfl rfl ⟨Nat.zero_le _, Nat.zero_le _⟩ [] rfl (by decide) [] rfl (Nat.le_of_ble_eq_true rfl) ?_
      refine r_iconst E 1 rfl dX3_comesNearer_26 ?_
      refine r_ishl E (c / 16 % 4 * 2) (bit_sl1 ⟨by omega, by omega⟩) dX3_comesNearer_27 ?_
      refine r_ior E (b / 16 % 4 * 8 + c / 16 % 4 * 2) (bit_or3 ⟨by omega, by omega⟩ ⟨by omega, by omega⟩) dX3_comesNearer_28 ?_
      refine r_iload_n E 3 dX3_comesNearer_29 rfl rfl ?_
      refine r_if_eq E 37 dX3_comesNearer_30 (by decide) ⟨by omega, by omega⟩ (fun c_30 => ?_) (fun c_30 => ?_)
      · refine r_iconst E 0 rfl dX3_comesNearer_37 ?_
        refine r_ior E (b / 16 % 4 * 8 + c / 16 % 4 * 2 + al) (by
              have e : al = (if al = 0 then 0 else 1) := by split <;> omega
              first | (rw [if_pos c_30] at e; rw [e]; exact bit_or4 ⟨by omega, by omega⟩ ⟨by omega, by omega⟩ (Or.inl rfl)) | (rw [if_neg c_30] at e; rw [e]; exact bit_or4 ⟨by omega, by omega⟩ ⟨by omega, by omega⟩ (Or.inr rfl))) dX3_comesNearer_38 ?_
        refine r_istore E [(5, .int (iJ ((b / 16 % 4 * 8 + c / 16 % 4 * 2 + al)))), (0, .ref p0), (1, .int (iJ (b))), (2, .int (iJ (c))), (3, .int (iJ (al))), (4, .int (iJ (q)))] dX3_comesNearer_39 (by decide) rfl ?_
        refine r_iload E 0 dX3_comesNearer_41 rfl ?_
        refine r_if_lt E 72 dX3_comesNearer_43 (by decide) ⟨by omega, by omega⟩ (fun c_43 => absurd c_43 (by omega)) (fun c_43 => ?_)
        refine r_iload E 0 dX3_comesNearer_46 rfl ?_
        refine r_aload_n E 1 dX3_comesNearer_48 rfl rfl ?_
        refine r_get E 3 0 0 dX3_comesNearer_49 in_X3_comesNearer_X3 lk_X3_comesNearer_11 rfl rfl (by decide) rfl ?_
        refine r_alen E 1 0 32 dX3_comesNearer_52 rfl rfl rfl ?_
        refine r_top (b := 32) (by rfl) ?_
        refine r_icmp_ge E 72 dX3_comesNearer_53 (by decide) ⟨by omega, by omega⟩ ⟨by omega, by omega⟩ (fun c_53 => absurd c_53 (by omega)) (fun c_53 => ?_)
        have f_n := nrA_in (j := b / 16 % 4 * 8 + c / 16 % 4 * 2 + al)
        refine r_aload_n E 1 dX3_comesNearer_56 rfl rfl ?_
        refine r_get E 3 0 0 dX3_comesNearer_57 in_X3_comesNearer_X3 lk_X3_comesNearer_11 rfl rfl (by decide) rfl ?_
        refine r_iload E 0 dX3_comesNearer_60 rfl ?_
        refine r_iald E (i := (b / 16 % 4 * 8 + c / 16 % 4 * 2 + al)) 1 0 dX3_comesNearer_62 rfl rfl (by decide) ⟨by omega, by omega⟩ ?_
        refine r_iload E 5 dX3_comesNearer_63 rfl ?_
        refine r_icmp_ge E 72 dX3_comesNearer_65 (by decide) ⟨by omega, by omega⟩ ⟨by omega, by omega⟩ (fun c_65 => ?_) (fun c_65 => ?_)
        · refine r_iconst E 0 rfl dX3_comesNearer_72 ?_
          exact r_retPZ E hr dX3_comesNearer_73 (by omega) (by first | exact (b2_t ⟨⟨by assumption, by assumption⟩, by omega⟩).symm | exact (b2_f (by rintro ⟨⟨z1, z2⟩, z3⟩; first | exact c_4 z1 | exact c_11 z2 | omega)).symm) hQ
        · refine r_iconst E 1 rfl dX3_comesNearer_68 ?_
          refine r_goto E 73 dX3_comesNearer_69 (by decide) ?_
          exact r_retPZ E hr dX3_comesNearer_73 (by omega) (by first | exact (b2_t ⟨⟨by assumption, by assumption⟩, by omega⟩).symm | exact (b2_f (by rintro ⟨⟨z1, z2⟩, z3⟩; first | exact c_4 z1 | exact c_11 z2 | omega)).symm) hQ
      · refine r_iconst E 1 rfl dX3_comesNearer_33 ?_
        refine r_goto E 38 dX3_comesNearer_34 (by decide) ?_
        refine r_ior E (b / 16 % 4 * 8 + c / 16 % 4 * 2 + al) (by
              have e : al = (if al = 0 then 0 else 1) := by split <;> omega
              first | (rw [if_pos c_30] at e; rw [e]; exact bit_or4 ⟨by omega, by omega⟩ ⟨by omega, by omega⟩ (Or.inl rfl)) | (rw [if_neg c_30] at e; rw [e]; exact bit_or4 ⟨by omega, by omega⟩ ⟨by omega, by omega⟩ (Or.inr rfl))) dX3_comesNearer_38 ?_
        refine r_istore E [(5, .int (iJ ((b / 16 % 4 * 8 + c / 16 % 4 * 2 + al)))), (0, .ref p0), (1, .int (iJ (b))), (2, .int (iJ (c))), (3, .int (iJ (al))), (4, .int (iJ (q)))] dX3_comesNearer_39 (by decide) rfl ?_
        refine r_iload E 0 dX3_comesNearer_41 rfl ?_
        refine r_if_lt E 72 dX3_comesNearer_43 (by decide) ⟨by omega, by omega⟩ (fun c_43 => absurd c_43 (by omega)) (fun c_43 => ?_)
        refine r_iload E 0 dX3_comesNearer_46 rfl ?_
        refine r_aload_n E 1 dX3_comesNearer_48 rfl rfl ?_
        refine r_get E 3 0 0 dX3_comesNearer_49 in_X3_comesNearer_X3 lk_X3_comesNearer_11 rfl rfl (by decide) rfl ?_
        refine r_alen E 1 0 32 dX3_comesNearer_52 rfl rfl rfl ?_
        refine r_top (b := 32) (by rfl) ?_
        refine r_icmp_ge E 72 dX3_comesNearer_53 (by decide) ⟨by omega, by omega⟩ ⟨by omega, by omega⟩ (fun c_53 => absurd c_53 (by omega)) (fun c_53 => ?_)
        have f_n := nrA_in (j := b / 16 % 4 * 8 + c / 16 % 4 * 2 + al)
        refine r_aload_n E 1 dX3_comesNearer_56 rfl rfl ?_
        refine r_get E 3 0 0 dX3_comesNearer_57 in_X3_comesNearer_X3 lk_X3_comesNearer_11 rfl rfl (by decide) rfl ?_
        refine r_iload E 0 dX3_comesNearer_60 rfl ?_
        refine r_iald E (i := (b / 16 % 4 * 8 + c / 16 % 4 * 2 + al)) 1 0 dX3_comesNearer_62 rfl rfl (by decide) ⟨by omega, by omega⟩ ?_
        refine r_iload E 5 dX3_comesNearer_63 rfl ?_
        refine r_icmp_ge E 72 dX3_comesNearer_65 (by decide) ⟨by omega, by omega⟩ ⟨by omega, by omega⟩ (fun c_65 => ?_) (fun c_65 => ?_)
        · refine r_iconst E 0 rfl dX3_comesNearer_72 ?_
          exact r_retPZ E hr dX3_comesNearer_73 (by omega) (by first | exact (b2_t ⟨⟨by assumption, by assumption⟩, by omega⟩).symm | exact (b2_f (by rintro ⟨⟨z1, z2⟩, z3⟩; first | exact c_4 z1 | exact c_11 z2 | omega)).symm) hQ
        · refine r_iconst E 1 rfl dX3_comesNearer_68 ?_
          refine r_goto E 73 dX3_comesNearer_69 (by decide) ?_
          exact r_retPZ E hr dX3_comesNearer_73 (by omega) (by first | exact (b2_t ⟨⟨by assumption, by assumption⟩, by omega⟩).symm | exact (b2_f (by rintro ⟨⟨z1, z2⟩, z3⟩; first | exact c_4 z1 | exact c_11 z2 | omega)).symm) hQ
    · refine r_iconst E 0 rfl dX3_comesNearer_14 ?_
      exact r_retPZ E hr dX3_comesNearer_15 (by omega) (by first | exact (b2_t ⟨⟨by assumption, by assumption⟩, by omega⟩).symm | exact (b2_f (by rintro ⟨⟨z1, z2⟩, z3⟩; first | exact c_4 z1 | exact c_11 z2 | omega)).symm) hQ
theorem kf_X3_collides : KF yX3_collides 2 wsX3_collides cX3_collides 3 (some .boolean) := ⟨rfl, by decide +kernel, by decide +kernel, by decide +kernel⟩
def rm_X3_collides : Room := { frames := 0, cells := 0, slots := 0, locals := 0 }
set_option maxRecDepth 20000 in
theorem in_X3_collides_X3 : ∀ w ∈ u_ws RX3 TX3 7, w ∈ wsX3_collides := by decide +kernel
set_option maxRecDepth 20000 in
theorem lk_X3_collides_31 : Cond.fieldLink RX3 31 (TX3 6).1 (TX3 6).2.1 (TX3 6).2.2.1 ∈ wsX3_collides := by decide +kernel
set_option maxRecDepth 20000 in
theorem lk_X3_collides_22 : Cond.fieldLink RX3 22 (TX3 3).1 (TX3 3).2.1 (TX3 3).2.2.1 ∈ wsX3_collides := by decide +kernel
set_option maxRecDepth 20000 in
theorem lk_X3_collides_18 : Cond.fieldLink RX3 18 (TX3 2).1 (TX3 2).2.1 (TX3 2).2.2.1 ∈ wsX3_collides := by decide +kernel
set_option maxHeartbeats 1000000 in
set_option maxRecDepth 100000 in
theorem c_X3_collides (l : Launch) (D : va_G) (p0 : Nat) (p1 : Nat) (p2 : Nat) (p3 : Nat) (p4 : Nat) (p5 : Nat) (p6 : Nat) (cI : ClassId) (cZ : ClassId) (L : Int) (ow : Int → Int) (cA : Int → Int) (cU : Int → Int) (hd : Int → Int) (fw : Int → Int) (a : Int) (al : Int) (hL : 0 ≤ L ∧ L ≤ 32) (hA1 : ∀ j : Int, 0 ≤ j → j < L → cA j = 0 ∨ cA j = 1) (hU1 : ∀ j : Int, 0 ≤ j → j < L → cU j = 0 ∨ cU j = 1) (ha : jb a) (hal : al = 0 ∨ al = 1) : MP l yX3_collides wsX3_collides rm_X3_collides D vwCl [.ref p0, .int (iJ (a)), .int (iJ (al))] [(p0, .inr (3, [.ref p1, .ref p2, .ref p3, .ref p4, .ref p5, .ref p6, .int (iJ (L))])), (p1, cJ cI 32 (nrA)), (p2, cJ cI 32 (ow)), (p3, cJ cZ 32 (cA)), (p4, cJ cZ 32 (cU)), (p5, cJ cI 32 (hd)), (p6, cJ cI 132 (fw))] [(cI, .int), (cZ, .boolean)] (plC L cA cU a al) := by
  refine MP.mk (cc := cX3_collides) (maxL := 3) (ret := (some .boolean)) (by decide) rfl (Nat.le_of_ble_eq_true rfl) rfl RX3 rfl ?_
  intro p_ e_ s_ m_ ar_ bw_ mt_ cd_ Q_ E hr hQ
  refine r_iload_n E 1 dX3_collides_0 rfl rfl ?_
  refine r_if_lt E 12 dX3_collides_1 (by decide) ha (fun c_1 => ?_) (fun c_1 => ?_)
  · refine r_iconst E 0 rfl dX3_collides_12 ?_
    exact r_retPZ E hr dX3_collides_13 (by omega) (by
          unfold plC
          first | rw [if_neg (show ¬ (0 ≤ a ∧ a < L) by omega)] | rw [if_pos (show 0 ≤ a ∧ a < L by omega), if_pos (show al = 0 by omega)] | rw [if_pos (show 0 ≤ a ∧ a < L by omega), if_neg (show ¬ al = 0 by omega)]) hQ
  · refine r_iload_n E 1 dX3_collides_4 rfl rfl ?_
    refine r_aload_n E 0 dX3_collides_5 rfl rfl ?_
    refine r_get E 3 0 6 dX3_collides_6 in_X3_collides_X3 lk_X3_collides_31 rfl rfl (by decide) rfl ?_
    refine r_icmp_lt E 14 dX3_collides_9 (by decide) ⟨by omega, by omega⟩ ⟨by omega, by omega⟩ (fun c_9 => ?_) (fun c_9 => ?_)
    · refine r_iload_n E 2 dX3_collides_14 rfl rfl ?_
      refine r_if_eq E 27 dX3_collides_15 (by decide) ⟨by omega, by omega⟩ (fun c_15 => ?_) (fun c_15 => ?_)
      · refine r_aload_n E 0 dX3_collides_27 rfl rfl ?_
        refine r_get E 3 0 3 dX3_collides_28 in_X3_collides_X3 lk_X3_collides_22 rfl rfl (by decide) rfl ?_
        refine r_iload_n E 1 dX3_collides_31 rfl rfl ?_
        refine r_zald E (i := a) 4 1 dX3_collides_32 rfl rfl (by decide) ⟨by omega, by omega⟩ ?_
        have f_1 := hA1 a (by omega) (by omega)
        have f_2 := hU1 a (by omega) (by omega)
        exact r_retPZ E hr dX3_collides_33 (by omega) (by
              unfold plC
              first | rw [if_neg (show ¬ (0 ≤ a ∧ a < L) by omega)] | rw [if_pos (show 0 ≤ a ∧ a < L by omega), if_pos (show al = 0 by omega)] | rw [if_pos (show 0 ≤ a ∧ a < L by omega), if_neg (show ¬ al = 0 by omega)]) hQ
      · refine r_aload_n E 0 dX3_collides_18 rfl rfl ?_
        refine r_get E 3 0 2 dX3_collides_19 in_X3_collides_X3 lk_X3_collides_18 rfl rfl (by decide) rfl ?_
        refine r_iload_n E 1 dX3_collides_22 rfl rfl ?_
        refine r_zald E (i := a) 3 1 dX3_collides_23 rfl rfl (by decide) ⟨by omega, by omega⟩ ?_
        refine r_goto E 33 dX3_collides_24 (by decide) ?_
        have f_1 := hA1 a (by omega) (by omega)
        have f_2 := hU1 a (by omega) (by omega)
        exact r_retPZ E hr dX3_collides_33 (by omega) (by
              unfold plC
              first | rw [if_neg (show ¬ (0 ≤ a ∧ a < L) by omega)] | rw [if_pos (show 0 ≤ a ∧ a < L by omega), if_pos (show al = 0 by omega)] | rw [if_pos (show 0 ≤ a ∧ a < L by omega), if_neg (show ¬ al = 0 by omega)]) hQ
    · refine r_iconst E 0 rfl dX3_collides_12 ?_
      exact r_retPZ E hr dX3_collides_13 (by omega) (by
            unfold plC
            first | rw [if_neg (show ¬ (0 ≤ a ∧ a < L) by omega)] | rw [if_pos (show 0 ≤ a ∧ a < L by omega), if_pos (show al = 0 by omega)] | rw [if_pos (show 0 ≤ a ∧ a < L by omega), if_neg (show ¬ al = 0 by omega)]) hQ
theorem kf_X3_fits : KF yX3_fits 3 wsX3_fits cX3_fits 5 (some .boolean) := ⟨rfl, by decide +kernel, by decide +kernel, by decide +kernel⟩
def rm_X3_fits : Room := { frames := 1, cells := 0, slots := 0, locals := 22 }
set_option maxRecDepth 20000 in
theorem in_X3_fits_X3 : ∀ w ∈ u_ws RX3 TX3 7, w ∈ wsX3_fits := by decide +kernel
set_option maxRecDepth 20000 in
theorem lk_X3_fits_31 : Cond.fieldLink RX3 31 (TX3 6).1 (TX3 6).2.1 (TX3 6).2.2.1 ∈ wsX3_fits := by decide +kernel
set_option maxRecDepth 20000 in
theorem lk_X3_fits_15 : Cond.fieldLink RX3 15 (TX3 1).1 (TX3 1).2.1 (TX3 1).2.2.1 ∈ wsX3_fits := by decide +kernel
set_option maxHeartbeats 1000000 in
set_option maxRecDepth 100000 in
theorem c_X3_fits (l : Launch) (D : va_G) (p0 : Nat) (p1 : Nat) (p2 : Nat) (p3 : Nat) (p4 : Nat) (p5 : Nat) (p6 : Nat) (cI : ClassId) (cZ : ClassId) (L : Int) (ow : Int → Int) (cA : Int → Int) (cU : Int → Int) (hd : Int → Int) (fw : Int → Int) (a : Int) (hb : Int) (h : Int) (hL : 0 ≤ L ∧ L ≤ 32) (hA1 : ∀ j : Int, 0 ≤ j → j < L → cA j = 0 ∨ cA j = 1) (hU1 : ∀ j : Int, 0 ≤ j → j < L → cU j = 0 ∨ cU j = 1) (hO3 : ∀ j : Int, 0 ≤ j → j < L → 0 ≤ ow j ∧ ow j ≤ 3) (ha : jb a) (hhb : 0 ≤ hb ∧ hb ≤ 3) (hh : 0 ≤ h ∧ h ≤ 1) : MP l yX3_fits wsX3_fits rm_X3_fits D vwCl [.ref p0, .int (iJ (a)), .int (iJ (hb)), .int (iJ (h))] [(p0, .inr (3, [.ref p1, .ref p2, .ref p3, .ref p4, .ref p5, .ref p6, .int (iJ (L))])), (p1, cJ cI 32 (nrA)), (p2, cJ cI 32 (ow)), (p3, cJ cZ 32 (cA)), (p4, cJ cZ 32 (cU)), (p5, cJ cI 32 (hd)), (p6, cJ cI 132 (fw))] [(cI, .int), (cZ, .boolean)] (b2 (fitP L ow cA cU a hb h)) := by
  refine MP.mk (cc := cX3_fits) (maxL := 5) (ret := (some .boolean)) (by decide) rfl (Nat.le_of_ble_eq_true rfl) rfl RX3 rfl ?_
  intro p_ e_ s_ m_ ar_ bw_ mt_ cd_ Q_ E hr hQ
  refine r_iload_n E 1 dX3_fits_0 rfl rfl ?_
  refine r_if_lt E 12 dX3_fits_1 (by decide) ha (fun c_1 => ?_) (fun c_1 => ?_)
  · refine r_iconst E 0 rfl dX3_fits_12 ?_
    exact r_retPZ E hr dX3_fits_13 (by omega) (by
          first
          | exact (b2_t ⟨⟨by omega, by omega⟩, by omega, by assumption⟩).symm
          | exact (b2_f (by rintro ⟨z1, z2, z3⟩; first | omega | exact c_61 z3)).symm) hQ
  · refine r_iload_n E 1 dX3_fits_4 rfl rfl ?_
    refine r_aload_n E 0 dX3_fits_5 rfl rfl ?_
    refine r_get E 3 0 6 dX3_fits_6 in_X3_fits_X3 lk_X3_fits_31 rfl rfl (by decide) rfl ?_
    refine r_icmp_lt E 14 dX3_fits_9 (by decide) ha ⟨by omega, by omega⟩ (fun c_9 => ?_) (fun c_9 => ?_)
    · refine r_aload_n E 0 dX3_fits_14 rfl rfl ?_
      refine r_get E 3 0 1 dX3_fits_15 in_X3_fits_X3 lk_X3_fits_15 rfl rfl (by decide) rfl ?_
      refine r_iload_n E 1 dX3_fits_18 rfl rfl ?_
      refine r_iald E (i := a) 2 0 dX3_fits_19 rfl rfl (by decide) ⟨by omega, by omega⟩ ?_
      have f_1 := hO3 a (by omega) (by omega)
      refine r_iconst E 2 rfl dX3_fits_20 ?_
      refine r_icmp_eq E 34 dX3_fits_21 (by decide) ⟨by omega, by omega⟩ ⟨by omega, by omega⟩ (fun c_21 => ?_) (fun c_21 => ?_)
      · refine r_iconst E 1 rfl dX3_fits_34 ?_
        refine r_goto E 39 dX3_fits_35 (by decide) ?_
        refine r_istore E [(4, .int (iJ (1))), (0, .ref p0), (1, .int (iJ (a))), (2, .int (iJ (hb))), (3, .int (iJ (h)))] dX3_fits_39 (by decide) rfl ?_
        refine r_iload E 0 dX3_fits_41 rfl ?_
        refine r_if_eq E 68 dX3_fits_43 (by decide) ⟨by omega, by omega⟩ (fun c_43 => absurd c_43 (by omega)) (fun c_43 => ?_)
        refine r_aload_n E 1 dX3_fits_46 rfl rfl ?_
        refine r_iload_n E 2 dX3_fits_47 rfl rfl ?_
        refine r_iload_n E 3 dX3_fits_48 rfl rfl ?_
        refine r_iload_n E 4 dX3_fits_49 rfl rfl ?_
        refine r_icmp_ne E 57 dX3_fits_50 (by decide) ⟨by omega, by omega⟩ ⟨by omega, by omega⟩ (fun c_50 => ?_) (fun c_50 => ?_)
        · refine r_iconst E 0 rfl dX3_fits_57 ?_
          refine r_top (b := b2 (hb = h)) (by first | exact (b2_t (by omega)).symm | exact (b2_f (by omega)).symm) ?_
          refine r_vP E (st := []) (c_X3_collides l D p0 p1 p2 p3 p4 p5 p6 cI cZ L ow cA cU hd fw a (b2 (hb = h)) (by first | assumption | omega | exact ⟨by omega, by omega⟩) (by first | assumption | omega | exact ⟨by omega, by omega⟩) (by first | assumption | omega | exact ⟨by omega, by omega⟩) (by first | assumption | omega | exact ⟨by omega, by omega⟩) (b2_01 _)) gX3_fits_X3_collides 2 kf_X3_collides ⟨rfl, rfl⟩ ⟨by decide, by decide⟩ dX3_fits_58 rfl 0 rfl rfl rfl rfl ⟨Nat.zero_le _, Nat.zero_le _⟩ [0, 1, 2, 3, 4, 5, 6] rfl (by decide) [0, 1] rfl (Nat.le_of_ble_eq_true rfl) ?_
          refine r_if_ne E 68 dX3_fits_61 (by decide) (by rcases plC_01 hA1 hU1 (a := a) (al := b2 (hb = h)) with z | z <;> (rw [z]; exact ⟨by decide, by decide⟩)) (fun c_61 => ?_) (fun c_61 => ?_)
          · refine r_iconst E 0 rfl dX3_fits_68 ?_
            exact r_retPZ E hr dX3_fits_69 (by omega) (by
                  first
                  | exact (b2_t ⟨⟨by omega, by omega⟩, by omega, by assumption⟩).symm
                  | exact (b2_f (by rintro ⟨z1, z2, z3⟩; first | omega | exact c_61 z3)).symm) hQ
          · refine r_iconst E 1 rfl dX3_fits_64 ?_
            refine r_goto E 69 dX3_fits_65 (by decide) ?_
            exact r_retPZ E hr dX3_fits_69 (by omega) (by
                  first
                  | exact (b2_t ⟨⟨by omega, by omega⟩, by omega, by assumption⟩).symm
                  | exact (b2_f (by rintro ⟨z1, z2, z3⟩; first | omega | exact c_61 z3)).symm) hQ
        · refine r_iconst E 1 rfl dX3_fits_53 ?_
          refine r_goto E 58 dX3_fits_54 (by decide) ?_
          refine r_top (b := b2 (hb = h)) (by first | exact (b2_t (by omega)).symm | exact (b2_f (by omega)).symm) ?_
          refine r_vP E (st := []) (c_X3_collides l D p0 p1 p2 p3 p4 p5 p6 cI cZ L ow cA cU hd fw a (b2 (hb = h)) (by first | assumption | omega | exact ⟨by omega, by omega⟩) (by first | assumption | omega | exact ⟨by omega, by omega⟩) (by first | assumption | omega | exact ⟨by omega, by omega⟩) (by first | assumption | omega | exact ⟨by omega, by omega⟩) (b2_01 _)) gX3_fits_X3_collides 2 kf_X3_collides ⟨rfl, rfl⟩ ⟨by decide, by decide⟩ dX3_fits_58 rfl 0 rfl rfl rfl rfl ⟨Nat.zero_le _, Nat.zero_le _⟩ [0, 1, 2, 3, 4, 5, 6] rfl (by decide) [0, 1] rfl (Nat.le_of_ble_eq_true rfl) ?_
          refine r_if_ne E 68 dX3_fits_61 (by decide) (by rcases plC_01 hA1 hU1 (a := a) (al := b2 (hb = h)) with z | z <;> (rw [z]; exact ⟨by decide, by decide⟩)) (fun c_61 => ?_) (fun c_61 => ?_)
          · refine r_iconst E 0 rfl dX3_fits_68 ?_
            exact r_retPZ E hr dX3_fits_69 (by omega) (by
                  first
                  | exact (b2_t ⟨⟨by omega, by omega⟩, by omega, by assumption⟩).symm
                  | exact (b2_f (by rintro ⟨z1, z2, z3⟩; first | omega | exact c_61 z3)).symm) hQ
          · refine r_iconst E 1 rfl dX3_fits_64 ?_
            refine r_goto E 69 dX3_fits_65 (by decide) ?_
            exact r_retPZ E hr dX3_fits_69 (by omega) (by
                  first
                  | exact (b2_t ⟨⟨by omega, by omega⟩, by omega, by assumption⟩).symm
                  | exact (b2_f (by rintro ⟨z1, z2, z3⟩; first | omega | exact c_61 z3)).symm) hQ
      · refine r_aload_n E 0 dX3_fits_24 rfl rfl ?_
        refine r_get E 3 0 1 dX3_fits_25 in_X3_fits_X3 lk_X3_fits_15 rfl rfl (by decide) rfl ?_
        refine r_iload_n E 1 dX3_fits_28 rfl rfl ?_
        refine r_iald E (i := a) 2 0 dX3_fits_29 rfl rfl (by decide) ⟨by omega, by omega⟩ ?_
        have f_2 := hO3 a (by omega) (by omega)
        refine r_iload_n E 3 dX3_fits_30 rfl rfl ?_
        refine r_icmp_ne E 38 dX3_fits_31 (by decide) ⟨by omega, by omega⟩ ⟨by omega, by omega⟩ (fun c_31 => ?_) (fun c_31 => ?_)
        · refine r_iconst E 0 rfl dX3_fits_38 ?_
          refine r_istore E [(4, .int (iJ (0))), (0, .ref p0), (1, .int (iJ (a))), (2, .int (iJ (hb))), (3, .int (iJ (h)))] dX3_fits_39 (by decide) rfl ?_
          refine r_iload E 0 dX3_fits_41 rfl ?_
          refine r_if_eq E 68 dX3_fits_43 (by decide) ⟨by omega, by omega⟩ (fun c_43 => ?_) (fun c_43 => absurd c_43 (by omega))
          refine r_iconst E 0 rfl dX3_fits_68 ?_
          exact r_retPZ E hr dX3_fits_69 (by omega) (by
                first
                | exact (b2_t ⟨⟨by omega, by omega⟩, by omega, by assumption⟩).symm
                | exact (b2_f (by rintro ⟨z1, z2, z3⟩; first | omega | exact c_61 z3)).symm) hQ
        · refine r_iconst E 1 rfl dX3_fits_34 ?_
          refine r_goto E 39 dX3_fits_35 (by decide) ?_
          refine r_istore E [(4, .int (iJ (1))), (0, .ref p0), (1, .int (iJ (a))), (2, .int (iJ (hb))), (3, .int (iJ (h)))] dX3_fits_39 (by decide) rfl ?_
          refine r_iload E 0 dX3_fits_41 rfl ?_
          refine r_if_eq E 68 dX3_fits_43 (by decide) ⟨by omega, by omega⟩ (fun c_43 => absurd c_43 (by omega)) (fun c_43 => ?_)
          refine r_aload_n E 1 dX3_fits_46 rfl rfl ?_
          refine r_iload_n E 2 dX3_fits_47 rfl rfl ?_
          refine r_iload_n E 3 dX3_fits_48 rfl rfl ?_
          refine r_iload_n E 4 dX3_fits_49 rfl rfl ?_
          refine r_icmp_ne E 57 dX3_fits_50 (by decide) ⟨by omega, by omega⟩ ⟨by omega, by omega⟩ (fun c_50 => ?_) (fun c_50 => ?_)
          · refine r_iconst E 0 rfl dX3_fits_57 ?_
            refine r_top (b := b2 (hb = h)) (by first | exact (b2_t (by omega)).symm | exact (b2_f (by omega)).symm) ?_
            refine r_vP E (st := []) (c_X3_collides l D p0 p1 p2 p3 p4 p5 p6 cI cZ L ow cA cU hd fw a (b2 (hb = h)) (by first | assumption | omega | exact ⟨by omega, by omega⟩) (by first | assumption | omega | exact ⟨by omega, by omega⟩) (by first | assumption | omega | exact ⟨by omega, by omega⟩) (by first | assumption | omega | exact ⟨by omega, by omega⟩) (b2_01 _)) gX3_fits_X3_collides 2 kf_X3_collides ⟨rfl, rfl⟩ ⟨by decide, by decide⟩ dX3_fits_58 rfl 0 rfl rfl rfl rfl ⟨Nat.zero_le _, Nat.zero_le _⟩ [0, 1, 2, 3, 4, 5, 6] rfl (by decide) [0, 1] rfl (Nat.le_of_ble_eq_true rfl) ?_
            refine r_if_ne E 68 dX3_fits_61 (by decide) (by rcases plC_01 hA1 hU1 (a := a) (al := b2 (hb = h)) with z | z <;> (rw [z]; exact ⟨by decide, by decide⟩)) (fun c_61 => ?_) (fun c_61 => ?_)
            · refine r_iconst E 0 rfl dX3_fits_68 ?_
              exact r_retPZ E hr dX3_fits_69 (by omega) (by
                    first
                    | exact (b2_t ⟨⟨by omega, by omega⟩, by omega, by assumption⟩).symm
                    | exact (b2_f (by rintro ⟨z1, z2, z3⟩; first | omega | exact c_61 z3)).symm) hQ
            · refine r_iconst E 1 rfl dX3_fits_64 ?_
              refine r_goto E 69 dX3_fits_65 (by decide) ?_
              exact r_retPZ E hr dX3_fits_69 (by omega) (by
                    first
                    | exact (b2_t ⟨⟨by omega, by omega⟩, by omega, by assumption⟩).symm
                    | exact (b2_f (by rintro ⟨z1, z2, z3⟩; first | omega | exact c_61 z3)).symm) hQ
          · refine r_iconst E 1 rfl dX3_fits_53 ?_
            refine r_goto E 58 dX3_fits_54 (by decide) ?_
            refine r_top (b := b2 (hb = h)) (by first | exact (b2_t (by omega)).symm | exact (b2_f (by omega)).symm) ?_
            refine r_vP E (st := []) (c_X3_collides l D p0 p1 p2 p3 p4 p5 p6 cI cZ L ow cA cU hd fw a (b2 (hb = h)) (by first | assumption | omega | exact ⟨by omega, by omega⟩) (by first | assumption | omega | exact ⟨by omega, by omega⟩) (by first | assumption | omega | exact ⟨by omega, by omega⟩) (by first | assumption | omega | exact ⟨by omega, by omega⟩) (b2_01 _)) gX3_fits_X3_collides 2 kf_X3_collides ⟨rfl, rfl⟩ ⟨by decide, by decide⟩ dX3_fits_58 rfl 0 rfl rfl rfl rfl ⟨Nat.zero_le _, Nat.zero_le _⟩ [0, 1, 2, 3, 4, 5, 6] rfl (by decide) [0, 1] rfl (Nat.le_of_ble_eq_true rfl) ?_
            refine r_if_ne E 68 dX3_fits_61 (by decide) (by rcases plC_01 hA1 hU1 (a := a) (al := b2 (hb = h)) with z | z <;> (rw [z]; exact ⟨by decide, by decide⟩)) (fun c_61 => ?_) (fun c_61 => ?_)
            · refine r_iconst E 0 rfl dX3_fits_68 ?_
              exact r_retPZ E hr dX3_fits_69 (by omega) (by
                    first
                    | exact (b2_t ⟨⟨by omega, by omega⟩, by omega, by assumption⟩).symm
                    | exact (b2_f (by rintro ⟨z1, z2, z3⟩; first | omega | exact c_61 z3)).symm) hQ
            · refine r_iconst E 1 rfl dX3_fits_64 ?_
              refine r_goto E 69 dX3_fits_65 (by decide) ?_
              exact r_retPZ E hr dX3_fits_69 (by omega) (by
                    first
                    | exact (b2_t ⟨⟨by omega, by omega⟩, by omega, by assumption⟩).symm
                    | exact (b2_f (by rintro ⟨z1, z2, z3⟩; first | omega | exact c_61 z3)).symm) hQ
    · refine r_iconst E 0 rfl dX3_fits_12 ?_
      exact r_retPZ E hr dX3_fits_13 (by omega) (by
            first
            | exact (b2_t ⟨⟨by omega, by omega⟩, by omega, by assumption⟩).symm
            | exact (b2_f (by rintro ⟨z1, z2, z3⟩; first | omega | exact c_61 z3)).symm) hQ
theorem kf_X3_load : KF yX3_load 2 wsX3_load cX3_load 6 none := ⟨rfl, by decide +kernel, by decide +kernel, by decide +kernel⟩
def rm_X3_load : Room := { frames := 2, cells := 0, slots := 0, locals := 45 }
set_option maxRecDepth 20000 in
theorem in_X3_load_X2 : ∀ w ∈ u_ws RX2 TX2 3, w ∈ wsX3_load := by decide +kernel
set_option maxRecDepth 20000 in
theorem mk_X3_load_53 : Cond.methodLink RX3 53 Lib.Math.min.name ∈ wsX3_load ∧ Cond.static Lib.Math.min.name ∈ wsX3_load ∧ Cond.initialized "java/lang/Math" ∈ wsX3_load ∧ Cond.code Lib.Math.min.name Lib.Math.min.code 2 (some .int) ∈ wsX3_load := by decide +kernel
set_option maxRecDepth 20000 in
theorem in_X3_load_X3 : ∀ w ∈ u_ws RX3 TX3 7, w ∈ wsX3_load := by decide +kernel
set_option maxRecDepth 20000 in
theorem lk_X3_load_31 : Cond.fieldLink RX3 31 (TX3 6).1 (TX3 6).2.1 (TX3 6).2.2.1 ∈ wsX3_load := by decide +kernel
set_option maxRecDepth 20000 in
theorem lk_X3_load_15 : Cond.fieldLink RX3 15 (TX3 1).1 (TX3 1).2.1 (TX3 1).2.2.1 ∈ wsX3_load := by decide +kernel
set_option maxRecDepth 20000 in
theorem lk_X3_load_18 : Cond.fieldLink RX3 18 (TX3 2).1 (TX3 2).2.1 (TX3 2).2.2.1 ∈ wsX3_load := by decide +kernel
set_option maxRecDepth 20000 in
theorem lk_X3_load_22 : Cond.fieldLink RX3 22 (TX3 3).1 (TX3 3).2.1 (TX3 3).2.2.1 ∈ wsX3_load := by decide +kernel
set_option maxHeartbeats 1000000 in
set_option maxRecDepth 100000 in
theorem c_X3_load (l : Launch) (D : va_G) (p0 : Nat) (p1 : Nat) (p2 : Nat) (p3 : Nat) (p4 : Nat) (p5 : Nat) (p6 : Nat) (cI : ClassId) (cZ : ClassId) (L : Int) (ow : Int → Int) (cA : Int → Int) (cU : Int → Int) (hd : Int → Int) (fw : Int → Int) (h0 : Nat) (h1 : Nat) (g : Int → Int) (n : Int) (q : Int) (ov : Int) (hn : 0 ≤ n ∧ n ≤ 32) (hg : ∀ j : Int, 0 ≤ j → j < n → 0 ≤ g j ∧ g j < 64) (hq : 1 ≤ q ∧ q ≤ 4) (hov : ov = 0 ∨ ov = 1) : MV (S := Unit) l yX3_load wsX3_load rm_X3_load D vwCl [.ref p0, .ref h0, .int (iJ (ov))] [(p0, .inr (3, [.ref p1, .ref p2, .ref p3, .ref p4, .ref p5, .ref p6, .int (iJ (L))])), (p1, cJ cI 32 (nrA)), (p2, cJ cI 32 (ow)), (p3, cJ cZ 32 (cA)), (p4, cJ cZ 32 (cU)), (p5, cJ cI 32 (hd)), (p6, cJ cI 132 (fw)), (h0, .inr (2, [.ref h1, .int (iJ (n)), .int (iJ (q))])), (h1, cJ cI 32 (g))] [(cI, .int), (cZ, .boolean)] (fun (_ : Unit) => True) (fun (_ : Unit) => [(p0, .inr (3, [.ref p1, .ref p2, .ref p3, .ref p4, .ref p5, .ref p6, .int (iJ (n))])), (p1, cJ cI 32 (nrA)), (p2, cJ cI 32 (ldO g ow n)), (p3, cJ cZ 32 (ldC g q (if ov = 0 then 0 else pAt g n (n - 1)) 1 cA n)), (p4, cJ cZ 32 (ldC g q (if ov = 0 then 0 else pAt g n (n - 1)) 0 cU n)), (p5, cJ cI 32 (hd)), (p6, cJ cI 132 (fw)), (h0, .inr (2, [.ref h1, .int (iJ (n)), .int (iJ (q))])), (h1, cJ cI 32 (g))]) := by
  refine MV.mk (cc := cX3_load) (maxL := 6) (ret := none) (by decide) rfl (Nat.le_of_ble_eq_true rfl) rfl RX3 rfl ?_
  intro p_ e_ s_ m_ ar_ bw_ mt_ cd_ B_ Q_ hA E hr hQ
  refine r_aload_n E 0 dX3_load_0 rfl rfl ?_
  refine r_aload_n E 1 dX3_load_1 rfl rfl ?_
  refine r_getN E 2 7 1 dX3_load_2 in_X3_load_X2 (by decide) rfl rfl rfl (by decide) rfl ?_
  refine r_bipush E 32 rfl dX3_load_5 ?_
  refine r_imin E n dX3_load_7 ⟨⟨by omega, by omega⟩, ⟨by omega, by omega⟩, by rw [if_neg (by omega)]⟩ mk_X3_load_53 ⟨by decide, by decide⟩ (Nat.le_of_ble_eq_true rfl) ⟨Nat.zero_le _, Nat.zero_le _⟩ ?_
  refine r_put E (ty := .int) 3 0 6 tyX3 tyX3_ok nmX3 dX3_load_10 in_X3_load_X3 lk_X3_load_31 rfl rfl (by decide) rfl (by decide +kernel) rfl rfl (Nat.le_of_ble_eq_true rfl) [(p0, .inr (3, [.ref p1, .ref p2, .ref p3, .ref p4, .ref p5, .ref p6, .int (iJ (n))])), (p1, cJ cI 32 (nrA)), (p2, cJ cI 32 (ow)), (p3, cJ cZ 32 (cA)), (p4, cJ cZ 32 (cU)), (p5, cJ cI 32 (hd)), (p6, cJ cI 132 (fw)), (h0, .inr (2, [.ref h1, .int (iJ (n)), .int (iJ (q))])), (h1, cJ cI 32 (g))] rfl ?_
  have K_31 : ∀ (v : Int), (v = (if ov = 0 then 0 else pAt g n (n - 1)) ∧ 0 ≤ v ∧ v < 64) → GG p_ l e_ rm_X3_load s_ m_ ar_ bw_ mt_ cd_ D vwCl B_ B_ s_.heap 6 0 0 Q_ [(p0, .inr (3, [.ref p1, .ref p2, .ref p3, .ref p4, .ref p5, .ref p6, .int (iJ (n))])), (p1, cJ cI 32 (nrA)), (p2, cJ cI 32 (ow)), (p3, cJ cZ 32 (cA)), (p4, cJ cZ 32 (cU)), (p5, cJ cI 32 (hd)), (p6, cJ cI 132 (fw)), (h0, .inr (2, [.ref h1, .int (iJ (n)), .int (iJ (q))])), (h1, cJ cI 32 (g))] [(0, .ref p0), (1, .ref h0), (2, .int (iJ (ov)))] 31 [.int (iJ (v))] := by
    intro v hv
    refine r_istore_n E [(3, .int (iJ (v))), (0, .ref p0), (1, .ref h0), (2, .int (iJ (ov)))] dX3_load_31 rfl (by decide) rfl ?_
    refine r_iconst E 0 rfl dX3_load_32 ?_
    refine r_istore E [(4, .int (iJ (0))), (3, .int (iJ (v))), (0, .ref p0), (1, .ref h0), (2, .int (iJ (ov)))] dX3_load_33 (by decide) rfl ?_
    have loop_35 : ∀ (N : Nat) (k : Int) (bf : Int) (O : Int → Int) (A : Int → Int) (U : Int → Int), (0 ≤ k ∧ k ≤ n) → (bf = (if k = 0 then v else g (k - 1)) ∧ 0 ≤ bf ∧ bf < 64) → (∀ j : Int, O j = if 0 ≤ j ∧ j < k then (if g j = 0 then 3 else g j / 2 % 4) else ow j) → (∀ j : Int, A j = if 0 ≤ j ∧ j < k then b2 (cnD q (if j = 0 then v else g (j - 1)) (g j) 1) else cA j) → (∀ j : Int, U j = if 0 ≤ j ∧ j < k then b2 (cnD q (if j = 0 then v else g (j - 1)) (g j) 0) else cU j) → (n - k).toNat < N → GG p_ l e_ rm_X3_load s_ m_ ar_ bw_ mt_ cd_ D vwCl B_ B_ s_.heap 6 0 0 Q_ [(p0, .inr (3, [.ref p1, .ref p2, .ref p3, .ref p4, .ref p5, .ref p6, .int (iJ (n))])), (p1, cJ cI 32 (nrA)), (p2, cJ cI 32 (O)), (p3, cJ cZ 32 (A)), (p4, cJ cZ 32 (U)), (p5, cJ cI 32 (hd)), (p6, cJ cI 132 (fw)), (h0, .inr (2, [.ref h1, .int (iJ (n)), .int (iJ (q))])), (h1, cJ cI 32 (g))] [(0, .ref p0), (1, .ref h0), (2, .int (iJ (ov))), (3, .int (iJ (bf))), (4, .int (iJ (k)))] 35 [] := by
      intro N; induction N with
      | zero => intro k bf O A U hk hbf hO hA_ hU_ hN; exact absurd hN (Nat.not_lt_zero _)
      | succ N ih35 =>
        intro k bf O A U hk hbf hO hA_ hU_ hN
        refine r_iload E 4 dX3_load_35 rfl ?_
        refine r_aload_n E 0 dX3_load_37 rfl rfl ?_
        refine r_get E 3 0 6 dX3_load_38 in_X3_load_X3 lk_X3_load_31 rfl rfl (by decide) rfl ?_
        refine r_icmp_ge E 123 dX3_load_41 (by decide) ⟨by omega, by omega⟩ ⟨by omega, by omega⟩ (fun c_41 => ?_) (fun c_41 => ?_)
        · exact r_retMV E () hr dX3_load_123 trivial (by
                have ek : k = n := by omega
                have e1 : O = ldO g ow n := by funext j; rw [hO, ek]; rfl
                have e2 : A = ldC g q (if ov = 0 then 0 else pAt g n (n - 1)) 1 cA n := by funext j; rw [hA_, hv.1, ek]; rfl
                have e3 : U = ldC g q (if ov = 0 then 0 else pAt g n (n - 1)) 0 cU n := by funext j; rw [hU_, hv.1, ek]; rfl
                rw [e1, e2, e3]) hQ
        · refine r_aload_n E 1 dX3_load_44 rfl rfl ?_
          refine r_iload E 4 dX3_load_45 rfl ?_
          refine r_vP E (st := []) (c_X2_at l D h0 h1 cI g n q k (by first | assumption | omega | exact ⟨by omega, by omega⟩) (by first | assumption | omega | exact ⟨by omega, by omega⟩)) gX3_load_X2_at 1 kf_X2_at ⟨rfl, rfl⟩ ⟨by decide, by decide⟩ dX3_load_47 rfl 7 rfl rfl rfl rfl ⟨Nat.zero_le _, Nat.zero_le _⟩ [7, 8] rfl (by decide) [0] rfl (Nat.le_of_ble_eq_true rfl) ?_
          refine r_top (b := (g k)) (if_pos ⟨by omega, by omega⟩) ?_
          refine r_istore E [(5, .int (iJ ((g k)))), (0, .ref p0), (1, .ref h0), (2, .int (iJ (ov))), (3, .int (iJ (bf))), (4, .int (iJ (k)))] dX3_load_50 (by decide) rfl ?_
          have f_g := hg k (by omega) (by omega)
          refine r_aload_n E 1 dX3_load_52 rfl rfl ?_
          refine r_get E 3 0 1 dX3_load_53 in_X3_load_X3 lk_X3_load_15 rfl rfl (by decide) rfl ?_
          refine r_iload E 5 dX3_load_56 rfl ?_
          refine r_iload E 0 dX3_load_58 rfl ?_
          refine r_sP E (st := [.int (iJ (k)), .ref p2]) (c_X5_isStroke l D (g k) (by first | assumption | omega | exact ⟨by omega, by omega⟩)) gX3_load_X5_isStroke 1 kf_X5_isStroke ⟨rfl, rfl⟩ ⟨by decide, by decide⟩ dX3_load_60 rfl rfl ⟨Nat.zero_le _, Nat.zero_le _⟩ [] rfl (by decide) [] rfl (Nat.le_of_ble_eq_true rfl) ?_
          refine r_ifeq_n E 74 dX3_load_63 (by decide) (fun c_63 => ?_) (fun c_63 => ?_)
          · refine r_iconst E 3 rfl dX3_load_74 ?_
            refine r_iast E (i := k) 2 0 dX3_load_75 rfl rfl (by decide) ⟨by omega, by omega⟩ [(p0, .inr (3, [.ref p1, .ref p2, .ref p3, .ref p4, .ref p5, .ref p6, .int (iJ (n))])), (p1, cJ cI 32 (nrA)), (p2, cJ cI 32 (uJ O k 3)), (p3, cJ cZ 32 (A)), (p4, cJ cZ 32 (U)), (p5, cJ cI 32 (hd)), (p6, cJ cI 132 (fw)), (h0, .inr (2, [.ref h1, .int (iJ (n)), .int (iJ (q))])), (h1, cJ cI 32 (g))] rfl ?_
            refine r_aload_n E 1 dX3_load_76 rfl rfl ?_
            refine r_get E 3 0 2 dX3_load_77 in_X3_load_X3 lk_X3_load_18 rfl rfl (by decide) rfl ?_
            refine r_iload E 5 dX3_load_80 rfl ?_
            refine r_aload_n E 1 dX3_load_82 rfl rfl ?_
            refine r_iload_n E 4 dX3_load_83 rfl rfl ?_
            refine r_iload E 0 dX3_load_84 rfl ?_
            refine r_iconst E 1 rfl dX3_load_86 ?_
            refine r_aload_n E 2 dX3_load_87 rfl rfl ?_
            refine r_getN E 2 7 2 dX3_load_88 in_X3_load_X2 (by decide) rfl rfl rfl (by decide) rfl ?_
            refine r_vP E (st := [.int (iJ (k)), .ref p3]) (c_X3_comesNearer l D p0 p1 p2 p3 p4 p5 p6 cI n bf (g k) 1 q (by first | assumption | omega | exact ⟨by omega, by omega⟩) (by first | assumption | omega | exact ⟨by omega, by omega⟩) (Or.inr rfl) (by first | assumption | omega | exact ⟨by omega, by omega⟩)) gX3_load_X3_comesNearer 4 kf_X3_comesNearer ⟨rfl, rfl⟩ ⟨by decide, by decide⟩ dX3_load_91 rfl 0 rfl rfl rfl rfl ⟨Nat.zero_le _, Nat.zero_le _⟩ [0, 1] rfl (by decide) [0] rfl (Nat.le_of_ble_eq_true rfl) ?_
            refine r_zast E (i := k) 3 1 dX3_load_94 rfl rfl (by decide) ⟨by omega, by omega⟩ (b2_01 _) [(p0, .inr (3, [.ref p1, .ref p2, .ref p3, .ref p4, .ref p5, .ref p6, .int (iJ (n))])), (p1, cJ cI 32 (nrA)), (p2, cJ cI 32 (uJ O k 3)), (p3, cJ cZ 32 (uJ A k (b2 (cnD q bf (g k) 1)))), (p4, cJ cZ 32 (U)), (p5, cJ cI 32 (hd)), (p6, cJ cI 132 (fw)), (h0, .inr (2, [.ref h1, .int (iJ (n)), .int (iJ (q))])), (h1, cJ cI 32 (g))] rfl ?_
            refine r_aload_n E 1 dX3_load_95 rfl rfl ?_
            refine r_get E 3 0 3 dX3_load_96 in_X3_load_X3 lk_X3_load_22 rfl rfl (by decide) rfl ?_
            refine r_iload E 5 dX3_load_99 rfl ?_
            refine r_aload_n E 1 dX3_load_101 rfl rfl ?_
            refine r_iload_n E 4 dX3_load_102 rfl rfl ?_
            refine r_iload E 0 dX3_load_103 rfl ?_
            refine r_iconst E 0 rfl dX3_load_105 ?_
            refine r_aload_n E 2 dX3_load_106 rfl rfl ?_
            refine r_getN E 2 7 2 dX3_load_107 in_X3_load_X2 (by decide) rfl rfl rfl (by decide) rfl ?_
            refine r_vP E (st := [.int (iJ (k)), .ref p4]) (c_X3_comesNearer l D p0 p1 p2 p3 p4 p5 p6 cI n bf (g k) 0 q (by first | assumption | omega | exact ⟨by omega, by omega⟩) (by first | assumption | omega | exact ⟨by omega, by omega⟩) (Or.inl rfl) (by first | assumption | omega | exact ⟨by omega, by omega⟩)) gX3_load_X3_comesNearer 4 kf_X3_comesNearer ⟨rfl, rfl⟩ ⟨by decide, by decide⟩ dX3_load_110 rfl 0 rfl rfl rfl rfl ⟨Nat.zero_le _, Nat.zero_le _⟩ [0, 1] rfl (by decide) [0] rfl (Nat.le_of_ble_eq_true rfl) ?_
            refine r_zast E (i := k) 4 1 dX3_load_113 rfl rfl (by decide) ⟨by omega, by omega⟩ (b2_01 _) [(p0, .inr (3, [.ref p1, .ref p2, .ref p3, .ref p4, .ref p5, .ref p6, .int (iJ (n))])), (p1, cJ cI 32 (nrA)), (p2, cJ cI 32 (uJ O k 3)), (p3, cJ cZ 32 (uJ A k (b2 (cnD q bf (g k) 1)))), (p4, cJ cZ 32 (uJ U k (b2 (cnD q bf (g k) 0)))), (p5, cJ cI 32 (hd)), (p6, cJ cI 132 (fw)), (h0, .inr (2, [.ref h1, .int (iJ (n)), .int (iJ (q))])), (h1, cJ cI 32 (g))] rfl ?_
            refine r_iload E 0 dX3_load_114 rfl ?_
            refine r_istore_n E [(3, .int (iJ ((g k)))), (5, .int (iJ ((g k)))), (0, .ref p0), (1, .ref h0), (2, .int (iJ (ov))), (4, .int (iJ (k)))] dX3_load_116 rfl (by decide) rfl ?_
            refine r_iinc E (k := 5) [(4, .int (iJ ((k + 1)))), (3, .int (iJ ((g k)))), (5, .int (iJ ((g k)))), (0, .ref p0), (1, .ref h0), (2, .int (iJ (ov)))] dX3_load_117 rfl (by decide) rfl ?_
            refine r_goto E 35 dX3_load_120 (by decide) ?_
            refine r_lv [3, 4, 5, 1, 0] [(0, .ref p0), (1, .ref h0), (2, .int (iJ (ov))), (3, .int (iJ ((g k)))), (4, .int (iJ ((k + 1))))] rfl ?_
            exact ih35 (k + 1) (g k) (uJ O k 3) (uJ A k (b2 (cnD q bf (g k) 1))) (uJ U k (b2 (cnD q bf (g k) 0))) ⟨by omega, by omega⟩ ⟨by rw [if_neg (by omega), show k + 1 - 1 = k by omega], by omega, by omega⟩ (fun j => by
                  by_cases q0 : j = k
                  · subst q0; rw [uJ_s, if_pos (by omega)]; first | rw [if_neg c_63] | rw [if_pos c_63]
                  · rw [uJ_n q0, hO]; by_cases q2 : 0 ≤ j ∧ j < k
                    · rw [if_pos q2, if_pos (show 0 ≤ j ∧ j < k + 1 by omega)]
                    · rw [if_neg q2, if_neg (show ¬ (0 ≤ j ∧ j < k + 1) by omega)]) (fun j => by
                  by_cases q0 : j = k
                  · subst q0; rw [uJ_s, if_pos (by omega), ← hbf.1]
                  · rw [uJ_n q0, hA_]; by_cases q2 : 0 ≤ j ∧ j < k
                    · rw [if_pos q2, if_pos (show 0 ≤ j ∧ j < k + 1 by omega)]
                    · rw [if_neg q2, if_neg (show ¬ (0 ≤ j ∧ j < k + 1) by omega)]) (fun j => by
                  by_cases q0 : j = k
                  · subst q0; rw [uJ_s, if_pos (by omega), ← hbf.1]
                  · rw [uJ_n q0, hU_]; by_cases q2 : 0 ≤ j ∧ j < k
                    · rw [if_pos q2, if_pos (show 0 ≤ j ∧ j < k + 1 by omega)]
                    · rw [if_neg q2, if_neg (show ¬ (0 ≤ j ∧ j < k + 1) by omega)]) (by omega)
          · refine r_iload E 0 dX3_load_66 rfl ?_
            refine r_sP E (st := [.int (iJ (k)), .ref p2]) (c_X5_hand l D (g k) (by first | assumption | omega | exact ⟨by omega, by omega⟩)) gX3_load_X5_hand 1 kf_X5_hand ⟨rfl, rfl⟩ ⟨by decide, by decide⟩ dX3_load_68 rfl rfl ⟨Nat.zero_le _, Nat.zero_le _⟩ [] rfl (by decide) [] rfl (Nat.le_of_ble_eq_true rfl) ?_
            refine r_goto E 75 dX3_load_71 (by decide) ?_
            refine r_iast E (i := k) 2 0 dX3_load_75 rfl rfl (by decide) ⟨by omega, by omega⟩ [(p0, .inr (3, [.ref p1, .ref p2, .ref p3, .ref p4, .ref p5, .ref p6, .int (iJ (n))])), (p1, cJ cI 32 (nrA)), (p2, cJ cI 32 (uJ O k ((g k) / 2 % 4))), (p3, cJ cZ 32 (A)), (p4, cJ cZ 32 (U)), (p5, cJ cI 32 (hd)), (p6, cJ cI 132 (fw)), (h0, .inr (2, [.ref h1, .int (iJ (n)), .int (iJ (q))])), (h1, cJ cI 32 (g))] rfl ?_
            refine r_aload_n E 1 dX3_load_76 rfl rfl ?_
            refine r_get E 3 0 2 dX3_load_77 in_X3_load_X3 lk_X3_load_18 rfl rfl (by decide) rfl ?_
            refine r_iload E 5 dX3_load_80 rfl ?_
            refine r_aload_n E 1 dX3_load_82 rfl rfl ?_
            refine r_iload_n E 4 dX3_load_83 rfl rfl ?_
            refine r_iload E 0 dX3_load_84 rfl ?_
            refine r_iconst E 1 rfl dX3_load_86 ?_
            refine r_aload_n E 2 dX3_load_87 rfl rfl ?_
            refine r_getN E 2 7 2 dX3_load_88 in_X3_load_X2 (by decide) rfl rfl rfl (by decide) rfl ?_
            refine r_vP E (st := [.int (iJ (k)), .ref p3]) (c_X3_comesNearer l D p0 p1 p2 p3 p4 p5 p6 cI n bf (g k) 1 q (by first | assumption | omega | exact ⟨by omega, by omega⟩) (by first | assumption | omega | exact ⟨by omega, by omega⟩) (Or.inr rfl) (by first | assumption | omega | exact ⟨by omega, by omega⟩)) gX3_load_X3_comesNearer 4 kf_X3_comesNearer ⟨rfl, rfl⟩ ⟨by decide, by decide⟩ dX3_load_91 rfl 0 rfl rfl rfl rfl ⟨Nat.zero_le _, Nat.zero_le _⟩ [0, 1] rfl (by decide) [0] rfl (Nat.le_of_ble_eq_true rfl) ?_
            refine r_zast E (i := k) 3 1 dX3_load_94 rfl rfl (by decide) ⟨by omega, by omega⟩ (b2_01 _) [(p0, .inr (3, [.ref p1, .ref p2, .ref p3, .ref p4, .ref p5, .ref p6, .int (iJ (n))])), (p1, cJ cI 32 (nrA)), (p2, cJ cI 32 (uJ O k ((g k) / 2 % 4))), (p3, cJ cZ 32 (uJ A k (b2 (cnD q bf (g k) 1)))), (p4, cJ cZ 32 (U)), (p5, cJ cI 32 (hd)), (p6, cJ cI 132 (fw)), (h0, .inr (2, [.ref h1, .int (iJ (n)), .int (iJ (q))])), (h1, cJ cI 32 (g))] rfl ?_
            refine r_aload_n E 1 dX3_load_95 rfl rfl ?_
            refine r_get E 3 0 3 dX3_load_96 in_X3_load_X3 lk_X3_load_22 rfl rfl (by decide) rfl ?_
            refine r_iload E 5 dX3_load_99 rfl ?_
            refine r_aload_n E 1 dX3_load_101 rfl rfl ?_
            refine r_iload_n E 4 dX3_load_102 rfl rfl ?_
            refine r_iload E 0 dX3_load_103 rfl ?_
            refine r_iconst E 0 rfl dX3_load_105 ?_
            refine r_aload_n E 2 dX3_load_106 rfl rfl ?_
            refine r_getN E 2 7 2 dX3_load_107 in_X3_load_X2 (by decide) rfl rfl rfl (by decide) rfl ?_
            refine r_vP E (st := [.int (iJ (k)), .ref p4]) (c_X3_comesNearer l D p0 p1 p2 p3 p4 p5 p6 cI n bf (g k) 0 q (by first | assumption | omega | exact ⟨by omega, by omega⟩) (by first | assumption | omega | exact ⟨by omega, by omega⟩) (Or.inl rfl) (by first | assumption | omega | exact ⟨by omega, by omega⟩)) gX3_load_X3_comesNearer 4 kf_X3_comesNearer ⟨rfl, rfl⟩ ⟨by decide, by decide⟩ dX3_load_110 rfl 0 rfl rfl rfl rfl ⟨Nat.zero_le _, Nat.zero_le _⟩ [0, 1] rfl (by decide) [0] rfl (Nat.le_of_ble_eq_true rfl) ?_
            refine r_zast E (i := k) 4 1 dX3_load_113 rfl rfl (by decide) ⟨by omega, by omega⟩ (b2_01 _) [(p0, .inr (3, [.ref p1, .ref p2, .ref p3, .ref p4, .ref p5, .ref p6, .int (iJ (n))])), (p1, cJ cI 32 (nrA)), (p2, cJ cI 32 (uJ O k ((g k) / 2 % 4))), (p3, cJ cZ 32 (uJ A k (b2 (cnD q bf (g k) 1)))), (p4, cJ cZ 32 (uJ U k (b2 (cnD q bf (g k) 0)))), (p5, cJ cI 32 (hd)), (p6, cJ cI 132 (fw)), (h0, .inr (2, [.ref h1, .int (iJ (n)), .int (iJ (q))])), (h1, cJ cI 32 (g))] rfl ?_
            refine r_iload E 0 dX3_load_114 rfl ?_
            refine r_istore_n E [(3, .int (iJ ((g k)))), (5, .int (iJ ((g k)))), (0, .ref p0), (1, .ref h0), (2, .int (iJ (ov))), (4, .int (iJ (k)))] dX3_load_116 rfl (by decide) rfl ?_
            refine r_iinc E (k := 5) [(4, .int (iJ ((k + 1)))), (3, .int (iJ ((g k)))), (5, .int (iJ ((g k)))), (0, .ref p0), (1, .ref h0), (2, .int (iJ (ov)))] dX3_load_117 rfl (by decide) rfl ?_
            refine r_goto E 35 dX3_load_120 (by decide) ?_
            refine r_lv [3, 4, 5, 1, 0] [(0, .ref p0), (1, .ref h0), (2, .int (iJ (ov))), (3, .int (iJ ((g k)))), (4, .int (iJ ((k + 1))))] rfl ?_
            exact ih35 (k + 1) (g k) (uJ O k ((g k) / 2 % 4)) (uJ A k (b2 (cnD q bf (g k) 1))) (uJ U k (b2 (cnD q bf (g k) 0))) ⟨by omega, by omega⟩ ⟨by rw [if_neg (by omega), show k + 1 - 1 = k by omega], by omega, by omega⟩ (fun j => by
                  by_cases q0 : j = k
                  · subst q0; rw [uJ_s, if_pos (by omega)]; first | rw [if_neg c_63] | rw [if_pos c_63]
                  · rw [uJ_n q0, hO]; by_cases q2 : 0 ≤ j ∧ j < k
                    · rw [if_pos q2, if_pos (show 0 ≤ j ∧ j < k + 1 by omega)]
                    · rw [if_neg q2, if_neg (show ¬ (0 ≤ j ∧ j < k + 1) by omega)]) (fun j => by
                  by_cases q0 : j = k
                  · subst q0; rw [uJ_s, if_pos (by omega), ← hbf.1]
                  · rw [uJ_n q0, hA_]; by_cases q2 : 0 ≤ j ∧ j < k
                    · rw [if_pos q2, if_pos (show 0 ≤ j ∧ j < k + 1 by omega)]
                    · rw [if_neg q2, if_neg (show ¬ (0 ≤ j ∧ j < k + 1) by omega)]) (fun j => by
                  by_cases q0 : j = k
                  · subst q0; rw [uJ_s, if_pos (by omega), ← hbf.1]
                  · rw [uJ_n q0, hU_]; by_cases q2 : 0 ≤ j ∧ j < k
                    · rw [if_pos q2, if_pos (show 0 ≤ j ∧ j < k + 1 by omega)]
                    · rw [if_neg q2, if_neg (show ¬ (0 ≤ j ∧ j < k + 1) by omega)]) (by omega)
    refine r_lv [2, 3, 4, 1, 0] [(0, .ref p0), (1, .ref h0), (2, .int (iJ (ov))), (3, .int (iJ (v))), (4, .int (iJ (0)))] rfl ?_
    exact loop_35 _ 0 v ow cA cU ⟨by omega, by omega⟩ ⟨by rw [if_pos rfl], by omega, by omega⟩ (fun j => by rw [if_neg (by omega)]) (fun j => by rw [if_neg (by omega)]) (fun j => by rw [if_neg (by omega)]) (Nat.lt_succ_self _)
  refine r_iload_n E 2 dX3_load_13 rfl rfl ?_
  refine r_if_eq E 30 dX3_load_14 (by decide) ⟨by omega, by omega⟩ (fun c_14 => ?_) (fun c_14 => ?_)
  · refine r_iconst E 0 rfl dX3_load_30 ?_
    refine r_lv [0, 1, 2] [(0, .ref p0), (1, .ref h0), (2, .int (iJ (ov)))] rfl ?_
    exact K_31 0 (by
          have f_p := pAt_in hg (a := n - 1)
          first | (rw [if_pos (by omega)]; omega) | (rw [if_neg (by omega)]; omega))
  · refine r_aload_n E 1 dX3_load_17 rfl rfl ?_
    refine r_aload_n E 0 dX3_load_18 rfl rfl ?_
    refine r_get E 3 0 6 dX3_load_19 in_X3_load_X3 lk_X3_load_31 rfl rfl (by decide) rfl ?_
    refine r_iconst E 1 rfl dX3_load_22 ?_
    refine r_isub E dX3_load_23 ?_
    refine r_vP E (st := []) (c_X2_at l D h0 h1 cI g n q (n - 1) (by first | assumption | omega | exact ⟨by omega, by omega⟩) (by first | assumption | omega | exact ⟨by omega, by omega⟩)) gX3_load_X2_at 1 kf_X2_at ⟨rfl, rfl⟩ ⟨by decide, by decide⟩ dX3_load_24 rfl 7 rfl rfl rfl rfl ⟨Nat.zero_le _, Nat.zero_le _⟩ [7, 8] rfl (by decide) [0] rfl (Nat.le_of_ble_eq_true rfl) ?_
    refine r_goto E 31 dX3_load_27 (by decide) ?_
    refine r_lv [0, 1, 2] [(0, .ref p0), (1, .ref h0), (2, .int (iJ (ov)))] rfl ?_
    exact K_31 (pAt g n (n - 1)) (by
          have f_p := pAt_in hg (a := n - 1)
          first | (rw [if_pos (by omega)]; omega) | (rw [if_neg (by omega)]; omega))
theorem kf_X3_tellNext : KF yX3_tellNext 4 wsX3_tellNext cX3_tellNext 7 (some .long) := ⟨rfl, by decide +kernel, by decide +kernel, by decide +kernel⟩
def rm_X3_tellNext : Room := { frames := 2, cells := 0, slots := 0, locals := 46 }
set_option maxHeartbeats 1000000 in
set_option maxRecDepth 100000 in
theorem c_X3_tellNext (l : Launch) (D : va_G) (p0 : Nat) (p1 : Nat) (p2 : Nat) (p3 : Nat) (p4 : Nat) (p5 : Nat) (p6 : Nat) (cI : ClassId) (cZ : ClassId) (L : Int) (ow : Int → Int) (cA : Int → Int) (cU : Int → Int) (hd : Int → Int) (fw : Int → Int) (a : Int) (h : Int) (rr : Int) (ll : Int) (hL : 0 ≤ L ∧ L ≤ 32) (hA1 : ∀ j : Int, 0 ≤ j → j < L → cA j = 0 ∨ cA j = 1) (hU1 : ∀ j : Int, 0 ≤ j → j < L → cU j = 0 ∨ cU j = 1) (hO3 : ∀ j : Int, 0 ≤ j → j < L → 0 ≤ ow j ∧ ow j ≤ 3) (ha : jb a) (hh : 0 ≤ h ∧ h ≤ 1) : ML l yX3_tellNext wsX3_tellNext rm_X3_tellNext D vwCl [.ref p0, .int (iJ (a)), .int (iJ (h)), .long (lJ (rr)), .long (lJ (ll))] [(p0, .inr (3, [.ref p1, .ref p2, .ref p3, .ref p4, .ref p5, .ref p6, .int (iJ (L))])), (p1, cJ cI 32 (nrA)), (p2, cJ cI 32 (ow)), (p3, cJ cZ 32 (cA)), (p4, cJ cZ 32 (cU)), (p5, cJ cI 32 (hd)), (p6, cJ cI 132 (fw))] [(cI, .int), (cZ, .boolean)] (tnX L ow cA cU a h rr ll) := by
  refine ML.mk (cc := cX3_tellNext) (maxL := 7) (ret := (some .long)) (by decide) rfl (Nat.le_of_ble_eq_true rfl) rfl RX3 rfl ?_
  intro p_ e_ s_ m_ ar_ bw_ mt_ cd_ Q_ E hr hQ
  refine r_aload_n E 0 dX3_tellNext_0 rfl rfl ?_
  refine r_iload_n E 1 dX3_tellNext_1 rfl rfl ?_
  refine r_iconst E 0 rfl dX3_tellNext_2 ?_
  refine r_iload_n E 2 dX3_tellNext_3 rfl rfl ?_
  refine r_vP E (st := []) (c_X3_fits l D p0 p1 p2 p3 p4 p5 p6 cI cZ L ow cA cU hd fw a 0 h (by first | assumption | omega | exact ⟨by omega, by omega⟩) (by first | assumption | omega | exact ⟨by omega, by omega⟩) (by first | assumption | omega | exact ⟨by omega, by omega⟩) (by first | assumption | omega | exact ⟨by omega, by omega⟩) (by first | assumption | omega | exact ⟨by omega, by omega⟩) (by first | assumption | omega | exact ⟨by omega, by omega⟩) (by first | assumption | omega | exact ⟨by omega, by omega⟩)) gX3_tellNext_X3_fits 3 kf_X3_fits ⟨rfl, rfl⟩ ⟨by decide, by decide⟩ dX3_tellNext_4 rfl 0 rfl rfl rfl rfl ⟨Nat.zero_le _, Nat.zero_le _⟩ [0, 1, 2, 3, 4, 5, 6] rfl (by decide) [0, 1] rfl (Nat.le_of_ble_eq_true rfl) ?_
  refine r_ifeq_b E 14 dX3_tellNext_7 (by decide) (fun c_7 => ?_) (fun c_7 => ?_)
  · refine r_lconst E 0 rfl dX3_tellNext_14 ?_
    refine r_aload_n E 0 dX3_tellNext_15 rfl rfl ?_
    refine r_iload_n E 1 dX3_tellNext_16 rfl rfl ?_
    refine r_iconst E 1 rfl dX3_tellNext_17 ?_
    refine r_iload_n E 2 dX3_tellNext_18 rfl rfl ?_
    refine r_vP E (st := [.long (lJ (0))]) (c_X3_fits l D p0 p1 p2 p3 p4 p5 p6 cI cZ L ow cA cU hd fw a 1 h (by first | assumption | omega | exact ⟨by omega, by omega⟩) (by first | assumption | omega | exact ⟨by omega, by omega⟩) (by first | assumption | omega | exact ⟨by omega, by omega⟩) (by first | assumption | omega | exact ⟨by omega, by omega⟩) (by first | assumption | omega | exact ⟨by omega, by omega⟩) (by first | assumption | omega | exact ⟨by omega, by omega⟩) (by first | assumption | omega | exact ⟨by omega, by omega⟩)) gX3_tellNext_X3_fits 3 kf_X3_fits ⟨rfl, rfl⟩ ⟨by decide, by decide⟩ dX3_tellNext_19 rfl 0 rfl rfl rfl rfl ⟨Nat.zero_le _, Nat.zero_le _⟩ [0, 1, 2, 3, 4, 5, 6] rfl (by decide) [0, 1] rfl (Nat.le_of_ble_eq_true rfl) ?_
    refine r_ifeq_b E 30 dX3_tellNext_22 (by decide) (fun c_22 => ?_) (fun c_22 => ?_)
    · refine r_lconst E 0 rfl dX3_tellNext_30 ?_
      refine r_ladd E dX3_tellNext_31 ?_
      exact r_retPL E hr dX3_tellNext_32 (by
            unfold tnX
            first
            | (rw [if_pos c_7]; first | (rw [if_pos c_22]; done) | (rw [if_neg c_22]; done))
            | (rw [if_neg c_7]; first | (rw [if_pos c_22]; done) | (rw [if_neg c_22]; done))) hQ
    · refine r_lload E 4 dX3_tellNext_25 rfl ?_
      refine r_goto E 31 dX3_tellNext_27 (by decide) ?_
      refine r_ladd E dX3_tellNext_31 ?_
      exact r_retPL E hr dX3_tellNext_32 (by
            unfold tnX
            first
            | (rw [if_pos c_7]; first | (rw [if_pos c_22]; done) | (rw [if_neg c_22]; done))
            | (rw [if_neg c_7]; first | (rw [if_pos c_22]; done) | (rw [if_neg c_22]; done))) hQ
  · refine r_lload_n E 3 dX3_tellNext_10 rfl rfl ?_
    refine r_goto E 15 dX3_tellNext_11 (by decide) ?_
    refine r_aload_n E 0 dX3_tellNext_15 rfl rfl ?_
    refine r_iload_n E 1 dX3_tellNext_16 rfl rfl ?_
    refine r_iconst E 1 rfl dX3_tellNext_17 ?_
    refine r_iload_n E 2 dX3_tellNext_18 rfl rfl ?_
    refine r_vP E (st := [.long (lJ (rr))]) (c_X3_fits l D p0 p1 p2 p3 p4 p5 p6 cI cZ L ow cA cU hd fw a 1 h (by first | assumption | omega | exact ⟨by omega, by omega⟩) (by first | assumption | omega | exact ⟨by omega, by omega⟩) (by first | assumption | omega | exact ⟨by omega, by omega⟩) (by first | assumption | omega | exact ⟨by omega, by omega⟩) (by first | assumption | omega | exact ⟨by omega, by omega⟩) (by first | assumption | omega | exact ⟨by omega, by omega⟩) (by first | assumption | omega | exact ⟨by omega, by omega⟩)) gX3_tellNext_X3_fits 3 kf_X3_fits ⟨rfl, rfl⟩ ⟨by decide, by decide⟩ dX3_tellNext_19 rfl 0 rfl rfl rfl rfl ⟨Nat.zero_le _, Nat.zero_le _⟩ [0, 1, 2, 3, 4, 5, 6] rfl (by decide) [0, 1] rfl (Nat.le_of_ble_eq_true rfl) ?_
    refine r_ifeq_b E 30 dX3_tellNext_22 (by decide) (fun c_22 => ?_) (fun c_22 => ?_)
    · refine r_lconst E 0 rfl dX3_tellNext_30 ?_
      refine r_ladd E dX3_tellNext_31 ?_
      exact r_retPL E hr dX3_tellNext_32 (by
            unfold tnX
            first
            | (rw [if_pos c_7]; first | (rw [if_pos c_22]; done) | (rw [if_neg c_22]; done))
            | (rw [if_neg c_7]; first | (rw [if_pos c_22]; done) | (rw [if_neg c_22]; done))) hQ
    · refine r_lload E 4 dX3_tellNext_25 rfl ?_
      refine r_goto E 31 dX3_tellNext_27 (by decide) ?_
      refine r_ladd E dX3_tellNext_31 ?_
      exact r_retPL E hr dX3_tellNext_32 (by
            unfold tnX
            first
            | (rw [if_pos c_7]; first | (rw [if_pos c_22]; done) | (rw [if_neg c_22]; done))
            | (rw [if_neg c_7]; first | (rw [if_pos c_22]; done) | (rw [if_neg c_22]; done))) hQ
theorem kf_X3_tellBetween : KF yX3_tellBetween 2 wsX3_tellBetween cX3_tellBetween 10 (some .long) := ⟨rfl, by decide +kernel, by decide +kernel, by decide +kernel⟩
def rm_X3_tellBetween : Room := { frames := 3, cells := 0, slots := 0, locals := 72 }
set_option maxRecDepth 20000 in
theorem in_X3_tellBetween_X3 : ∀ w ∈ u_ws RX3 TX3 7, w ∈ wsX3_tellBetween := by decide +kernel
set_option maxRecDepth 20000 in
theorem lk_X3_tellBetween_31 : Cond.fieldLink RX3 31 (TX3 6).1 (TX3 6).2.1 (TX3 6).2.2.1 ∈ wsX3_tellBetween := by decide +kernel
set_option maxRecDepth 20000 in
theorem lk_X3_tellBetween_15 : Cond.fieldLink RX3 15 (TX3 1).1 (TX3 1).2.1 (TX3 1).2.2.1 ∈ wsX3_tellBetween := by decide +kernel
set_option maxHeartbeats 1000000 in
set_option maxRecDepth 100000 in
theorem c_X3_tellBetween (l : Launch) (D : va_G) (p0 : Nat) (p1 : Nat) (p2 : Nat) (p3 : Nat) (p4 : Nat) (p5 : Nat) (p6 : Nat) (cI : ClassId) (cZ : ClassId) (L : Int) (ow : Int → Int) (cA : Int → Int) (cU : Int → Int) (hd : Int → Int) (fw : Int → Int) (ah : Int) (en : Int) (hL : 0 ≤ L ∧ L ≤ 32) (hA1 : ∀ j : Int, 0 ≤ j → j < L → cA j = 0 ∨ cA j = 1) (hU1 : ∀ j : Int, 0 ≤ j → j < L → cU j = 0 ∨ cU j = 1) (hO3 : ∀ j : Int, 0 ≤ j → j < L → 0 ≤ ow j ∧ ow j ≤ 3) (hah : ah = 0 ∨ ah = 1) (hen : en = 0 ∨ en = 1) : ML l yX3_tellBetween wsX3_tellBetween rm_X3_tellBetween D vwCl [.ref p0, .int (iJ (ah)), .int (iJ (en))] [(p0, .inr (3, [.ref p1, .ref p2, .ref p3, .ref p4, .ref p5, .ref p6, .int (iJ (L))])), (p1, cJ cI 32 (nrA)), (p2, cJ cI 32 (ow)), (p3, cJ cZ 32 (cA)), (p4, cJ cZ 32 (cU)), (p5, cJ cI 32 (hd)), (p6, cJ cI 132 (fw))] [(cI, .int), (cZ, .boolean)] ((if en = 0 then tbR L ow cA cU ah L else tbL L ow cA cU ah L)) := by
  refine ML.mk (cc := cX3_tellBetween) (maxL := 10) (ret := (some .long)) (by decide) rfl (Nat.le_of_ble_eq_true rfl) rfl RX3 rfl ?_
  intro p_ e_ s_ m_ ar_ bw_ mt_ cd_ Q_ E hr hQ
  refine r_iload_n E 1 dX3_tellBetween_0 rfl rfl ?_
  refine r_if_ne E 8 dX3_tellBetween_1 (by decide) ⟨by omega, by omega⟩ (fun c_1 => ?_) (fun c_1 => ?_)
  · refine r_lconst E 0 rfl dX3_tellBetween_8 ?_
    refine r_lstore_n E [(3, .long (lJ (0))), (0, .ref p0), (1, .int (iJ (ah))), (2, .int (iJ (en)))] dX3_tellBetween_9 rfl (by decide) rfl ?_
    refine r_iload_n E 2 dX3_tellBetween_10 rfl rfl ?_
    refine r_iconst E 1 rfl dX3_tellBetween_11 ?_
    refine r_icmp_ne E 19 dX3_tellBetween_12 (by decide) ⟨by omega, by omega⟩ ⟨by omega, by omega⟩ (fun c_12 => ?_) (fun c_12 => ?_)
    · refine r_lconst E 0 rfl dX3_tellBetween_19 ?_
      refine r_lstore E [(5, .long (lJ (0))), (3, .long (lJ (0))), (0, .ref p0), (1, .int (iJ (ah))), (2, .int (iJ (en)))] dX3_tellBetween_20 (by decide) rfl ?_
      refine r_iconst E 0 rfl dX3_tellBetween_22 ?_
      refine r_istore E [(7, .int (iJ (0))), (5, .long (lJ (0))), (3, .long (lJ (0))), (0, .ref p0), (1, .int (iJ (ah))), (2, .int (iJ (en)))] dX3_tellBetween_23 (by decide) rfl ?_
      have loop_25 : ∀ (N : Nat) (k : Int) (x : Int) (y : Int), (0 ≤ k ∧ k ≤ L) → (x = tbR L ow cA cU ah k) → (y = tbL L ow cA cU ah k) → (L - k).toNat < N → GG p_ l e_ rm_X3_tellBetween s_ m_ ar_ bw_ mt_ cd_ D vwCl (fun _ => True) (fun _ => False) s_.heap 10 0 0 Q_ [(p0, .inr (3, [.ref p1, .ref p2, .ref p3, .ref p4, .ref p5, .ref p6, .int (iJ (L))])), (p1, cJ cI 32 (nrA)), (p2, cJ cI 32 (ow)), (p3, cJ cZ 32 (cA)), (p4, cJ cZ 32 (cU)), (p5, cJ cI 32 (hd)), (p6, cJ cI 132 (fw))] [(0, .ref p0), (1, .int (iJ (ah))), (2, .int (iJ (en))), (3, .long (lJ (x))), (5, .long (lJ (y))), (7, .int (iJ (k)))] 25 [] := by
        intro N; induction N with
        | zero => intro k x y hk hx hy hN; exact absurd hN (Nat.not_lt_zero _)
        | succ N ih25 =>
          intro k x y hk hx hy hN
          refine r_iload E 5 dX3_tellBetween_25 rfl ?_
          refine r_aload_n E 0 dX3_tellBetween_27 rfl rfl ?_
          refine r_get E 3 0 6 dX3_tellBetween_28 in_X3_tellBetween_X3 lk_X3_tellBetween_31 rfl rfl (by decide) rfl ?_
          refine r_icmp_ge E 78 dX3_tellBetween_31 (by decide) ⟨by omega, by omega⟩ ⟨by omega, by omega⟩ (fun c_31 => ?_) (fun c_31 => ?_)
          · refine r_iload_n E 2 dX3_tellBetween_78 rfl rfl ?_
            refine r_if_ne E 86 dX3_tellBetween_79 (by decide) ⟨by omega, by omega⟩ (fun c_79 => ?_) (fun c_79 => ?_)
            · refine r_lload E 4 dX3_tellBetween_86 rfl ?_
              exact r_retPL E hr dX3_tellBetween_88 (by
                    have e : k = L := by omega
                    first | (rw [if_pos (by omega), hx, e]; done) | (rw [if_neg (by omega), hy, e]; done)) hQ
            · refine r_lload_n E 3 dX3_tellBetween_82 rfl rfl ?_
              refine r_goto E 88 dX3_tellBetween_83 (by decide) ?_
              exact r_retPL E hr dX3_tellBetween_88 (by
                    have e : k = L := by omega
                    first | (rw [if_pos (by omega), hx, e]; done) | (rw [if_neg (by omega), hy, e]; done)) hQ
          · refine r_aload_n E 0 dX3_tellBetween_34 rfl rfl ?_
            refine r_get E 3 0 1 dX3_tellBetween_35 in_X3_tellBetween_X3 lk_X3_tellBetween_15 rfl rfl (by decide) rfl ?_
            refine r_iload E 5 dX3_tellBetween_38 rfl ?_
            refine r_iald E (i := k) 2 0 dX3_tellBetween_40 rfl rfl (by decide) ⟨by omega, by omega⟩ ?_
            have f_1 := hO3 k (by omega) (by omega)
            refine r_iconst E 3 rfl dX3_tellBetween_41 ?_
            refine r_icmp_eq E 72 dX3_tellBetween_42 (by decide) ⟨by omega, by omega⟩ ⟨by omega, by omega⟩ (fun c_42 => ?_) (fun c_42 => ?_)
            · refine r_iinc E (k := 5) [(7, .int (iJ ((k + 1)))), (0, .ref p0), (1, .int (iJ (ah))), (2, .int (iJ (en))), (3, .long (lJ (x))), (5, .long (lJ (y)))] dX3_tellBetween_72 rfl (by decide) rfl ?_
              refine r_goto E 25 dX3_tellBetween_75 (by decide) ?_
              refine r_lv [1, 2, 3, 4, 5, 0] [(0, .ref p0), (1, .int (iJ (ah))), (2, .int (iJ (en))), (3, .long (lJ (x))), (5, .long (lJ (y))), (7, .int (iJ ((k + 1))))] rfl ?_
              exact ih25 (k + 1) x y ⟨by omega, by omega⟩ (by rw [tbR_s _ _ _ _ _ (by omega)]; first | rw [if_pos c_42, hx] | rw [if_neg c_42, hx, hy]) (by rw [tbL_s _ _ _ _ _ (by omega)]; first | rw [if_pos c_42, hy] | rw [if_neg c_42, hx, hy]) (by omega)
            · refine r_aload_n E 0 dX3_tellBetween_45 rfl rfl ?_
              refine r_iload E 5 dX3_tellBetween_46 rfl ?_
              refine r_iconst E 0 rfl dX3_tellBetween_48 ?_
              refine r_lload_n E 3 dX3_tellBetween_49 rfl rfl ?_
              refine r_lload E 4 dX3_tellBetween_50 rfl ?_
              refine r_vL E (st := []) (c_X3_tellNext l D p0 p1 p2 p3 p4 p5 p6 cI cZ L ow cA cU hd fw k 0 x y (by first | assumption | omega | exact ⟨by omega, by omega⟩) (by first | assumption | omega | exact ⟨by omega, by omega⟩) (by first | assumption | omega | exact ⟨by omega, by omega⟩) (by first | assumption | omega | exact ⟨by omega, by omega⟩) (by first | assumption | omega | exact ⟨by omega, by omega⟩) (by first | assumption | omega | exact ⟨by omega, by omega⟩)) gX3_tellBetween_X3_tellNext 4 kf_X3_tellNext ⟨rfl, rfl⟩ ⟨by decide, by decide⟩ dX3_tellBetween_52 rfl 0 rfl rfl rfl rfl ⟨Nat.zero_le _, Nat.zero_le _⟩ [0, 1, 2, 3, 4, 5, 6] rfl (by decide) [0, 1] rfl (Nat.le_of_ble_eq_true rfl) ?_
              refine r_lstore E [(8, .long (lJ (tnX L ow cA cU k 0 x y))), (0, .ref p0), (1, .int (iJ (ah))), (2, .int (iJ (en))), (3, .long (lJ (x))), (5, .long (lJ (y))), (7, .int (iJ (k)))] dX3_tellBetween_55 (by decide) rfl ?_
              refine r_aload_n E 1 dX3_tellBetween_57 rfl rfl ?_
              refine r_iload E 6 dX3_tellBetween_58 rfl ?_
              refine r_iconst E 1 rfl dX3_tellBetween_60 ?_
              refine r_lload_n E 4 dX3_tellBetween_61 rfl rfl ?_
              refine r_lload E 5 dX3_tellBetween_62 rfl ?_
              refine r_vL E (st := []) (c_X3_tellNext l D p0 p1 p2 p3 p4 p5 p6 cI cZ L ow cA cU hd fw k 1 x y (by first | assumption | omega | exact ⟨by omega, by omega⟩) (by first | assumption | omega | exact ⟨by omega, by omega⟩) (by first | assumption | omega | exact ⟨by omega, by omega⟩) (by first | assumption | omega | exact ⟨by omega, by omega⟩) (by first | assumption | omega | exact ⟨by omega, by omega⟩) (by first | assumption | omega | exact ⟨by omega, by omega⟩)) gX3_tellBetween_X3_tellNext 4 kf_X3_tellNext ⟨rfl, rfl⟩ ⟨by decide, by decide⟩ dX3_tellBetween_64 rfl 0 rfl rfl rfl rfl ⟨Nat.zero_le _, Nat.zero_le _⟩ [0, 1, 2, 3, 4, 5, 6] rfl (by decide) [0, 1] rfl (Nat.le_of_ble_eq_true rfl) ?_
              refine r_lstore E [(5, .long (lJ (tnX L ow cA cU k 1 x y))), (8, .long (lJ (tnX L ow cA cU k 0 x y))), (0, .ref p0), (1, .int (iJ (ah))), (2, .int (iJ (en))), (3, .long (lJ (x))), (7, .int (iJ (k)))] dX3_tellBetween_67 (by decide) rfl ?_
              refine r_lload E 1 dX3_tellBetween_69 rfl ?_
              refine r_lstore_n E [(3, .long (lJ (tnX L ow cA cU k 0 x y))), (5, .long (lJ (tnX L ow cA cU k 1 x y))), (8, .long (lJ (tnX L ow cA cU k 0 x y))), (0, .ref p0), (1, .int (iJ (ah))), (2, .int (iJ (en))), (7, .int (iJ (k)))] dX3_tellBetween_71 rfl (by decide) rfl ?_
              refine r_iinc E (k := 6) [(7, .int (iJ ((k + 1)))), (3, .long (lJ (tnX L ow cA cU k 0 x y))), (5, .long (lJ (tnX L ow cA cU k 1 x y))), (8, .long (lJ (tnX L ow cA cU k 0 x y))), (0, .ref p0), (1, .int (iJ (ah))), (2, .int (iJ (en)))] dX3_tellBetween_72 rfl (by decide) rfl ?_
              refine r_goto E 25 dX3_tellBetween_75 (by decide) ?_
              refine r_lv [4, 5, 6, 1, 2, 0] [(0, .ref p0), (1, .int (iJ (ah))), (2, .int (iJ (en))), (3, .long (lJ (tnX L ow cA cU k 0 x y))), (5, .long (lJ (tnX L ow cA cU k 1 x y))), (7, .int (iJ ((k + 1))))] rfl ?_
              exact ih25 (k + 1) (tnX L ow cA cU k 0 x y) (tnX L ow cA cU k 1 x y) ⟨by omega, by omega⟩ (by rw [tbR_s _ _ _ _ _ (by omega)]; first | rw [if_pos c_42, hx] | rw [if_neg c_42, hx, hy]) (by rw [tbL_s _ _ _ _ _ (by omega)]; first | rw [if_pos c_42, hy] | rw [if_neg c_42, hx, hy]) (by omega)
      refine r_lv [3, 4, 5, 2, 1, 0] [(0, .ref p0), (1, .int (iJ (ah))), (2, .int (iJ (en))), (3, .long (lJ (0))), (5, .long (lJ (0))), (7, .int (iJ (0)))] rfl ?_
      exact loop_25 _ 0 0 0 ⟨by omega, by omega⟩ (by show _ = if ah = 0 then 1 else 0; split <;> omega) (by show _ = if ah = 1 then 1 else 0; split <;> omega) (Nat.lt_succ_self _)
    · refine r_lconst E 1 rfl dX3_tellBetween_15 ?_
      refine r_goto E 20 dX3_tellBetween_16 (by decide) ?_
      refine r_lstore E [(5, .long (lJ (1))), (3, .long (lJ (0))), (0, .ref p0), (1, .int (iJ (ah))), (2, .int (iJ (en)))] dX3_tellBetween_20 (by decide) rfl ?_
      refine r_iconst E 0 rfl dX3_tellBetween_22 ?_
      refine r_istore E [(7, .int (iJ (0))), (5, .long (lJ (1))), (3, .long (lJ (0))), (0, .ref p0), (1, .int (iJ (ah))), (2, .int (iJ (en)))] dX3_tellBetween_23 (by decide) rfl ?_
      have loop_25 : ∀ (N : Nat) (k : Int) (x : Int) (y : Int), (0 ≤ k ∧ k ≤ L) → (x = tbR L ow cA cU ah k) → (y = tbL L ow cA cU ah k) → (L - k).toNat < N → GG p_ l e_ rm_X3_tellBetween s_ m_ ar_ bw_ mt_ cd_ D vwCl (fun _ => True) (fun _ => False) s_.heap 10 0 0 Q_ [(p0, .inr (3, [.ref p1, .ref p2, .ref p3, .ref p4, .ref p5, .ref p6, .int (iJ (L))])), (p1, cJ cI 32 (nrA)), (p2, cJ cI 32 (ow)), (p3, cJ cZ 32 (cA)), (p4, cJ cZ 32 (cU)), (p5, cJ cI 32 (hd)), (p6, cJ cI 132 (fw))] [(0, .ref p0), (1, .int (iJ (ah))), (2, .int (iJ (en))), (3, .long (lJ (x))), (5, .long (lJ (y))), (7, .int (iJ (k)))] 25 [] := by
        intro N; induction N with
        | zero => intro k x y hk hx hy hN; exact absurd hN (Nat.not_lt_zero _)
        | succ N ih25 =>
          intro k x y hk hx hy hN
          refine r_iload E 5 dX3_tellBetween_25 rfl ?_
          refine r_aload_n E 0 dX3_tellBetween_27 rfl rfl ?_
          refine r_get E 3 0 6 dX3_tellBetween_28 in_X3_tellBetween_X3 lk_X3_tellBetween_31 rfl rfl (by decide) rfl ?_
          refine r_icmp_ge E 78 dX3_tellBetween_31 (by decide) ⟨by omega, by omega⟩ ⟨by omega, by omega⟩ (fun c_31 => ?_) (fun c_31 => ?_)
          · refine r_iload_n E 2 dX3_tellBetween_78 rfl rfl ?_
            refine r_if_ne E 86 dX3_tellBetween_79 (by decide) ⟨by omega, by omega⟩ (fun c_79 => ?_) (fun c_79 => ?_)
            · refine r_lload E 4 dX3_tellBetween_86 rfl ?_
              exact r_retPL E hr dX3_tellBetween_88 (by
                    have e : k = L := by omega
                    first | (rw [if_pos (by omega), hx, e]; done) | (rw [if_neg (by omega), hy, e]; done)) hQ
            · refine r_lload_n E 3 dX3_tellBetween_82 rfl rfl ?_
              refine r_goto E 88 dX3_tellBetween_83 (by decide) ?_
              exact r_retPL E hr dX3_tellBetween_88 (by
                    have e : k = L := by omega
                    first | (rw [if_pos (by omega), hx, e]; done) | (rw [if_neg (by omega), hy, e]; done)) hQ
          · refine r_aload_n E 0 dX3_tellBetween_34 rfl rfl ?_
            refine r_get E 3 0 1 dX3_tellBetween_35 in_X3_tellBetween_X3 lk_X3_tellBetween_15 rfl rfl (by decide) rfl ?_
            refine r_iload E 5 dX3_tellBetween_38 rfl ?_
            refine r_iald E (i := k) 2 0 dX3_tellBetween_40 rfl rfl (by decide) ⟨by omega, by omega⟩ ?_
            have f_2 := hO3 k (by omega) (by omega)
            refine r_iconst E 3 rfl dX3_tellBetween_41 ?_
            refine r_icmp_eq E 72 dX3_tellBetween_42 (by decide) ⟨by omega, by omega⟩ ⟨by omega, by omega⟩ (fun c_42 => ?_) (fun c_42 => ?_)
            · refine r_iinc E (k := 5) [(7, .int (iJ ((k + 1)))), (0, .ref p0), (1, .int (iJ (ah))), (2, .int (iJ (en))), (3, .long (lJ (x))), (5, .long (lJ (y)))] dX3_tellBetween_72 rfl (by decide) rfl ?_
              refine r_goto E 25 dX3_tellBetween_75 (by decide) ?_
              refine r_lv [1, 2, 3, 4, 5, 0] [(0, .ref p0), (1, .int (iJ (ah))), (2, .int (iJ (en))), (3, .long (lJ (x))), (5, .long (lJ (y))), (7, .int (iJ ((k + 1))))] rfl ?_
              exact ih25 (k + 1) x y ⟨by omega, by omega⟩ (by rw [tbR_s _ _ _ _ _ (by omega)]; first | rw [if_pos c_42, hx] | rw [if_neg c_42, hx, hy]) (by rw [tbL_s _ _ _ _ _ (by omega)]; first | rw [if_pos c_42, hy] | rw [if_neg c_42, hx, hy]) (by omega)
            · refine r_aload_n E 0 dX3_tellBetween_45 rfl rfl ?_
              refine r_iload E 5 dX3_tellBetween_46 rfl ?_
              refine r_iconst E 0 rfl dX3_tellBetween_48 ?_
              refine r_lload_n E 3 dX3_tellBetween_49 rfl rfl ?_
              refine r_lload E 4 dX3_tellBetween_50 rfl ?_
              refine r_vL E (st := []) (c_X3_tellNext l D p0 p1 p2 p3 p4 p5 p6 cI cZ L ow cA cU hd fw k 0 x y (by first | assumption | omega | exact ⟨by omega, by omega⟩) (by first | assumption | omega | exact ⟨by omega, by omega⟩) (by first | assumption | omega | exact ⟨by omega, by omega⟩) (by first | assumption | omega | exact ⟨by omega, by omega⟩) (by first | assumption | omega | exact ⟨by omega, by omega⟩) (by first | assumption | omega | exact ⟨by omega, by omega⟩)) gX3_tellBetween_X3_tellNext 4 kf_X3_tellNext ⟨rfl, rfl⟩ ⟨by decide, by decide⟩ dX3_tellBetween_52 rfl 0 rfl rfl rfl rfl ⟨Nat.zero_le _, Nat.zero_le _⟩ [0, 1, 2, 3, 4, 5, 6] rfl (by decide) [0, 1] rfl (Nat.le_of_ble_eq_true rfl) ?_
              refine r_lstore E [(8, .long (lJ (tnX L ow cA cU k 0 x y))), (0, .ref p0), (1, .int (iJ (ah))), (2, .int (iJ (en))), (3, .long (lJ (x))), (5, .long (lJ (y))), (7, .int (iJ (k)))] dX3_tellBetween_55 (by decide) rfl ?_
              refine r_aload_n E 1 dX3_tellBetween_57 rfl rfl ?_
              refine r_iload E 6 dX3_tellBetween_58 rfl ?_
              refine r_iconst E 1 rfl dX3_tellBetween_60 ?_
              refine r_lload_n E 4 dX3_tellBetween_61 rfl rfl ?_
              refine r_lload E 5 dX3_tellBetween_62 rfl ?_
              refine r_vL E (st := []) (c_X3_tellNext l D p0 p1 p2 p3 p4 p5 p6 cI cZ L ow cA cU hd fw k 1 x y (by first | assumption | omega | exact ⟨by omega, by omega⟩) (by first | assumption | omega | exact ⟨by omega, by omega⟩) (by first | assumption | omega | exact ⟨by omega, by omega⟩) (by first | assumption | omega | exact ⟨by omega, by omega⟩) (by first | assumption | omega | exact ⟨by omega, by omega⟩) (by first | assumption | omega | exact ⟨by omega, by omega⟩)) gX3_tellBetween_X3_tellNext 4 kf_X3_tellNext ⟨rfl, rfl⟩ ⟨by decide, by decide⟩ dX3_tellBetween_64 rfl 0 rfl rfl rfl rfl ⟨Nat.zero_le _, Nat.zero_le _⟩ [0, 1, 2, 3, 4, 5, 6] rfl (by decide) [0, 1] rfl (Nat.le_of_ble_eq_true rfl) ?_
              refine r_lstore E [(5, .long (lJ (tnX L ow cA cU k 1 x y))), (8, .long (lJ (tnX L ow cA cU k 0 x y))), (0, .ref p0), (1, .int (iJ (ah))), (2, .int (iJ (en))), (3, .long (lJ (x))), (7, .int (iJ (k)))] dX3_tellBetween_67 (by decide) rfl ?_
              refine r_lload E 1 dX3_tellBetween_69 rfl ?_
              refine r_lstore_n E [(3, .long (lJ (tnX L ow cA cU k 0 x y))), (5, .long (lJ (tnX L ow cA cU k 1 x y))), (8, .long (lJ (tnX L ow cA cU k 0 x y))), (0, .ref p0), (1, .int (iJ (ah))), (2, .int (iJ (en))), (7, .int (iJ (k)))] dX3_tellBetween_71 rfl (by decide) rfl ?_
              refine r_iinc E (k := 6) [(7, .int (iJ ((k + 1)))), (3, .long (lJ (tnX L ow cA cU k 0 x y))), (5, .long (lJ (tnX L ow cA cU k 1 x y))), (8, .long (lJ (tnX L ow cA cU k 0 x y))), (0, .ref p0), (1, .int (iJ (ah))), (2, .int (iJ (en)))] dX3_tellBetween_72 rfl (by decide) rfl ?_
              refine r_goto E 25 dX3_tellBetween_75 (by decide) ?_
              refine r_lv [4, 5, 6, 1, 2, 0] [(0, .ref p0), (1, .int (iJ (ah))), (2, .int (iJ (en))), (3, .long (lJ (tnX L ow cA cU k 0 x y))), (5, .long (lJ (tnX L ow cA cU k 1 x y))), (7, .int (iJ ((k + 1))))] rfl ?_
              exact ih25 (k + 1) (tnX L ow cA cU k 0 x y) (tnX L ow cA cU k 1 x y) ⟨by omega, by omega⟩ (by rw [tbR_s _ _ _ _ _ (by omega)]; first | rw [if_pos c_42, hx] | rw [if_neg c_42, hx, hy]) (by rw [tbL_s _ _ _ _ _ (by omega)]; first | rw [if_pos c_42, hy] | rw [if_neg c_42, hx, hy]) (by omega)
      refine r_lv [3, 4, 5, 2, 1, 0] [(0, .ref p0), (1, .int (iJ (ah))), (2, .int (iJ (en))), (3, .long (lJ (0))), (5, .long (lJ (1))), (7, .int (iJ (0)))] rfl ?_
      exact loop_25 _ 0 0 1 ⟨by omega, by omega⟩ (by show _ = if ah = 0 then 1 else 0; split <;> omega) (by show _ = if ah = 1 then 1 else 0; split <;> omega) (Nat.lt_succ_self _)
  · refine r_lconst E 1 rfl dX3_tellBetween_4 ?_
    refine r_goto E 9 dX3_tellBetween_5 (by decide) ?_
    refine r_lstore_n E [(3, .long (lJ (1))), (0, .ref p0), (1, .int (iJ (ah))), (2, .int (iJ (en)))] dX3_tellBetween_9 rfl (by decide) rfl ?_
    refine r_iload_n E 2 dX3_tellBetween_10 rfl rfl ?_
    refine r_iconst E 1 rfl dX3_tellBetween_11 ?_
    refine r_icmp_ne E 19 dX3_tellBetween_12 (by decide) ⟨by omega, by omega⟩ ⟨by omega, by omega⟩ (fun c_12 => ?_) (fun c_12 => ?_)
    · refine r_lconst E 0 rfl dX3_tellBetween_19 ?_
      refine r_lstore E [(5, .long (lJ (0))), (3, .long (lJ (1))), (0, .ref p0), (1, .int (iJ (ah))), (2, .int (iJ (en)))] dX3_tellBetween_20 (by decide) rfl ?_
      refine r_iconst E 0 rfl dX3_tellBetween_22 ?_
      refine r_istore E [(7, .int (iJ (0))), (5, .long (lJ (0))), (3, .long (lJ (1))), (0, .ref p0), (1, .int (iJ (ah))), (2, .int (iJ (en)))] dX3_tellBetween_23 (by decide) rfl ?_
      have loop_25 : ∀ (N : Nat) (k : Int) (x : Int) (y : Int), (0 ≤ k ∧ k ≤ L) → (x = tbR L ow cA cU ah k) → (y = tbL L ow cA cU ah k) → (L - k).toNat < N → GG p_ l e_ rm_X3_tellBetween s_ m_ ar_ bw_ mt_ cd_ D vwCl (fun _ => True) (fun _ => False) s_.heap 10 0 0 Q_ [(p0, .inr (3, [.ref p1, .ref p2, .ref p3, .ref p4, .ref p5, .ref p6, .int (iJ (L))])), (p1, cJ cI 32 (nrA)), (p2, cJ cI 32 (ow)), (p3, cJ cZ 32 (cA)), (p4, cJ cZ 32 (cU)), (p5, cJ cI 32 (hd)), (p6, cJ cI 132 (fw))] [(0, .ref p0), (1, .int (iJ (ah))), (2, .int (iJ (en))), (3, .long (lJ (x))), (5, .long (lJ (y))), (7, .int (iJ (k)))] 25 [] := by
        intro N; induction N with
        | zero => intro k x y hk hx hy hN; exact absurd hN (Nat.not_lt_zero _)
        | succ N ih25 =>
          intro k x y hk hx hy hN
          refine r_iload E 5 dX3_tellBetween_25 rfl ?_
          refine r_aload_n E 0 dX3_tellBetween_27 rfl rfl ?_
          refine r_get E 3 0 6 dX3_tellBetween_28 in_X3_tellBetween_X3 lk_X3_tellBetween_31 rfl rfl (by decide) rfl ?_
          refine r_icmp_ge E 78 dX3_tellBetween_31 (by decide) ⟨by omega, by omega⟩ ⟨by omega, by omega⟩ (fun c_31 => ?_) (fun c_31 => ?_)
          · refine r_iload_n E 2 dX3_tellBetween_78 rfl rfl ?_
            refine r_if_ne E 86 dX3_tellBetween_79 (by decide) ⟨by omega, by omega⟩ (fun c_79 => ?_) (fun c_79 => ?_)
            · refine r_lload E 4 dX3_tellBetween_86 rfl ?_
              exact r_retPL E hr dX3_tellBetween_88 (by
                    have e : k = L := by omega
                    first | (rw [if_pos (by omega), hx, e]; done) | (rw [if_neg (by omega), hy, e]; done)) hQ
            · refine r_lload_n E 3 dX3_tellBetween_82 rfl rfl ?_
              refine r_goto E 88 dX3_tellBetween_83 (by decide) ?_
              exact r_retPL E hr dX3_tellBetween_88 (by
                    have e : k = L := by omega
                    first | (rw [if_pos (by omega), hx, e]; done) | (rw [if_neg (by omega), hy, e]; done)) hQ
          · refine r_aload_n E 0 dX3_tellBetween_34 rfl rfl ?_
            refine r_get E 3 0 1 dX3_tellBetween_35 in_X3_tellBetween_X3 lk_X3_tellBetween_15 rfl rfl (by decide) rfl ?_
            refine r_iload E 5 dX3_tellBetween_38 rfl ?_
            refine r_iald E (i := k) 2 0 dX3_tellBetween_40 rfl rfl (by decide) ⟨by omega, by omega⟩ ?_
            have f_3 := hO3 k (by omega) (by omega)
            refine r_iconst E 3 rfl dX3_tellBetween_41 ?_
            refine r_icmp_eq E 72 dX3_tellBetween_42 (by decide) ⟨by omega, by omega⟩ ⟨by omega, by omega⟩ (fun c_42 => ?_) (fun c_42 => ?_)
            · refine r_iinc E (k := 5) [(7, .int (iJ ((k + 1)))), (0, .ref p0), (1, .int (iJ (ah))), (2, .int (iJ (en))), (3, .long (lJ (x))), (5, .long (lJ (y)))] dX3_tellBetween_72 rfl (by decide) rfl ?_
              refine r_goto E 25 dX3_tellBetween_75 (by decide) ?_
              refine r_lv [1, 2, 3, 4, 5, 0] [(0, .ref p0), (1, .int (iJ (ah))), (2, .int (iJ (en))), (3, .long (lJ (x))), (5, .long (lJ (y))), (7, .int (iJ ((k + 1))))] rfl ?_
              exact ih25 (k + 1) x y ⟨by omega, by omega⟩ (by rw [tbR_s _ _ _ _ _ (by omega)]; first | rw [if_pos c_42, hx] | rw [if_neg c_42, hx, hy]) (by rw [tbL_s _ _ _ _ _ (by omega)]; first | rw [if_pos c_42, hy] | rw [if_neg c_42, hx, hy]) (by omega)
            · refine r_aload_n E 0 dX3_tellBetween_45 rfl rfl ?_
              refine r_iload E 5 dX3_tellBetween_46 rfl ?_
              refine r_iconst E 0 rfl dX3_tellBetween_48 ?_
              refine r_lload_n E 3 dX3_tellBetween_49 rfl rfl ?_
              refine r_lload E 4 dX3_tellBetween_50 rfl ?_
              refine r_vL E (st := []) (c_X3_tellNext l D p0 p1 p2 p3 p4 p5 p6 cI cZ L ow cA cU hd fw k 0 x y (by first | assumption | omega | exact ⟨by omega, by omega⟩) (by first | assumption | omega | exact ⟨by omega, by omega⟩) (by first | assumption | omega | exact ⟨by omega, by omega⟩) (by first | assumption | omega | exact ⟨by omega, by omega⟩) (by first | assumption | omega | exact ⟨by omega, by omega⟩) (by first | assumption | omega | exact ⟨by omega, by omega⟩)) gX3_tellBetween_X3_tellNext 4 kf_X3_tellNext ⟨rfl, rfl⟩ ⟨by decide, by decide⟩ dX3_tellBetween_52 rfl 0 rfl rfl rfl rfl ⟨Nat.zero_le _, Nat.zero_le _⟩ [0, 1, 2, 3, 4, 5, 6] rfl (by decide) [0, 1] rfl (Nat.le_of_ble_eq_true rfl) ?_
              refine r_lstore E [(8, .long (lJ (tnX L ow cA cU k 0 x y))), (0, .ref p0), (1, .int (iJ (ah))), (2, .int (iJ (en))), (3, .long (lJ (x))), (5, .long (lJ (y))), (7, .int (iJ (k)))] dX3_tellBetween_55 (by decide) rfl ?_
              refine r_aload_n E 1 dX3_tellBetween_57 rfl rfl ?_
              refine r_iload E 6 dX3_tellBetween_58 rfl ?_
              refine r_iconst E 1 rfl dX3_tellBetween_60 ?_
              refine r_lload_n E 4 dX3_tellBetween_61 rfl rfl ?_
              refine r_lload E 5 dX3_tellBetween_62 rfl ?_
              refine r_vL E (st := []) (c_X3_tellNext l D p0 p1 p2 p3 p4 p5 p6 cI cZ L ow cA cU hd fw k 1 x y (by first | assumption | omega | exact ⟨by omega, by omega⟩) (by first | assumption | omega | exact ⟨by omega, by omega⟩) (by first | assumption | omega | exact ⟨by omega, by omega⟩) (by first | assumption | omega | exact ⟨by omega, by omega⟩) (by first | assumption | omega | exact ⟨by omega, by omega⟩) (by first | assumption | omega | exact ⟨by omega, by omega⟩)) gX3_tellBetween_X3_tellNext 4 kf_X3_tellNext ⟨rfl, rfl⟩ ⟨by decide, by decide⟩ dX3_tellBetween_64 rfl 0 rfl rfl rfl rfl ⟨Nat.zero_le _, Nat.zero_le _⟩ [0, 1, 2, 3, 4, 5, 6] rfl (by decide) [0, 1] rfl (Nat.le_of_ble_eq_true rfl) ?_
              refine r_lstore E [(5, .long (lJ (tnX L ow cA cU k 1 x y))), (8, .long (lJ (tnX L ow cA cU k 0 x y))), (0, .ref p0), (1, .int (iJ (ah))), (2, .int (iJ (en))), (3, .long (lJ (x))), (7, .int (iJ (k)))] dX3_tellBetween_67 (by decide) rfl ?_
              refine r_lload E 1 dX3_tellBetween_69 rfl ?_
              refine r_lstore_n E [(3, .long (lJ (tnX L ow cA cU k 0 x y))), (5, .long (lJ (tnX L ow cA cU k 1 x y))), (8, .long (lJ (tnX L ow cA cU k 0 x y))), (0, .ref p0), (1, .int (iJ (ah))), (2, .int (iJ (en))), (7, .int (iJ (k)))] dX3_tellBetween_71 rfl (by decide) rfl ?_
              refine r_iinc E (k := 6) [(7, .int (iJ ((k + 1)))), (3, .long (lJ (tnX L ow cA cU k 0 x y))), (5, .long (lJ (tnX L ow cA cU k 1 x y))), (8, .long (lJ (tnX L ow cA cU k 0 x y))), (0, .ref p0), (1, .int (iJ (ah))), (2, .int (iJ (en)))] dX3_tellBetween_72 rfl (by decide) rfl ?_
              refine r_goto E 25 dX3_tellBetween_75 (by decide) ?_
              refine r_lv [4, 5, 6, 1, 2, 0] [(0, .ref p0), (1, .int (iJ (ah))), (2, .int (iJ (en))), (3, .long (lJ (tnX L ow cA cU k 0 x y))), (5, .long (lJ (tnX L ow cA cU k 1 x y))), (7, .int (iJ ((k + 1))))] rfl ?_
              exact ih25 (k + 1) (tnX L ow cA cU k 0 x y) (tnX L ow cA cU k 1 x y) ⟨by omega, by omega⟩ (by rw [tbR_s _ _ _ _ _ (by omega)]; first | rw [if_pos c_42, hx] | rw [if_neg c_42, hx, hy]) (by rw [tbL_s _ _ _ _ _ (by omega)]; first | rw [if_pos c_42, hy] | rw [if_neg c_42, hx, hy]) (by omega)
      refine r_lv [3, 4, 5, 2, 1, 0] [(0, .ref p0), (1, .int (iJ (ah))), (2, .int (iJ (en))), (3, .long (lJ (1))), (5, .long (lJ (0))), (7, .int (iJ (0)))] rfl ?_
      exact loop_25 _ 0 1 0 ⟨by omega, by omega⟩ (by show _ = if ah = 0 then 1 else 0; split <;> omega) (by show _ = if ah = 1 then 1 else 0; split <;> omega) (Nat.lt_succ_self _)
    · refine r_lconst E 1 rfl dX3_tellBetween_15 ?_
      refine r_goto E 20 dX3_tellBetween_16 (by decide) ?_
      refine r_lstore E [(5, .long (lJ (1))), (3, .long (lJ (1))), (0, .ref p0), (1, .int (iJ (ah))), (2, .int (iJ (en)))] dX3_tellBetween_20 (by decide) rfl ?_
      refine r_iconst E 0 rfl dX3_tellBetween_22 ?_
      refine r_istore E [(7, .int (iJ (0))), (5, .long (lJ (1))), (3, .long (lJ (1))), (0, .ref p0), (1, .int (iJ (ah))), (2, .int (iJ (en)))] dX3_tellBetween_23 (by decide) rfl ?_
      have loop_25 : ∀ (N : Nat) (k : Int) (x : Int) (y : Int), (0 ≤ k ∧ k ≤ L) → (x = tbR L ow cA cU ah k) → (y = tbL L ow cA cU ah k) → (L - k).toNat < N → GG p_ l e_ rm_X3_tellBetween s_ m_ ar_ bw_ mt_ cd_ D vwCl (fun _ => True) (fun _ => False) s_.heap 10 0 0 Q_ [(p0, .inr (3, [.ref p1, .ref p2, .ref p3, .ref p4, .ref p5, .ref p6, .int (iJ (L))])), (p1, cJ cI 32 (nrA)), (p2, cJ cI 32 (ow)), (p3, cJ cZ 32 (cA)), (p4, cJ cZ 32 (cU)), (p5, cJ cI 32 (hd)), (p6, cJ cI 132 (fw))] [(0, .ref p0), (1, .int (iJ (ah))), (2, .int (iJ (en))), (3, .long (lJ (x))), (5, .long (lJ (y))), (7, .int (iJ (k)))] 25 [] := by
        intro N; induction N with
        | zero => intro k x y hk hx hy hN; exact absurd hN (Nat.not_lt_zero _)
        | succ N ih25 =>
          intro k x y hk hx hy hN
          refine r_iload E 5 dX3_tellBetween_25 rfl ?_
          refine r_aload_n E 0 dX3_tellBetween_27 rfl rfl ?_
          refine r_get E 3 0 6 dX3_tellBetween_28 in_X3_tellBetween_X3 lk_X3_tellBetween_31 rfl rfl (by decide) rfl ?_
          refine r_icmp_ge E 78 dX3_tellBetween_31 (by decide) ⟨by omega, by omega⟩ ⟨by omega, by omega⟩ (fun c_31 => ?_) (fun c_31 => ?_)
          · refine r_iload_n E 2 dX3_tellBetween_78 rfl rfl ?_
            refine r_if_ne E 86 dX3_tellBetween_79 (by decide) ⟨by omega, by omega⟩ (fun c_79 => ?_) (fun c_79 => ?_)
            · refine r_lload E 4 dX3_tellBetween_86 rfl ?_
              exact r_retPL E hr dX3_tellBetween_88 (by
                    have e : k = L := by omega
                    first | (rw [if_pos (by omega), hx, e]; done) | (rw [if_neg (by omega), hy, e]; done)) hQ
            · refine r_lload_n E 3 dX3_tellBetween_82 rfl rfl ?_
              refine r_goto E 88 dX3_tellBetween_83 (by decide) ?_
              exact r_retPL E hr dX3_tellBetween_88 (by
                    have e : k = L := by omega
                    first | (rw [if_pos (by omega), hx, e]; done) | (rw [if_neg (by omega), hy, e]; done)) hQ
          · refine r_aload_n E 0 dX3_tellBetween_34 rfl rfl ?_
            refine r_get E 3 0 1 dX3_tellBetween_35 in_X3_tellBetween_X3 lk_X3_tellBetween_15 rfl rfl (by decide) rfl ?_
            refine r_iload E 5 dX3_tellBetween_38 rfl ?_
            refine r_iald E (i := k) 2 0 dX3_tellBetween_40 rfl rfl (by decide) ⟨by omega, by omega⟩ ?_
            have f_4 := hO3 k (by omega) (by omega)
            refine r_iconst E 3 rfl dX3_tellBetween_41 ?_
            refine r_icmp_eq E 72 dX3_tellBetween_42 (by decide) ⟨by omega, by omega⟩ ⟨by omega, by omega⟩ (fun c_42 => ?_) (fun c_42 => ?_)
            · refine r_iinc E (k := 5) [(7, .int (iJ ((k + 1)))), (0, .ref p0), (1, .int (iJ (ah))), (2, .int (iJ (en))), (3, .long (lJ (x))), (5, .long (lJ (y)))] dX3_tellBetween_72 rfl (by decide) rfl ?_
              refine r_goto E 25 dX3_tellBetween_75 (by decide) ?_
              refine r_lv [1, 2, 3, 4, 5, 0] [(0, .ref p0), (1, .int (iJ (ah))), (2, .int (iJ (en))), (3, .long (lJ (x))), (5, .long (lJ (y))), (7, .int (iJ ((k + 1))))] rfl ?_
              exact ih25 (k + 1) x y ⟨by omega, by omega⟩ (by rw [tbR_s _ _ _ _ _ (by omega)]; first | rw [if_pos c_42, hx] | rw [if_neg c_42, hx, hy]) (by rw [tbL_s _ _ _ _ _ (by omega)]; first | rw [if_pos c_42, hy] | rw [if_neg c_42, hx, hy]) (by omega)
            · refine r_aload_n E 0 dX3_tellBetween_45 rfl rfl ?_
              refine r_iload E 5 dX3_tellBetween_46 rfl ?_
              refine r_iconst E 0 rfl dX3_tellBetween_48 ?_
              refine r_lload_n E 3 dX3_tellBetween_49 rfl rfl ?_
              refine r_lload E 4 dX3_tellBetween_50 rfl ?_
              refine r_vL E (st := []) (c_X3_tellNext l D p0 p1 p2 p3 p4 p5 p6 cI cZ L ow cA cU hd fw k 0 x y (by first | assumption | omega | exact ⟨by omega, by omega⟩) (by first | assumption | omega | exact ⟨by omega, by omega⟩) (by first | assumption | omega | exact ⟨by omega, by omega⟩) (by first | assumption | omega | exact ⟨by omega, by omega⟩) (by first | assumption | omega | exact ⟨by omega, by omega⟩) (by first | assumption | omega | exact ⟨by omega, by omega⟩)) gX3_tellBetween_X3_tellNext 4 kf_X3_tellNext ⟨rfl, rfl⟩ ⟨by decide, by decide⟩ dX3_tellBetween_52 rfl 0 rfl rfl rfl rfl ⟨Nat.zero_le _, Nat.zero_le _⟩ [0, 1, 2, 3, 4, 5, 6] rfl (by decide) [0, 1] rfl (Nat.le_of_ble_eq_true rfl) ?_
              refine r_lstore E [(8, .long (lJ (tnX L ow cA cU k 0 x y))), (0, .ref p0), (1, .int (iJ (ah))), (2, .int (iJ (en))), (3, .long (lJ (x))), (5, .long (lJ (y))), (7, .int (iJ (k)))] dX3_tellBetween_55 (by decide) rfl ?_
              refine r_aload_n E 1 dX3_tellBetween_57 rfl rfl ?_
              refine r_iload E 6 dX3_tellBetween_58 rfl ?_
              refine r_iconst E 1 rfl dX3_tellBetween_60 ?_
              refine r_lload_n E 4 dX3_tellBetween_61 rfl rfl ?_
              refine r_lload E 5 dX3_tellBetween_62 rfl ?_
              refine r_vL E (st := []) (c_X3_tellNext l D p0 p1 p2 p3 p4 p5 p6 cI cZ L ow cA cU hd fw k 1 x y (by first | assumption | omega | exact ⟨by omega, by omega⟩) (by first | assumption | omega | exact ⟨by omega, by omega⟩) (by first | assumption | omega | exact ⟨by omega, by omega⟩) (by first | assumption | omega | exact ⟨by omega, by omega⟩) (by first | assumption | omega | exact ⟨by omega, by omega⟩) (by first | assumption | omega | exact ⟨by omega, by omega⟩)) gX3_tellBetween_X3_tellNext 4 kf_X3_tellNext ⟨rfl, rfl⟩ ⟨by decide, by decide⟩ dX3_tellBetween_64 rfl 0 rfl rfl rfl rfl ⟨Nat.zero_le _, Nat.zero_le _⟩ [0, 1, 2, 3, 4, 5, 6] rfl (by decide) [0, 1] rfl (Nat.le_of_ble_eq_true rfl) ?_
              refine r_lstore E [(5, .long (lJ (tnX L ow cA cU k 1 x y))), (8, .long (lJ (tnX L ow cA cU k 0 x y))), (0, .ref p0), (1, .int (iJ (ah))), (2, .int (iJ (en))), (3, .long (lJ (x))), (7, .int (iJ (k)))] dX3_tellBetween_67 (by decide) rfl ?_
              refine r_lload E 1 dX3_tellBetween_69 rfl ?_
              refine r_lstore_n E [(3, .long (lJ (tnX L ow cA cU k 0 x y))), (5, .long (lJ (tnX L ow cA cU k 1 x y))), (8, .long (lJ (tnX L ow cA cU k 0 x y))), (0, .ref p0), (1, .int (iJ (ah))), (2, .int (iJ (en))), (7, .int (iJ (k)))] dX3_tellBetween_71 rfl (by decide) rfl ?_
              refine r_iinc E (k := 6) [(7, .int (iJ ((k + 1)))), (3, .long (lJ (tnX L ow cA cU k 0 x y))), (5, .long (lJ (tnX L ow cA cU k 1 x y))), (8, .long (lJ (tnX L ow cA cU k 0 x y))), (0, .ref p0), (1, .int (iJ (ah))), (2, .int (iJ (en)))] dX3_tellBetween_72 rfl (by decide) rfl ?_
              refine r_goto E 25 dX3_tellBetween_75 (by decide) ?_
              refine r_lv [4, 5, 6, 1, 2, 0] [(0, .ref p0), (1, .int (iJ (ah))), (2, .int (iJ (en))), (3, .long (lJ (tnX L ow cA cU k 0 x y))), (5, .long (lJ (tnX L ow cA cU k 1 x y))), (7, .int (iJ ((k + 1))))] rfl ?_
              exact ih25 (k + 1) (tnX L ow cA cU k 0 x y) (tnX L ow cA cU k 1 x y) ⟨by omega, by omega⟩ (by rw [tbR_s _ _ _ _ _ (by omega)]; first | rw [if_pos c_42, hx] | rw [if_neg c_42, hx, hy]) (by rw [tbL_s _ _ _ _ _ (by omega)]; first | rw [if_pos c_42, hy] | rw [if_neg c_42, hx, hy]) (by omega)
      refine r_lv [3, 4, 5, 2, 1, 0] [(0, .ref p0), (1, .int (iJ (ah))), (2, .int (iJ (en))), (3, .long (lJ (1))), (5, .long (lJ (1))), (7, .int (iJ (0)))] rfl ?_
      exact loop_25 _ 0 1 1 ⟨by omega, by omega⟩ (by show _ = if ah = 0 then 1 else 0; split <;> omega) (by show _ = if ah = 1 then 1 else 0; split <;> omega) (Nat.lt_succ_self _)
theorem kf_X3_handAt : KF yX3_handAt 1 wsX3_handAt cX3_handAt 2 (some .int) := ⟨rfl, by decide +kernel, by decide +kernel, by decide +kernel⟩
def rm_X3_handAt : Room := { frames := 0, cells := 0, slots := 0, locals := 0 }
set_option maxRecDepth 20000 in
theorem in_X3_handAt_X3 : ∀ w ∈ u_ws RX3 TX3 7, w ∈ wsX3_handAt := by decide +kernel
set_option maxRecDepth 20000 in
theorem lk_X3_handAt_31 : Cond.fieldLink RX3 31 (TX3 6).1 (TX3 6).2.1 (TX3 6).2.2.1 ∈ wsX3_handAt := by decide +kernel
set_option maxRecDepth 20000 in
theorem lk_X3_handAt_25 : Cond.fieldLink RX3 25 (TX3 4).1 (TX3 4).2.1 (TX3 4).2.2.1 ∈ wsX3_handAt := by decide +kernel
set_option maxHeartbeats 1000000 in
set_option maxRecDepth 100000 in
theorem c_X3_handAt (l : Launch) (D : va_G) (p0 : Nat) (p1 : Nat) (p2 : Nat) (p3 : Nat) (p4 : Nat) (p5 : Nat) (p6 : Nat) (cI : ClassId) (cZ : ClassId) (L : Int) (ow : Int → Int) (cA : Int → Int) (cU : Int → Int) (hd : Int → Int) (fw : Int → Int) (a : Int) (hL : 0 ≤ L ∧ L ≤ 32) (ha : jb a) : MP l yX3_handAt wsX3_handAt rm_X3_handAt D vwCl [.ref p0, .int (iJ (a))] [(p0, .inr (3, [.ref p1, .ref p2, .ref p3, .ref p4, .ref p5, .ref p6, .int (iJ (L))])), (p1, cJ cI 32 (nrA)), (p2, cJ cI 32 (ow)), (p3, cJ cZ 32 (cA)), (p4, cJ cZ 32 (cU)), (p5, cJ cI 32 (hd)), (p6, cJ cI 132 (fw))] [(cI, .int), (cZ, .boolean)] (haA L hd a) := by
  refine MP.mk (cc := cX3_handAt) (maxL := 2) (ret := (some .int)) (by decide) rfl (Nat.le_of_ble_eq_true rfl) rfl RX3 rfl ?_
  intro p_ e_ s_ m_ ar_ bw_ mt_ cd_ Q_ E hr hQ
  refine r_iload_n E 1 dX3_handAt_0 rfl rfl ?_
  refine r_if_lt E 21 dX3_handAt_1 (by decide) ha (fun c_1 => ?_) (fun c_1 => ?_)
  · refine r_iconst E 3 rfl dX3_handAt_21 ?_
    exact r_retP E hr dX3_handAt_22 (by unfold haA; first | rw [if_pos (show 0 ≤ a ∧ a < L by omega)] | rw [if_neg (show ¬ (0 ≤ a ∧ a < L) by omega)]) hQ
  · refine r_iload_n E 1 dX3_handAt_4 rfl rfl ?_
    refine r_aload_n E 0 dX3_handAt_5 rfl rfl ?_
    refine r_get E 3 0 6 dX3_handAt_6 in_X3_handAt_X3 lk_X3_handAt_31 rfl rfl (by decide) rfl ?_
    refine r_icmp_ge E 21 dX3_handAt_9 (by decide) ⟨by omega, by omega⟩ ⟨by omega, by omega⟩ (fun c_9 => ?_) (fun c_9 => ?_)
    · refine r_iconst E 3 rfl dX3_handAt_21 ?_
      exact r_retP E hr dX3_handAt_22 (by unfold haA; first | rw [if_pos (show 0 ≤ a ∧ a < L by omega)] | rw [if_neg (show ¬ (0 ≤ a ∧ a < L) by omega)]) hQ
    · refine r_aload_n E 0 dX3_handAt_12 rfl rfl ?_
      refine r_get E 3 0 4 dX3_handAt_13 in_X3_handAt_X3 lk_X3_handAt_25 rfl rfl (by decide) rfl ?_
      refine r_iload_n E 1 dX3_handAt_16 rfl rfl ?_
      refine r_iald E (i := a) 5 0 dX3_handAt_17 rfl rfl (by decide) ⟨by omega, by omega⟩ ?_
      refine r_goto E 22 dX3_handAt_18 (by decide) ?_
      exact r_retP E hr dX3_handAt_22 (by unfold haA; first | rw [if_pos (show 0 ≤ a ∧ a < L by omega)] | rw [if_neg (show ¬ (0 ≤ a ∧ a < L) by omega)]) hQ
theorem kf_X3_take : KF yX3_take 1 wsX3_take cX3_take 4 none := ⟨rfl, by decide +kernel, by decide +kernel, by decide +kernel⟩
def rm_X3_take : Room := { frames := 0, cells := 0, slots := 0, locals := 0 }
set_option maxRecDepth 20000 in
theorem in_X3_take_X3 : ∀ w ∈ u_ws RX3 TX3 7, w ∈ wsX3_take := by decide +kernel
set_option maxRecDepth 20000 in
theorem lk_X3_take_31 : Cond.fieldLink RX3 31 (TX3 6).1 (TX3 6).2.1 (TX3 6).2.2.1 ∈ wsX3_take := by decide +kernel
set_option maxRecDepth 20000 in
theorem lk_X3_take_25 : Cond.fieldLink RX3 25 (TX3 4).1 (TX3 4).2.1 (TX3 4).2.2.1 ∈ wsX3_take := by decide +kernel
set_option maxRecDepth 20000 in
theorem lk_X3_take_15 : Cond.fieldLink RX3 15 (TX3 1).1 (TX3 1).2.1 (TX3 1).2.2.1 ∈ wsX3_take := by decide +kernel
set_option maxHeartbeats 1000000 in
set_option maxRecDepth 100000 in
theorem c_X3_take (l : Launch) (D : va_G) (p0 : Nat) (p1 : Nat) (p2 : Nat) (p3 : Nat) (p4 : Nat) (p5 : Nat) (p6 : Nat) (cI : ClassId) (cZ : ClassId) (L : Int) (ow : Int → Int) (cA : Int → Int) (cU : Int → Int) (hd : Int → Int) (fw : Int → Int) (x : Int) (hL : 0 ≤ L ∧ L ≤ 32) (hO3 : ∀ j : Int, 0 ≤ j → j < L → 0 ≤ ow j ∧ ow j ≤ 3) (hx : 0 ≤ x ∧ x < 1000) : MV (S := Unit) l yX3_take wsX3_take rm_X3_take D vwCl [.ref p0, .int (iJ (x))] [(p0, .inr (3, [.ref p1, .ref p2, .ref p3, .ref p4, .ref p5, .ref p6, .int (iJ (L))])), (p1, cJ cI 32 (nrA)), (p2, cJ cI 32 (ow)), (p3, cJ cZ 32 (cA)), (p4, cJ cZ 32 (cU)), (p5, cJ cI 32 (hd)), (p6, cJ cI 132 (fw))] [(cI, .int), (cZ, .boolean)] (fun (_ : Unit) => True) (fun (_ : Unit) => [(p0, .inr (3, [.ref p1, .ref p2, .ref p3, .ref p4, .ref p5, .ref p6, .int (iJ (L))])), (p1, cJ cI 32 (nrA)), (p2, cJ cI 32 (ow)), (p3, cJ cZ 32 (cA)), (p4, cJ cZ 32 (cU)), (p5, cJ cI 32 (tkH L ow hd x)), (p6, cJ cI 132 (fw))]) := by
  refine MV.mk (cc := cX3_take) (maxL := 4) (ret := none) (by decide) rfl (Nat.le_of_ble_eq_true rfl) rfl RX3 rfl ?_
  intro p_ e_ s_ m_ ar_ bw_ mt_ cd_ B_ Q_ hA E hr hQ
  refine r_iload_n E 1 dX3_take_0 rfl rfl ?_
  refine r_istore_n E [(2, .int (iJ (x))), (0, .ref p0), (1, .int (iJ (x)))] dX3_take_1 rfl (by decide) rfl ?_
  refine r_iconst E 0 rfl dX3_take_2 ?_
  refine r_istore_n E [(3, .int (iJ (0))), (2, .int (iJ (x))), (0, .ref p0), (1, .int (iJ (x)))] dX3_take_3 rfl (by decide) rfl ?_
  have loop_4 : ∀ (N : Nat) (k : Int) (y : Int) (G : Int → Int), (0 ≤ k ∧ k ≤ L) → (y = tkB ow x k.toNat ∧ 0 ≤ y ∧ y < 1000) → (∀ j : Int, G j = if 0 ≤ j ∧ j < k then (if ow j = 2 then tkB ow x j.toNat % 2 else ow j) else hd j) → (L - k).toNat < N → GG p_ l e_ rm_X3_take s_ m_ ar_ bw_ mt_ cd_ D vwCl B_ B_ s_.heap 4 0 0 Q_ [(p0, .inr (3, [.ref p1, .ref p2, .ref p3, .ref p4, .ref p5, .ref p6, .int (iJ (L))])), (p1, cJ cI 32 (nrA)), (p2, cJ cI 32 (ow)), (p3, cJ cZ 32 (cA)), (p4, cJ cZ 32 (cU)), (p5, cJ cI 32 (G)), (p6, cJ cI 132 (fw))] [(0, .ref p0), (1, .int (iJ (x))), (2, .int (iJ (y))), (3, .int (iJ (k)))] 4 [] := by
    intro N; induction N with
    | zero => intro k y G hk hy hG hN; exact absurd hN (Nat.not_lt_zero _)
    | succ N ih4 =>
      intro k y G hk hy hG hN
      refine r_iload_n E 3 dX3_take_4 rfl rfl ?_
      refine r_aload_n E 0 dX3_take_5 rfl rfl ?_
      refine r_get E 3 0 6 dX3_take_6 in_X3_take_X3 lk_X3_take_31 rfl rfl (by decide) rfl ?_
      refine r_icmp_ge E 53 dX3_take_9 (by decide) ⟨by omega, by omega⟩ ⟨by omega, by omega⟩ (fun c_9 => ?_) (fun c_9 => ?_)
      · exact r_retMV E () hr dX3_take_53 trivial (by
              have ek : k = L := by omega
              have e1 : G = tkH L ow hd x := by funext j; rw [hG, ek]; rfl
              rw [e1]) hQ
      · refine r_aload_n E 0 dX3_take_12 rfl rfl ?_
        refine r_get E 3 0 4 dX3_take_13 in_X3_take_X3 lk_X3_take_25 rfl rfl (by decide) rfl ?_
        refine r_iload_n E 3 dX3_take_16 rfl rfl ?_
        refine r_aload_n E 0 dX3_take_17 rfl rfl ?_
        refine r_get E 3 0 1 dX3_take_18 in_X3_take_X3 lk_X3_take_15 rfl rfl (by decide) rfl ?_
        refine r_iload_n E 3 dX3_take_21 rfl rfl ?_
        refine r_iald E (i := k) 2 0 dX3_take_22 rfl rfl (by decide) ⟨by omega, by omega⟩ ?_
        have f_1 := hO3 k (by omega) (by omega)
        refine r_iast E (i := k) 5 0 dX3_take_23 rfl rfl (by decide) ⟨by omega, by omega⟩ [(p0, .inr (3, [.ref p1, .ref p2, .ref p3, .ref p4, .ref p5, .ref p6, .int (iJ (L))])), (p1, cJ cI 32 (nrA)), (p2, cJ cI 32 (ow)), (p3, cJ cZ 32 (cA)), (p4, cJ cZ 32 (cU)), (p5, cJ cI 32 (uJ G k (ow k))), (p6, cJ cI 132 (fw))] rfl ?_
        refine r_aload_n E 0 dX3_take_24 rfl rfl ?_
        refine r_get E 3 0 1 dX3_take_25 in_X3_take_X3 lk_X3_take_15 rfl rfl (by decide) rfl ?_
        refine r_iload_n E 3 dX3_take_28 rfl rfl ?_
        refine r_iald E (i := k) 2 0 dX3_take_29 rfl rfl (by decide) ⟨by omega, by omega⟩ ?_
        have f_2 := hO3 k (by omega) (by omega)
        refine r_iconst E 2 rfl dX3_take_30 ?_
        refine r_icmp_ne E 47 dX3_take_31 (by decide) ⟨by omega, by omega⟩ ⟨by omega, by omega⟩ (fun c_31 => ?_) (fun c_31 => ?_)
        · refine r_iinc E (k := 3) [(3, .int (iJ ((k + 1)))), (0, .ref p0), (1, .int (iJ (x))), (2, .int (iJ (y)))] dX3_take_47 rfl (by decide) rfl ?_
          refine r_goto E 4 dX3_take_50 (by decide) ?_
          refine r_lv [1, 2, 3, 0] [(0, .ref p0), (1, .int (iJ (x))), (2, .int (iJ (y))), (3, .int (iJ ((k + 1))))] rfl ?_
          exact ih4 (k + 1) y (uJ G k (ow k)) ⟨by omega, by omega⟩ ⟨by rw [tkB_s _ _ (by omega)]; first | rw [if_pos c_31, hy.1] | rw [if_neg c_31, hy.1], by omega, by omega⟩ (fun j => by
                by_cases q0 : j = k
                · subst q0; rw [uJ_s, if_pos (by omega)]; first | rw [if_pos c_31, hy.1] | rw [if_neg c_31]
                · rw [uJ_n q0]; first | rw [uJ_n q0] | skip
                  rw [hG]; by_cases q2 : 0 ≤ j ∧ j < k
                  · rw [if_pos q2, if_pos (show 0 ≤ j ∧ j < k + 1 by omega)]
                  · rw [if_neg q2, if_neg (show ¬ (0 ≤ j ∧ j < k + 1) by omega)]) (by omega)
        · refine r_aload_n E 0 dX3_take_34 rfl rfl ?_
          refine r_get E 3 0 4 dX3_take_35 in_X3_take_X3 lk_X3_take_25 rfl rfl (by decide) rfl ?_
          refine r_iload_n E 3 dX3_take_38 rfl rfl ?_
          refine r_iload_n E 2 dX3_take_39 rfl rfl ?_
          refine r_iconst E 1 rfl dX3_take_40 ?_
          refine r_iand E (y % 2) (iJ_and ⟨by omega, by omega⟩ (iJ 1) 1 2 (by decide) rfl) dX3_take_41 ?_
          refine r_iast E (i := k) 5 0 dX3_take_42 rfl rfl (by decide) ⟨by omega, by omega⟩ [(p0, .inr (3, [.ref p1, .ref p2, .ref p3, .ref p4, .ref p5, .ref p6, .int (iJ (L))])), (p1, cJ cI 32 (nrA)), (p2, cJ cI 32 (ow)), (p3, cJ cZ 32 (cA)), (p4, cJ cZ 32 (cU)), (p5, cJ cI 32 (uJ (uJ G k (ow k)) k (y % 2))), (p6, cJ cI 132 (fw))] rfl ?_
          refine r_iload_n E 2 dX3_take_43 rfl rfl ?_
          refine r_iconst E 1 rfl dX3_take_44 ?_
          refine r_ishr E (y / 2) (iJ_shr ⟨by omega, by omega⟩ (iJ 1) 1 2 (by decide) rfl) dX3_take_45 ?_
          refine r_istore_n E [(2, .int (iJ ((y / 2)))), (0, .ref p0), (1, .int (iJ (x))), (3, .int (iJ (k)))] dX3_take_46 rfl (by decide) rfl ?_
          refine r_iinc E (k := 3) [(3, .int (iJ ((k + 1)))), (2, .int (iJ ((y / 2)))), (0, .ref p0), (1, .int (iJ (x)))] dX3_take_47 rfl (by decide) rfl ?_
          refine r_goto E 4 dX3_take_50 (by decide) ?_
          refine r_lv [2, 3, 1, 0] [(0, .ref p0), (1, .int (iJ (x))), (2, .int (iJ ((y / 2)))), (3, .int (iJ ((k + 1))))] rfl ?_
          exact ih4 (k + 1) (y / 2) (uJ (uJ G k (ow k)) k (y % 2)) ⟨by omega, by omega⟩ ⟨by rw [tkB_s _ _ (by omega)]; first | rw [if_pos c_31, hy.1] | rw [if_neg c_31, hy.1], by omega, by omega⟩ (fun j => by
                by_cases q0 : j = k
                · subst q0; rw [uJ_s, if_pos (by omega)]; first | rw [if_pos c_31, hy.1] | rw [if_neg c_31]
                · rw [uJ_n q0]; first | rw [uJ_n q0] | skip
                  rw [hG]; by_cases q2 : 0 ≤ j ∧ j < k
                  · rw [if_pos q2, if_pos (show 0 ≤ j ∧ j < k + 1 by omega)]
                  · rw [if_neg q2, if_neg (show ¬ (0 ≤ j ∧ j < k + 1) by omega)]) (by omega)
  refine r_lv [2, 3, 1, 0] [(0, .ref p0), (1, .int (iJ (x))), (2, .int (iJ (x))), (3, .int (iJ (0)))] rfl ?_
  exact loop_4 _ 0 x hd ⟨by omega, by omega⟩ ⟨rfl, by omega, by omega⟩ (fun j => by rw [if_neg (by omega)]) (Nat.lt_succ_self _)
theorem kf_X3_firstClash : KF yX3_firstClash 0 wsX3_firstClash cX3_firstClash 3 (some .int) := ⟨rfl, by decide +kernel, by decide +kernel, by decide +kernel⟩
def rm_X3_firstClash : Room := { frames := 1, cells := 0, slots := 0, locals := 22 }
set_option maxRecDepth 20000 in
theorem in_X3_firstClash_X3 : ∀ w ∈ u_ws RX3 TX3 7, w ∈ wsX3_firstClash := by decide +kernel
set_option maxRecDepth 20000 in
theorem lk_X3_firstClash_31 : Cond.fieldLink RX3 31 (TX3 6).1 (TX3 6).2.1 (TX3 6).2.2.1 ∈ wsX3_firstClash := by decide +kernel
set_option maxRecDepth 20000 in
theorem lk_X3_firstClash_25 : Cond.fieldLink RX3 25 (TX3 4).1 (TX3 4).2.1 (TX3 4).2.2.1 ∈ wsX3_firstClash := by decide +kernel
set_option maxHeartbeats 1000000 in
set_option maxRecDepth 100000 in
theorem c_X3_firstClash (l : Launch) (D : va_G) (p0 : Nat) (p1 : Nat) (p2 : Nat) (p3 : Nat) (p4 : Nat) (p5 : Nat) (p6 : Nat) (cI : ClassId) (cZ : ClassId) (L : Int) (ow : Int → Int) (cA : Int → Int) (cU : Int → Int) (hd : Int → Int) (fw : Int → Int) (hL : 0 ≤ L ∧ L ≤ 32) (hA1 : ∀ j : Int, 0 ≤ j → j < L → cA j = 0 ∨ cA j = 1) (hU1 : ∀ j : Int, 0 ≤ j → j < L → cU j = 0 ∨ cU j = 1) (hh3 : ∀ j : Int, 0 ≤ j → j < L → 0 ≤ hd j ∧ hd j ≤ 3) : MP l yX3_firstClash wsX3_firstClash rm_X3_firstClash D vwCl [.ref p0] [(p0, .inr (3, [.ref p1, .ref p2, .ref p3, .ref p4, .ref p5, .ref p6, .int (iJ (L))])), (p1, cJ cI 32 (nrA)), (p2, cJ cI 32 (ow)), (p3, cJ cZ 32 (cA)), (p4, cJ cZ 32 (cU)), (p5, cJ cI 32 (hd)), (p6, cJ cI 132 (fw))] [(cI, .int), (cZ, .boolean)] (fcV L cA cU hd) := by
  refine MP.mk (cc := cX3_firstClash) (maxL := 3) (ret := (some .int)) (by decide) rfl (Nat.le_of_ble_eq_true rfl) rfl RX3 rfl ?_
  intro p_ e_ s_ m_ ar_ bw_ mt_ cd_ Q_ E hr hQ
  refine r_aload_n E 0 dX3_firstClash_0 rfl rfl ?_
  refine r_aload_n E 0 dX3_firstClash_1 rfl rfl ?_
  refine r_get E 3 0 6 dX3_firstClash_2 in_X3_firstClash_X3 lk_X3_firstClash_31 rfl rfl (by decide) rfl ?_
  refine r_iconst E 1 rfl dX3_firstClash_5 ?_
  refine r_isub E dX3_firstClash_6 ?_
  refine r_vP E (st := []) (c_X3_handAt l D p0 p1 p2 p3 p4 p5 p6 cI cZ L ow cA cU hd fw (L - 1) (by first | assumption | omega | exact ⟨by omega, by omega⟩) (by first | assumption | omega | exact ⟨by omega, by omega⟩)) gX3_firstClash_X3_handAt 1 kf_X3_handAt ⟨rfl, rfl⟩ ⟨by decide, by decide⟩ dX3_firstClash_7 rfl 0 rfl rfl rfl rfl ⟨Nat.zero_le _, Nat.zero_le _⟩ [0, 1, 2, 3, 4, 5, 6] rfl (by decide) [0, 1] rfl (Nat.le_of_ble_eq_true rfl) ?_
  refine r_istore_n E [(1, .int (iJ (haA L hd (L - 1)))), (0, .ref p0)] dX3_firstClash_10 rfl (by decide) rfl ?_
  refine r_iconst E 0 rfl dX3_firstClash_11 ?_
  refine r_istore_n E [(2, .int (iJ (0))), (1, .int (iJ (haA L hd (L - 1)))), (0, .ref p0)] dX3_firstClash_12 rfl (by decide) rfl ?_
  have loop_13 : ∀ (N : Nat) (k : Int) (b : Int), (0 ≤ k ∧ k ≤ L) → (0 ≤ b ∧ b ≤ 3) → (fcN L cA cU hd (L - k).toNat k b = fcV L cA cU hd) → (L - k).toNat < N → GG p_ l e_ rm_X3_firstClash s_ m_ ar_ bw_ mt_ cd_ D vwCl (fun _ => True) (fun _ => False) s_.heap 3 0 0 Q_ [(p0, .inr (3, [.ref p1, .ref p2, .ref p3, .ref p4, .ref p5, .ref p6, .int (iJ (L))])), (p1, cJ cI 32 (nrA)), (p2, cJ cI 32 (ow)), (p3, cJ cZ 32 (cA)), (p4, cJ cZ 32 (cU)), (p5, cJ cI 32 (hd)), (p6, cJ cI 132 (fw))] [(0, .ref p0), (1, .int (iJ (b))), (2, .int (iJ (k)))] 13 [] := by
    intro N; induction N with
    | zero => intro k b hk hb hs hN; exact absurd hN (Nat.not_lt_zero _)
    | succ N ih13 =>
      intro k b hk hb hs hN
      refine r_iload_n E 2 dX3_firstClash_13 rfl rfl ?_
      refine r_aload_n E 0 dX3_firstClash_14 rfl rfl ?_
      refine r_get E 3 0 6 dX3_firstClash_15 in_X3_firstClash_X3 lk_X3_firstClash_31 rfl rfl (by decide) rfl ?_
      refine r_icmp_ge E 59 dX3_firstClash_18 (by decide) ⟨by omega, by omega⟩ ⟨by omega, by omega⟩ (fun c_18 => ?_) (fun c_18 => ?_)
      · refine r_bipush E (-4) rfl dX3_firstClash_59 ?_
        exact r_retP E hr dX3_firstClash_61 (by rw [← hs, show (L - k).toNat = 0 by omega]; rfl) hQ
      · refine r_aload_n E 0 dX3_firstClash_21 rfl rfl ?_
        refine r_iload_n E 2 dX3_firstClash_22 rfl rfl ?_
        refine r_iload_n E 1 dX3_firstClash_23 rfl rfl ?_
        refine r_aload_n E 0 dX3_firstClash_24 rfl rfl ?_
        refine r_get E 3 0 4 dX3_firstClash_25 in_X3_firstClash_X3 lk_X3_firstClash_25 rfl rfl (by decide) rfl ?_
        refine r_iload_n E 2 dX3_firstClash_28 rfl rfl ?_
        refine r_iald E (i := k) 5 0 dX3_firstClash_29 rfl rfl (by decide) ⟨by omega, by omega⟩ ?_
        have f_1 := hh3 k (by omega) (by omega)
        refine r_icmp_ne E 37 dX3_firstClash_30 (by decide) ⟨by omega, by omega⟩ ⟨by omega, by omega⟩ (fun c_30 => ?_) (fun c_30 => ?_)
        · refine r_iconst E 0 rfl dX3_firstClash_37 ?_
          refine r_top (b := b2 (b = hd k)) (by first | exact (b2_t (by omega)).symm | exact (b2_f (by omega)).symm) ?_
          refine r_vP E (st := []) (c_X3_collides l D p0 p1 p2 p3 p4 p5 p6 cI cZ L ow cA cU hd fw k (b2 (b = hd k)) (by first | assumption | omega | exact ⟨by omega, by omega⟩) (by first | assumption | omega | exact ⟨by omega, by omega⟩) (by first | assumption | omega | exact ⟨by omega, by omega⟩) (by first | assumption | omega | exact ⟨by omega, by omega⟩) (b2_01 _)) gX3_firstClash_X3_collides 2 kf_X3_collides ⟨rfl, rfl⟩ ⟨by decide, by decide⟩ dX3_firstClash_38 rfl 0 rfl rfl rfl rfl ⟨Nat.zero_le _, Nat.zero_le _⟩ [0, 1, 2, 3, 4, 5, 6] rfl (by decide) [0, 1] rfl (Nat.le_of_ble_eq_true rfl) ?_
          refine r_if_eq E 46 dX3_firstClash_41 (by decide) (by rcases plC_01 hA1 hU1 (a := k) (al := b2 (b = hd k)) with z | z <;> (rw [z]; exact ⟨by decide, by decide⟩)) (fun c_41 => ?_) (fun c_41 => ?_)
          · refine r_aload_n E 0 dX3_firstClash_46 rfl rfl ?_
            refine r_get E 3 0 4 dX3_firstClash_47 in_X3_firstClash_X3 lk_X3_firstClash_25 rfl rfl (by decide) rfl ?_
            refine r_iload_n E 2 dX3_firstClash_50 rfl rfl ?_
            refine r_iald E (i := k) 5 0 dX3_firstClash_51 rfl rfl (by decide) ⟨by omega, by omega⟩ ?_
            have f_2 := hh3 k (by omega) (by omega)
            refine r_istore_n E [(1, .int (iJ (hd k))), (0, .ref p0), (2, .int (iJ (k)))] dX3_firstClash_52 rfl (by decide) rfl ?_
            refine r_iinc E (k := 2) [(2, .int (iJ ((k + 1)))), (1, .int (iJ (hd k))), (0, .ref p0)] dX3_firstClash_53 rfl (by decide) rfl ?_
            refine r_goto E 13 dX3_firstClash_56 (by decide) ?_
            refine r_lv [2, 1, 0] [(0, .ref p0), (1, .int (iJ (hd k))), (2, .int (iJ ((k + 1))))] rfl ?_
            exact ih13 (k + 1) (hd k) ⟨by omega, by omega⟩ (by omega) (by
                  rw [← hs, show (L - k).toNat = (L - (k + 1)).toNat + 1 by omega]
                  show _ = if plC L cA cU k (b2 (b = hd k)) = 0 then _ else _
                  rw [if_pos c_41]) (by omega)
          · refine r_iload_n E 2 dX3_firstClash_44 rfl rfl ?_
            exact r_retP E hr dX3_firstClash_45 (by
                  rw [← hs, show (L - k).toNat = (L - (k + 1)).toNat + 1 by omega]
                  show _ = if plC L cA cU k (b2 (b = hd k)) = 0 then _ else _
                  rw [if_neg c_41]) hQ
        · refine r_iconst E 1 rfl dX3_firstClash_33 ?_
          refine r_goto E 38 dX3_firstClash_34 (by decide) ?_
          refine r_top (b := b2 (b = hd k)) (by first | exact (b2_t (by omega)).symm | exact (b2_f (by omega)).symm) ?_
          refine r_vP E (st := []) (c_X3_collides l D p0 p1 p2 p3 p4 p5 p6 cI cZ L ow cA cU hd fw k (b2 (b = hd k)) (by first | assumption | omega | exact ⟨by omega, by omega⟩) (by first | assumption | omega | exact ⟨by omega, by omega⟩) (by first | assumption | omega | exact ⟨by omega, by omega⟩) (by first | assumption | omega | exact ⟨by omega, by omega⟩) (b2_01 _)) gX3_firstClash_X3_collides 2 kf_X3_collides ⟨rfl, rfl⟩ ⟨by decide, by decide⟩ dX3_firstClash_38 rfl 0 rfl rfl rfl rfl ⟨Nat.zero_le _, Nat.zero_le _⟩ [0, 1, 2, 3, 4, 5, 6] rfl (by decide) [0, 1] rfl (Nat.le_of_ble_eq_true rfl) ?_
          refine r_if_eq E 46 dX3_firstClash_41 (by decide) (by rcases plC_01 hA1 hU1 (a := k) (al := b2 (b = hd k)) with z | z <;> (rw [z]; exact ⟨by decide, by decide⟩)) (fun c_41 => ?_) (fun c_41 => ?_)
          · refine r_aload_n E 0 dX3_firstClash_46 rfl rfl ?_
            refine r_get E 3 0 4 dX3_firstClash_47 in_X3_firstClash_X3 lk_X3_firstClash_25 rfl rfl (by decide) rfl ?_
            refine r_iload_n E 2 dX3_firstClash_50 rfl rfl ?_
            refine r_iald E (i := k) 5 0 dX3_firstClash_51 rfl rfl (by decide) ⟨by omega, by omega⟩ ?_
            have f_3 := hh3 k (by omega) (by omega)
            refine r_istore_n E [(1, .int (iJ (hd k))), (0, .ref p0), (2, .int (iJ (k)))] dX3_firstClash_52 rfl (by decide) rfl ?_
            refine r_iinc E (k := 2) [(2, .int (iJ ((k + 1)))), (1, .int (iJ (hd k))), (0, .ref p0)] dX3_firstClash_53 rfl (by decide) rfl ?_
            refine r_goto E 13 dX3_firstClash_56 (by decide) ?_
            refine r_lv [2, 1, 0] [(0, .ref p0), (1, .int (iJ (hd k))), (2, .int (iJ ((k + 1))))] rfl ?_
            exact ih13 (k + 1) (hd k) ⟨by omega, by omega⟩ (by omega) (by
                  rw [← hs, show (L - k).toNat = (L - (k + 1)).toNat + 1 by omega]
                  show _ = if plC L cA cU k (b2 (b = hd k)) = 0 then _ else _
                  rw [if_pos c_41]) (by omega)
          · refine r_iload_n E 2 dX3_firstClash_44 rfl rfl ?_
            exact r_retP E hr dX3_firstClash_45 (by
                  rw [← hs, show (L - k).toNat = (L - (k + 1)).toNat + 1 by omega]
                  show _ = if plC L cA cU k (b2 (b = hd k)) = 0 then _ else _
                  rw [if_neg c_41]) hQ
  refine r_lv [2, 1, 0] [(0, .ref p0), (1, .int (iJ (haA L hd (L - 1)))), (2, .int (iJ (0)))] rfl ?_
  exact loop_13 _ 0 (haA L hd (L - 1)) ⟨by omega, by omega⟩ (by
        unfold haA; split
        · exact hh3 _ (by omega) (by omega)
        · omega) (by rw [Int.sub_zero]; rfl) (Nat.lt_succ_self _)
