theorem kf_X7_forces : KF yX7_forces 1 wsX7_forces cX7_forces 4 (some .int) := ⟨rfl, by decide +kernel, by decide +kernel, by decide +kernel⟩
def rm_X7_forces : Room := { frames := 4, cells := 0, slots := 0, locals := 85 }
set_option maxHeartbeats 1000000 in
set_option maxRecDepth 100000 in
theorem c_X7_forces (l : Launch) (D : va_G) (m0 : Nat) (ms : Nat) (mh : Nat) (mn : Nat) (mp : Nat) (ml : Nat) (mm : Nat) (md : Nat) (mw : Nat) (mt : Nat) (mb : Nat) (mi : Nat) (mg : Nat) (cI : ClassId) (kp : Int) (sv : Int) (pn : Int) (rf : Int) (tl : Int) (s : Int → Int) (a : Int) (ha : 0 ≤ a ∧ a ≤ 31) (hca : 0 ≤ s (2 + a) ∧ s (2 + a) ≤ 24) : MP l yX7_forces wsX7_forces rm_X7_forces D vwCl [.ref m0, .int (iJ (a))] [(m0, .inr (6, [.ref ms, .ref mh, .int (iJ (kp)), .ref mn, .int (iJ (sv)), .ref mp, .int (iJ (pn)), .int (iJ (rf)), .ref ml, .ref mm, .ref md, .ref mw, .ref mt, .int (iJ (tl)), .ref mb, .ref mi, .ref mg])), (ms, cJ cI 34 (s))] [(cI, .int)] (mFs (s (2 + a))) := by
  refine MP.mk (cc := cX7_forces) (maxL := 4) (ret := (some .int)) (by decide) rfl (Nat.le_of_ble_eq_true rfl) rfl RX7 rfl ?_
  intro p_ e_ s_ m_ ar_ bw_ mt_ cd_ Q_ E hr hQ
  have hB := mBl_in (c := s (2 + a))
  refine r_iconst E 0 rfl dX7_forces_0 ?_
  refine r_istore_n E [(2, .int (iJ (0))), (0, .ref m0), (1, .int (iJ (a)))] dX7_forces_1 rfl (by decide) rfl ?_
  refine r_iconst E 0 rfl dX7_forces_2 ?_
  refine r_istore_n E [(3, .int (iJ (0))), (2, .int (iJ (0))), (0, .ref m0), (1, .int (iJ (a)))] dX7_forces_3 rfl (by decide) rfl ?_
  have loop_4 : ∀ (N : Nat) (k : Int) (x : Int), (0 ≤ k ∧ k ≤ mBl (s (2 + a))) → (x = sm (mFo (s (2 + a))) k) → (mBl (s (2 + a)) - k).toNat < N → GG p_ l e_ rm_X7_forces s_ m_ ar_ bw_ mt_ cd_ D vwCl (fun _ => True) (fun _ => False) s_.heap 4 0 0 Q_ [(m0, .inr (6, [.ref ms, .ref mh, .int (iJ (kp)), .ref mn, .int (iJ (sv)), .ref mp, .int (iJ (pn)), .int (iJ (rf)), .ref ml, .ref mm, .ref md, .ref mw, .ref mt, .int (iJ (tl)), .ref mb, .ref mi, .ref mg])), (ms, cJ cI 34 (s))] [(0, .ref m0), (1, .int (iJ (a))), (2, .int (iJ (x))), (3, .int (iJ (k)))] 4 [] := by
    intro N; induction N with
    | zero => intro k x hk hx2 hN; exact absurd hN (Nat.not_lt_zero _)
    | succ N ih4 =>
      intro k x hk hx2 hN
      refine r_iload_n E 3 dX7_forces_4 rfl rfl ?_
      refine r_aload_n E 0 dX7_forces_5 rfl rfl ?_
      refine r_iload_n E 1 dX7_forces_6 rfl rfl ?_
      refine r_vP E (st := [.int (iJ (k))]) (c_X7_blows l D m0 ms mh mn mp ml mm md mw mt mb mi mg cI kp sv pn rf tl s a (by first | assumption | omega | exact ⟨by omega, by omega⟩) (by first | assumption | omega | exact ⟨by omega, by omega⟩)) gX7_forces_X7_blows 1 kf_X7_blows ⟨rfl, rfl⟩ ⟨by decide, by decide⟩ dX7_forces_7 rfl 0 rfl rfl rfl rfl ⟨Nat.zero_le _, Nat.zero_le _⟩ [0, 1] rfl (by decide) [0] rfl (Nat.le_of_ble_eq_true rfl) ?_
      refine r_icmp_ge E 28 dX7_forces_10 (by decide) ⟨by omega, by omega⟩ ⟨by omega, by omega⟩ (fun c_10 => ?_) (fun c_10 => ?_)
      · refine r_iload_n E 2 dX7_forces_28 rfl rfl ?_
        exact r_retP E hr dX7_forces_29 (by
              have e : k = mBl (s (2 + a)) := by omega
              rw [hx2, e]; try rfl) hQ
      · refine r_iload_n E 2 dX7_forces_13 rfl rfl ?_
        refine r_aload_n E 0 dX7_forces_14 rfl rfl ?_
        refine r_iload_n E 1 dX7_forces_15 rfl rfl ?_
        refine r_iload_n E 3 dX7_forces_16 rfl rfl ?_
        refine r_vP E (st := [.int (iJ (x))]) (c_X7_force l D m0 ms mh mn mp ml mm md mw mt mb mi mg cI kp sv pn rf tl s a k (by first | assumption | omega | exact ⟨by omega, by omega⟩) (by first | assumption | omega | exact ⟨by omega, by omega⟩) (by first | assumption | omega | exact ⟨by omega, by omega⟩)) gX7_forces_X7_force 2 kf_X7_force ⟨rfl, rfl⟩ ⟨by decide, by decide⟩ dX7_forces_17 rfl 0 rfl rfl rfl rfl ⟨Nat.zero_le _, Nat.zero_le _⟩ [0, 1] rfl (by decide) [0] rfl (Nat.le_of_ble_eq_true rfl) ?_
        refine r_iadd E dX7_forces_20 ?_
        refine r_istore_n E [(2, .int (iJ ((x + (mFo (s (2 + a)) k))))), (0, .ref m0), (1, .int (iJ (a))), (3, .int (iJ (k)))] dX7_forces_21 rfl (by decide) rfl ?_
        refine r_iinc E (k := 3) [(3, .int (iJ ((k + 1)))), (2, .int (iJ ((x + (mFo (s (2 + a)) k))))), (0, .ref m0), (1, .int (iJ (a)))] dX7_forces_22 rfl (by decide) rfl ?_
        refine r_goto E 4 dX7_forces_25 (by decide) ?_
        refine r_lv [2, 3, 1, 0] [(0, .ref m0), (1, .int (iJ (a))), (2, .int (iJ ((x + (mFo (s (2 + a)) k))))), (3, .int (iJ ((k + 1))))] rfl ?_
        exact ih4 (k + 1) (x + (mFo (s (2 + a)) k)) ⟨by omega, by omega⟩ (by rw [sm_s _ (by omega), hx2]) (by omega)
  refine r_lv [2, 3, 1, 0] [(0, .ref m0), (1, .int (iJ (a))), (2, .int (iJ (0))), (3, .int (iJ (0)))] rfl ?_
  exact loop_4 _ 0 0 ⟨by omega, by omega⟩ (sm_0 _).symm (Nat.lt_succ_self _)
theorem kf_X7_ofHand : KF yX7_ofHand 1 wsX7_ofHand cX7_ofHand 4 (some .int) := ⟨rfl, by decide +kernel, by decide +kernel, by decide +kernel⟩
def rm_X7_ofHand : Room := { frames := 2, cells := 0, slots := 0, locals := 42 }
set_option maxRecDepth 20000 in
theorem in_X7_ofHand_X7 : ∀ w ∈ u_ws RX7 TX7 17, w ∈ wsX7_ofHand := by decide +kernel
set_option maxRecDepth 20000 in
theorem lk_X7_ofHand_7 : Cond.fieldLink RX7 7 (TX7 0).1 (TX7 0).2.1 (TX7 0).2.2.1 ∈ wsX7_ofHand := by decide +kernel
set_option maxHeartbeats 1000000 in
set_option maxRecDepth 100000 in
theorem c_X7_ofHand (l : Launch) (D : va_G) (m0 : Nat) (ms : Nat) (mh : Nat) (mn : Nat) (mp : Nat) (ml : Nat) (mm : Nat) (md : Nat) (mw : Nat) (mt : Nat) (mb : Nat) (mi : Nat) (mg : Nat) (cI : ClassId) (kp : Int) (sv : Int) (pn : Int) (rf : Int) (tl : Int) (s : Int → Int) (a : Int) (hs0 : 0 ≤ s 0 ∧ s 0 ≤ 32) (hsv : ∀ j : Int, 0 ≤ j → j < s 0 → 0 ≤ s (2 + j) ∧ s (2 + j) ≤ 24) (ha : jb a) : MP l yX7_ofHand wsX7_ofHand rm_X7_ofHand D vwCl [.ref m0, .int (iJ (a))] [(m0, .inr (6, [.ref ms, .ref mh, .int (iJ (kp)), .ref mn, .int (iJ (sv)), .ref mp, .int (iJ (pn)), .int (iJ (rf)), .ref ml, .ref mm, .ref md, .ref mw, .ref mt, .int (iJ (tl)), .ref mb, .ref mi, .ref mg])), (ms, cJ cI 34 (s))] [(cI, .int)] (sm (fun j => b2 (¬ s (2 + j) = 0 ∧ (s (2 + j) - 1) % 3 = a)) (s 0)) := by
  refine MP.mk (cc := cX7_ofHand) (maxL := 4) (ret := (some .int)) (by decide) rfl (Nat.le_of_ble_eq_true rfl) rfl RX7 rfl ?_
  intro p_ e_ s_ m_ ar_ bw_ mt_ cd_ Q_ E hr hQ
  refine r_iconst E 0 rfl dX7_ofHand_0 ?_
  refine r_istore_n E [(2, .int (iJ (0))), (0, .ref m0), (1, .int (iJ (a)))] dX7_ofHand_1 rfl (by decide) rfl ?_
  refine r_iconst E 0 rfl dX7_ofHand_2 ?_
  refine r_istore_n E [(3, .int (iJ (0))), (2, .int (iJ (0))), (0, .ref m0), (1, .int (iJ (a)))] dX7_ofHand_3 rfl (by decide) rfl ?_
  have loop_4 : ∀ (N : Nat) (k : Int) (x : Int), (0 ≤ k ∧ k ≤ s 0) → (x = sm (fun j => b2 (¬ s (2 + j) = 0 ∧ (s (2 + j) - 1) % 3 = a)) k) → (s 0 - k).toNat < N → GG p_ l e_ rm_X7_ofHand s_ m_ ar_ bw_ mt_ cd_ D vwCl (fun _ => True) (fun _ => False) s_.heap 4 0 0 Q_ [(m0, .inr (6, [.ref ms, .ref mh, .int (iJ (kp)), .ref mn, .int (iJ (sv)), .ref mp, .int (iJ (pn)), .int (iJ (rf)), .ref ml, .ref mm, .ref md, .ref mw, .ref mt, .int (iJ (tl)), .ref mb, .ref mi, .ref mg])), (ms, cJ cI 34 (s))] [(0, .ref m0), (1, .int (iJ (a))), (2, .int (iJ (x))), (3, .int (iJ (k)))] 4 [] := by
    intro N; induction N with
    | zero => intro k x hk hx2 hN; exact absurd hN (Nat.not_lt_zero _)
    | succ N ih4 =>
      intro k x hk hx2 hN
      refine r_iload_n E 3 dX7_ofHand_4 rfl rfl ?_
      refine r_aload_n E 0 dX7_ofHand_5 rfl rfl ?_
      refine r_get E 6 0 0 dX7_ofHand_6 in_X7_ofHand_X7 lk_X7_ofHand_7 rfl rfl (by decide) rfl ?_
      refine r_iconst E 0 rfl dX7_ofHand_9 ?_
      refine r_iald E (i := 0) 1 0 dX7_ofHand_10 rfl rfl (by decide) ⟨by omega, by omega⟩ ?_
      refine r_icmp_ge E 45 dX7_ofHand_11 (by decide) ⟨by omega, by omega⟩ ⟨by omega, by omega⟩ (fun c_11 => ?_) (fun c_11 => ?_)
      · refine r_iload_n E 2 dX7_ofHand_45 rfl rfl ?_
        exact r_retP E hr dX7_ofHand_46 (by
              have e : k = s 0 := by omega
              rw [hx2, e]; try rfl) hQ
      · have f_c := hsv k (by omega) (by omega)
        refine r_iload_n E 2 dX7_ofHand_14 rfl rfl ?_
        refine r_aload_n E 0 dX7_ofHand_15 rfl rfl ?_
        refine r_iload_n E 3 dX7_ofHand_16 rfl rfl ?_
        refine r_vP E (st := [.int (iJ (x))]) (c_X7_isStroke l D m0 ms mh mn mp ml mm md mw mt mb mi mg cI kp sv pn rf tl s k (by first | assumption | omega | exact ⟨by omega, by omega⟩) (by first | assumption | omega | exact ⟨by omega, by omega⟩)) gX7_ofHand_X7_isStroke 1 kf_X7_isStroke ⟨rfl, rfl⟩ ⟨by decide, by decide⟩ dX7_ofHand_17 rfl 0 rfl rfl rfl rfl ⟨Nat.zero_le _, Nat.zero_le _⟩ [0, 1] rfl (by decide) [0] rfl (Nat.le_of_ble_eq_true rfl) ?_
        refine r_ifeq_n E 36 dX7_ofHand_20 (by decide) (fun c_20 => ?_) (fun c_20 => ?_)
        · refine r_iconst E 0 rfl dX7_ofHand_36 ?_
          refine r_iadd E dX7_ofHand_37 ?_
          refine r_istore_n E [(2, .int (iJ ((x + 0)))), (0, .ref m0), (1, .int (iJ (a))), (3, .int (iJ (k)))] dX7_ofHand_38 rfl (by decide) rfl ?_
          refine r_iinc E (k := 3) [(3, .int (iJ ((k + 1)))), (2, .int (iJ ((x + 0)))), (0, .ref m0), (1, .int (iJ (a)))] dX7_ofHand_39 rfl (by decide) rfl ?_
          refine r_goto E 4 dX7_ofHand_42 (by decide) ?_
          refine r_lv [2, 3, 1, 0] [(0, .ref m0), (1, .int (iJ (a))), (2, .int (iJ ((x + 0)))), (3, .int (iJ ((k + 1))))] rfl ?_
          exact ih4 (k + 1) (x + 0) ⟨by omega, by omega⟩ (by rw [sm_s _ (by omega), hx2]; first | (simp [b2, c_20, c_29]; done) | simp [b2, c_20]) (by omega)
        · refine r_aload_n E 0 dX7_ofHand_23 rfl rfl ?_
          refine r_iload_n E 3 dX7_ofHand_24 rfl rfl ?_
          refine r_vP E (st := [.int (iJ (x))]) (c_X7_hand l D m0 ms mh mn mp ml mm md mw mt mb mi mg cI kp sv pn rf tl s k (by first | assumption | omega | exact ⟨by omega, by omega⟩) (by first | assumption | omega | exact ⟨by omega, by omega⟩)) gX7_ofHand_X7_hand 1 kf_X7_hand ⟨rfl, rfl⟩ ⟨by decide, by decide⟩ dX7_ofHand_25 rfl 0 rfl rfl rfl rfl ⟨Nat.zero_le _, Nat.zero_le _⟩ [0, 1] rfl (by decide) [0] rfl (Nat.le_of_ble_eq_true rfl) ?_
          refine r_iload_n E 1 dX7_ofHand_28 rfl rfl ?_
          refine r_icmp_ne E 36 dX7_ofHand_29 (by decide) ⟨by omega, by omega⟩ ha (fun c_29 => ?_) (fun c_29 => ?_)
          · refine r_iconst E 0 rfl dX7_ofHand_36 ?_
            refine r_iadd E dX7_ofHand_37 ?_
            refine r_istore_n E [(2, .int (iJ ((x + 0)))), (0, .ref m0), (1, .int (iJ (a))), (3, .int (iJ (k)))] dX7_ofHand_38 rfl (by decide) rfl ?_
            refine r_iinc E (k := 3) [(3, .int (iJ ((k + 1)))), (2, .int (iJ ((x + 0)))), (0, .ref m0), (1, .int (iJ (a)))] dX7_ofHand_39 rfl (by decide) rfl ?_
            refine r_goto E 4 dX7_ofHand_42 (by decide) ?_
            refine r_lv [2, 3, 1, 0] [(0, .ref m0), (1, .int (iJ (a))), (2, .int (iJ ((x + 0)))), (3, .int (iJ ((k + 1))))] rfl ?_
            exact ih4 (k + 1) (x + 0) ⟨by omega, by omega⟩ (by rw [sm_s _ (by omega), hx2]; first | (simp [b2, c_20, c_29]; done) | simp [b2, c_20]) (by omega)
          · refine r_iconst E 1 rfl dX7_ofHand_32 ?_
            refine r_goto E 37 dX7_ofHand_33 (by decide) ?_
            refine r_iadd E dX7_ofHand_37 ?_
            refine r_istore_n E [(2, .int (iJ ((x + 1)))), (0, .ref m0), (1, .int (iJ (a))), (3, .int (iJ (k)))] dX7_ofHand_38 rfl (by decide) rfl ?_
            refine r_iinc E (k := 3) [(3, .int (iJ ((k + 1)))), (2, .int (iJ ((x + 1)))), (0, .ref m0), (1, .int (iJ (a)))] dX7_ofHand_39 rfl (by decide) rfl ?_
            refine r_goto E 4 dX7_ofHand_42 (by decide) ?_
            refine r_lv [2, 3, 1, 0] [(0, .ref m0), (1, .int (iJ (a))), (2, .int (iJ ((x + 1)))), (3, .int (iJ ((k + 1))))] rfl ?_
            exact ih4 (k + 1) (x + 1) ⟨by omega, by omega⟩ (by rw [sm_s _ (by omega), hx2]; first | (simp [b2, c_20, c_29]; done) | simp [b2, c_20]) (by omega)
  refine r_lv [2, 3, 1, 0] [(0, .ref m0), (1, .int (iJ (a))), (2, .int (iJ (0))), (3, .int (iJ (0)))] rfl ?_
  exact loop_4 _ 0 0 ⟨by omega, by omega⟩ (sm_0 _).symm (Nat.lt_succ_self _)
theorem kf_X7_longest : KF yX7_longest 0 wsX7_longest cX7_longest 4 (some .int) := ⟨rfl, by decide +kernel, by decide +kernel, by decide +kernel⟩
def rm_X7_longest : Room := { frames := 2, cells := 0, slots := 0, locals := 42 }
set_option maxRecDepth 20000 in
theorem in_X7_longest_X7 : ∀ w ∈ u_ws RX7 TX7 17, w ∈ wsX7_longest := by decide +kernel
set_option maxRecDepth 20000 in
theorem lk_X7_longest_7 : Cond.fieldLink RX7 7 (TX7 0).1 (TX7 0).2.1 (TX7 0).2.2.1 ∈ wsX7_longest := by decide +kernel
set_option maxHeartbeats 1000000 in
set_option maxRecDepth 100000 in
theorem c_X7_longest (l : Launch) (D : va_G) (m0 : Nat) (ms : Nat) (mh : Nat) (mn : Nat) (mp : Nat) (ml : Nat) (mm : Nat) (md : Nat) (mw : Nat) (mt : Nat) (mb : Nat) (mi : Nat) (mg : Nat) (cI : ClassId) (kp : Int) (sv : Int) (pn : Int) (rf : Int) (tl : Int) (s : Int → Int) (hs0 : 0 ≤ s 0 ∧ s 0 ≤ 32) (hsv : ∀ j : Int, 0 ≤ j → j < s 0 → 0 ≤ s (2 + j) ∧ s (2 + j) ≤ 24) : MP l yX7_longest wsX7_longest rm_X7_longest D vwCl [.ref m0] [(m0, .inr (6, [.ref ms, .ref mh, .int (iJ (kp)), .ref mn, .int (iJ (sv)), .ref mp, .int (iJ (pn)), .int (iJ (rf)), .ref ml, .ref mm, .ref md, .ref mw, .ref mt, .int (iJ (tl)), .ref mb, .ref mi, .ref mg])), (ms, cJ cI 34 (s))] [(cI, .int)] (lmL s (s 0)) := by
  refine MP.mk (cc := cX7_longest) (maxL := 4) (ret := (some .int)) (by decide) rfl (Nat.le_of_ble_eq_true rfl) rfl RX7 rfl ?_
  intro p_ e_ s_ m_ ar_ bw_ mt_ cd_ Q_ E hr hQ
  refine r_iconst E 0 rfl dX7_longest_0 ?_
  refine r_istore_n E [(1, .int (iJ (0))), (0, .ref m0)] dX7_longest_1 rfl (by decide) rfl ?_
  refine r_iconst E 0 rfl dX7_longest_2 ?_
  refine r_istore_n E [(2, .int (iJ (0))), (1, .int (iJ (0))), (0, .ref m0)] dX7_longest_3 rfl (by decide) rfl ?_
  refine r_iconst E 0 rfl dX7_longest_4 ?_
  refine r_istore_n E [(3, .int (iJ (0))), (2, .int (iJ (0))), (1, .int (iJ (0))), (0, .ref m0)] dX7_longest_5 rfl (by decide) rfl ?_
  have loop_6 : ∀ (N : Nat) (k : Int) (lo : Int) (ro : Int), (0 ≤ k ∧ k ≤ s 0) → (lo = lmL s k ∧ 0 ≤ lo ∧ lo ≤ k) → (ro = lmR s k ∧ 0 ≤ ro ∧ ro ≤ k) → (s 0 - k).toNat < N → GG p_ l e_ rm_X7_longest s_ m_ ar_ bw_ mt_ cd_ D vwCl (fun _ => True) (fun _ => False) s_.heap 4 0 0 Q_ [(m0, .inr (6, [.ref ms, .ref mh, .int (iJ (kp)), .ref mn, .int (iJ (sv)), .ref mp, .int (iJ (pn)), .int (iJ (rf)), .ref ml, .ref mm, .ref md, .ref mw, .ref mt, .int (iJ (tl)), .ref mb, .ref mi, .ref mg])), (ms, cJ cI 34 (s))] [(0, .ref m0), (1, .int (iJ (lo))), (2, .int (iJ (ro))), (3, .int (iJ (k)))] 6 [] := by
    intro N; induction N with
    | zero => intro k lo ro hk hl1 hl2 hN; exact absurd hN (Nat.not_lt_zero _)
    | succ N ih6 =>
      intro k lo ro hk hl1 hl2 hN
      refine r_iload_n E 3 dX7_longest_6 rfl rfl ?_
      refine r_aload_n E 0 dX7_longest_7 rfl rfl ?_
      refine r_get E 6 0 0 dX7_longest_8 in_X7_longest_X7 lk_X7_longest_7 rfl rfl (by decide) rfl ?_
      refine r_iconst E 0 rfl dX7_longest_11 ?_
      refine r_iald E (i := 0) 1 0 dX7_longest_12 rfl rfl (by decide) ⟨by omega, by omega⟩ ?_
      refine r_icmp_ge E 49 dX7_longest_13 (by decide) ⟨by omega, by omega⟩ ⟨by omega, by omega⟩ (fun c_13 => ?_) (fun c_13 => ?_)
      · refine r_iload_n E 1 dX7_longest_49 rfl rfl ?_
        exact r_retP E hr dX7_longest_50 (by
              have e : k = s 0 := by omega
              rw [hl1.1, e]) hQ
      · have f_c := hsv k (by omega) (by omega)
        refine r_aload_n E 0 dX7_longest_16 rfl rfl ?_
        refine r_iload_n E 3 dX7_longest_17 rfl rfl ?_
        refine r_vP E (st := []) (c_X7_isStroke l D m0 ms mh mn mp ml mm md mw mt mb mi mg cI kp sv pn rf tl s k (by first | assumption | omega | exact ⟨by omega, by omega⟩) (by first | assumption | omega | exact ⟨by omega, by omega⟩)) gX7_longest_X7_isStroke 1 kf_X7_isStroke ⟨rfl, rfl⟩ ⟨by decide, by decide⟩ dX7_longest_18 rfl 0 rfl rfl rfl rfl ⟨Nat.zero_le _, Nat.zero_le _⟩ [0, 1] rfl (by decide) [0] rfl (Nat.le_of_ble_eq_true rfl) ?_
        refine r_ifeq_n E 30 dX7_longest_21 (by decide) (fun c_21 => ?_) (fun c_21 => ?_)
        · refine r_iconst E 0 rfl dX7_longest_30 ?_
          refine r_istore_n E [(2, .int (iJ (0))), (0, .ref m0), (1, .int (iJ (lo))), (3, .int (iJ (k)))] dX7_longest_31 rfl (by decide) rfl ?_
          refine r_iload_n E 0 dX7_longest_32 rfl rfl ?_
          refine r_iload_n E 2 dX7_longest_33 rfl rfl ?_
          refine r_icmp_le E 41 dX7_longest_34 (by decide) ⟨by omega, by omega⟩ ⟨by omega, by omega⟩ (fun c_34 => ?_) (fun c_34 => ?_)
          · refine r_iload_n E 2 dX7_longest_41 rfl rfl ?_
            refine r_istore_n E [(1, .int (iJ (lo))), (2, .int (iJ (0))), (0, .ref m0), (3, .int (iJ (k)))] dX7_longest_42 rfl (by decide) rfl ?_
            refine r_iinc E (k := 3) [(3, .int (iJ ((k + 1)))), (1, .int (iJ (lo))), (2, .int (iJ (0))), (0, .ref m0)] dX7_longest_43 rfl (by decide) rfl ?_
            refine r_goto E 6 dX7_longest_46 (by decide) ?_
            refine r_lv [3, 1, 2, 0] [(0, .ref m0), (1, .int (iJ (lo))), (2, .int (iJ (0))), (3, .int (iJ ((k + 1))))] rfl ?_
            exact ih6 (k + 1) lo 0 ⟨by omega, by omega⟩ (by
                  have e := lmL_s s (k := k) (by omega)
                  rw [lmR_s s (by omega)] at e
                  refine ⟨?_, by omega, by omega⟩
                  rw [e, ← hl1.1, ← hl2.1]; first | rw [if_pos c_21] | rw [if_neg c_21]
                  first | (rw [if_pos (by omega)]; done) | (rw [if_neg (by omega)]; done)) (by
                  have e := lmR_s s (k := k) (by omega)
                  refine ⟨?_, by omega, by omega⟩
                  rw [e, ← hl2.1]; first | rw [if_pos c_21] | rw [if_neg c_21]) (by omega)
          · refine r_iload_n E 0 dX7_longest_37 rfl rfl ?_
            refine r_goto E 42 dX7_longest_38 (by decide) ?_
            refine r_istore_n E [(1, .int (iJ (0))), (2, .int (iJ (0))), (0, .ref m0), (3, .int (iJ (k)))] dX7_longest_42 rfl (by decide) rfl ?_
            refine r_iinc E (k := 3) [(3, .int (iJ ((k + 1)))), (1, .int (iJ (0))), (2, .int (iJ (0))), (0, .ref m0)] dX7_longest_43 rfl (by decide) rfl ?_
            refine r_goto E 6 dX7_longest_46 (by decide) ?_
            refine r_lv [3, 1, 2, 0] [(0, .ref m0), (1, .int (iJ (0))), (2, .int (iJ (0))), (3, .int (iJ ((k + 1))))] rfl ?_
            exact ih6 (k + 1) 0 0 ⟨by omega, by omega⟩ (by
                  have e := lmL_s s (k := k) (by omega)
                  rw [lmR_s s (by omega)] at e
                  refine ⟨?_, by omega, by omega⟩
                  rw [e, ← hl1.1, ← hl2.1]; first | rw [if_pos c_21] | rw [if_neg c_21]
                  first | (rw [if_pos (by omega)]; done) | (rw [if_neg (by omega)]; done)) (by
                  have e := lmR_s s (k := k) (by omega)
                  refine ⟨?_, by omega, by omega⟩
                  rw [e, ← hl2.1]; first | rw [if_pos c_21] | rw [if_neg c_21]) (by omega)
        · refine r_iload_n E 2 dX7_longest_24 rfl rfl ?_
          refine r_iconst E 1 rfl dX7_longest_25 ?_
          refine r_iadd E dX7_longest_26 ?_
          refine r_goto E 31 dX7_longest_27 (by decide) ?_
          refine r_istore_n E [(2, .int (iJ ((ro + 1)))), (0, .ref m0), (1, .int (iJ (lo))), (3, .int (iJ (k)))] dX7_longest_31 rfl (by decide) rfl ?_
          refine r_iload_n E 0 dX7_longest_32 rfl rfl ?_
          refine r_iload_n E 2 dX7_longest_33 rfl rfl ?_
          refine r_icmp_le E 41 dX7_longest_34 (by decide) ⟨by omega, by omega⟩ ⟨by omega, by omega⟩ (fun c_34 => ?_) (fun c_34 => ?_)
          · refine r_iload_n E 2 dX7_longest_41 rfl rfl ?_
            refine r_istore_n E [(1, .int (iJ (lo))), (2, .int (iJ ((ro + 1)))), (0, .ref m0), (3, .int (iJ (k)))] dX7_longest_42 rfl (by decide) rfl ?_
            refine r_iinc E (k := 3) [(3, .int (iJ ((k + 1)))), (1, .int (iJ (lo))), (2, .int (iJ ((ro + 1)))), (0, .ref m0)] dX7_longest_43 rfl (by decide) rfl ?_
            refine r_goto E 6 dX7_longest_46 (by decide) ?_
            refine r_lv [3, 1, 2, 0] [(0, .ref m0), (1, .int (iJ (lo))), (2, .int (iJ ((ro + 1)))), (3, .int (iJ ((k + 1))))] rfl ?_
            exact ih6 (k + 1) lo (ro + 1) ⟨by omega, by omega⟩ (by
                  have e := lmL_s s (k := k) (by omega)
                  rw [lmR_s s (by omega)] at e
                  refine ⟨?_, by omega, by omega⟩
                  rw [e, ← hl1.1, ← hl2.1]; first | rw [if_pos c_21] | rw [if_neg c_21]
                  first | (rw [if_pos (by omega)]; done) | (rw [if_neg (by omega)]; done)) (by
                  have e := lmR_s s (k := k) (by omega)
                  refine ⟨?_, by omega, by omega⟩
                  rw [e, ← hl2.1]; first | rw [if_pos c_21] | rw [if_neg c_21]) (by omega)
          · refine r_iload_n E 0 dX7_longest_37 rfl rfl ?_
            refine r_goto E 42 dX7_longest_38 (by decide) ?_
            refine r_istore_n E [(1, .int (iJ ((ro + 1)))), (2, .int (iJ ((ro + 1)))), (0, .ref m0), (3, .int (iJ (k)))] dX7_longest_42 rfl (by decide) rfl ?_
            refine r_iinc E (k := 3) [(3, .int (iJ ((k + 1)))), (1, .int (iJ ((ro + 1)))), (2, .int (iJ ((ro + 1)))), (0, .ref m0)] dX7_longest_43 rfl (by decide) rfl ?_
            refine r_goto E 6 dX7_longest_46 (by decide) ?_
            refine r_lv [3, 1, 2, 0] [(0, .ref m0), (1, .int (iJ ((ro + 1)))), (2, .int (iJ ((ro + 1)))), (3, .int (iJ ((k + 1))))] rfl ?_
            exact ih6 (k + 1) (ro + 1) (ro + 1) ⟨by omega, by omega⟩ (by
                  have e := lmL_s s (k := k) (by omega)
                  rw [lmR_s s (by omega)] at e
                  refine ⟨?_, by omega, by omega⟩
                  rw [e, ← hl1.1, ← hl2.1]; first | rw [if_pos c_21] | rw [if_neg c_21]
                  first | (rw [if_pos (by omega)]; done) | (rw [if_neg (by omega)]; done)) (by
                  have e := lmR_s s (k := k) (by omega)
                  refine ⟨?_, by omega, by omega⟩
                  rw [e, ← hl2.1]; first | rw [if_pos c_21] | rw [if_neg c_21]) (by omega)
  refine r_lv [3, 2, 1, 0] [(0, .ref m0), (1, .int (iJ (0))), (2, .int (iJ (0))), (3, .int (iJ (0)))] rfl ?_
  exact loop_6 _ 0 0 0 ⟨by omega, by omega⟩ ⟨rfl, by omega, by omega⟩ ⟨rfl, by omega, by omega⟩ (Nat.lt_succ_self _)
theorem kf_X7_heard : KF yX7_heard 1 wsX7_heard cX7_heard 6 (some .int) := ⟨rfl, by decide +kernel, by decide +kernel, by decide +kernel⟩
def rm_X7_heard : Room := { frames := 4, cells := 0, slots := 0, locals := 85 }
set_option maxRecDepth 20000 in
theorem in_X7_heard_X7 : ∀ w ∈ u_ws RX7 TX7 17, w ∈ wsX7_heard := by decide +kernel
set_option maxRecDepth 20000 in
theorem lk_X7_heard_7 : Cond.fieldLink RX7 7 (TX7 0).1 (TX7 0).2.1 (TX7 0).2.2.1 ∈ wsX7_heard := by decide +kernel
set_option maxHeartbeats 1000000 in
set_option maxRecDepth 100000 in
theorem c_X7_heardBad (l : Launch) (D : va_G) (m0 : Nat) (ms : Nat) (mh : Nat) (mn : Nat) (mp : Nat) (ml : Nat) (mm : Nat) (md : Nat) (mw : Nat) (mt : Nat) (mb : Nat) (mi : Nat) (mg : Nat) (cI : ClassId) (kp : Int) (sv : Int) (pn : Int) (rf : Int) (tl : Int) (s : Int → Int) (t : Int) (hs0 : 0 ≤ s 0 ∧ s 0 ≤ 32) (ht : jb t) (hx : ¬ (-2 ≤ t ∧ t ≤ 4 * s 0)) : MP l yX7_heard wsX7_heard rm_X7_heard D vwCl [.ref m0, .int (iJ (t))] [(m0, .inr (6, [.ref ms, .ref mh, .int (iJ (kp)), .ref mn, .int (iJ (sv)), .ref mp, .int (iJ (pn)), .int (iJ (rf)), .ref ml, .ref mm, .ref md, .ref mw, .ref mt, .int (iJ (tl)), .ref mb, .ref mi, .ref mg])), (ms, cJ cI 34 (s))] [(cI, .int)] (-1) := by
  refine MP.mk (cc := cX7_heard) (maxL := 6) (ret := (some .int)) (by decide) rfl (Nat.le_of_ble_eq_true rfl) rfl RX7 rfl ?_
  intro p_ e_ s_ m_ ar_ bw_ mt_ cd_ Q_ E hr hQ
  refine r_iload_n E 1 dX7_heard_0 rfl rfl ?_
  refine r_bipush E (-2) rfl dX7_heard_1 ?_
  refine r_iconst E 4 rfl dX7_heard_3 ?_
  refine r_aload_n E 0 dX7_heard_4 rfl rfl ?_
  refine r_get E 6 0 0 dX7_heard_5 in_X7_heard_X7 lk_X7_heard_7 rfl rfl (by decide) rfl ?_
  refine r_iconst E 0 rfl dX7_heard_8 ?_
  refine r_iald E (i := 0) 1 0 dX7_heard_9 rfl rfl (by decide) ⟨by omega, by omega⟩ ?_
  refine r_imul E dX7_heard_10 ?_
  refine r_sP E (st := []) (c_X7_in l D t (-2) (4 * (s 0)) (by first | assumption | omega | exact ⟨by omega, by omega⟩) (by first | assumption | omega | exact ⟨by omega, by omega⟩) (by first | assumption | omega | exact ⟨by omega, by omega⟩)) gX7_heard_X7_in 3 kf_X7_in ⟨rfl, rfl⟩ ⟨by decide, by decide⟩ dX7_heard_11 rfl rfl ⟨Nat.zero_le _, Nat.zero_le _⟩ [] rfl (by decide) [] rfl (Nat.le_of_ble_eq_true rfl) ?_
  refine r_ifne_b E 19 dX7_heard_14 (by decide) (fun c_14 => absurd c_14 (by omega)) (fun c_14 => ?_)
  refine r_iconst E (-1) rfl dX7_heard_17 ?_
  exact r_retP E hr dX7_heard_18 rfl hQ
set_option maxHeartbeats 1000000 in
set_option maxRecDepth 100000 in
theorem c_X7_heard (l : Launch) (D : va_G) (m0 : Nat) (ms : Nat) (mh : Nat) (mn : Nat) (mp : Nat) (ml : Nat) (mm : Nat) (md : Nat) (mw : Nat) (mt : Nat) (mb : Nat) (mi : Nat) (mg : Nat) (cI : ClassId) (kp : Int) (sv : Int) (pn : Int) (rf : Int) (tl : Int) (s : Int → Int) (t : Int) (hs0 : 0 ≤ s 0 ∧ s 0 ≤ 32) (hsv : ∀ j : Int, 0 ≤ j → j < s 0 → 0 ≤ s (2 + j) ∧ s (2 + j) ≤ 24) (hx : -2 ≤ t ∧ t ≤ 4 * s 0) : MP l yX7_heard wsX7_heard rm_X7_heard D vwCl [.ref m0, .int (iJ (t))] [(m0, .inr (6, [.ref ms, .ref mh, .int (iJ (kp)), .ref mn, .int (iJ (sv)), .ref mp, .int (iJ (pn)), .int (iJ (rf)), .ref ml, .ref mm, .ref md, .ref mw, .ref mt, .int (iJ (tl)), .ref mb, .ref mi, .ref mg])), (ms, cJ cI 34 (s))] [(cI, .int)] (sm (mHe s t) (3 * s 0)) := by
  refine MP.mk (cc := cX7_heard) (maxL := 6) (ret := (some .int)) (by decide) rfl (Nat.le_of_ble_eq_true rfl) rfl RX7 rfl ?_
  intro p_ e_ s_ m_ ar_ bw_ mt_ cd_ Q_ E hr hQ
  refine r_iload_n E 1 dX7_heard_0 rfl rfl ?_
  refine r_bipush E (-2) rfl dX7_heard_1 ?_
  refine r_iconst E 4 rfl dX7_heard_3 ?_
  refine r_aload_n E 0 dX7_heard_4 rfl rfl ?_
  refine r_get E 6 0 0 dX7_heard_5 in_X7_heard_X7 lk_X7_heard_7 rfl rfl (by decide) rfl ?_
  refine r_iconst E 0 rfl dX7_heard_8 ?_
  refine r_iald E (i := 0) 1 0 dX7_heard_9 rfl rfl (by decide) ⟨by omega, by omega⟩ ?_
  refine r_imul E dX7_heard_10 ?_
  refine r_sP E (st := []) (c_X7_in l D t (-2) (4 * (s 0)) (by first | assumption | omega | exact ⟨by omega, by omega⟩) (by first | assumption | omega | exact ⟨by omega, by omega⟩) (by first | assumption | omega | exact ⟨by omega, by omega⟩)) gX7_heard_X7_in 3 kf_X7_in ⟨rfl, rfl⟩ ⟨by decide, by decide⟩ dX7_heard_11 rfl rfl ⟨Nat.zero_le _, Nat.zero_le _⟩ [] rfl (by decide) [] rfl (Nat.le_of_ble_eq_true rfl) ?_
  refine r_ifne_b E 19 dX7_heard_14 (by decide) (fun c_14 => ?_) (fun c_14 => absurd c_14 (by omega))
  refine r_iconst E 0 rfl dX7_heard_19 ?_
  refine r_istore_n E [(2, .int (iJ (0))), (0, .ref m0), (1, .int (iJ (t)))] dX7_heard_20 rfl (by decide) rfl ?_
  refine r_iconst E 0 rfl dX7_heard_21 ?_
  refine r_istore_n E [(3, .int (iJ (0))), (2, .int (iJ (0))), (0, .ref m0), (1, .int (iJ (t)))] dX7_heard_22 rfl (by decide) rfl ?_
  have loop_23 : ∀ (N : Nat) (k : Int) (x : Int), (0 ≤ k ∧ k ≤ 3 * s 0) → (x = sm (mHe s t) k) → (3 * s 0 - k).toNat < N → GG p_ l e_ rm_X7_heard s_ m_ ar_ bw_ mt_ cd_ D vwCl (fun _ => True) (fun _ => False) s_.heap 6 0 0 Q_ [(m0, .inr (6, [.ref ms, .ref mh, .int (iJ (kp)), .ref mn, .int (iJ (sv)), .ref mp, .int (iJ (pn)), .int (iJ (rf)), .ref ml, .ref mm, .ref md, .ref mw, .ref mt, .int (iJ (tl)), .ref mb, .ref mi, .ref mg])), (ms, cJ cI 34 (s))] [(0, .ref m0), (1, .int (iJ (t))), (2, .int (iJ (x))), (3, .int (iJ (k)))] 23 [] := by
    intro N; induction N with
    | zero => intro k x hk hx2 hN; exact absurd hN (Nat.not_lt_zero _)
    | succ N ih23 =>
      intro k x hk hx2 hN
      refine r_iload_n E 3 dX7_heard_23 rfl rfl ?_
      refine r_iconst E 3 rfl dX7_heard_24 ?_
      refine r_aload_n E 0 dX7_heard_25 rfl rfl ?_
      refine r_get E 6 0 0 dX7_heard_26 in_X7_heard_X7 lk_X7_heard_7 rfl rfl (by decide) rfl ?_
      refine r_iconst E 0 rfl dX7_heard_29 ?_
      refine r_iald E (i := 0) 1 0 dX7_heard_30 rfl rfl (by decide) ⟨by omega, by omega⟩ ?_
      refine r_imul E dX7_heard_31 ?_
      refine r_icmp_ge E 94 dX7_heard_32 (by decide) ⟨by omega, by omega⟩ ⟨by omega, by omega⟩ (fun c_32 => ?_) (fun c_32 => ?_)
      · refine r_iload_n E 2 dX7_heard_94 rfl rfl ?_
        exact r_retP E hr dX7_heard_95 (by
              have e : k = 3 * s 0 := by omega
              rw [hx2, e]; try rfl) hQ
      · have f_c := hsv (k / 3) (by omega) (by omega)
        have f_b := mBl_in (c := s (2 + k / 3))
        have f_t := mTi_in (c := s (2 + k / 3)) (b := k % 3) (by omega)
        refine r_iload_n E 3 dX7_heard_35 rfl rfl ?_
        refine r_iconst E 3 rfl dX7_heard_36 ?_
        refine r_idiv E ⟨by omega, by omega⟩ ⟨by omega, by omega⟩ dX7_heard_37 ?_
        refine r_istore E [(4, .int (iJ ((k / 3)))), (0, .ref m0), (1, .int (iJ (t))), (2, .int (iJ (x))), (3, .int (iJ (k)))] dX7_heard_38 (by decide) rfl ?_
        refine r_iload_n E 4 dX7_heard_40 rfl rfl ?_
        refine r_iconst E 3 rfl dX7_heard_41 ?_
        refine r_irem E ⟨by omega, by omega⟩ ⟨by omega, by omega⟩ dX7_heard_42 ?_
        refine r_istore E [(5, .int (iJ ((k % 3)))), (4, .int (iJ ((k / 3)))), (0, .ref m0), (1, .int (iJ (t))), (2, .int (iJ (x))), (3, .int (iJ (k)))] dX7_heard_43 (by decide) rfl ?_
        refine r_iload_n E 4 dX7_heard_45 rfl rfl ?_
        refine r_iload E 0 dX7_heard_46 rfl ?_
        refine r_aload_n E 2 dX7_heard_48 rfl rfl ?_
        refine r_iload E 1 dX7_heard_49 rfl ?_
        refine r_vP E (st := [.int (iJ ((k % 3))), .int (iJ (x))]) (c_X7_blows l D m0 ms mh mn mp ml mm md mw mt mb mi mg cI kp sv pn rf tl s (k / 3) (by first | assumption | omega | exact ⟨by omega, by omega⟩) (by first | assumption | omega | exact ⟨by omega, by omega⟩)) gX7_heard_X7_blows 1 kf_X7_blows ⟨rfl, rfl⟩ ⟨by decide, by decide⟩ dX7_heard_51 rfl 0 rfl rfl rfl rfl ⟨Nat.zero_le _, Nat.zero_le _⟩ [0, 1] rfl (by decide) [0] rfl (Nat.le_of_ble_eq_true rfl) ?_
        refine r_icmp_ge E 85 dX7_heard_54 (by decide) ⟨by omega, by omega⟩ ⟨by omega, by omega⟩ (fun c_54 => ?_) (fun c_54 => ?_)
        · refine r_iconst E 0 rfl dX7_heard_85 ?_
          refine r_iadd E dX7_heard_86 ?_
          refine r_istore_n E [(2, .int (iJ ((x + 0)))), (5, .int (iJ ((k % 3)))), (4, .int (iJ ((k / 3)))), (0, .ref m0), (1, .int (iJ (t))), (3, .int (iJ (k)))] dX7_heard_87 rfl (by decide) rfl ?_
          refine r_iinc E (k := 5) [(3, .int (iJ ((k + 1)))), (2, .int (iJ ((x + 0)))), (5, .int (iJ ((k % 3)))), (4, .int (iJ ((k / 3)))), (0, .ref m0), (1, .int (iJ (t)))] dX7_heard_88 rfl (by decide) rfl ?_
          refine r_goto E 23 dX7_heard_91 (by decide) ?_
          refine r_lv [4, 5, 1, 0] [(0, .ref m0), (1, .int (iJ (t))), (2, .int (iJ ((x + 0)))), (3, .int (iJ ((k + 1))))] rfl ?_
          exact ih23 (k + 1) (x + 0) ⟨by omega, by omega⟩ (by
                rw [sm_s _ (by omega), hx2]; unfold mHe
                first
                | (rw [if_pos (show _ ∧ _ from ⟨by omega, c_71⟩)]; done)
                | (rw [if_neg (fun z => by first | exact absurd z.1 (by omega) | exact c_71 z.2)])) (by omega)
        · refine r_iconst E 4 rfl dX7_heard_57 ?_
          refine r_iload E 1 dX7_heard_58 rfl ?_
          refine r_imul E dX7_heard_60 ?_
          refine r_aload_n E 2 dX7_heard_61 rfl rfl ?_
          refine r_iload E 1 dX7_heard_62 rfl ?_
          refine r_iload E 0 dX7_heard_64 rfl ?_
          refine r_vP E (st := [.int (iJ ((4 * (k / 3)))), .int (iJ (x))]) (c_X7_tick l D m0 ms mh mn mp ml mm md mw mt mb mi mg cI kp sv pn rf tl s (k / 3) (k % 3) (by first | assumption | omega | exact ⟨by omega, by omega⟩) (by first | assumption | omega | exact ⟨by omega, by omega⟩) (by first | assumption | omega | exact ⟨by omega, by omega⟩)) gX7_heard_X7_tick 2 kf_X7_tick ⟨rfl, rfl⟩ ⟨by decide, by decide⟩ dX7_heard_66 rfl 0 rfl rfl rfl rfl ⟨Nat.zero_le _, Nat.zero_le _⟩ [0, 1] rfl (by decide) [0] rfl (Nat.le_of_ble_eq_true rfl) ?_
          refine r_iadd E dX7_heard_69 ?_
          refine r_iload_n E 3 dX7_heard_70 rfl rfl ?_
          refine r_icmp_ne E 85 dX7_heard_71 (by decide) ⟨by omega, by omega⟩ ⟨by omega, by omega⟩ (fun c_71 => ?_) (fun c_71 => ?_)
          · refine r_iconst E 0 rfl dX7_heard_85 ?_
            refine r_iadd E dX7_heard_86 ?_
            refine r_istore_n E [(2, .int (iJ ((x + 0)))), (5, .int (iJ ((k % 3)))), (4, .int (iJ ((k / 3)))), (0, .ref m0), (1, .int (iJ (t))), (3, .int (iJ (k)))] dX7_heard_87 rfl (by decide) rfl ?_
            refine r_iinc E (k := 5) [(3, .int (iJ ((k + 1)))), (2, .int (iJ ((x + 0)))), (5, .int (iJ ((k % 3)))), (4, .int (iJ ((k / 3)))), (0, .ref m0), (1, .int (iJ (t)))] dX7_heard_88 rfl (by decide) rfl ?_
            refine r_goto E 23 dX7_heard_91 (by decide) ?_
            refine r_lv [4, 5, 1, 0] [(0, .ref m0), (1, .int (iJ (t))), (2, .int (iJ ((x + 0)))), (3, .int (iJ ((k + 1))))] rfl ?_
            exact ih23 (k + 1) (x + 0) ⟨by omega, by omega⟩ (by
                  rw [sm_s _ (by omega), hx2]; unfold mHe
                  first
                  | (rw [if_pos (show _ ∧ _ from ⟨by omega, c_71⟩)]; done)
                  | (rw [if_neg (fun z => by first | exact absurd z.1 (by omega) | exact c_71 z.2)])) (by omega)
          · refine r_aload_n E 2 dX7_heard_74 rfl rfl ?_
            refine r_iload E 1 dX7_heard_75 rfl ?_
            refine r_iload E 0 dX7_heard_77 rfl ?_
            refine r_vP E (st := [.int (iJ (x))]) (c_X7_force l D m0 ms mh mn mp ml mm md mw mt mb mi mg cI kp sv pn rf tl s (k / 3) (k % 3) (by first | assumption | omega | exact ⟨by omega, by omega⟩) (by first | assumption | omega | exact ⟨by omega, by omega⟩) (by first | assumption | omega | exact ⟨by omega, by omega⟩)) gX7_heard_X7_force 2 kf_X7_force ⟨rfl, rfl⟩ ⟨by decide, by decide⟩ dX7_heard_79 rfl 0 rfl rfl rfl rfl ⟨Nat.zero_le _, Nat.zero_le _⟩ [0, 1] rfl (by decide) [0] rfl (Nat.le_of_ble_eq_true rfl) ?_
            refine r_goto E 86 dX7_heard_82 (by decide) ?_
            refine r_iadd E dX7_heard_86 ?_
            refine r_istore_n E [(2, .int (iJ ((x + (mFo (s (2 + (k / 3))) (k % 3)))))), (5, .int (iJ ((k % 3)))), (4, .int (iJ ((k / 3)))), (0, .ref m0), (1, .int (iJ (t))), (3, .int (iJ (k)))] dX7_heard_87 rfl (by decide) rfl ?_
            refine r_iinc E (k := 5) [(3, .int (iJ ((k + 1)))), (2, .int (iJ ((x + (mFo (s (2 + (k / 3))) (k % 3)))))), (5, .int (iJ ((k % 3)))), (4, .int (iJ ((k / 3)))), (0, .ref m0), (1, .int (iJ (t)))] dX7_heard_88 rfl (by decide) rfl ?_
            refine r_goto E 23 dX7_heard_91 (by decide) ?_
            refine r_lv [4, 5, 1, 0] [(0, .ref m0), (1, .int (iJ (t))), (2, .int (iJ ((x + (mFo (s (2 + (k / 3))) (k % 3)))))), (3, .int (iJ ((k + 1))))] rfl ?_
            exact ih23 (k + 1) (x + (mFo (s (2 + (k / 3))) (k % 3))) ⟨by omega, by omega⟩ (by
                  rw [sm_s _ (by omega), hx2]; unfold mHe
                  first
                  | (rw [if_pos (show _ ∧ _ from ⟨by omega, c_71⟩)]; done)
                  | (rw [if_neg (fun z => by first | exact absurd z.1 (by omega) | exact c_71 z.2)])) (by omega)
  refine r_lv [2, 3, 1, 0] [(0, .ref m0), (1, .int (iJ (t))), (2, .int (iJ (0))), (3, .int (iJ (0)))] rfl ?_
  exact loop_23 _ 0 0 ⟨by omega, by omega⟩ (sm_0 _).symm (Nat.lt_succ_self _)
theorem kf_X7_clashes : KF yX7_clashes 1 wsX7_clashes cX7_clashes 2 (some .boolean) := ⟨rfl, by decide +kernel, by decide +kernel, by decide +kernel⟩
def rm_X7_clashes : Room := { frames := 5, cells := 0, slots := 0, locals := 116 }
set_option maxHeartbeats 1000000 in
set_option maxRecDepth 100000 in
theorem c_X7_clashes (l : Launch) (D : va_G) (m0 : Nat) (ms : Nat) (mh : Nat) (mn : Nat) (mp : Nat) (ml : Nat) (mm : Nat) (md : Nat) (mw : Nat) (mt : Nat) (mb : Nat) (mi : Nat) (mg : Nat) (cI : ClassId) (kp : Int) (sv : Int) (pn : Int) (rf : Int) (tl : Int) (s : Int → Int) (a : Int) (hs1 : 1 ≤ s 1 ∧ s 1 ≤ 4) (ha : 1 ≤ a ∧ a ≤ 31) (hca : 1 ≤ s (2 + a) ∧ s (2 + a) ≤ 24) (hcb : 1 ≤ s (2 + (a - 1)) ∧ s (2 + (a - 1)) ≤ 24) : MP l yX7_clashes wsX7_clashes rm_X7_clashes D vwCl [.ref m0, .int (iJ (a))] [(m0, .inr (6, [.ref ms, .ref mh, .int (iJ (kp)), .ref mn, .int (iJ (sv)), .ref mp, .int (iJ (pn)), .int (iJ (rf)), .ref ml, .ref mm, .ref md, .ref mw, .ref mt, .int (iJ (tl)), .ref mb, .ref mi, .ref mg])), (ms, cJ cI 34 (s))] [(cI, .int)] (b2 (¬ mCl (s 1) (s (2 + (a - 1))) ((s (2 + (a - 1)) - 1) % 3) (s (2 + a)) ((s (2 + a) - 1) % 3) = 0)) := by
  refine MP.mk (cc := cX7_clashes) (maxL := 2) (ret := (some .boolean)) (by decide) rfl (Nat.le_of_ble_eq_true rfl) rfl RX7 rfl ?_
  intro p_ e_ s_ m_ ar_ bw_ mt_ cd_ Q_ E hr hQ
  refine r_aload_n E 0 dX7_clashes_0 rfl rfl ?_
  refine r_iload_n E 1 dX7_clashes_1 rfl rfl ?_
  refine r_iconst E 1 rfl dX7_clashes_2 ?_
  refine r_isub E dX7_clashes_3 ?_
  refine r_aload_n E 0 dX7_clashes_4 rfl rfl ?_
  refine r_iload_n E 1 dX7_clashes_5 rfl rfl ?_
  refine r_iconst E 1 rfl dX7_clashes_6 ?_
  refine r_isub E dX7_clashes_7 ?_
  refine r_vP E (st := [.int (iJ ((a - 1))), .ref m0]) (c_X7_hand l D m0 ms mh mn mp ml mm md mw mt mb mi mg cI kp sv pn rf tl s (a - 1) (by first | assumption | omega | exact ⟨by omega, by omega⟩) (by first | assumption | omega | exact ⟨by omega, by omega⟩)) gX7_clashes_X7_hand 1 kf_X7_hand ⟨rfl, rfl⟩ ⟨by decide, by decide⟩ dX7_clashes_8 rfl 0 rfl rfl rfl rfl ⟨Nat.zero_le _, Nat.zero_le _⟩ [0, 1] rfl (by decide) [0] rfl (Nat.le_of_ble_eq_true rfl) ?_
  refine r_iload_n E 1 dX7_clashes_11 rfl rfl ?_
  refine r_aload_n E 0 dX7_clashes_12 rfl rfl ?_
  refine r_iload_n E 1 dX7_clashes_13 rfl rfl ?_
  refine r_vP E (st := [.int (iJ (a)), .int (iJ ((s (2 + (a - 1)) - 1) % 3)), .int (iJ ((a - 1))), .ref m0]) (c_X7_hand l D m0 ms mh mn mp ml mm md mw mt mb mi mg cI kp sv pn rf tl s a (by first | assumption | omega | exact ⟨by omega, by omega⟩) (by first | assumption | omega | exact ⟨by omega, by omega⟩)) gX7_clashes_X7_hand 1 kf_X7_hand ⟨rfl, rfl⟩ ⟨by decide, by decide⟩ dX7_clashes_14 rfl 0 rfl rfl rfl rfl ⟨Nat.zero_le _, Nat.zero_le _⟩ [0, 1] rfl (by decide) [0] rfl (Nat.le_of_ble_eq_true rfl) ?_
  refine r_vP E (st := []) (c_X7_areClashing l D m0 ms mh mn mp ml mm md mw mt mb mi mg cI kp sv pn rf tl s (a - 1) ((s (2 + (a - 1)) - 1) % 3) a ((s (2 + a) - 1) % 3) (by first | assumption | omega | exact ⟨by omega, by omega⟩) ⟨by omega, by omega⟩ ⟨by omega, by omega⟩ (by first | assumption | omega | exact ⟨by omega, by omega⟩) (by first | assumption | omega | exact ⟨by omega, by omega⟩) (by first | assumption | omega | exact ⟨by omega, by omega⟩) (by first | assumption | omega | exact ⟨by omega, by omega⟩)) gX7_clashes_X7_areClashing 4 kf_X7_areClashing ⟨rfl, rfl⟩ ⟨by decide, by decide⟩ dX7_clashes_17 rfl 0 rfl rfl rfl rfl ⟨Nat.zero_le _, Nat.zero_le _⟩ [0, 1] rfl (by decide) [0] rfl (Nat.le_of_ble_eq_true rfl) ?_
  have f_m := mCl_01 (s 1) (s (2 + (a - 1))) ((s (2 + (a - 1)) - 1) % 3) (s (2 + a)) ((s (2 + a) - 1) % 3)
  exact r_retPZ E hr dX7_clashes_20 (by omega) (by
        rcases f_m with z | z
        · rw [z]; exact (b2_f (by omega)).symm
        · rw [z]; exact (b2_t (by omega)).symm) hQ
theorem kf_X7_clash : KF yX7_clash 0 wsX7_clash cX7_clash 2 (some .int) := ⟨rfl, by decide +kernel, by decide +kernel, by decide +kernel⟩
def rm_X7_clash : Room := { frames := 6, cells := 0, slots := 0, locals := 137 }
set_option maxHeartbeats 1000000 in
set_option maxRecDepth 100000 in
theorem c_X7_clashNo (l : Launch) (D : va_G) (m0 : Nat) (ms : Nat) (mh : Nat) (mn : Nat) (mp : Nat) (ml : Nat) (mm : Nat) (md : Nat) (mw : Nat) (mt : Nat) (mb : Nat) (mi : Nat) (mg : Nat) (cI : ClassId) (kp : Int) (sv : Int) (pn : Int) (rf : Int) (tl : Int) (s : Int → Int) (hs0 : 0 ≤ s 0 ∧ s 0 ≤ 32) (hsv : ∀ j : Int, 0 ≤ j → j < s 0 → 0 ≤ s (2 + j) ∧ s (2 + j) ≤ 24) (hx : 0 < sm (fun j => b2 (¬ s (2 + j) = 0 ∧ (s (2 + j) - 1) % 3 = 2)) (s 0)) : MP l yX7_clash wsX7_clash rm_X7_clash D vwCl [.ref m0] [(m0, .inr (6, [.ref ms, .ref mh, .int (iJ (kp)), .ref mn, .int (iJ (sv)), .ref mp, .int (iJ (pn)), .int (iJ (rf)), .ref ml, .ref mm, .ref md, .ref mw, .ref mt, .int (iJ (tl)), .ref mb, .ref mi, .ref mg])), (ms, cJ cI 34 (s))] [(cI, .int)] (-2) := by
  refine MP.mk (cc := cX7_clash) (maxL := 2) (ret := (some .int)) (by decide) rfl (Nat.le_of_ble_eq_true rfl) rfl RX7 rfl ?_
  intro p_ e_ s_ m_ ar_ bw_ mt_ cd_ Q_ E hr hQ
  have f_S := sm_b2 (P := fun j => ¬ s (2 + j) = 0 ∧ (s (2 + j) - 1) % 3 = 2) (s 0) (by omega)
  refine r_aload_n E 0 dX7_clash_0 rfl rfl ?_
  refine r_iconst E 2 rfl dX7_clash_1 ?_
  refine r_vP E (st := []) (c_X7_ofHand l D m0 ms mh mn mp ml mm md mw mt mb mi mg cI kp sv pn rf tl s 2 (by first | assumption | omega | exact ⟨by omega, by omega⟩) (by first | assumption | omega | exact ⟨by omega, by omega⟩) (by first | assumption | omega | exact ⟨by omega, by omega⟩)) gX7_clash_X7_ofHand 1 kf_X7_ofHand ⟨rfl, rfl⟩ ⟨by decide, by decide⟩ dX7_clash_2 rfl 0 rfl rfl rfl rfl ⟨Nat.zero_le _, Nat.zero_le _⟩ [0, 1] rfl (by decide) [0] rfl (Nat.le_of_ble_eq_true rfl) ?_
  refine r_if_le E 11 dX7_clash_5 (by decide) ⟨by omega, by omega⟩ (fun c_5 => absurd c_5 (by omega)) (fun c_5 => ?_)
  refine r_bipush E (-2) rfl dX7_clash_8 ?_
  exact r_retP E hr dX7_clash_10 rfl hQ
set_option maxRecDepth 20000 in
theorem in_X7_clash_X7 : ∀ w ∈ u_ws RX7 TX7 17, w ∈ wsX7_clash := by decide +kernel
set_option maxRecDepth 20000 in
theorem lk_X7_clash_7 : Cond.fieldLink RX7 7 (TX7 0).1 (TX7 0).2.1 (TX7 0).2.2.1 ∈ wsX7_clash := by decide +kernel
set_option maxHeartbeats 1000000 in
set_option maxRecDepth 100000 in
theorem c_X7_clash (l : Launch) (D : va_G) (m0 : Nat) (ms : Nat) (mh : Nat) (mn : Nat) (mp : Nat) (ml : Nat) (mm : Nat) (md : Nat) (mw : Nat) (mt : Nat) (mb : Nat) (mi : Nat) (mg : Nat) (cI : ClassId) (kp : Int) (sv : Int) (pn : Int) (rf : Int) (tl : Int) (s : Int → Int) (hs0 : 0 ≤ s 0 ∧ s 0 ≤ 32) (hs1 : 1 ≤ s 1 ∧ s 1 ≤ 4) (hsv : ∀ j : Int, 0 ≤ j → j < s 0 → 0 ≤ s (2 + j) ∧ s (2 + j) ≤ 24) (hx : sm (fun j => b2 (¬ s (2 + j) = 0 ∧ (s (2 + j) - 1) % 3 = 2)) (s 0) = 0) : MP l yX7_clash wsX7_clash rm_X7_clash D vwCl [.ref m0] [(m0, .inr (6, [.ref ms, .ref mh, .int (iJ (kp)), .ref mn, .int (iJ (sv)), .ref mp, .int (iJ (pn)), .int (iJ (rf)), .ref ml, .ref mm, .ref md, .ref mw, .ref mt, .int (iJ (tl)), .ref mb, .ref mi, .ref mg])), (ms, cJ cI 34 (s))] [(cI, .int)] (mCf s (s 0 - 1).toNat 1) := by
  refine MP.mk (cc := cX7_clash) (maxL := 2) (ret := (some .int)) (by decide) rfl (Nat.le_of_ble_eq_true rfl) rfl RX7 rfl ?_
  intro p_ e_ s_ m_ ar_ bw_ mt_ cd_ Q_ E hr hQ
  refine r_aload_n E 0 dX7_clash_0 rfl rfl ?_
  refine r_iconst E 2 rfl dX7_clash_1 ?_
  refine r_vP E (st := []) (c_X7_ofHand l D m0 ms mh mn mp ml mm md mw mt mb mi mg cI kp sv pn rf tl s 2 (by first | assumption | omega | exact ⟨by omega, by omega⟩) (by first | assumption | omega | exact ⟨by omega, by omega⟩) (by first | assumption | omega | exact ⟨by omega, by omega⟩)) gX7_clash_X7_ofHand 1 kf_X7_ofHand ⟨rfl, rfl⟩ ⟨by decide, by decide⟩ dX7_clash_2 rfl 0 rfl rfl rfl rfl ⟨Nat.zero_le _, Nat.zero_le _⟩ [0, 1] rfl (by decide) [0] rfl (Nat.le_of_ble_eq_true rfl) ?_
  refine r_if_le E 11 dX7_clash_5 (by decide) ⟨by omega, by omega⟩ (fun c_5 => ?_) (fun c_5 => absurd c_5 (by omega))
  refine r_iconst E 1 rfl dX7_clash_11 ?_
  refine r_istore_n E [(1, .int (iJ (1))), (0, .ref m0)] dX7_clash_12 rfl (by decide) rfl ?_
  have loop_13 : ∀ (N : Nat) (k : Int), (1 ≤ k ∧ (k ≤ s 0 ∨ k = 1)) → (mCf s (s 0 - k).toNat k = mCf s (s 0 - 1).toNat 1) → (s 0 + 1 - k).toNat < N → GG p_ l e_ rm_X7_clash s_ m_ ar_ bw_ mt_ cd_ D vwCl (fun _ => True) (fun _ => False) s_.heap 2 0 0 Q_ [(m0, .inr (6, [.ref ms, .ref mh, .int (iJ (kp)), .ref mn, .int (iJ (sv)), .ref mp, .int (iJ (pn)), .int (iJ (rf)), .ref ml, .ref mm, .ref md, .ref mw, .ref mt, .int (iJ (tl)), .ref mb, .ref mi, .ref mg])), (ms, cJ cI 34 (s))] [(0, .ref m0), (1, .int (iJ (k)))] 13 [] := by
    intro N; induction N with
    | zero => intro k hk hs hN; exact absurd hN (Nat.not_lt_zero _)
    | succ N ih13 =>
      intro k hk hs hN
      refine r_iload_n E 1 dX7_clash_13 rfl rfl ?_
      refine r_aload_n E 0 dX7_clash_14 rfl rfl ?_
      refine r_get E 6 0 0 dX7_clash_15 in_X7_clash_X7 lk_X7_clash_7 rfl rfl (by decide) rfl ?_
      refine r_iconst E 0 rfl dX7_clash_18 ?_
      refine r_iald E (i := 0) 1 0 dX7_clash_19 rfl rfl (by decide) ⟨by omega, by omega⟩ ?_
      refine r_icmp_ge E 57 dX7_clash_20 (by decide) ⟨by omega, by omega⟩ ⟨by omega, by omega⟩ (fun c_20 => ?_) (fun c_20 => ?_)
      · refine r_bipush E (-4) rfl dX7_clash_57 ?_
        exact r_retP E hr dX7_clash_59 (by rw [← hs, show (s 0 - k).toNat = 0 by omega]; rfl) hQ
      · have f_c := hsv k (by omega) (by omega)
        have f_d := hsv (k - 1) (by omega) (by omega)
        refine r_aload_n E 0 dX7_clash_23 rfl rfl ?_
        refine r_iload_n E 1 dX7_clash_24 rfl rfl ?_
        refine r_iconst E 1 rfl dX7_clash_25 ?_
        refine r_isub E dX7_clash_26 ?_
        refine r_vP E (st := []) (c_X7_isStroke l D m0 ms mh mn mp ml mm md mw mt mb mi mg cI kp sv pn rf tl s (k - 1) (by first | assumption | omega | exact ⟨by omega, by omega⟩) (by first | assumption | omega | exact ⟨by omega, by omega⟩)) gX7_clash_X7_isStroke 1 kf_X7_isStroke ⟨rfl, rfl⟩ ⟨by decide, by decide⟩ dX7_clash_27 rfl 0 rfl rfl rfl rfl ⟨Nat.zero_le _, Nat.zero_le _⟩ [0, 1] rfl (by decide) [0] rfl (Nat.le_of_ble_eq_true rfl) ?_
        refine r_ifeq_n E 51 dX7_clash_30 (by decide) (fun c_30 => ?_) (fun c_30 => ?_)
        · refine r_iinc E (k := 1) [(1, .int (iJ ((k + 1)))), (0, .ref m0)] dX7_clash_51 rfl (by decide) rfl ?_
          refine r_goto E 13 dX7_clash_54 (by decide) ?_
          refine r_lv [1, 0] [(0, .ref m0), (1, .int (iJ ((k + 1))))] rfl ?_
          exact ih13 (k + 1) ⟨by omega, by omega⟩ (by
                rw [← hs, show (s 0 - k).toNat = (s 0 - (k + 1)).toNat + 1 by omega]
                show _ = if mCs s k then _ else _
                rw [if_neg (fun z => by first | exact z.1.1 c_30 | exact z.1.2 c_38 | exact z.2 c_46)]) (by omega)
        · refine r_aload_n E 0 dX7_clash_33 rfl rfl ?_
          refine r_iload_n E 1 dX7_clash_34 rfl rfl ?_
          refine r_vP E (st := []) (c_X7_isStroke l D m0 ms mh mn mp ml mm md mw mt mb mi mg cI kp sv pn rf tl s k (by first | assumption | omega | exact ⟨by omega, by omega⟩) (by first | assumption | omega | exact ⟨by omega, by omega⟩)) gX7_clash_X7_isStroke 1 kf_X7_isStroke ⟨rfl, rfl⟩ ⟨by decide, by decide⟩ dX7_clash_35 rfl 0 rfl rfl rfl rfl ⟨Nat.zero_le _, Nat.zero_le _⟩ [0, 1] rfl (by decide) [0] rfl (Nat.le_of_ble_eq_true rfl) ?_
          refine r_ifeq_n E 51 dX7_clash_38 (by decide) (fun c_38 => ?_) (fun c_38 => ?_)
          · refine r_iinc E (k := 1) [(1, .int (iJ ((k + 1)))), (0, .ref m0)] dX7_clash_51 rfl (by decide) rfl ?_
            refine r_goto E 13 dX7_clash_54 (by decide) ?_
            refine r_lv [1, 0] [(0, .ref m0), (1, .int (iJ ((k + 1))))] rfl ?_
            exact ih13 (k + 1) ⟨by omega, by omega⟩ (by
                  rw [← hs, show (s 0 - k).toNat = (s 0 - (k + 1)).toNat + 1 by omega]
                  show _ = if mCs s k then _ else _
                  rw [if_neg (fun z => by first | exact z.1.1 c_30 | exact z.1.2 c_38 | exact z.2 c_46)]) (by omega)
          · refine r_aload_n E 0 dX7_clash_41 rfl rfl ?_
            refine r_iload_n E 1 dX7_clash_42 rfl rfl ?_
            refine r_vP E (st := []) (c_X7_clashes l D m0 ms mh mn mp ml mm md mw mt mb mi mg cI kp sv pn rf tl s k (by first | assumption | omega | exact ⟨by omega, by omega⟩) (by first | assumption | omega | exact ⟨by omega, by omega⟩) (by first | assumption | omega | exact ⟨by omega, by omega⟩) (by first | assumption | omega | exact ⟨by omega, by omega⟩)) gX7_clash_X7_clashes 1 kf_X7_clashes ⟨rfl, rfl⟩ ⟨by decide, by decide⟩ dX7_clash_43 rfl 0 rfl rfl rfl rfl ⟨Nat.zero_le _, Nat.zero_le _⟩ [0, 1] rfl (by decide) [0] rfl (Nat.le_of_ble_eq_true rfl) ?_
            refine r_ifeq_n E 51 dX7_clash_46 (by decide) (fun c_46 => ?_) (fun c_46 => ?_)
            · refine r_iinc E (k := 1) [(1, .int (iJ ((k + 1)))), (0, .ref m0)] dX7_clash_51 rfl (by decide) rfl ?_
              refine r_goto E 13 dX7_clash_54 (by decide) ?_
              refine r_lv [1, 0] [(0, .ref m0), (1, .int (iJ ((k + 1))))] rfl ?_
              exact ih13 (k + 1) ⟨by omega, by omega⟩ (by
                    rw [← hs, show (s 0 - k).toNat = (s 0 - (k + 1)).toNat + 1 by omega]
                    show _ = if mCs s k then _ else _
                    rw [if_neg (fun z => by first | exact z.1.1 c_30 | exact z.1.2 c_38 | exact z.2 c_46)]) (by omega)
            · refine r_iload_n E 1 dX7_clash_49 rfl rfl ?_
              exact r_retP E hr dX7_clash_50 (by
                    rw [← hs, show (s 0 - k).toNat = (s 0 - (k + 1)).toNat + 1 by omega]
                    show _ = if mCs s k then _ else _
                    rw [if_pos ⟨⟨c_30, c_38⟩, c_46⟩]) hQ
  refine r_lv [1, 0] [(0, .ref m0), (1, .int (iJ (1)))] rfl ?_
  exact loop_13 _ 1 ⟨by omega, by omega⟩ rfl (Nat.lt_succ_self _)
theorem kf_X7_write : KF yX7_write 1 wsX7_write cX7_write 3 (some .int) := ⟨rfl, by decide +kernel, by decide +kernel, by decide +kernel⟩
def rm_X7_write : Room := { frames := 3, cells := 0, slots := 0, locals := 63 }
set_option maxRecDepth 20000 in
theorem in_X7_write_X7 : ∀ w ∈ u_ws RX7 TX7 17, w ∈ wsX7_write := by decide +kernel
set_option maxRecDepth 20000 in
theorem lk_X7_write_44 : Cond.fieldLink RX7 44 (TX7 16).1 (TX7 16).2.1 (TX7 16).2.2.1 ∈ wsX7_write := by decide +kernel
set_option maxHeartbeats 1000000 in
set_option maxRecDepth 100000 in
theorem c_X7_write (l : Launch) (D : va_G) (m0 : Nat) (ms : Nat) (mh : Nat) (mn : Nat) (mp : Nat) (ml : Nat) (mm : Nat) (md : Nat) (mw : Nat) (mt : Nat) (mb : Nat) (mi : Nat) (mg : Nat) (cI : ClassId) (kp : Int) (sv : Int) (pn : Int) (rf : Int) (tl : Int) (s : Int → Int) (sg : Int → Int) (a : Int) (ha : 0 ≤ a ∧ a ≤ 31) (hca : 0 ≤ s (2 + a) ∧ s (2 + a) ≤ 24) : MM (S := Int → Int) l yX7_write wsX7_write rm_X7_write D vwCl [.ref m0, .int (iJ (a))] [(m0, .inr (6, [.ref ms, .ref mh, .int (iJ (kp)), .ref mn, .int (iJ (sv)), .ref mp, .int (iJ (pn)), .int (iJ (rf)), .ref ml, .ref mm, .ref md, .ref mw, .ref mt, .int (iJ (tl)), .ref mb, .ref mi, .ref mg])), (ms, cJ cI 34 (s)), (mg, cJ cI 4 (sg))] [(cI, .int)] (fun (G : Int → Int) => mTl (s (2 + a))) (fun (G : Int → Int) => (∀ p : Int, 0 ≤ p → p < mTl (s (2 + a)) → G p = mSg (s (2 + a)) p)) (fun (G : Int → Int) => [(m0, .inr (6, [.ref ms, .ref mh, .int (iJ (kp)), .ref mn, .int (iJ (sv)), .ref mp, .int (iJ (pn)), .int (iJ (rf)), .ref ml, .ref mm, .ref md, .ref mw, .ref mt, .int (iJ (tl)), .ref mb, .ref mi, .ref mg])), (ms, cJ cI 34 (s)), (mg, cJ cI 4 (G))]) := by
  refine MM.mk (cc := cX7_write) (maxL := 3) (ret := (some .int)) (by decide) rfl (Nat.le_of_ble_eq_true rfl) rfl RX7 rfl ?_
  intro p_ e_ s_ m_ ar_ bw_ mt_ cd_ B_ Q_ hA E hr hQ
  have f_a := mAc_in (c := s (2 + a))
  have f_o := mOr_in (c := s (2 + a)) hca
  refine r_aload_n E 0 dX7_write_0 rfl rfl ?_
  refine r_iload_n E 1 dX7_write_1 rfl rfl ?_
  refine r_vP E (st := []) (c_X7_isStroke l D m0 ms mh mn mp ml mm md mw mt mb mi mg cI kp sv pn rf tl s a (by first | assumption | omega | exact ⟨by omega, by omega⟩) (by first | assumption | omega | exact ⟨by omega, by omega⟩)) gX7_write_X7_isStroke 1 kf_X7_isStroke ⟨rfl, rfl⟩ ⟨by decide, by decide⟩ dX7_write_2 rfl 0 rfl rfl rfl rfl ⟨Nat.zero_le _, Nat.zero_le _⟩ [0, 1] rfl (by decide) [0] rfl (Nat.le_of_ble_eq_true rfl) ?_
  refine r_ifne_n E 18 dX7_write_5 (by decide) (fun c_5 => ?_) (fun c_5 => ?_)
  · refine r_iconst E 0 rfl dX7_write_18 ?_
    refine r_istore_n E [(2, .int (iJ (0))), (0, .ref m0), (1, .int (iJ (a)))] dX7_write_19 rfl (by decide) rfl ?_
    have K_40 : ∀ (v : Int) (G1 : Int → Int), (v = mAc (s (2 + a))) → (0 < v → G1 0 = 62) → GG p_ l e_ rm_X7_write s_ m_ ar_ bw_ mt_ cd_ D vwCl B_ B_ s_.heap 3 0 0 Q_ [(m0, .inr (6, [.ref ms, .ref mh, .int (iJ (kp)), .ref mn, .int (iJ (sv)), .ref mp, .int (iJ (pn)), .int (iJ (rf)), .ref ml, .ref mm, .ref md, .ref mw, .ref mt, .int (iJ (tl)), .ref mb, .ref mi, .ref mg])), (ms, cJ cI 34 (s)), (mg, cJ cI 4 (G1))] [(0, .ref m0), (1, .int (iJ (a))), (2, .int (iJ (v)))] 40 [] := by
      intro v G1 hv hG1
      have K_83 : ∀ (u : Int) (G2 : Int → Int), (u = v + b2 (mOr (s (2 + a)) = 1 ∨ mOr (s (2 + a)) = 2)) → ((0 < v → G2 0 = 62) ∧ (v < u → G2 v = (if mOr (s (2 + a)) = 1 then 102 else 100))) → GG p_ l e_ rm_X7_write s_ m_ ar_ bw_ mt_ cd_ D vwCl B_ B_ s_.heap 3 0 0 Q_ [(m0, .inr (6, [.ref ms, .ref mh, .int (iJ (kp)), .ref mn, .int (iJ (sv)), .ref mp, .int (iJ (pn)), .int (iJ (rf)), .ref ml, .ref mm, .ref md, .ref mw, .ref mt, .int (iJ (tl)), .ref mb, .ref mi, .ref mg])), (ms, cJ cI 34 (s)), (mg, cJ cI 4 (G2))] [(0, .ref m0), (1, .int (iJ (a))), (2, .int (iJ (u)))] 83 [] := by
        intro u G2 hu hG2
        have f_u : 0 ≤ u ∧ u ≤ 2 ∧ v ≤ u ∧ u ≤ v + 1 := by have := b2_01 (mOr (s (2 + a)) = 1 ∨ mOr (s (2 + a)) = 2); omega
        refine r_aload_n E 0 dX7_write_83 rfl rfl ?_
        refine r_get E 6 0 16 dX7_write_84 in_X7_write_X7 lk_X7_write_44 rfl rfl (by decide) rfl ?_
        refine r_iload_n E 2 dX7_write_87 rfl rfl ?_
        refine r_aload_n E 0 dX7_write_88 rfl rfl ?_
        refine r_iload_n E 1 dX7_write_89 rfl rfl ?_
        refine r_vP E (st := [.int (iJ (u)), .ref mg]) (c_X7_hand l D m0 ms mh mn mp ml mm md mw mt mb mi mg cI kp sv pn rf tl s a (by first | assumption | omega | exact ⟨by omega, by omega⟩) (by first | assumption | omega | exact ⟨by omega, by omega⟩)) gX7_write_X7_hand 1 kf_X7_hand ⟨rfl, rfl⟩ ⟨by decide, by decide⟩ dX7_write_90 rfl 0 rfl rfl rfl rfl ⟨Nat.zero_le _, Nat.zero_le _⟩ [0, 1] rfl (by decide) [0] rfl (Nat.le_of_ble_eq_true rfl) ?_
        refine r_if_ne E 101 dX7_write_93 (by decide) ⟨by omega, by omega⟩ (fun c_93 => ?_) (fun c_93 => ?_)
        · refine r_aload_n E 0 dX7_write_101 rfl rfl ?_
          refine r_iload_n E 1 dX7_write_102 rfl rfl ?_
          refine r_vP E (st := [.int (iJ (u)), .ref mg]) (c_X7_hand l D m0 ms mh mn mp ml mm md mw mt mb mi mg cI kp sv pn rf tl s a (by first | assumption | omega | exact ⟨by omega, by omega⟩) (by first | assumption | omega | exact ⟨by omega, by omega⟩)) gX7_write_X7_hand 1 kf_X7_hand ⟨rfl, rfl⟩ ⟨by decide, by decide⟩ dX7_write_103 rfl 0 rfl rfl rfl rfl ⟨Nat.zero_le _, Nat.zero_le _⟩ [0, 1] rfl (by decide) [0] rfl (Nat.le_of_ble_eq_true rfl) ?_
          refine r_iconst E 1 rfl dX7_write_106 ?_
          refine r_icmp_ne E 115 dX7_write_107 (by decide) ⟨by omega, by omega⟩ ⟨by omega, by omega⟩ (fun c_107 => ?_) (fun c_107 => ?_)
          · refine r_bipush E 120 rfl dX7_write_115 ?_
            refine r_iast E (i := u) 2 0 dX7_write_117 rfl rfl (by decide) ⟨by omega, by omega⟩ [(m0, .inr (6, [.ref ms, .ref mh, .int (iJ (kp)), .ref mn, .int (iJ (sv)), .ref mp, .int (iJ (pn)), .int (iJ (rf)), .ref ml, .ref mm, .ref md, .ref mw, .ref mt, .int (iJ (tl)), .ref mb, .ref mi, .ref mg])), (ms, cJ cI 34 (s)), (mg, cJ cI 4 (uJ G2 u 120))] rfl ?_
            refine r_iinc E (k := 2) [(2, .int (iJ ((u + 1)))), (0, .ref m0), (1, .int (iJ (a)))] dX7_write_118 rfl (by decide) rfl ?_
            refine r_aload_n E 1 dX7_write_121 rfl rfl ?_
            refine r_iload_n E 2 dX7_write_122 rfl rfl ?_
            refine r_vP E (st := []) (c_X7_ornament l D m0 ms mh mn mp ml mm md mw mt mb mi mg cI kp sv pn rf tl s a (by first | assumption | omega | exact ⟨by omega, by omega⟩) (by first | assumption | omega | exact ⟨by omega, by omega⟩)) gX7_write_X7_ornament 1 kf_X7_ornament ⟨rfl, rfl⟩ ⟨by decide, by decide⟩ dX7_write_123 rfl 0 rfl rfl rfl rfl ⟨Nat.zero_le _, Nat.zero_le _⟩ [0, 1] rfl (by decide) [0] rfl (Nat.le_of_ble_eq_true rfl) ?_
            refine r_iconst E 3 rfl dX7_write_126 ?_
            refine r_icmp_ne E 141 dX7_write_127 (by decide) ⟨by omega, by omega⟩ ⟨by omega, by omega⟩ (fun c_127 => ?_) (fun c_127 => ?_)
            · refine r_iload_n E 0 dX7_write_141 rfl rfl ?_
              exact r_retM E (uJ G2 u 120) hr dX7_write_142 (by
                    have e1 : b2 (mAc (s (2 + a)) = 1) = v := by unfold b2; split <;> omega
                    unfold mTl; rw [if_neg c_5, e1]
                    first | (rw [b2_t (P := mOr (s (2 + a)) = 3) (by assumption)]; omega) | (rw [b2_f (P := mOr (s (2 + a)) = 3) (by assumption)]; omega)) (fun p h1 h2 => by
                    have e1 : b2 (mAc (s (2 + a)) = 1) = v := by unfold b2; split <;> omega
                    have e3 : b2 (mOr (s (2 + a)) = 1 ∨ mOr (s (2 + a)) = 2) = u - v := by omega
                    have e4 : mTl (s (2 + a)) = 1 + v + (u - v) + b2 (mOr (s (2 + a)) = 3) := by unfold mTl; rw [if_neg c_5, e1, e3]
                    have e5 := b2_01 (mOr (s (2 + a)) = 3)
                    have e6 : mSg (s (2 + a)) p = (if p < v then 62 else if p = v ∧ (mOr (s (2 + a)) = 1 ∨ mOr (s (2 + a)) = 2) then (if mOr (s (2 + a)) = 1 then 102 else 100) else if p = u then mHs (s (2 + a)) else 42) := by
                      unfold mSg; rw [if_neg c_5, ← hv, e3, show v + (u - v) = u by omega]
                    rw [e6]
                    have e7 : (mOr (s (2 + a)) = 1 ∨ mOr (s (2 + a)) = 2) ↔ v < u := by
                      constructor
                      · intro z; rw [b2_t z] at hu; omega
                      · intro z; by_cases y : mOr (s (2 + a)) = 1 ∨ mOr (s (2 + a)) = 2
                        · exact y
                        · rw [b2_f y] at hu; omega
                    by_cases z1 : p < v
                    · rw [if_pos z1]; try rw [uJ_n (by omega)]
                      try rw [uJ_n (by omega)]
                      rw [show p = 0 by omega]; exact hG2.1 (by omega)
                    · rw [if_neg z1]; by_cases z2 : p = v ∧ v < u
                      · rw [if_pos ⟨z2.1, e7.mpr z2.2⟩]; try rw [uJ_n (by omega)]
                        try rw [uJ_n (by omega)]
                        rw [z2.1]; exact hG2.2 z2.2
                      · rw [if_neg (fun y => z2 ⟨y.1, e7.mp y.2⟩)]; by_cases z3 : p = u
                        · rw [if_pos z3, z3]; try rw [uJ_n (show ¬ u = u + 1 by omega)]
                          rw [uJ_s]; unfold mHs; first | (rw [if_pos (by assumption)]; done) | (rw [if_neg (by assumption), if_pos (by assumption)]; done) | (rw [if_neg (by assumption), if_neg (by assumption)]; done)
                        · rw [if_neg z3]
                          have e8 : p = u + 1 := by omega
                          rw [e8]; first | exact uJ_s _ _ _ | (exfalso; have := b2_f (P := mOr (s (2 + a)) = 3) (by assumption); omega)) rfl hQ
            · refine r_aload_n E 1 dX7_write_130 rfl rfl ?_
              refine r_get E 6 0 16 dX7_write_131 in_X7_write_X7 lk_X7_write_44 rfl rfl (by decide) rfl ?_
              refine r_iload_n E 0 dX7_write_134 rfl rfl ?_
              refine r_bipush E 42 rfl dX7_write_135 ?_
              refine r_iast E (i := (u + 1)) 2 0 dX7_write_137 rfl rfl (by decide) ⟨by omega, by omega⟩ [(m0, .inr (6, [.ref ms, .ref mh, .int (iJ (kp)), .ref mn, .int (iJ (sv)), .ref mp, .int (iJ (pn)), .int (iJ (rf)), .ref ml, .ref mm, .ref md, .ref mw, .ref mt, .int (iJ (tl)), .ref mb, .ref mi, .ref mg])), (ms, cJ cI 34 (s)), (mg, cJ cI 4 (uJ (uJ G2 u 120) (u + 1) 42))] rfl ?_
              refine r_iinc E (k := 0) [(2, .int (iJ (((u + 1) + 1)))), (0, .ref m0), (1, .int (iJ (a)))] dX7_write_138 rfl (by decide) rfl ?_
              refine r_iload_n E 0 dX7_write_141 rfl rfl ?_
              exact r_retM E (uJ (uJ G2 u 120) (u + 1) 42) hr dX7_write_142 (by
                    have e1 : b2 (mAc (s (2 + a)) = 1) = v := by unfold b2; split <;> omega
                    unfold mTl; rw [if_neg c_5, e1]
                    first | (rw [b2_t (P := mOr (s (2 + a)) = 3) (by assumption)]; omega) | (rw [b2_f (P := mOr (s (2 + a)) = 3) (by assumption)]; omega)) (fun p h1 h2 => by
                    have e1 : b2 (mAc (s (2 + a)) = 1) = v := by unfold b2; split <;> omega
                    have e3 : b2 (mOr (s (2 + a)) = 1 ∨ mOr (s (2 + a)) = 2) = u - v := by omega
                    have e4 : mTl (s (2 + a)) = 1 + v + (u - v) + b2 (mOr (s (2 + a)) = 3) := by unfold mTl; rw [if_neg c_5, e1, e3]
                    have e5 := b2_01 (mOr (s (2 + a)) = 3)
                    have e6 : mSg (s (2 + a)) p = (if p < v then 62 else if p = v ∧ (mOr (s (2 + a)) = 1 ∨ mOr (s (2 + a)) = 2) then (if mOr (s (2 + a)) = 1 then 102 else 100) else if p = u then mHs (s (2 + a)) else 42) := by
                      unfold mSg; rw [if_neg c_5, ← hv, e3, show v + (u - v) = u by omega]
                    rw [e6]
                    have e7 : (mOr (s (2 + a)) = 1 ∨ mOr (s (2 + a)) = 2) ↔ v < u := by
                      constructor
                      · intro z; rw [b2_t z] at hu; omega
                      · intro z; by_cases y : mOr (s (2 + a)) = 1 ∨ mOr (s (2 + a)) = 2
                        · exact y
                        · rw [b2_f y] at hu; omega
                    by_cases z1 : p < v
                    · rw [if_pos z1]; try rw [uJ_n (by omega)]
                      try rw [uJ_n (by omega)]
                      rw [show p = 0 by omega]; exact hG2.1 (by omega)
                    · rw [if_neg z1]; by_cases z2 : p = v ∧ v < u
                      · rw [if_pos ⟨z2.1, e7.mpr z2.2⟩]; try rw [uJ_n (by omega)]
                        try rw [uJ_n (by omega)]
                        rw [z2.1]; exact hG2.2 z2.2
                      · rw [if_neg (fun y => z2 ⟨y.1, e7.mp y.2⟩)]; by_cases z3 : p = u
                        · rw [if_pos z3, z3]; try rw [uJ_n (show ¬ u = u + 1 by omega)]
                          rw [uJ_s]; unfold mHs; first | (rw [if_pos (by assumption)]; done) | (rw [if_neg (by assumption), if_pos (by assumption)]; done) | (rw [if_neg (by assumption), if_neg (by assumption)]; done)
                        · rw [if_neg z3]
                          have e8 : p = u + 1 := by omega
                          rw [e8]; first | exact uJ_s _ _ _ | (exfalso; have := b2_f (P := mOr (s (2 + a)) = 3) (by assumption); omega)) rfl hQ
          · refine r_bipush E 76 rfl dX7_write_110 ?_
            refine r_goto E 117 dX7_write_112 (by decide) ?_
            refine r_iast E (i := u) 2 0 dX7_write_117 rfl rfl (by decide) ⟨by omega, by omega⟩ [(m0, .inr (6, [.ref ms, .ref mh, .int (iJ (kp)), .ref mn, .int (iJ (sv)), .ref mp, .int (iJ (pn)), .int (iJ (rf)), .ref ml, .ref mm, .ref md, .ref mw, .ref mt, .int (iJ (tl)), .ref mb, .ref mi, .ref mg])), (ms, cJ cI 34 (s)), (mg, cJ cI 4 (uJ G2 u 76))] rfl ?_
            refine r_iinc E (k := 2) [(2, .int (iJ ((u + 1)))), (0, .ref m0), (1, .int (iJ (a)))] dX7_write_118 rfl (by decide) rfl ?_
            refine r_aload_n E 1 dX7_write_121 rfl rfl ?_
            refine r_iload_n E 2 dX7_write_122 rfl rfl ?_
            refine r_vP E (st := []) (c_X7_ornament l D m0 ms mh mn mp ml mm md mw mt mb mi mg cI kp sv pn rf tl s a (by first | assumption | omega | exact ⟨by omega, by omega⟩) (by first | assumption | omega | exact ⟨by omega, by omega⟩)) gX7_write_X7_ornament 1 kf_X7_ornament ⟨rfl, rfl⟩ ⟨by decide, by decide⟩ dX7_write_123 rfl 0 rfl rfl rfl rfl ⟨Nat.zero_le _, Nat.zero_le _⟩ [0, 1] rfl (by decide) [0] rfl (Nat.le_of_ble_eq_true rfl) ?_
            refine r_iconst E 3 rfl dX7_write_126 ?_
            refine r_icmp_ne E 141 dX7_write_127 (by decide) ⟨by omega, by omega⟩ ⟨by omega, by omega⟩ (fun c_127 => ?_) (fun c_127 => ?_)
            · refine r_iload_n E 0 dX7_write_141 rfl rfl ?_
              exact r_retM E (uJ G2 u 76) hr dX7_write_142 (by
                    have e1 : b2 (mAc (s (2 + a)) = 1) = v := by unfold b2; split <;> omega
                    unfold mTl; rw [if_neg c_5, e1]
                    first | (rw [b2_t (P := mOr (s (2 + a)) = 3) (by assumption)]; omega) | (rw [b2_f (P := mOr (s (2 + a)) = 3) (by assumption)]; omega)) (fun p h1 h2 => by
                    have e1 : b2 (mAc (s (2 + a)) = 1) = v := by unfold b2; split <;> omega
                    have e3 : b2 (mOr (s (2 + a)) = 1 ∨ mOr (s (2 + a)) = 2) = u - v := by omega
                    have e4 : mTl (s (2 + a)) = 1 + v + (u - v) + b2 (mOr (s (2 + a)) = 3) := by unfold mTl; rw [if_neg c_5, e1, e3]
                    have e5 := b2_01 (mOr (s (2 + a)) = 3)
                    have e6 : mSg (s (2 + a)) p = (if p < v then 62 else if p = v ∧ (mOr (s (2 + a)) = 1 ∨ mOr (s (2 + a)) = 2) then (if mOr (s (2 + a)) = 1 then 102 else 100) else if p = u then mHs (s (2 + a)) else 42) := by
                      unfold mSg; rw [if_neg c_5, ← hv, e3, show v + (u - v) = u by omega]
                    rw [e6]
                    have e7 : (mOr (s (2 + a)) = 1 ∨ mOr (s (2 + a)) = 2) ↔ v < u := by
                      constructor
                      · intro z; rw [b2_t z] at hu; omega
                      · intro z; by_cases y : mOr (s (2 + a)) = 1 ∨ mOr (s (2 + a)) = 2
                        · exact y
                        · rw [b2_f y] at hu; omega
                    by_cases z1 : p < v
                    · rw [if_pos z1]; try rw [uJ_n (by omega)]
                      try rw [uJ_n (by omega)]
                      rw [show p = 0 by omega]; exact hG2.1 (by omega)
                    · rw [if_neg z1]; by_cases z2 : p = v ∧ v < u
                      · rw [if_pos ⟨z2.1, e7.mpr z2.2⟩]; try rw [uJ_n (by omega)]
                        try rw [uJ_n (by omega)]
                        rw [z2.1]; exact hG2.2 z2.2
                      · rw [if_neg (fun y => z2 ⟨y.1, e7.mp y.2⟩)]; by_cases z3 : p = u
                        · rw [if_pos z3, z3]; try rw [uJ_n (show ¬ u = u + 1 by omega)]
                          rw [uJ_s]; unfold mHs; first | (rw [if_pos (by assumption)]; done) | (rw [if_neg (by assumption), if_pos (by assumption)]; done) | (rw [if_neg (by assumption), if_neg (by assumption)]; done)
                        · rw [if_neg z3]
                          have e8 : p = u + 1 := by omega
                          rw [e8]; first | exact uJ_s _ _ _ | (exfalso; have := b2_f (P := mOr (s (2 + a)) = 3) (by assumption); omega)) rfl hQ
            · refine r_aload_n E 1 dX7_write_130 rfl rfl ?_
              refine r_get E 6 0 16 dX7_write_131 in_X7_write_X7 lk_X7_write_44 rfl rfl (by decide) rfl ?_
              refine r_iload_n E 0 dX7_write_134 rfl rfl ?_
              refine r_bipush E 42 rfl dX7_write_135 ?_
              refine r_iast E (i := (u + 1)) 2 0 dX7_write_137 rfl rfl (by decide) ⟨by omega, by omega⟩ [(m0, .inr (6, [.ref ms, .ref mh, .int (iJ (kp)), .ref mn, .int (iJ (sv)), .ref mp, .int (iJ (pn)), .int (iJ (rf)), .ref ml, .ref mm, .ref md, .ref mw, .ref mt, .int (iJ (tl)), .ref mb, .ref mi, .ref mg])), (ms, cJ cI 34 (s)), (mg, cJ cI 4 (uJ (uJ G2 u 76) (u + 1) 42))] rfl ?_
              refine r_iinc E (k := 0) [(2, .int (iJ (((u + 1) + 1)))), (0, .ref m0), (1, .int (iJ (a)))] dX7_write_138 rfl (by decide) rfl ?_
              refine r_iload_n E 0 dX7_write_141 rfl rfl ?_
              exact r_retM E (uJ (uJ G2 u 76) (u + 1) 42) hr dX7_write_142 (by
                    have e1 : b2 (mAc (s (2 + a)) = 1) = v := by unfold b2; split <;> omega
                    unfold mTl; rw [if_neg c_5, e1]
                    first | (rw [b2_t (P := mOr (s (2 + a)) = 3) (by assumption)]; omega) | (rw [b2_f (P := mOr (s (2 + a)) = 3) (by assumption)]; omega)) (fun p h1 h2 => by
                    have e1 : b2 (mAc (s (2 + a)) = 1) = v := by unfold b2; split <;> omega
                    have e3 : b2 (mOr (s (2 + a)) = 1 ∨ mOr (s (2 + a)) = 2) = u - v := by omega
                    have e4 : mTl (s (2 + a)) = 1 + v + (u - v) + b2 (mOr (s (2 + a)) = 3) := by unfold mTl; rw [if_neg c_5, e1, e3]
                    have e5 := b2_01 (mOr (s (2 + a)) = 3)
                    have e6 : mSg (s (2 + a)) p = (if p < v then 62 else if p = v ∧ (mOr (s (2 + a)) = 1 ∨ mOr (s (2 + a)) = 2) then (if mOr (s (2 + a)) = 1 then 102 else 100) else if p = u then mHs (s (2 + a)) else 42) := by
                      unfold mSg; rw [if_neg c_5, ← hv, e3, show v + (u - v) = u by omega]
                    rw [e6]
                    have e7 : (mOr (s (2 + a)) = 1 ∨ mOr (s (2 + a)) = 2) ↔ v < u := by
                      constructor
                      · intro z; rw [b2_t z] at hu; omega
                      · intro z; by_cases y : mOr (s (2 + a)) = 1 ∨ mOr (s (2 + a)) = 2
                        · exact y
                        · rw [b2_f y] at hu; omega
                    by_cases z1 : p < v
                    · rw [if_pos z1]; try rw [uJ_n (by omega)]
                      try rw [uJ_n (by omega)]
                      rw [show p = 0 by omega]; exact hG2.1 (by omega)
                    · rw [if_neg z1]; by_cases z2 : p = v ∧ v < u
                      · rw [if_pos ⟨z2.1, e7.mpr z2.2⟩]; try rw [uJ_n (by omega)]
                        try rw [uJ_n (by omega)]
                        rw [z2.1]; exact hG2.2 z2.2
                      · rw [if_neg (fun y => z2 ⟨y.1, e7.mp y.2⟩)]; by_cases z3 : p = u
                        · rw [if_pos z3, z3]; try rw [uJ_n (show ¬ u = u + 1 by omega)]
                          rw [uJ_s]; unfold mHs; first | (rw [if_pos (by assumption)]; done) | (rw [if_neg (by assumption), if_pos (by assumption)]; done) | (rw [if_neg (by assumption), if_neg (by assumption)]; done)
                        · rw [if_neg z3]
                          have e8 : p = u + 1 := by omega
                          rw [e8]; first | exact uJ_s _ _ _ | (exfalso; have := b2_f (P := mOr (s (2 + a)) = 3) (by assumption); omega)) rfl hQ
        · refine r_bipush E 82 rfl dX7_write_96 ?_
          refine r_goto E 117 dX7_write_98 (by decide) ?_
          refine r_iast E (i := u) 2 0 dX7_write_117 rfl rfl (by decide) ⟨by omega, by omega⟩ [(m0, .inr (6, [.ref ms, .ref mh, .int (iJ (kp)), .ref mn, .int (iJ (sv)), .ref mp, .int (iJ (pn)), .int (iJ (rf)), .ref ml, .ref mm, .ref md, .ref mw, .ref mt, .int (iJ (tl)), .ref mb, .ref mi, .ref mg])), (ms, cJ cI 34 (s)), (mg, cJ cI 4 (uJ G2 u 82))] rfl ?_
          refine r_iinc E (k := 2) [(2, .int (iJ ((u + 1)))), (0, .ref m0), (1, .int (iJ (a)))] dX7_write_118 rfl (by decide) rfl ?_
          refine r_aload_n E 1 dX7_write_121 rfl rfl ?_
          refine r_iload_n E 2 dX7_write_122 rfl rfl ?_
          refine r_vP E (st := []) (c_X7_ornament l D m0 ms mh mn mp ml mm md mw mt mb mi mg cI kp sv pn rf tl s a (by first | assumption | omega | exact ⟨by omega, by omega⟩) (by first | assumption | omega | exact ⟨by omega, by omega⟩)) gX7_write_X7_ornament 1 kf_X7_ornament ⟨rfl, rfl⟩ ⟨by decide, by decide⟩ dX7_write_123 rfl 0 rfl rfl rfl rfl ⟨Nat.zero_le _, Nat.zero_le _⟩ [0, 1] rfl (by decide) [0] rfl (Nat.le_of_ble_eq_true rfl) ?_
          refine r_iconst E 3 rfl dX7_write_126 ?_
          refine r_icmp_ne E 141 dX7_write_127 (by decide) ⟨by omega, by omega⟩ ⟨by omega, by omega⟩ (fun c_127 => ?_) (fun c_127 => ?_)
          · refine r_iload_n E 0 dX7_write_141 rfl rfl ?_
            exact r_retM E (uJ G2 u 82) hr dX7_write_142 (by
                  have e1 : b2 (mAc (s (2 + a)) = 1) = v := by unfold b2; split <;> omega
                  unfold mTl; rw [if_neg c_5, e1]
                  first | (rw [b2_t (P := mOr (s (2 + a)) = 3) (by assumption)]; omega) | (rw [b2_f (P := mOr (s (2 + a)) = 3) (by assumption)]; omega)) (fun p h1 h2 => by
                  have e1 : b2 (mAc (s (2 + a)) = 1) = v := by unfold b2; split <;> omega
                  have e3 : b2 (mOr (s (2 + a)) = 1 ∨ mOr (s (2 + a)) = 2) = u - v := by omega
                  have e4 : mTl (s (2 + a)) = 1 + v + (u - v) + b2 (mOr (s (2 + a)) = 3) := by unfold mTl; rw [if_neg c_5, e1, e3]
                  have e5 := b2_01 (mOr (s (2 + a)) = 3)
                  have e6 : mSg (s (2 + a)) p = (if p < v then 62 else if p = v ∧ (mOr (s (2 + a)) = 1 ∨ mOr (s (2 + a)) = 2) then (if mOr (s (2 + a)) = 1 then 102 else 100) else if p = u then mHs (s (2 + a)) else 42) := by
                    unfold mSg; rw [if_neg c_5, ← hv, e3, show v + (u - v) = u by omega]
                  rw [e6]
                  have e7 : (mOr (s (2 + a)) = 1 ∨ mOr (s (2 + a)) = 2) ↔ v < u := by
                    constructor
                    · intro z; rw [b2_t z] at hu; omega
                    · intro z; by_cases y : mOr (s (2 + a)) = 1 ∨ mOr (s (2 + a)) = 2
                      · exact y
                      · rw [b2_f y] at hu; omega
                  by_cases z1 : p < v
                  · rw [if_pos z1]; try rw [uJ_n (by omega)]
                    try rw [uJ_n (by omega)]
                    rw [show p = 0 by omega]; exact hG2.1 (by omega)
                  · rw [if_neg z1]; by_cases z2 : p = v ∧ v < u
                    · rw [if_pos ⟨z2.1, e7.mpr z2.2⟩]; try rw [uJ_n (by omega)]
                      try rw [uJ_n (by omega)]
                      rw [z2.1]; exact hG2.2 z2.2
                    · rw [if_neg (fun y => z2 ⟨y.1, e7.mp y.2⟩)]; by_cases z3 : p = u
                      · rw [if_pos z3, z3]; try rw [uJ_n (show ¬ u = u + 1 by omega)]
                        rw [uJ_s]; unfold mHs; first | (rw [if_pos (by assumption)]; done) | (rw [if_neg (by assumption), if_pos (by assumption)]; done) | (rw [if_neg (by assumption), if_neg (by assumption)]; done)
                      · rw [if_neg z3]
                        have e8 : p = u + 1 := by omega
                        rw [e8]; first | exact uJ_s _ _ _ | (exfalso; have := b2_f (P := mOr (s (2 + a)) = 3) (by assumption); omega)) rfl hQ
          · refine r_aload_n E 1 dX7_write_130 rfl rfl ?_
            refine r_get E 6 0 16 dX7_write_131 in_X7_write_X7 lk_X7_write_44 rfl rfl (by decide) rfl ?_
            refine r_iload_n E 0 dX7_write_134 rfl rfl ?_
            refine r_bipush E 42 rfl dX7_write_135 ?_
            refine r_iast E (i := (u + 1)) 2 0 dX7_write_137 rfl rfl (by decide) ⟨by omega, by omega⟩ [(m0, .inr (6, [.ref ms, .ref mh, .int (iJ (kp)), .ref mn, .int (iJ (sv)), .ref mp, .int (iJ (pn)), .int (iJ (rf)), .ref ml, .ref mm, .ref md, .ref mw, .ref mt, .int (iJ (tl)), .ref mb, .ref mi, .ref mg])), (ms, cJ cI 34 (s)), (mg, cJ cI 4 (uJ (uJ G2 u 82) (u + 1) 42))] rfl ?_
            refine r_iinc E (k := 0) [(2, .int (iJ (((u + 1) + 1)))), (0, .ref m0), (1, .int (iJ (a)))] dX7_write_138 rfl (by decide) rfl ?_
            refine r_iload_n E 0 dX7_write_141 rfl rfl ?_
            exact r_retM E (uJ (uJ G2 u 82) (u + 1) 42) hr dX7_write_142 (by
                  have e1 : b2 (mAc (s (2 + a)) = 1) = v := by unfold b2; split <;> omega
                  unfold mTl; rw [if_neg c_5, e1]
                  first | (rw [b2_t (P := mOr (s (2 + a)) = 3) (by assumption)]; omega) | (rw [b2_f (P := mOr (s (2 + a)) = 3) (by assumption)]; omega)) (fun p h1 h2 => by
                  have e1 : b2 (mAc (s (2 + a)) = 1) = v := by unfold b2; split <;> omega
                  have e3 : b2 (mOr (s (2 + a)) = 1 ∨ mOr (s (2 + a)) = 2) = u - v := by omega
                  have e4 : mTl (s (2 + a)) = 1 + v + (u - v) + b2 (mOr (s (2 + a)) = 3) := by unfold mTl; rw [if_neg c_5, e1, e3]
                  have e5 := b2_01 (mOr (s (2 + a)) = 3)
                  have e6 : mSg (s (2 + a)) p = (if p < v then 62 else if p = v ∧ (mOr (s (2 + a)) = 1 ∨ mOr (s (2 + a)) = 2) then (if mOr (s (2 + a)) = 1 then 102 else 100) else if p = u then mHs (s (2 + a)) else 42) := by
                    unfold mSg; rw [if_neg c_5, ← hv, e3, show v + (u - v) = u by omega]
                  rw [e6]
                  have e7 : (mOr (s (2 + a)) = 1 ∨ mOr (s (2 + a)) = 2) ↔ v < u := by
                    constructor
                    · intro z; rw [b2_t z] at hu; omega
                    · intro z; by_cases y : mOr (s (2 + a)) = 1 ∨ mOr (s (2 + a)) = 2
                      · exact y
                      · rw [b2_f y] at hu; omega
                  by_cases z1 : p < v
                  · rw [if_pos z1]; try rw [uJ_n (by omega)]
                    try rw [uJ_n (by omega)]
                    rw [show p = 0 by omega]; exact hG2.1 (by omega)
                  · rw [if_neg z1]; by_cases z2 : p = v ∧ v < u
                    · rw [if_pos ⟨z2.1, e7.mpr z2.2⟩]; try rw [uJ_n (by omega)]
                      try rw [uJ_n (by omega)]
                      rw [z2.1]; exact hG2.2 z2.2
                    · rw [if_neg (fun y => z2 ⟨y.1, e7.mp y.2⟩)]; by_cases z3 : p = u
                      · rw [if_pos z3, z3]; try rw [uJ_n (show ¬ u = u + 1 by omega)]
                        rw [uJ_s]; unfold mHs; first | (rw [if_pos (by assumption)]; done) | (rw [if_neg (by assumption), if_pos (by assumption)]; done) | (rw [if_neg (by assumption), if_neg (by assumption)]; done)
                      · rw [if_neg z3]
                        have e8 : p = u + 1 := by omega
                        rw [e8]; first | exact uJ_s _ _ _ | (exfalso; have := b2_f (P := mOr (s (2 + a)) = 3) (by assumption); omega)) rfl hQ
      refine r_aload_n E 0 dX7_write_40 rfl rfl ?_
      refine r_iload_n E 1 dX7_write_41 rfl rfl ?_
      refine r_vP E (st := []) (c_X7_ornament l D m0 ms mh mn mp ml mm md mw mt mb mi mg cI kp sv pn rf tl s a (by first | assumption | omega | exact ⟨by omega, by omega⟩) (by first | assumption | omega | exact ⟨by omega, by omega⟩)) gX7_write_X7_ornament 1 kf_X7_ornament ⟨rfl, rfl⟩ ⟨by decide, by decide⟩ dX7_write_42 rfl 0 rfl rfl rfl rfl ⟨Nat.zero_le _, Nat.zero_le _⟩ [0, 1] rfl (by decide) [0] rfl (Nat.le_of_ble_eq_true rfl) ?_
      refine r_iconst E 1 rfl dX7_write_45 ?_
      refine r_icmp_eq E 58 dX7_write_46 (by decide) ⟨by omega, by omega⟩ ⟨by omega, by omega⟩ (fun c_46 => ?_) (fun c_46 => ?_)
      · refine r_aload_n E 0 dX7_write_58 rfl rfl ?_
        refine r_get E 6 0 16 dX7_write_59 in_X7_write_X7 lk_X7_write_44 rfl rfl (by decide) rfl ?_
        refine r_iload_n E 2 dX7_write_62 rfl rfl ?_
        refine r_aload_n E 0 dX7_write_63 rfl rfl ?_
        refine r_iload_n E 1 dX7_write_64 rfl rfl ?_
        refine r_vP E (st := [.int (iJ (v)), .ref mg]) (c_X7_ornament l D m0 ms mh mn mp ml mm md mw mt mb mi mg cI kp sv pn rf tl s a (by first | assumption | omega | exact ⟨by omega, by omega⟩) (by first | assumption | omega | exact ⟨by omega, by omega⟩)) gX7_write_X7_ornament 1 kf_X7_ornament ⟨rfl, rfl⟩ ⟨by decide, by decide⟩ dX7_write_65 rfl 0 rfl rfl rfl rfl ⟨Nat.zero_le _, Nat.zero_le _⟩ [0, 1] rfl (by decide) [0] rfl (Nat.le_of_ble_eq_true rfl) ?_
        refine r_iconst E 1 rfl dX7_write_68 ?_
        refine r_icmp_ne E 77 dX7_write_69 (by decide) ⟨by omega, by omega⟩ ⟨by omega, by omega⟩ (fun c_69 => ?_) (fun c_69 => ?_)
        · refine r_bipush E 100 rfl dX7_write_77 ?_
          refine r_iast E (i := v) 2 0 dX7_write_79 rfl rfl (by decide) ⟨by omega, by omega⟩ [(m0, .inr (6, [.ref ms, .ref mh, .int (iJ (kp)), .ref mn, .int (iJ (sv)), .ref mp, .int (iJ (pn)), .int (iJ (rf)), .ref ml, .ref mm, .ref md, .ref mw, .ref mt, .int (iJ (tl)), .ref mb, .ref mi, .ref mg])), (ms, cJ cI 34 (s)), (mg, cJ cI 4 (uJ G1 v 100))] rfl ?_
          refine r_iinc E (k := 2) [(2, .int (iJ ((v + 1)))), (0, .ref m0), (1, .int (iJ (a)))] dX7_write_80 rfl (by decide) rfl ?_
          refine r_lv [1, 2, 0] [(0, .ref m0), (1, .int (iJ (a))), (2, .int (iJ ((v + 1))))] rfl ?_
          exact K_83 (v + 1) (uJ G1 v 100) (by unfold b2; split <;> omega) (by
                first
                | exact ⟨fun z => by rw [uJ_n (by omega)]; exact hG1 z, fun _ => by rw [uJ_s]; first | (rw [if_pos (by assumption)]; done) | (rw [if_neg (by assumption)]; done)⟩
                | exact ⟨hG1, fun z => absurd z (by omega)⟩)
        · refine r_bipush E 102 rfl dX7_write_72 ?_
          refine r_goto E 79 dX7_write_74 (by decide) ?_
          refine r_iast E (i := v) 2 0 dX7_write_79 rfl rfl (by decide) ⟨by omega, by omega⟩ [(m0, .inr (6, [.ref ms, .ref mh, .int (iJ (kp)), .ref mn, .int (iJ (sv)), .ref mp, .int (iJ (pn)), .int (iJ (rf)), .ref ml, .ref mm, .ref md, .ref mw, .ref mt, .int (iJ (tl)), .ref mb, .ref mi, .ref mg])), (ms, cJ cI 34 (s)), (mg, cJ cI 4 (uJ G1 v 102))] rfl ?_
          refine r_iinc E (k := 2) [(2, .int (iJ ((v + 1)))), (0, .ref m0), (1, .int (iJ (a)))] dX7_write_80 rfl (by decide) rfl ?_
          refine r_lv [1, 2, 0] [(0, .ref m0), (1, .int (iJ (a))), (2, .int (iJ ((v + 1))))] rfl ?_
          exact K_83 (v + 1) (uJ G1 v 102) (by unfold b2; split <;> omega) (by
                first
                | exact ⟨fun z => by rw [uJ_n (by omega)]; exact hG1 z, fun _ => by rw [uJ_s]; first | (rw [if_pos (by assumption)]; done) | (rw [if_neg (by assumption)]; done)⟩
                | exact ⟨hG1, fun z => absurd z (by omega)⟩)
      · refine r_aload_n E 0 dX7_write_49 rfl rfl ?_
        refine r_iload_n E 1 dX7_write_50 rfl rfl ?_
        refine r_vP E (st := []) (c_X7_ornament l D m0 ms mh mn mp ml mm md mw mt mb mi mg cI kp sv pn rf tl s a (by first | assumption | omega | exact ⟨by omega, by omega⟩) (by first | assumption | omega | exact ⟨by omega, by omega⟩)) gX7_write_X7_ornament 1 kf_X7_ornament ⟨rfl, rfl⟩ ⟨by decide, by decide⟩ dX7_write_51 rfl 0 rfl rfl rfl rfl ⟨Nat.zero_le _, Nat.zero_le _⟩ [0, 1] rfl (by decide) [0] rfl (Nat.le_of_ble_eq_true rfl) ?_
        refine r_iconst E 2 rfl dX7_write_54 ?_
        refine r_icmp_ne E 83 dX7_write_55 (by decide) ⟨by omega, by omega⟩ ⟨by omega, by omega⟩ (fun c_55 => ?_) (fun c_55 => ?_)
        · refine r_lv [0, 1, 2] [(0, .ref m0), (1, .int (iJ (a))), (2, .int (iJ (v)))] rfl ?_
          exact K_83 v G1 (by unfold b2; split <;> omega) (by
                first
                | exact ⟨fun z => by rw [uJ_n (by omega)]; exact hG1 z, fun _ => by rw [uJ_s]; first | (rw [if_pos (by assumption)]; done) | (rw [if_neg (by assumption)]; done)⟩
                | exact ⟨hG1, fun z => absurd z (by omega)⟩)
        · refine r_aload_n E 0 dX7_write_58 rfl rfl ?_
          refine r_get E 6 0 16 dX7_write_59 in_X7_write_X7 lk_X7_write_44 rfl rfl (by decide) rfl ?_
          refine r_iload_n E 2 dX7_write_62 rfl rfl ?_
          refine r_aload_n E 0 dX7_write_63 rfl rfl ?_
          refine r_iload_n E 1 dX7_write_64 rfl rfl ?_
          refine r_vP E (st := [.int (iJ (v)), .ref mg]) (c_X7_ornament l D m0 ms mh mn mp ml mm md mw mt mb mi mg cI kp sv pn rf tl s a (by first | assumption | omega | exact ⟨by omega, by omega⟩) (by first | assumption | omega | exact ⟨by omega, by omega⟩)) gX7_write_X7_ornament 1 kf_X7_ornament ⟨rfl, rfl⟩ ⟨by decide, by decide⟩ dX7_write_65 rfl 0 rfl rfl rfl rfl ⟨Nat.zero_le _, Nat.zero_le _⟩ [0, 1] rfl (by decide) [0] rfl (Nat.le_of_ble_eq_true rfl) ?_
          refine r_iconst E 1 rfl dX7_write_68 ?_
          refine r_icmp_ne E 77 dX7_write_69 (by decide) ⟨by omega, by omega⟩ ⟨by omega, by omega⟩ (fun c_69 => ?_) (fun c_69 => ?_)
          · refine r_bipush E 100 rfl dX7_write_77 ?_
            refine r_iast E (i := v) 2 0 dX7_write_79 rfl rfl (by decide) ⟨by omega, by omega⟩ [(m0, .inr (6, [.ref ms, .ref mh, .int (iJ (kp)), .ref mn, .int (iJ (sv)), .ref mp, .int (iJ (pn)), .int (iJ (rf)), .ref ml, .ref mm, .ref md, .ref mw, .ref mt, .int (iJ (tl)), .ref mb, .ref mi, .ref mg])), (ms, cJ cI 34 (s)), (mg, cJ cI 4 (uJ G1 v 100))] rfl ?_
            refine r_iinc E (k := 2) [(2, .int (iJ ((v + 1)))), (0, .ref m0), (1, .int (iJ (a)))] dX7_write_80 rfl (by decide) rfl ?_
            refine r_lv [1, 2, 0] [(0, .ref m0), (1, .int (iJ (a))), (2, .int (iJ ((v + 1))))] rfl ?_
            exact K_83 (v + 1) (uJ G1 v 100) (by unfold b2; split <;> omega) (by
                  first
                  | exact ⟨fun z => by rw [uJ_n (by omega)]; exact hG1 z, fun _ => by rw [uJ_s]; first | (rw [if_pos (by assumption)]; done) | (rw [if_neg (by assumption)]; done)⟩
                  | exact ⟨hG1, fun z => absurd z (by omega)⟩)
          · refine r_bipush E 102 rfl dX7_write_72 ?_
            refine r_goto E 79 dX7_write_74 (by decide) ?_
            refine r_iast E (i := v) 2 0 dX7_write_79 rfl rfl (by decide) ⟨by omega, by omega⟩ [(m0, .inr (6, [.ref ms, .ref mh, .int (iJ (kp)), .ref mn, .int (iJ (sv)), .ref mp, .int (iJ (pn)), .int (iJ (rf)), .ref ml, .ref mm, .ref md, .ref mw, .ref mt, .int (iJ (tl)), .ref mb, .ref mi, .ref mg])), (ms, cJ cI 34 (s)), (mg, cJ cI 4 (uJ G1 v 102))] rfl ?_
            refine r_iinc E (k := 2) [(2, .int (iJ ((v + 1)))), (0, .ref m0), (1, .int (iJ (a)))] dX7_write_80 rfl (by decide) rfl ?_
            refine r_lv [1, 2, 0] [(0, .ref m0), (1, .int (iJ (a))), (2, .int (iJ ((v + 1))))] rfl ?_
            exact K_83 (v + 1) (uJ G1 v 102) (by unfold b2; split <;> omega) (by
                  first
                  | exact ⟨fun z => by rw [uJ_n (by omega)]; exact hG1 z, fun _ => by rw [uJ_s]; first | (rw [if_pos (by assumption)]; done) | (rw [if_neg (by assumption)]; done)⟩
                  | exact ⟨hG1, fun z => absurd z (by omega)⟩)
    refine r_aload_n E 1 dX7_write_20 rfl rfl ?_
    refine r_iload_n E 2 dX7_write_21 rfl rfl ?_
    refine r_vP E (st := []) (c_X7_accent l D m0 ms mh mn mp ml mm md mw mt mb mi mg cI kp sv pn rf tl s a (by first | assumption | omega | exact ⟨by omega, by omega⟩) (by first | assumption | omega | exact ⟨by omega, by omega⟩)) gX7_write_X7_accent 1 kf_X7_accent ⟨rfl, rfl⟩ ⟨by decide, by decide⟩ dX7_write_22 rfl 0 rfl rfl rfl rfl ⟨Nat.zero_le _, Nat.zero_le _⟩ [0, 1] rfl (by decide) [0] rfl (Nat.le_of_ble_eq_true rfl) ?_
    refine r_iconst E 1 rfl dX7_write_25 ?_
    refine r_icmp_ne E 40 dX7_write_26 (by decide) ⟨by omega, by omega⟩ ⟨by omega, by omega⟩ (fun c_26 => ?_) (fun c_26 => ?_)
    · refine r_lv [1, 2, 0] [(0, .ref m0), (1, .int (iJ (a))), (2, .int (iJ (0)))] rfl ?_
      exact K_40 0 sg (by omega) (fun z => by first | exact uJ_s _ _ _ | omega)
    · refine r_aload_n E 1 dX7_write_29 rfl rfl ?_
      refine r_get E 6 0 16 dX7_write_30 in_X7_write_X7 lk_X7_write_44 rfl rfl (by decide) rfl ?_
      refine r_iload_n E 0 dX7_write_33 rfl rfl ?_
      refine r_bipush E 62 rfl dX7_write_34 ?_
      refine r_iast E (i := 0) 2 0 dX7_write_36 rfl rfl (by decide) ⟨by omega, by omega⟩ [(m0, .inr (6, [.ref ms, .ref mh, .int (iJ (kp)), .ref mn, .int (iJ (sv)), .ref mp, .int (iJ (pn)), .int (iJ (rf)), .ref ml, .ref mm, .ref md, .ref mw, .ref mt, .int (iJ (tl)), .ref mb, .ref mi, .ref mg])), (ms, cJ cI 34 (s)), (mg, cJ cI 4 (uJ sg 0 62))] rfl ?_
      refine r_iinc E (k := 0) [(2, .int (iJ (1))), (0, .ref m0), (1, .int (iJ (a)))] dX7_write_37 rfl (by decide) rfl ?_
      refine r_lv [1, 2, 0] [(0, .ref m0), (1, .int (iJ (a))), (2, .int (iJ (1)))] rfl ?_
      exact K_40 1 (uJ sg 0 62) (by omega) (fun z => by first | exact uJ_s _ _ _ | omega)
  · refine r_aload_n E 0 dX7_write_8 rfl rfl ?_
    refine r_get E 6 0 16 dX7_write_9 in_X7_write_X7 lk_X7_write_44 rfl rfl (by decide) rfl ?_
    refine r_iconst E 0 rfl dX7_write_12 ?_
    refine r_bipush E 46 rfl dX7_write_13 ?_
    refine r_iast E (i := 0) 2 0 dX7_write_15 rfl rfl (by decide) ⟨by omega, by omega⟩ [(m0, .inr (6, [.ref ms, .ref mh, .int (iJ (kp)), .ref mn, .int (iJ (sv)), .ref mp, .int (iJ (pn)), .int (iJ (rf)), .ref ml, .ref mm, .ref md, .ref mw, .ref mt, .int (iJ (tl)), .ref mb, .ref mi, .ref mg])), (ms, cJ cI 34 (s)), (mg, cJ cI 4 (uJ sg 0 46))] rfl ?_
    refine r_iconst E 1 rfl dX7_write_16 ?_
    exact r_retM E (uJ sg 0 46) hr dX7_write_17 (by unfold mTl; rw [if_pos c_5]) (fun p h1 h2 => by
          have e : mTl (s (2 + a)) = 1 := by unfold mTl; rw [if_pos c_5]
          have e2 : p = 0 := by omega
          rw [e2, uJ_s]; unfold mSg; rw [if_pos c_5]) rfl hQ
