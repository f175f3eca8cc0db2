theorem kf_X7_tell : KF yX7_tell 1 wsX7_tell cX7_tell 2 none := ⟨rfl, by decide +kernel, by decide +kernel, by decide +kernel⟩
def rm_X7_tell : Room := { frames := 0, cells := 0, slots := 0, locals := 0 }
set_option maxRecDepth 20000 in
theorem in_X7_tell_X7 : ∀ w ∈ u_ws RX7 TX7 17, w ∈ wsX7_tell := by decide +kernel
set_option maxRecDepth 20000 in
theorem lk_X7_tell_136 : Cond.fieldLink RX7 136 (TX7 13).1 (TX7 13).2.1 (TX7 13).2.2.1 ∈ wsX7_tell := by decide +kernel
set_option maxRecDepth 20000 in
theorem lk_X7_tell_35 : Cond.fieldLink RX7 35 (TX7 12).1 (TX7 12).2.1 (TX7 12).2.2.1 ∈ wsX7_tell := by decide +kernel
set_option maxHeartbeats 1000000 in
set_option maxRecDepth 100000 in
theorem c_X7_tell (l : Launch) (D : va_G) (m0 : Nat) (ms : Nat) (mh : Nat) (mn : Nat) (mp : Nat) (ml : Nat) (mm : Nat) (md : Nat) (mw : Nat) (mt : Nat) (mb : Nat) (mi : Nat) (mg : Nat) (cI : ClassId) (kp : Int) (sv : Int) (pn : Int) (rf : Int) (tl : Int) (T : Int → Int) (v : Int) (htl : 0 ≤ tl ∧ tl ≤ 33) : MV (S := Unit) l yX7_tell wsX7_tell rm_X7_tell D vwCl [.ref m0, .int (iJ (v))] [(m0, .inr (6, [.ref ms, .ref mh, .int (iJ (kp)), .ref mn, .int (iJ (sv)), .ref mp, .int (iJ (pn)), .int (iJ (rf)), .ref ml, .ref mm, .ref md, .ref mw, .ref mt, .int (iJ (tl)), .ref mb, .ref mi, .ref mg])), (mt, cJ cI 33 (T))] [(cI, .int)] (fun (_ : Unit) => True) (fun (_ : Unit) => [(m0, .inr (6, [.ref ms, .ref mh, .int (iJ (kp)), .ref mn, .int (iJ (sv)), .ref mp, .int (iJ (pn)), .int (iJ (rf)), .ref ml, .ref mm, .ref md, .ref mw, .ref mt, .int (iJ ((teS (T, tl) v).2)), .ref mb, .ref mi, .ref mg])), (mt, cJ cI 33 ((teS (T, tl) v).1))]) := by
  refine MV.mk (cc := cX7_tell) (maxL := 2) (ret := none) (by decide) rfl (Nat.le_of_ble_eq_true rfl) rfl RX7 rfl ?_
  intro p_ e_ s_ m_ ar_ bw_ mt_ cd_ B_ Q_ hA E hr hQ
  refine r_aload_n E 0 dX7_tell_0 rfl rfl ?_
  refine r_get E 6 0 13 dX7_tell_1 in_X7_tell_X7 lk_X7_tell_136 rfl rfl (by decide) rfl ?_
  refine r_bipush E 32 rfl dX7_tell_4 ?_
  refine r_icmp_gt E 29 dX7_tell_6 (by decide) ⟨by omega, by omega⟩ ⟨by omega, by omega⟩ (fun c_6 => ?_) (fun c_6 => ?_)
  · exact r_retMV E () hr dX7_tell_29 trivial (by
          first
          | (have e : teS (T, tl) v = (uJ T tl v, tl + 1) := if_pos (show tl ≤ 32 by omega)
             rw [e])
          | (have e : teS (T, tl) v = (T, tl) := if_neg (show ¬ tl ≤ 32 by omega)
             rw [e])) hQ
  · refine r_aload_n E 0 dX7_tell_9 rfl rfl ?_
    refine r_get E 6 0 12 dX7_tell_10 in_X7_tell_X7 lk_X7_tell_35 rfl rfl (by decide) rfl ?_
    refine r_aload_n E 0 dX7_tell_13 rfl rfl ?_
    refine r_get E 6 0 13 dX7_tell_14 in_X7_tell_X7 lk_X7_tell_136 rfl rfl (by decide) rfl ?_
    refine r_iload_n E 1 dX7_tell_17 rfl rfl ?_
    refine r_iast E (i := tl) 1 0 dX7_tell_18 rfl rfl (by decide) ⟨by omega, by omega⟩ [(m0, .inr (6, [.ref ms, .ref mh, .int (iJ (kp)), .ref mn, .int (iJ (sv)), .ref mp, .int (iJ (pn)), .int (iJ (rf)), .ref ml, .ref mm, .ref md, .ref mw, .ref mt, .int (iJ (tl)), .ref mb, .ref mi, .ref mg])), (mt, cJ cI 33 (uJ T tl v))] rfl ?_
    refine r_aload_n E 0 dX7_tell_19 rfl rfl ?_
    refine r_dup E dX7_tell_20 rfl ?_
    refine r_get E 6 0 13 dX7_tell_21 in_X7_tell_X7 lk_X7_tell_136 rfl rfl (by decide) rfl ?_
    refine r_iconst E 1 rfl dX7_tell_24 ?_
    refine r_iadd E dX7_tell_25 ?_
    refine r_put E (ty := .int) 6 0 13 tyX7 tyX7_ok nmX7 dX7_tell_26 in_X7_tell_X7 lk_X7_tell_136 rfl rfl (by decide) rfl (by decide +kernel) rfl rfl (Nat.le_of_ble_eq_true rfl) [(m0, .inr (6, [.ref ms, .ref mh, .int (iJ (kp)), .ref mn, .int (iJ (sv)), .ref mp, .int (iJ (pn)), .int (iJ (rf)), .ref ml, .ref mm, .ref md, .ref mw, .ref mt, .int (iJ ((tl + 1))), .ref mb, .ref mi, .ref mg])), (mt, cJ cI 33 (uJ T tl v))] rfl ?_
    exact r_retMV E () hr dX7_tell_29 trivial (by
          first
          | (have e : teS (T, tl) v = (uJ T tl v, tl + 1) := if_pos (show tl ≤ 32 by omega)
             rw [e])
          | (have e : teS (T, tl) v = (T, tl) := if_neg (show ¬ tl ≤ 32 by omega)
             rw [e])) hQ
theorem kf_X7_repeat : KF yX7_repeat 2 wsX7_repeat cX7_repeat 6 none := ⟨rfl, by decide +kernel, by decide +kernel, by decide +kernel⟩
def rm_X7_repeat : Room := { frames := 1, cells := 0, slots := 0, locals := 21 }
set_option maxRecDepth 20000 in
theorem in_X7_repeat_X7 : ∀ w ∈ u_ws RX7 TX7 17, w ∈ wsX7_repeat := by decide +kernel
set_option maxRecDepth 20000 in
theorem lk_X7_repeat_136 : Cond.fieldLink RX7 136 (TX7 13).1 (TX7 13).2.1 (TX7 13).2.2.1 ∈ wsX7_repeat := by decide +kernel
set_option maxRecDepth 20000 in
theorem lk_X7_repeat_35 : Cond.fieldLink RX7 35 (TX7 12).1 (TX7 12).2.1 (TX7 12).2.2.1 ∈ wsX7_repeat := by decide +kernel
set_option maxHeartbeats 1000000 in
set_option maxRecDepth 100000 in
theorem c_X7_repeat (l : Launch) (D : va_G) (m0 : Nat) (ms : Nat) (mh : Nat) (mn : Nat) (mp : Nat) (ml : Nat) (mm : Nat) (md : Nat) (mw : Nat) (mt : Nat) (mb : Nat) (mi : Nat) (mg : Nat) (cI : ClassId) (kp : Int) (sv : Int) (pn : Int) (rf : Int) (tl : Int) (T : Int → Int) (a : Int) (b : Int) (htl : 0 ≤ tl ∧ tl ≤ 33) (ha : 0 ≤ a ∧ a ≤ 33) (hb : 1 ≤ b ∧ b ≤ 9) : MV (S := Unit) l yX7_repeat wsX7_repeat rm_X7_repeat D vwCl [.ref m0, .int (iJ (a)), .int (iJ (b))] [(m0, .inr (6, [.ref ms, .ref mh, .int (iJ (kp)), .ref mn, .int (iJ (sv)), .ref mp, .int (iJ (pn)), .int (iJ (rf)), .ref ml, .ref mm, .ref md, .ref mw, .ref mt, .int (iJ (tl)), .ref mb, .ref mi, .ref mg])), (mt, cJ cI 33 (T))] [(cI, .int)] (fun (_ : Unit) => True) (fun (_ : Unit) => [(m0, .inr (6, [.ref ms, .ref mh, .int (iJ (kp)), .ref mn, .int (iJ (sv)), .ref mp, .int (iJ (pn)), .int (iJ (rf)), .ref ml, .ref mm, .ref md, .ref mw, .ref mt, .int (iJ ((rpO a tl (b - 1).toNat (T, tl)).2)), .ref mb, .ref mi, .ref mg])), (mt, cJ cI 33 ((rpO a tl (b - 1).toNat (T, tl)).1))]) := by
  refine MV.mk (cc := cX7_repeat) (maxL := 6) (ret := none) (by decide) rfl (Nat.le_of_ble_eq_true rfl) rfl RX7 rfl ?_
  intro p_ e_ s_ m_ ar_ bw_ mt_ cd_ B_ Q_ hA E hr hQ
  refine r_aload_n E 0 dX7_repeat_0 rfl rfl ?_
  refine r_get E 6 0 13 dX7_repeat_1 in_X7_repeat_X7 lk_X7_repeat_136 rfl rfl (by decide) rfl ?_
  refine r_istore_n E [(3, .int (iJ (tl))), (0, .ref m0), (1, .int (iJ (a))), (2, .int (iJ (b)))] dX7_repeat_4 rfl (by decide) rfl ?_
  refine r_iconst E 1 rfl dX7_repeat_5 ?_
  refine r_istore E [(4, .int (iJ (1))), (3, .int (iJ (tl))), (0, .ref m0), (1, .int (iJ (a))), (2, .int (iJ (b)))] dX7_repeat_6 (by decide) rfl ?_
  have loop_8 : ∀ (N : Nat) (j : Int) (T1 : Int → Int) (t1 : Int), (1 ≤ j ∧ j ≤ b) → (0 ≤ t1 ∧ t1 ≤ 33) → (rpO a tl (b - j).toNat (T1, t1) = rpO a tl (b - 1).toNat (T, tl)) → (b - j).toNat < N → GG p_ l e_ rm_X7_repeat s_ m_ ar_ bw_ mt_ cd_ D vwCl B_ B_ s_.heap 6 0 0 Q_ [(m0, .inr (6, [.ref ms, .ref mh, .int (iJ (kp)), .ref mn, .int (iJ (sv)), .ref mp, .int (iJ (pn)), .int (iJ (rf)), .ref ml, .ref mm, .ref md, .ref mw, .ref mt, .int (iJ (t1)), .ref mb, .ref mi, .ref mg])), (mt, cJ cI 33 (T1))] [(0, .ref m0), (1, .int (iJ (a))), (2, .int (iJ (b))), (3, .int (iJ (tl))), (4, .int (iJ (j)))] 8 [] := by
    intro N; induction N with
    | zero => intro j T1 t1 hj ht1 hU hN; exact absurd hN (Nat.not_lt_zero _)
    | succ N ih8 =>
      intro j T1 t1 hj ht1 hU hN
      refine r_iload E 4 dX7_repeat_8 rfl ?_
      refine r_iload_n E 2 dX7_repeat_10 rfl rfl ?_
      refine r_icmp_ge E 46 dX7_repeat_11 (by decide) ⟨by omega, by omega⟩ ⟨by omega, by omega⟩ (fun c_11 => ?_) (fun c_11 => ?_)
      · exact r_retMV E () hr dX7_repeat_46 trivial (by
              have e : rpO a tl (b - 1).toNat (T, tl) = (T1, t1) := by rw [← hU, show (b - j).toNat = 0 by omega]; rfl
              rw [e]) hQ
      · refine r_iload_n E 1 dX7_repeat_14 rfl rfl ?_
        refine r_istore E [(5, .int (iJ (a))), (0, .ref m0), (1, .int (iJ (a))), (2, .int (iJ (b))), (3, .int (iJ (tl))), (4, .int (iJ (j)))] dX7_repeat_15 (by decide) rfl ?_
        have loop_17 : ∀ (N : Nat) (k : Int) (T2 : Int → Int) (t2 : Int), ((a ≤ k ∧ k ≤ tl) ∨ (k = a ∧ tl < a)) → (0 ≤ t2 ∧ t2 ≤ 33) → (rpI (tl - k).toNat k (T2, t2) = rpI (tl - a).toNat a (T1, t1)) → (tl - k).toNat < N → GG p_ l e_ rm_X7_repeat s_ m_ ar_ bw_ mt_ cd_ D vwCl B_ B_ s_.heap 6 0 0 Q_ [(m0, .inr (6, [.ref ms, .ref mh, .int (iJ (kp)), .ref mn, .int (iJ (sv)), .ref mp, .int (iJ (pn)), .int (iJ (rf)), .ref ml, .ref mm, .ref md, .ref mw, .ref mt, .int (iJ (t2)), .ref mb, .ref mi, .ref mg])), (mt, cJ cI 33 (T2))] [(0, .ref m0), (1, .int (iJ (a))), (2, .int (iJ (b))), (3, .int (iJ (tl))), (4, .int (iJ (j))), (5, .int (iJ (k)))] 17 [] := by
          intro N; induction N with
          | zero => intro k T2 t2 hi ht2 hI hN; exact absurd hN (Nat.not_lt_zero _)
          | succ N ih17 =>
            intro k T2 t2 hi ht2 hI hN
            refine r_iload E 5 dX7_repeat_17 rfl ?_
            refine r_iload_n E 3 dX7_repeat_19 rfl rfl ?_
            refine r_icmp_ge E 40 dX7_repeat_20 (by decide) ⟨by omega, by omega⟩ ⟨by omega, by omega⟩ (fun c_20 => ?_) (fun c_20 => ?_)
            · refine r_iinc E (k := 4) [(4, .int (iJ ((j + 1)))), (0, .ref m0), (1, .int (iJ (a))), (2, .int (iJ (b))), (3, .int (iJ (tl))), (5, .int (iJ (k)))] dX7_repeat_40 rfl (by decide) rfl ?_
              refine r_goto E 8 dX7_repeat_43 (by decide) ?_
              refine r_lv [1, 2, 3, 4, 0] [(0, .ref m0), (1, .int (iJ (a))), (2, .int (iJ (b))), (3, .int (iJ (tl))), (4, .int (iJ ((j + 1))))] rfl ?_
              exact ih8 (j + 1) T2 t2 ⟨by omega, by omega⟩ ht2 (by
                    rw [← hU]; refine Eq.trans ?_ (rpO_s _ (by omega)).symm; rw [← hI]
                    rcases hi with z | z
                    · rw [show (tl - k).toNat = 0 by omega]; rfl
                    · rw [show (tl - k).toNat = 0 by omega]; rfl) (by omega)
            · refine r_aload_n E 0 dX7_repeat_23 rfl rfl ?_
              refine r_aload_n E 0 dX7_repeat_24 rfl rfl ?_
              refine r_get E 6 0 12 dX7_repeat_25 in_X7_repeat_X7 lk_X7_repeat_35 rfl rfl (by decide) rfl ?_
              refine r_iload E 5 dX7_repeat_28 rfl ?_
              refine r_iald E (i := k) 1 0 dX7_repeat_30 rfl rfl (by decide) ⟨by omega, by omega⟩ ?_
              refine r_vV E (st := []) (c_X7_tell l D m0 ms mh mn mp ml mm md mw mt mb mi mg cI kp sv pn rf t2 T2 (T2 k) ht2) gX7_repeat_X7_tell 1 kf_X7_tell ⟨rfl, rfl⟩ ⟨by decide, by decide⟩ dX7_repeat_31 rfl 0 rfl rfl rfl rfl ⟨Nat.zero_le _, Nat.zero_le _⟩ [0, 1] rfl (by decide) [0] rfl (Nat.le_of_ble_eq_true rfl) [] [] rfl (by decide) (by decide) hA [0, 1] (by decide) (fun (_ : Unit) => [(m0, .inr (6, [.ref ms, .ref mh, .int (iJ (kp)), .ref mn, .int (iJ (sv)), .ref mp, .int (iJ (pn)), .int (iJ (rf)), .ref ml, .ref mm, .ref md, .ref mw, .ref mt, .int (iJ ((teS (T2, t2) (T2 k)).2)), .ref mb, .ref mi, .ref mg])), (mt, cJ cI 33 ((teS (T2, t2) (T2 k)).1))]) (fun _ => rfl) ?_
              rintro ⟨⟩ hp_1
              refine r_iinc E (k := 5) [(5, .int (iJ ((k + 1)))), (0, .ref m0), (1, .int (iJ (a))), (2, .int (iJ (b))), (3, .int (iJ (tl))), (4, .int (iJ (j)))] dX7_repeat_34 rfl (by decide) rfl ?_
              refine r_goto E 17 dX7_repeat_37 (by decide) ?_
              refine r_lv [1, 2, 3, 4, 5, 0] [(0, .ref m0), (1, .int (iJ (a))), (2, .int (iJ (b))), (3, .int (iJ (tl))), (4, .int (iJ (j))), (5, .int (iJ ((k + 1))))] rfl ?_
              exact ih17 (k + 1) ((teS (T2, t2) (T2 k)).1) ((teS (T2, t2) (T2 k)).2) (by omega) (teS_in (u := (T2, t2)) ht2).1 (by rw [← hI]; exact (rpI_s _ (by omega)).symm) (by omega)
        refine r_lv [1, 2, 3, 4, 5, 0] [(0, .ref m0), (1, .int (iJ (a))), (2, .int (iJ (b))), (3, .int (iJ (tl))), (4, .int (iJ (j))), (5, .int (iJ (a)))] rfl ?_
        exact loop_17 _ a T1 t1 (by omega) ht1 rfl (Nat.lt_succ_self _)
  refine r_lv [2, 3, 4, 1, 0] [(0, .ref m0), (1, .int (iJ (a))), (2, .int (iJ (b))), (3, .int (iJ (tl))), (4, .int (iJ (1)))] rfl ?_
  exact loop_8 _ 1 T tl ⟨by omega, by omega⟩ ⟨by omega, by omega⟩ rfl (Nat.lt_succ_self _)
theorem kf_X7_readPiece : KF yX7_readPiece 0 wsX7_readPiece cX7_readPiece 9 (some .int) := ⟨rfl, by decide +kernel, by decide +kernel, by decide +kernel⟩
def rm_X7_readPiece : Room := { frames := 2, cells := 0, slots := 0, locals := 46 }
set_option maxRecDepth 20000 in
theorem in_X7_readPiece_X7 : ∀ w ∈ u_ws RX7 TX7 17, w ∈ wsX7_readPiece := by decide +kernel
set_option maxRecDepth 20000 in
theorem lk_X7_readPiece_136 : Cond.fieldLink RX7 136 (TX7 13).1 (TX7 13).2.1 (TX7 13).2.2.1 ∈ wsX7_readPiece := by decide +kernel
set_option maxRecDepth 20000 in
theorem lk_X7_readPiece_133 : Cond.fieldLink RX7 133 (TX7 6).1 (TX7 6).2.1 (TX7 6).2.2.1 ∈ wsX7_readPiece := by decide +kernel
set_option maxRecDepth 20000 in
theorem lk_X7_readPiece_19 : Cond.fieldLink RX7 19 (TX7 5).1 (TX7 5).2.1 (TX7 5).2.2.1 ∈ wsX7_readPiece := by decide +kernel
set_option maxRecDepth 20000 in
theorem lk_X7_readPiece_38 : Cond.fieldLink RX7 38 (TX7 14).1 (TX7 14).2.1 (TX7 14).2.2.1 ∈ wsX7_readPiece := by decide +kernel
set_option maxRecDepth 20000 in
theorem lk_X7_readPiece_41 : Cond.fieldLink RX7 41 (TX7 15).1 (TX7 15).2.1 (TX7 15).2.2.1 ∈ wsX7_readPiece := by decide +kernel
set_option maxHeartbeats 1000000 in
set_option maxRecDepth 100000 in
theorem c_X7_readPiece (l : Launch) (D : va_G) (m0 : Nat) (ms : Nat) (mh : Nat) (mn : Nat) (mp : Nat) (ml : Nat) (mm : Nat) (md : Nat) (mw : Nat) (mt : Nat) (mb : Nat) (mi : Nat) (mg : Nat) (cI : ClassId) (kp : Int) (sv : Int) (pn : Int) (rf : Int) (tl : Int) (p : Int → Int) (T : Int → Int) (B : Int → Int) (X : Int → Int) (hpn : 0 ≤ pn ∧ pn ≤ 60) (hpp : ∀ j : Int, 0 ≤ j → j < pn → 33 ≤ p j ∧ p j ≤ 126) : MM (S := Int × (Int → Int) × Int × (Int → Int) × (Int → Int)) l yX7_readPiece wsX7_readPiece rm_X7_readPiece D vwCl [.ref m0] [(m0, .inr (6, [.ref ms, .ref mh, .int (iJ (kp)), .ref mn, .int (iJ (sv)), .ref mp, .int (iJ (pn)), .int (iJ (rf)), .ref ml, .ref mm, .ref md, .ref mw, .ref mt, .int (iJ (tl)), .ref mb, .ref mi, .ref mg])), (mp, cJ cI 60 (p)), (mt, cJ cI 33 (T)), (mb, cJ cI 30 (B)), (mi, cJ cI 30 (X))] [(cI, .int)] (fun (u : Int × (Int → Int) × Int × (Int → Int) × (Int → Int)) => u.1) (fun (u : Int × (Int → Int) × Int × (Int → Int) × (Int → Int)) => (rdM p pn 61 0 0 0 (T, 0) B X = (u.1, (u.2.1, u.2.2.1))) ∧ (0 ≤ u.2.2.1 ∧ u.2.2.1 ≤ 33) ∧ (-4 ≤ u.1 ∧ u.1 ≤ 60)) (fun (u : Int × (Int → Int) × Int × (Int → Int) × (Int → Int)) => [(m0, .inr (6, [.ref ms, .ref mh, .int (iJ (kp)), .ref mn, .int (iJ (sv)), .ref mp, .int (iJ (pn)), .int (iJ (rf)), .ref ml, .ref mm, .ref md, .ref mw, .ref mt, .int (iJ (u.2.2.1)), .ref mb, .ref mi, .ref mg])), (mp, cJ cI 60 (p)), (mt, cJ cI 33 (u.2.1)), (mb, cJ cI 30 (u.2.2.2.1)), (mi, cJ cI 30 (u.2.2.2.2))]) := by
  refine MM.mk (cc := cX7_readPiece) (maxL := 9) (ret := (some .int)) (by decide) rfl (Nat.le_of_ble_eq_true rfl) rfl RX7 rfl ?_
  intro p_ e_ s_ m_ ar_ bw_ mt_ cd_ B_ Q_ hA E hr hQ
  refine r_iconst E 0 rfl dX7_readPiece_0 ?_
  refine r_istore_n E [(1, .int (iJ (0))), (0, .ref m0)] dX7_readPiece_1 rfl (by decide) rfl ?_
  refine r_iconst E 0 rfl dX7_readPiece_2 ?_
  refine r_istore_n E [(2, .int (iJ (0))), (1, .int (iJ (0))), (0, .ref m0)] dX7_readPiece_3 rfl (by decide) rfl ?_
  refine r_iconst E 0 rfl dX7_readPiece_4 ?_
  refine r_istore_n E [(3, .int (iJ (0))), (2, .int (iJ (0))), (1, .int (iJ (0))), (0, .ref m0)] dX7_readPiece_5 rfl (by decide) rfl ?_
  refine r_aload_n E 3 dX7_readPiece_6 rfl rfl ?_
  refine r_iconst E 0 rfl dX7_readPiece_7 ?_
  refine r_put E (ty := .int) 6 0 13 tyX7 tyX7_ok nmX7 dX7_readPiece_8 in_X7_readPiece_X7 lk_X7_readPiece_136 rfl rfl (by decide) rfl (by decide +kernel) rfl rfl (Nat.le_of_ble_eq_true rfl) [(m0, .inr (6, [.ref ms, .ref mh, .int (iJ (kp)), .ref mn, .int (iJ (sv)), .ref mp, .int (iJ (pn)), .int (iJ (rf)), .ref ml, .ref mm, .ref md, .ref mw, .ref mt, .int (iJ (0)), .ref mb, .ref mi, .ref mg])), (mp, cJ cI 60 (p)), (mt, cJ cI 33 (T)), (mb, cJ cI 30 (B)), (mi, cJ cI 30 (X))] rfl ?_
  have loop_11 : ∀ (N : Nat) (k : Int) (d : Int) (f : Int) (T1 : Int → Int) (t1 : Int) (B1 : Int → Int) (X1 : Int → Int) (r : Int), (0 ≤ k ∧ k ≤ pn) → (0 ≤ d ∧ 2 * d ≤ k) → (f = 0 ∨ f = 1) → (0 ≤ t1 ∧ t1 ≤ 33) → (pn - k < r) → (∀ j : Int, 0 ≤ j → j < d → (0 ≤ B1 j ∧ B1 j ≤ 33) ∧ (2 ≤ X1 j ∧ X1 j ≤ 9)) → (rdM p pn r.toNat k d f (T1, t1) B1 X1 = rdM p pn 61 0 0 0 (T, 0) B X) → (pn - k).toNat < N → GG p_ l e_ rm_X7_readPiece s_ m_ ar_ bw_ mt_ cd_ D vwCl B_ B_ s_.heap 9 0 0 Q_ [(m0, .inr (6, [.ref ms, .ref mh, .int (iJ (kp)), .ref mn, .int (iJ (sv)), .ref mp, .int (iJ (pn)), .int (iJ (rf)), .ref ml, .ref mm, .ref md, .ref mw, .ref mt, .int (iJ (t1)), .ref mb, .ref mi, .ref mg])), (mp, cJ cI 60 (p)), (mt, cJ cI 33 (T1)), (mb, cJ cI 30 (B1)), (mi, cJ cI 30 (X1))] [(0, .ref m0), (1, .int (iJ (k))), (2, .int (iJ (d))), (3, .int (iJ (f)))] 11 [] := by
    intro N; induction N with
    | zero => intro k d f T1 t1 B1 X1 r hk hd hf ht1 hr_ hBX hs hN; exact absurd hN (Nat.not_lt_zero _)
    | succ N ih11 =>
      intro k d f T1 t1 B1 X1 r hk hd hf ht1 hr_ hBX hs hN
      refine r_iload_n E 1 dX7_readPiece_11 rfl rfl ?_
      refine r_aload_n E 0 dX7_readPiece_12 rfl rfl ?_
      refine r_get E 6 0 6 dX7_readPiece_13 in_X7_readPiece_X7 lk_X7_readPiece_133 rfl rfl (by decide) rfl ?_
      refine r_icmp_ge E 296 dX7_readPiece_16 (by decide) ⟨by omega, by omega⟩ ⟨by omega, by omega⟩ (fun c_16 => ?_) (fun c_16 => ?_)
      · refine r_iload_n E 2 dX7_readPiece_296 rfl rfl ?_
        refine r_if_gt E 304 dX7_readPiece_297 (by decide) ⟨by omega, by omega⟩ (fun c_297 => ?_) (fun c_297 => ?_)
        · refine r_aload_n E 0 dX7_readPiece_304 rfl rfl ?_
          refine r_get E 6 0 6 dX7_readPiece_305 in_X7_readPiece_X7 lk_X7_readPiece_133 rfl rfl (by decide) rfl ?_
          refine r_goto E 313 dX7_readPiece_308 (by decide) ?_
          exact r_retM E (pn, T1, t1, B1, X1) hr dX7_readPiece_313 rfl (by
                refine ⟨?_, by first | exact ht1 | omega, by first | omega | (split <;> omega)⟩
                rw [← hs]
                first
                | exact rdM_nuB (by omega) (by omega) (by omega) (by omega) (by omega)
                | exact rdM_clB (by omega) (by omega) (by omega) (by omega) (by omega) (by omega)
                | exact rdM_stB _ 0 _ (by omega) (by omega) (by omega) (by omega) (by omega) (by omega) (by omega) (by omega) (by assumption)
                | exact rdM_stB _ 1 _ (by omega) (by omega) (by omega) (by omega) (by omega) (by omega) (by omega) (by omega) (by assumption)
                | exact rdM_stB _ 2 _ (by omega) (by omega) (by omega) (by omega) (by omega) (by omega) (by omega) (by omega) (by assumption)
                | (rw [rdM_end (by omega) (by omega)]; first | (rw [if_pos (by omega)]; done) | (rw [if_neg (by omega)]; done))) rfl hQ
        · refine r_iload_n E 3 dX7_readPiece_300 rfl rfl ?_
          refine r_if_ne E 311 dX7_readPiece_301 (by decide) ⟨by omega, by omega⟩ (fun c_301 => ?_) (fun c_301 => ?_)
          · refine r_bipush E (-4) rfl dX7_readPiece_311 ?_
            exact r_retM E ((-4), T1, t1, B1, X1) hr dX7_readPiece_313 rfl (by
                  refine ⟨?_, by first | exact ht1 | omega, by first | omega | (split <;> omega)⟩
                  rw [← hs]
                  first
                  | exact rdM_nuB (by omega) (by omega) (by omega) (by omega) (by omega)
                  | exact rdM_clB (by omega) (by omega) (by omega) (by omega) (by omega) (by omega)
                  | exact rdM_stB _ 0 _ (by omega) (by omega) (by omega) (by omega) (by omega) (by omega) (by omega) (by omega) (by assumption)
                  | exact rdM_stB _ 1 _ (by omega) (by omega) (by omega) (by omega) (by omega) (by omega) (by omega) (by omega) (by assumption)
                  | exact rdM_stB _ 2 _ (by omega) (by omega) (by omega) (by omega) (by omega) (by omega) (by omega) (by omega) (by assumption)
                  | (rw [rdM_end (by omega) (by omega)]; first | (rw [if_pos (by omega)]; done) | (rw [if_neg (by omega)]; done))) rfl hQ
          · refine r_aload_n E 0 dX7_readPiece_304 rfl rfl ?_
            refine r_get E 6 0 6 dX7_readPiece_305 in_X7_readPiece_X7 lk_X7_readPiece_133 rfl rfl (by decide) rfl ?_
            refine r_goto E 313 dX7_readPiece_308 (by decide) ?_
            exact r_retM E (pn, T1, t1, B1, X1) hr dX7_readPiece_313 rfl (by
                  refine ⟨?_, by first | exact ht1 | omega, by first | omega | (split <;> omega)⟩
                  rw [← hs]
                  first
                  | exact rdM_nuB (by omega) (by omega) (by omega) (by omega) (by omega)
                  | exact rdM_clB (by omega) (by omega) (by omega) (by omega) (by omega) (by omega)
                  | exact rdM_stB _ 0 _ (by omega) (by omega) (by omega) (by omega) (by omega) (by omega) (by omega) (by omega) (by assumption)
                  | exact rdM_stB _ 1 _ (by omega) (by omega) (by omega) (by omega) (by omega) (by omega) (by omega) (by omega) (by assumption)
                  | exact rdM_stB _ 2 _ (by omega) (by omega) (by omega) (by omega) (by omega) (by omega) (by omega) (by omega) (by assumption)
                  | (rw [rdM_end (by omega) (by omega)]; first | (rw [if_pos (by omega)]; done) | (rw [if_neg (by omega)]; done))) rfl hQ
      · refine r_aload_n E 0 dX7_readPiece_19 rfl rfl ?_
        refine r_get E 6 0 5 dX7_readPiece_20 in_X7_readPiece_X7 lk_X7_readPiece_19 rfl rfl (by decide) rfl ?_
        refine r_iload_n E 1 dX7_readPiece_23 rfl rfl ?_
        refine r_iald E (i := k) 1 0 dX7_readPiece_24 rfl rfl (by decide) ⟨by omega, by omega⟩ ?_
        have f_1 := hpp k (by omega) (by omega)
        refine r_istore E [(4, .int (iJ (p k))), (0, .ref m0), (1, .int (iJ (k))), (2, .int (iJ (d))), (3, .int (iJ (f)))] dX7_readPiece_25 (by decide) rfl ?_
        refine r_iload E 0 dX7_readPiece_27 rfl ?_
        refine r_bipush E 46 rfl dX7_readPiece_29 ?_
        refine r_icmp_ne E 47 dX7_readPiece_31 (by decide) ⟨by omega, by omega⟩ ⟨by omega, by omega⟩ (fun c_31 => ?_) (fun c_31 => ?_)
        · refine r_iload E 0 dX7_readPiece_47 rfl ?_
          refine r_bipush E 50 rfl dX7_readPiece_49 ?_
          refine r_bipush E 57 rfl dX7_readPiece_51 ?_
          refine r_sP E (st := []) (c_X7_in l D (p k) 50 57 (by first | assumption | omega | exact ⟨by omega, by omega⟩) (by first | assumption | omega | exact ⟨by omega, by omega⟩) (by first | assumption | omega | exact ⟨by omega, by omega⟩)) gX7_readPiece_X7_in 3 kf_X7_in ⟨rfl, rfl⟩ ⟨by decide, by decide⟩ dX7_readPiece_53 rfl rfl ⟨Nat.zero_le _, Nat.zero_le _⟩ [] rfl (by decide) [] rfl (Nat.le_of_ble_eq_true rfl) ?_
          refine r_ifeq_b E 107 dX7_readPiece_56 (by decide) (fun c_56 => ?_) (fun c_56 => ?_)
          · refine r_iload E 0 dX7_readPiece_107 rfl ?_
            refine r_bipush E 41 rfl dX7_readPiece_109 ?_
            refine r_icmp_ne E 149 dX7_readPiece_111 (by decide) ⟨by omega, by omega⟩ ⟨by omega, by omega⟩ (fun c_111 => ?_) (fun c_111 => ?_)
            · refine r_iload E 0 dX7_readPiece_149 rfl ?_
              refine r_bipush E 62 rfl dX7_readPiece_151 ?_
              refine r_icmp_ne E 160 dX7_readPiece_153 (by decide) ⟨by omega, by omega⟩ ⟨by omega, by omega⟩ (fun c_153 => ?_) (fun c_153 => ?_)
              · refine r_iconst E 0 rfl dX7_readPiece_160 ?_
                refine r_istore E [(5, .int (iJ (0))), (4, .int (iJ (p k))), (0, .ref m0), (1, .int (iJ (k))), (2, .int (iJ (d))), (3, .int (iJ (f)))] dX7_readPiece_161 (by decide) rfl ?_
                refine r_iload_n E 3 dX7_readPiece_163 rfl rfl ?_
                refine r_iload E 0 dX7_readPiece_164 rfl ?_
                refine r_iadd E dX7_readPiece_166 ?_
                refine r_istore_n E [(1, .int (iJ ((k + 0)))), (5, .int (iJ (0))), (4, .int (iJ (p k))), (0, .ref m0), (2, .int (iJ (d))), (3, .int (iJ (f)))] dX7_readPiece_167 rfl (by decide) rfl ?_
                refine r_aload_n E 3 dX7_readPiece_168 rfl rfl ?_
                refine r_iload_n E 0 dX7_readPiece_169 rfl rfl ?_
                refine r_vP E (st := []) (c_X7_next l D m0 ms mh mn mp ml mm md mw mt mb mi mg cI kp sv pn rf t1 p (k + 0) (by first | assumption | omega | exact ⟨by omega, by omega⟩) (by first | assumption | omega | exact ⟨by omega, by omega⟩) (by first | assumption | omega | exact ⟨by omega, by omega⟩)) gX7_readPiece_X7_next 1 kf_X7_next ⟨rfl, rfl⟩ ⟨by decide, by decide⟩ dX7_readPiece_170 rfl 0 rfl rfl rfl rfl ⟨Nat.zero_le _, Nat.zero_le _⟩ [0, 1] rfl (by decide) [0] rfl (Nat.le_of_ble_eq_true rfl) ?_
                have := nxV_f hpp (k + 0) (by omega)
                refine r_top (b := (nxV p pn (k + 0))) rfl ?_
                refine r_bipush E 102 rfl dX7_readPiece_173 ?_
                refine r_icmp_ne E 182 dX7_readPiece_175 (by decide) ⟨by omega, by omega⟩ ⟨by omega, by omega⟩ (fun c_175 => ?_) (fun c_175 => ?_)
                · refine r_aload_n E 3 dX7_readPiece_182 rfl rfl ?_
                  refine r_iload_n E 0 dX7_readPiece_183 rfl rfl ?_
                  refine r_vP E (st := []) (c_X7_next l D m0 ms mh mn mp ml mm md mw mt mb mi mg cI kp sv pn rf t1 p (k + 0) (by first | assumption | omega | exact ⟨by omega, by omega⟩) (by first | assumption | omega | exact ⟨by omega, by omega⟩) (by first | assumption | omega | exact ⟨by omega, by omega⟩)) gX7_readPiece_X7_next 1 kf_X7_next ⟨rfl, rfl⟩ ⟨by decide, by decide⟩ dX7_readPiece_184 rfl 0 rfl rfl rfl rfl ⟨Nat.zero_le _, Nat.zero_le _⟩ [0, 1] rfl (by decide) [0] rfl (Nat.le_of_ble_eq_true rfl) ?_
                  have := nxV_f hpp (k + 0) (by omega)
                  refine r_top (b := (nxV p pn (k + 0))) rfl ?_
                  refine r_bipush E 100 rfl dX7_readPiece_187 ?_
                  refine r_icmp_ne E 196 dX7_readPiece_189 (by decide) ⟨by omega, by omega⟩ ⟨by omega, by omega⟩ (fun c_189 => ?_) (fun c_189 => ?_)
                  · refine r_iconst E 0 rfl dX7_readPiece_196 ?_
                    refine r_istore E [(6, .int (iJ (0))), (1, .int (iJ ((k + 0)))), (5, .int (iJ (0))), (4, .int (iJ (p k))), (0, .ref m0), (2, .int (iJ (d))), (3, .int (iJ (f)))] dX7_readPiece_197 (by decide) rfl ?_
                    refine r_iload_n E 1 dX7_readPiece_199 rfl rfl ?_
                    refine r_iload E 0 dX7_readPiece_200 rfl ?_
                    refine r_if_le E 209 dX7_readPiece_202 (by decide) ⟨by omega, by omega⟩ (fun c_202 => ?_) (fun c_202 => absurd c_202 (by omega))
                    refine r_iconst E 0 rfl dX7_readPiece_209 ?_
                    refine r_iadd E dX7_readPiece_210 ?_
                    refine r_istore_n E [(1, .int (iJ (((k + 0) + 0)))), (6, .int (iJ (0))), (5, .int (iJ (0))), (4, .int (iJ (p k))), (0, .ref m0), (2, .int (iJ (d))), (3, .int (iJ (f)))] dX7_readPiece_211 rfl (by decide) rfl ?_
                    refine r_aload_n E 4 dX7_readPiece_212 rfl rfl ?_
                    refine r_iload_n E 0 dX7_readPiece_213 rfl rfl ?_
                    refine r_vP E (st := []) (c_X7_next l D m0 ms mh mn mp ml mm md mw mt mb mi mg cI kp sv pn rf t1 p ((k + 0) + 0) (by first | assumption | omega | exact ⟨by omega, by omega⟩) (by first | assumption | omega | exact ⟨by omega, by omega⟩) (by first | assumption | omega | exact ⟨by omega, by omega⟩)) gX7_readPiece_X7_next 1 kf_X7_next ⟨rfl, rfl⟩ ⟨by decide, by decide⟩ dX7_readPiece_214 rfl 0 rfl rfl rfl rfl ⟨Nat.zero_le _, Nat.zero_le _⟩ [0, 1] rfl (by decide) [0] rfl (Nat.le_of_ble_eq_true rfl) ?_
                    have := nxV_f hpp ((k + 0) + 0) (by omega)
                    refine r_top (b := (nxV p pn ((k + 0) + 0))) rfl ?_
                    refine r_sP E (st := []) (c_X7_handFor l D (nxV p pn ((k + 0) + 0)) (by first | assumption | omega | exact ⟨by omega, by omega⟩)) gX7_readPiece_X7_handFor 1 kf_X7_handFor ⟨rfl, rfl⟩ ⟨by decide, by decide⟩ dX7_readPiece_217 rfl rfl ⟨Nat.zero_le _, Nat.zero_le _⟩ [] rfl (by decide) [] rfl (Nat.le_of_ble_eq_true rfl) ?_
                    have f_H := mHf_f (nxV p pn ((k + 0) + 0))
                    refine r_istore E [(7, .int (iJ (mHf (nxV p pn ((k + 0) + 0))))), (1, .int (iJ (((k + 0) + 0)))), (6, .int (iJ (0))), (5, .int (iJ (0))), (4, .int (iJ (p k))), (0, .ref m0), (2, .int (iJ (d))), (3, .int (iJ (f)))] dX7_readPiece_220 (by decide) rfl ?_
                    refine r_iload E 0 dX7_readPiece_222 rfl ?_
                    refine r_bipush E (-4) rfl dX7_readPiece_224 ?_
                    refine r_icmp_ne E 231 dX7_readPiece_226 (by decide) ⟨by omega, by omega⟩ ⟨by omega, by omega⟩ (fun c_226 => ?_) (fun c_226 => ?_)
                    · refine r_iinc E (k := 1) [(1, .int (iJ ((((k + 0) + 0) + 1)))), (7, .int (iJ (mHf (nxV p pn ((k + 0) + 0))))), (6, .int (iJ (0))), (5, .int (iJ (0))), (4, .int (iJ (p k))), (0, .ref m0), (2, .int (iJ (d))), (3, .int (iJ (f)))] dX7_readPiece_231 rfl (by decide) rfl ?_
                      refine r_iload E 2 dX7_readPiece_234 rfl ?_
                      refine r_if_ne E 253 dX7_readPiece_236 (by decide) ⟨by omega, by omega⟩ (fun c_236 => absurd c_236 (by omega)) (fun c_236 => ?_)
                      refine r_aload_n E 5 dX7_readPiece_239 rfl rfl ?_
                      refine r_iload_n E 0 dX7_readPiece_240 rfl rfl ?_
                      refine r_vP E (st := []) (c_X7_next l D m0 ms mh mn mp ml mm md mw mt mb mi mg cI kp sv pn rf t1 p (((k + 0) + 0) + 1) (by first | assumption | omega | exact ⟨by omega, by omega⟩) (by first | assumption | omega | exact ⟨by omega, by omega⟩) (by first | assumption | omega | exact ⟨by omega, by omega⟩)) gX7_readPiece_X7_next 1 kf_X7_next ⟨rfl, rfl⟩ ⟨by decide, by decide⟩ dX7_readPiece_241 rfl 0 rfl rfl rfl rfl ⟨Nat.zero_le _, Nat.zero_le _⟩ [0, 1] rfl (by decide) [0] rfl (Nat.le_of_ble_eq_true rfl) ?_
                      have := nxV_f hpp (((k + 0) + 0) + 1) (by omega)
                      refine r_top (b := (nxV p pn (((k + 0) + 0) + 1))) rfl ?_
                      refine r_bipush E 42 rfl dX7_readPiece_244 ?_
                      refine r_icmp_ne E 253 dX7_readPiece_246 (by decide) ⟨by omega, by omega⟩ ⟨by omega, by omega⟩ (fun c_246 => ?_) (fun c_246 => ?_)
                      · refine r_iconst E 0 rfl dX7_readPiece_253 ?_
                        refine r_istore E [(8, .int (iJ (0))), (1, .int (iJ ((((k + 0) + 0) + 1)))), (7, .int (iJ (mHf (nxV p pn ((k + 0) + 0))))), (6, .int (iJ (0))), (5, .int (iJ (0))), (4, .int (iJ (p k))), (0, .ref m0), (2, .int (iJ (d))), (3, .int (iJ (f)))] dX7_readPiece_254 (by decide) rfl ?_
                        refine r_iload_n E 1 dX7_readPiece_256 rfl rfl ?_
                        refine r_iload E 0 dX7_readPiece_257 rfl ?_
                        refine r_if_eq E 266 dX7_readPiece_259 (by decide) ⟨by omega, by omega⟩ (fun c_259 => ?_) (fun c_259 => absurd c_259 (by omega))
                        refine r_iconst E 0 rfl dX7_readPiece_266 ?_
                        refine r_iadd E dX7_readPiece_267 ?_
                        refine r_istore_n E [(1, .int (iJ (((((k + 0) + 0) + 1) + 0)))), (8, .int (iJ (0))), (7, .int (iJ (mHf (nxV p pn ((k + 0) + 0))))), (6, .int (iJ (0))), (5, .int (iJ (0))), (4, .int (iJ (p k))), (0, .ref m0), (2, .int (iJ (d))), (3, .int (iJ (f)))] dX7_readPiece_268 rfl (by decide) rfl ?_
                        refine r_aload_n E 6 dX7_readPiece_269 rfl rfl ?_
                        refine r_iload E 2 dX7_readPiece_270 rfl ?_
                        refine r_iload E 4 dX7_readPiece_272 rfl ?_
                        refine r_iload E 1 dX7_readPiece_274 rfl ?_
                        refine r_if_eq E 283 dX7_readPiece_276 (by decide) ⟨by omega, by omega⟩ (fun c_276 => ?_) (fun c_276 => absurd c_276 (by omega))
                        refine r_iload E 3 dX7_readPiece_283 rfl ?_
                        refine r_sP E (st := [.ref m0]) (c_X7_code l D (mHf (nxV p pn ((k + 0) + 0))) 0 0) gX7_readPiece_X7_code 3 kf_X7_code ⟨rfl, rfl⟩ ⟨by decide, by decide⟩ dX7_readPiece_285 rfl rfl ⟨Nat.zero_le _, Nat.zero_le _⟩ [] rfl (by decide) [] rfl (Nat.le_of_ble_eq_true rfl) ?_
                        refine r_vV E (st := []) (c_X7_tell l D m0 ms mh mn mp ml mm md mw mt mb mi mg cI kp sv pn rf t1 T1 (1 + (mHf (nxV p pn ((k + 0) + 0))) + 3 * 0 + 6 * 0) ht1) gX7_readPiece_X7_tell 1 kf_X7_tell ⟨rfl, rfl⟩ ⟨by decide, by decide⟩ dX7_readPiece_288 rfl 0 rfl rfl rfl rfl ⟨Nat.zero_le _, Nat.zero_le _⟩ [0, 2] rfl (by decide) [0] rfl (Nat.le_of_ble_eq_true rfl) [(mp, cJ cI 60 (p)), (mb, cJ cI 30 (B1)), (mi, cJ cI 30 (X1))] [1, 3, 4] rfl (by decide) (by decide) hA [3, 0, 4, 1, 2] (by decide) (fun (_ : Unit) => [(m0, .inr (6, [.ref ms, .ref mh, .int (iJ (kp)), .ref mn, .int (iJ (sv)), .ref mp, .int (iJ (pn)), .int (iJ (rf)), .ref ml, .ref mm, .ref md, .ref mw, .ref mt, .int (iJ ((teS (T1, t1) (1 + (mHf (nxV p pn ((k + 0) + 0))) + 3 * 0 + 6 * 0)).2)), .ref mb, .ref mi, .ref mg])), (mp, cJ cI 60 (p)), (mt, cJ cI 33 ((teS (T1, t1) (1 + (mHf (nxV p pn ((k + 0) + 0))) + 3 * 0 + 6 * 0)).1)), (mb, cJ cI 30 (B1)), (mi, cJ cI 30 (X1))]) (fun _ => rfl) ?_
                        rintro ⟨⟩ hp_2
                        refine r_iconst E 1 rfl dX7_readPiece_291 ?_
                        refine r_istore_n E [(3, .int (iJ (1))), (1, .int (iJ (((((k + 0) + 0) + 1) + 0)))), (8, .int (iJ (0))), (7, .int (iJ (mHf (nxV p pn ((k + 0) + 0))))), (6, .int (iJ (0))), (5, .int (iJ (0))), (4, .int (iJ (p k))), (0, .ref m0), (2, .int (iJ (d)))] dX7_readPiece_292 rfl (by decide) rfl ?_
                        refine r_goto E 11 dX7_readPiece_293 (by decide) ?_
                        refine r_lv [7, 1, 8, 0] [(0, .ref m0), (1, .int (iJ (((((k + 0) + 0) + 1) + 0)))), (2, .int (iJ (d))), (3, .int (iJ (1)))] rfl ?_
                        exact ih11 ((((k + 0) + 0) + 1) + 0) d 1 ((teS (T1, t1) (1 + (mHf (nxV p pn ((k + 0) + 0))) + 3 * 0 + 6 * 0)).1) ((teS (T1, t1) (1 + (mHf (nxV p pn ((k + 0) + 0))) + 3 * 0 + 6 * 0)).2) B1 X1 (r - 1) ⟨by omega, by omega⟩ ⟨by omega, by omega⟩ (by first | exact Or.inl rfl | exact Or.inr rfl | exact hf) (by first | exact ht1 | exact (teS_in (u := (T1, t1)) ht1).1 | exact rpO_in _ (u := (T1, t1)) ht1) (by omega) (fun j h1 h2 => by first | exact hBX j h1 (by omega) | (by_cases z : j = d; subst z; rw [uJ_s, uJ_s]; omega; rw [uJ_n z, uJ_n z]; exact hBX j h1 (by omega))) (by
                              rw [← hs]
                              first
                              | exact (rdM_46 (by omega) (by omega) (by omega)).symm
                              | exact (rdM_num (by omega) (by omega) (by omega) (by omega) (by omega)).symm
                              | exact (rdM_cl (u := (T1, t1)) (B := B1) (X := X1) (d := d) (f := f) (k := k) (by omega) (by omega) (by omega) (by omega) (by omega) (by omega)).symm
                              | exact (rdM_st _ 0 _ _ _ (by omega) (by omega) (by omega) (by omega) (by omega) (by omega) (by omega) (by omega) (by assumption) (by omega) (by omega)).symm
                              | exact (rdM_st _ 1 _ _ _ (by omega) (by omega) (by omega) (by omega) (by omega) (by omega) (by omega) (by omega) (by assumption) (by omega) (by omega)).symm
                              | exact (rdM_st _ 2 _ _ _ (by omega) (by omega) (by omega) (by omega) (by omega) (by omega) (by omega) (by omega) (by assumption) (by omega) (by omega)).symm) (by omega)
                      · refine r_iconst E 1 rfl dX7_readPiece_249 ?_
                        refine r_goto E 254 dX7_readPiece_250 (by decide) ?_
                        refine r_istore E [(8, .int (iJ (1))), (1, .int (iJ ((((k + 0) + 0) + 1)))), (7, .int (iJ (mHf (nxV p pn ((k + 0) + 0))))), (6, .int (iJ (0))), (5, .int (iJ (0))), (4, .int (iJ (p k))), (0, .ref m0), (2, .int (iJ (d))), (3, .int (iJ (f)))] dX7_readPiece_254 (by decide) rfl ?_
                        refine r_iload_n E 1 dX7_readPiece_256 rfl rfl ?_
                        refine r_iload E 0 dX7_readPiece_257 rfl ?_
                        refine r_if_eq E 266 dX7_readPiece_259 (by decide) ⟨by omega, by omega⟩ (fun c_259 => absurd c_259 (by omega)) (fun c_259 => ?_)
                        refine r_iconst E 1 rfl dX7_readPiece_262 ?_
                        refine r_goto E 267 dX7_readPiece_263 (by decide) ?_
                        refine r_iadd E dX7_readPiece_267 ?_
                        refine r_istore_n E [(1, .int (iJ (((((k + 0) + 0) + 1) + 1)))), (8, .int (iJ (1))), (7, .int (iJ (mHf (nxV p pn ((k + 0) + 0))))), (6, .int (iJ (0))), (5, .int (iJ (0))), (4, .int (iJ (p k))), (0, .ref m0), (2, .int (iJ (d))), (3, .int (iJ (f)))] dX7_readPiece_268 rfl (by decide) rfl ?_
                        refine r_aload_n E 6 dX7_readPiece_269 rfl rfl ?_
                        refine r_iload E 2 dX7_readPiece_270 rfl ?_
                        refine r_iload E 4 dX7_readPiece_272 rfl ?_
                        refine r_iload E 1 dX7_readPiece_274 rfl ?_
                        refine r_if_eq E 283 dX7_readPiece_276 (by decide) ⟨by omega, by omega⟩ (fun c_276 => absurd c_276 (by omega)) (fun c_276 => ?_)
                        refine r_iconst E 3 rfl dX7_readPiece_279 ?_
                        refine r_goto E 285 dX7_readPiece_280 (by decide) ?_
                        refine r_sP E (st := [.ref m0]) (c_X7_code l D (mHf (nxV p pn ((k + 0) + 0))) 0 3) gX7_readPiece_X7_code 3 kf_X7_code ⟨rfl, rfl⟩ ⟨by decide, by decide⟩ dX7_readPiece_285 rfl rfl ⟨Nat.zero_le _, Nat.zero_le _⟩ [] rfl (by decide) [] rfl (Nat.le_of_ble_eq_true rfl) ?_
                        refine r_vV E (st := []) (c_X7_tell l D m0 ms mh mn mp ml mm md mw mt mb mi mg cI kp sv pn rf t1 T1 (1 + (mHf (nxV p pn ((k + 0) + 0))) + 3 * 0 + 6 * 3) ht1) gX7_readPiece_X7_tell 1 kf_X7_tell ⟨rfl, rfl⟩ ⟨by decide, by decide⟩ dX7_readPiece_288 rfl 0 rfl rfl rfl rfl ⟨Nat.zero_le _, Nat.zero_le _⟩ [0, 2] rfl (by decide) [0] rfl (Nat.le_of_ble_eq_true rfl) [(mp, cJ cI 60 (p)), (mb, cJ cI 30 (B1)), (mi, cJ cI 30 (X1))] [1, 3, 4] rfl (by decide) (by decide) hA [3, 0, 4, 1, 2] (by decide) (fun (_ : Unit) => [(m0, .inr (6, [.ref ms, .ref mh, .int (iJ (kp)), .ref mn, .int (iJ (sv)), .ref mp, .int (iJ (pn)), .int (iJ (rf)), .ref ml, .ref mm, .ref md, .ref mw, .ref mt, .int (iJ ((teS (T1, t1) (1 + (mHf (nxV p pn ((k + 0) + 0))) + 3 * 0 + 6 * 3)).2)), .ref mb, .ref mi, .ref mg])), (mp, cJ cI 60 (p)), (mt, cJ cI 33 ((teS (T1, t1) (1 + (mHf (nxV p pn ((k + 0) + 0))) + 3 * 0 + 6 * 3)).1)), (mb, cJ cI 30 (B1)), (mi, cJ cI 30 (X1))]) (fun _ => rfl) ?_
                        rintro ⟨⟩ hp_3
                        refine r_iconst E 1 rfl dX7_readPiece_291 ?_
                        refine r_istore_n E [(3, .int (iJ (1))), (1, .int (iJ (((((k + 0) + 0) + 1) + 1)))), (8, .int (iJ (1))), (7, .int (iJ (mHf (nxV p pn ((k + 0) + 0))))), (6, .int (iJ (0))), (5, .int (iJ (0))), (4, .int (iJ (p k))), (0, .ref m0), (2, .int (iJ (d)))] dX7_readPiece_292 rfl (by decide) rfl ?_
                        refine r_goto E 11 dX7_readPiece_293 (by decide) ?_
                        refine r_lv [7, 1, 8, 0] [(0, .ref m0), (1, .int (iJ (((((k + 0) + 0) + 1) + 1)))), (2, .int (iJ (d))), (3, .int (iJ (1)))] rfl ?_
                        exact ih11 ((((k + 0) + 0) + 1) + 1) d 1 ((teS (T1, t1) (1 + (mHf (nxV p pn ((k + 0) + 0))) + 3 * 0 + 6 * 3)).1) ((teS (T1, t1) (1 + (mHf (nxV p pn ((k + 0) + 0))) + 3 * 0 + 6 * 3)).2) B1 X1 (r - 1) ⟨by omega, by omega⟩ ⟨by omega, by omega⟩ (by first | exact Or.inl rfl | exact Or.inr rfl | exact hf) (by first | exact ht1 | exact (teS_in (u := (T1, t1)) ht1).1 | exact rpO_in _ (u := (T1, t1)) ht1) (by omega) (fun j h1 h2 => by first | exact hBX j h1 (by omega) | (by_cases z : j = d; subst z; rw [uJ_s, uJ_s]; omega; rw [uJ_n z, uJ_n z]; exact hBX j h1 (by omega))) (by
                              rw [← hs]
                              first
                              | exact (rdM_46 (by omega) (by omega) (by omega)).symm
                              | exact (rdM_num (by omega) (by omega) (by omega) (by omega) (by omega)).symm
                              | exact (rdM_cl (u := (T1, t1)) (B := B1) (X := X1) (d := d) (f := f) (k := k) (by omega) (by omega) (by omega) (by omega) (by omega) (by omega)).symm
                              | exact (rdM_st _ 0 _ _ _ (by omega) (by omega) (by omega) (by omega) (by omega) (by omega) (by omega) (by omega) (by assumption) (by omega) (by omega)).symm
                              | exact (rdM_st _ 1 _ _ _ (by omega) (by omega) (by omega) (by omega) (by omega) (by omega) (by omega) (by omega) (by assumption) (by omega) (by omega)).symm
                              | exact (rdM_st _ 2 _ _ _ (by omega) (by omega) (by omega) (by omega) (by omega) (by omega) (by omega) (by omega) (by assumption) (by omega) (by omega)).symm) (by omega)
                    · refine r_iload_n E 1 dX7_readPiece_229 rfl rfl ?_
                      exact r_retM E (((k + 0) + 0), T1, t1, B1, X1) hr dX7_readPiece_230 rfl (by
                            refine ⟨?_, by first | exact ht1 | omega, by first | omega | (split <;> omega)⟩
                            rw [← hs]
                            first
                            | exact rdM_nuB (by omega) (by omega) (by omega) (by omega) (by omega)
                            | exact rdM_clB (by omega) (by omega) (by omega) (by omega) (by omega) (by omega)
                            | exact rdM_stB _ 0 _ (by omega) (by omega) (by omega) (by omega) (by omega) (by omega) (by omega) (by omega) (by assumption)
                            | exact rdM_stB _ 1 _ (by omega) (by omega) (by omega) (by omega) (by omega) (by omega) (by omega) (by omega) (by assumption)
                            | exact rdM_stB _ 2 _ (by omega) (by omega) (by omega) (by omega) (by omega) (by omega) (by omega) (by omega) (by assumption)
                            | (rw [rdM_end (by omega) (by omega)]; first | (rw [if_pos (by omega)]; done) | (rw [if_neg (by omega)]; done))) rfl hQ
                  · refine r_iconst E 2 rfl dX7_readPiece_192 ?_
                    refine r_goto E 197 dX7_readPiece_193 (by decide) ?_
                    refine r_istore E [(6, .int (iJ (2))), (1, .int (iJ ((k + 0)))), (5, .int (iJ (0))), (4, .int (iJ (p k))), (0, .ref m0), (2, .int (iJ (d))), (3, .int (iJ (f)))] dX7_readPiece_197 (by decide) rfl ?_
                    refine r_iload_n E 1 dX7_readPiece_199 rfl rfl ?_
                    refine r_iload E 0 dX7_readPiece_200 rfl ?_
                    refine r_if_le E 209 dX7_readPiece_202 (by decide) ⟨by omega, by omega⟩ (fun c_202 => absurd c_202 (by omega)) (fun c_202 => ?_)
                    refine r_iconst E 1 rfl dX7_readPiece_205 ?_
                    refine r_goto E 210 dX7_readPiece_206 (by decide) ?_
                    refine r_iadd E dX7_readPiece_210 ?_
                    refine r_istore_n E [(1, .int (iJ (((k + 0) + 1)))), (6, .int (iJ (2))), (5, .int (iJ (0))), (4, .int (iJ (p k))), (0, .ref m0), (2, .int (iJ (d))), (3, .int (iJ (f)))] dX7_readPiece_211 rfl (by decide) rfl ?_
                    refine r_aload_n E 4 dX7_readPiece_212 rfl rfl ?_
                    refine r_iload_n E 0 dX7_readPiece_213 rfl rfl ?_
                    refine r_vP E (st := []) (c_X7_next l D m0 ms mh mn mp ml mm md mw mt mb mi mg cI kp sv pn rf t1 p ((k + 0) + 1) (by first | assumption | omega | exact ⟨by omega, by omega⟩) (by first | assumption | omega | exact ⟨by omega, by omega⟩) (by first | assumption | omega | exact ⟨by omega, by omega⟩)) gX7_readPiece_X7_next 1 kf_X7_next ⟨rfl, rfl⟩ ⟨by decide, by decide⟩ dX7_readPiece_214 rfl 0 rfl rfl rfl rfl ⟨Nat.zero_le _, Nat.zero_le _⟩ [0, 1] rfl (by decide) [0] rfl (Nat.le_of_ble_eq_true rfl) ?_
                    have := nxV_f hpp ((k + 0) + 1) (by omega)
                    refine r_top (b := (nxV p pn ((k + 0) + 1))) rfl ?_
                    refine r_sP E (st := []) (c_X7_handFor l D (nxV p pn ((k + 0) + 1)) (by first | assumption | omega | exact ⟨by omega, by omega⟩)) gX7_readPiece_X7_handFor 1 kf_X7_handFor ⟨rfl, rfl⟩ ⟨by decide, by decide⟩ dX7_readPiece_217 rfl rfl ⟨Nat.zero_le _, Nat.zero_le _⟩ [] rfl (by decide) [] rfl (Nat.le_of_ble_eq_true rfl) ?_
                    have f_H := mHf_f (nxV p pn ((k + 0) + 1))
                    refine r_istore E [(7, .int (iJ (mHf (nxV p pn ((k + 0) + 1))))), (1, .int (iJ (((k + 0) + 1)))), (6, .int (iJ (2))), (5, .int (iJ (0))), (4, .int (iJ (p k))), (0, .ref m0), (2, .int (iJ (d))), (3, .int (iJ (f)))] dX7_readPiece_220 (by decide) rfl ?_
                    refine r_iload E 0 dX7_readPiece_222 rfl ?_
                    refine r_bipush E (-4) rfl dX7_readPiece_224 ?_
                    refine r_icmp_ne E 231 dX7_readPiece_226 (by decide) ⟨by omega, by omega⟩ ⟨by omega, by omega⟩ (fun c_226 => ?_) (fun c_226 => ?_)
                    · refine r_iinc E (k := 1) [(1, .int (iJ ((((k + 0) + 1) + 1)))), (7, .int (iJ (mHf (nxV p pn ((k + 0) + 1))))), (6, .int (iJ (2))), (5, .int (iJ (0))), (4, .int (iJ (p k))), (0, .ref m0), (2, .int (iJ (d))), (3, .int (iJ (f)))] dX7_readPiece_231 rfl (by decide) rfl ?_
                      refine r_iload E 2 dX7_readPiece_234 rfl ?_
                      refine r_if_ne E 253 dX7_readPiece_236 (by decide) ⟨by omega, by omega⟩ (fun c_236 => ?_) (fun c_236 => absurd c_236 (by omega))
                      refine r_iconst E 0 rfl dX7_readPiece_253 ?_
                      refine r_istore E [(8, .int (iJ (0))), (1, .int (iJ ((((k + 0) + 1) + 1)))), (7, .int (iJ (mHf (nxV p pn ((k + 0) + 1))))), (6, .int (iJ (2))), (5, .int (iJ (0))), (4, .int (iJ (p k))), (0, .ref m0), (2, .int (iJ (d))), (3, .int (iJ (f)))] dX7_readPiece_254 (by decide) rfl ?_
                      refine r_iload_n E 1 dX7_readPiece_256 rfl rfl ?_
                      refine r_iload E 0 dX7_readPiece_257 rfl ?_
                      refine r_if_eq E 266 dX7_readPiece_259 (by decide) ⟨by omega, by omega⟩ (fun c_259 => ?_) (fun c_259 => absurd c_259 (by omega))
                      refine r_iconst E 0 rfl dX7_readPiece_266 ?_
                      refine r_iadd E dX7_readPiece_267 ?_
                      refine r_istore_n E [(1, .int (iJ (((((k + 0) + 1) + 1) + 0)))), (8, .int (iJ (0))), (7, .int (iJ (mHf (nxV p pn ((k + 0) + 1))))), (6, .int (iJ (2))), (5, .int (iJ (0))), (4, .int (iJ (p k))), (0, .ref m0), (2, .int (iJ (d))), (3, .int (iJ (f)))] dX7_readPiece_268 rfl (by decide) rfl ?_
                      refine r_aload_n E 6 dX7_readPiece_269 rfl rfl ?_
                      refine r_iload E 2 dX7_readPiece_270 rfl ?_
                      refine r_iload E 4 dX7_readPiece_272 rfl ?_
                      refine r_iload E 1 dX7_readPiece_274 rfl ?_
                      refine r_if_eq E 283 dX7_readPiece_276 (by decide) ⟨by omega, by omega⟩ (fun c_276 => ?_) (fun c_276 => absurd c_276 (by omega))
                      refine r_iload E 3 dX7_readPiece_283 rfl ?_
                      refine r_sP E (st := [.ref m0]) (c_X7_code l D (mHf (nxV p pn ((k + 0) + 1))) 0 2) gX7_readPiece_X7_code 3 kf_X7_code ⟨rfl, rfl⟩ ⟨by decide, by decide⟩ dX7_readPiece_285 rfl rfl ⟨Nat.zero_le _, Nat.zero_le _⟩ [] rfl (by decide) [] rfl (Nat.le_of_ble_eq_true rfl) ?_
                      refine r_vV E (st := []) (c_X7_tell l D m0 ms mh mn mp ml mm md mw mt mb mi mg cI kp sv pn rf t1 T1 (1 + (mHf (nxV p pn ((k + 0) + 1))) + 3 * 0 + 6 * 2) ht1) gX7_readPiece_X7_tell 1 kf_X7_tell ⟨rfl, rfl⟩ ⟨by decide, by decide⟩ dX7_readPiece_288 rfl 0 rfl rfl rfl rfl ⟨Nat.zero_le _, Nat.zero_le _⟩ [0, 2] rfl (by decide) [0] rfl (Nat.le_of_ble_eq_true rfl) [(mp, cJ cI 60 (p)), (mb, cJ cI 30 (B1)), (mi, cJ cI 30 (X1))] [1, 3, 4] rfl (by decide) (by decide) hA [3, 0, 4, 1, 2] (by decide) (fun (_ : Unit) => [(m0, .inr (6, [.ref ms, .ref mh, .int (iJ (kp)), .ref mn, .int (iJ (sv)), .ref mp, .int (iJ (pn)), .int (iJ (rf)), .ref ml, .ref mm, .ref md, .ref mw, .ref mt, .int (iJ ((teS (T1, t1) (1 + (mHf (nxV p pn ((k + 0) + 1))) + 3 * 0 + 6 * 2)).2)), .ref mb, .ref mi, .ref mg])), (mp, cJ cI 60 (p)), (mt, cJ cI 33 ((teS (T1, t1) (1 + (mHf (nxV p pn ((k + 0) + 1))) + 3 * 0 + 6 * 2)).1)), (mb, cJ cI 30 (B1)), (mi, cJ cI 30 (X1))]) (fun _ => rfl) ?_
                      rintro ⟨⟩ hp_4
                      refine r_iconst E 1 rfl dX7_readPiece_291 ?_
                      refine r_istore_n E [(3, .int (iJ (1))), (1, .int (iJ (((((k + 0) + 1) + 1) + 0)))), (8, .int (iJ (0))), (7, .int (iJ (mHf (nxV p pn ((k + 0) + 1))))), (6, .int (iJ (2))), (5, .int (iJ (0))), (4, .int (iJ (p k))), (0, .ref m0), (2, .int (iJ (d)))] dX7_readPiece_292 rfl (by decide) rfl ?_
                      refine r_goto E 11 dX7_readPiece_293 (by decide) ?_
                      refine r_lv [7, 1, 8, 0] [(0, .ref m0), (1, .int (iJ (((((k + 0) + 1) + 1) + 0)))), (2, .int (iJ (d))), (3, .int (iJ (1)))] rfl ?_
                      exact ih11 ((((k + 0) + 1) + 1) + 0) d 1 ((teS (T1, t1) (1 + (mHf (nxV p pn ((k + 0) + 1))) + 3 * 0 + 6 * 2)).1) ((teS (T1, t1) (1 + (mHf (nxV p pn ((k + 0) + 1))) + 3 * 0 + 6 * 2)).2) B1 X1 (r - 1) ⟨by omega, by omega⟩ ⟨by omega, by omega⟩ (by first | exact Or.inl rfl | exact Or.inr rfl | exact hf) (by first | exact ht1 | exact (teS_in (u := (T1, t1)) ht1).1 | exact rpO_in _ (u := (T1, t1)) ht1) (by omega) (fun j h1 h2 => by first | exact hBX j h1 (by omega) | (by_cases z : j = d; subst z; rw [uJ_s, uJ_s]; omega; rw [uJ_n z, uJ_n z]; exact hBX j h1 (by omega))) (by
                            rw [← hs]
                            first
                            | exact (rdM_46 (by omega) (by omega) (by omega)).symm
                            | exact (rdM_num (by omega) (by omega) (by omega) (by omega) (by omega)).symm
                            | exact (rdM_cl (u := (T1, t1)) (B := B1) (X := X1) (d := d) (f := f) (k := k) (by omega) (by omega) (by omega) (by omega) (by omega) (by omega)).symm
                            | exact (rdM_st _ 0 _ _ _ (by omega) (by omega) (by omega) (by omega) (by omega) (by omega) (by omega) (by omega) (by assumption) (by omega) (by omega)).symm
                            | exact (rdM_st _ 1 _ _ _ (by omega) (by omega) (by omega) (by omega) (by omega) (by omega) (by omega) (by omega) (by assumption) (by omega) (by omega)).symm
                            | exact (rdM_st _ 2 _ _ _ (by omega) (by omega) (by omega) (by omega) (by omega) (by omega) (by omega) (by omega) (by assumption) (by omega) (by omega)).symm) (by omega)
                    · refine r_iload_n E 1 dX7_readPiece_229 rfl rfl ?_
                      exact r_retM E (((k + 0) + 1), T1, t1, B1, X1) hr dX7_readPiece_230 rfl (by
                            refine ⟨?_, by first | exact ht1 | omega, by first | omega | (split <;> omega)⟩
                            rw [← hs]
                            first
                            | exact rdM_nuB (by omega) (by omega) (by omega) (by omega) (by omega)
                            | exact rdM_clB (by omega) (by omega) (by omega) (by omega) (by omega) (by omega)
                            | exact rdM_stB _ 0 _ (by omega) (by omega) (by omega) (by omega) (by omega) (by omega) (by omega) (by omega) (by assumption)
                            | exact rdM_stB _ 1 _ (by omega) (by omega) (by omega) (by omega) (by omega) (by omega) (by omega) (by omega) (by assumption)
                            | exact rdM_stB _ 2 _ (by omega) (by omega) (by omega) (by omega) (by omega) (by omega) (by omega) (by omega) (by assumption)
                            | (rw [rdM_end (by omega) (by omega)]; first | (rw [if_pos (by omega)]; done) | (rw [if_neg (by omega)]; done))) rfl hQ
                · refine r_iconst E 1 rfl dX7_readPiece_178 ?_
                  refine r_goto E 197 dX7_readPiece_179 (by decide) ?_
                  refine r_istore E [(6, .int (iJ (1))), (1, .int (iJ ((k + 0)))), (5, .int (iJ (0))), (4, .int (iJ (p k))), (0, .ref m0), (2, .int (iJ (d))), (3, .int (iJ (f)))] dX7_readPiece_197 (by decide) rfl ?_
                  refine r_iload_n E 1 dX7_readPiece_199 rfl rfl ?_
                  refine r_iload E 0 dX7_readPiece_200 rfl ?_
                  refine r_if_le E 209 dX7_readPiece_202 (by decide) ⟨by omega, by omega⟩ (fun c_202 => absurd c_202 (by omega)) (fun c_202 => ?_)
                  refine r_iconst E 1 rfl dX7_readPiece_205 ?_
                  refine r_goto E 210 dX7_readPiece_206 (by decide) ?_
                  refine r_iadd E dX7_readPiece_210 ?_
                  refine r_istore_n E [(1, .int (iJ (((k + 0) + 1)))), (6, .int (iJ (1))), (5, .int (iJ (0))), (4, .int (iJ (p k))), (0, .ref m0), (2, .int (iJ (d))), (3, .int (iJ (f)))] dX7_readPiece_211 rfl (by decide) rfl ?_
                  refine r_aload_n E 4 dX7_readPiece_212 rfl rfl ?_
                  refine r_iload_n E 0 dX7_readPiece_213 rfl rfl ?_
                  refine r_vP E (st := []) (c_X7_next l D m0 ms mh mn mp ml mm md mw mt mb mi mg cI kp sv pn rf t1 p ((k + 0) + 1) (by first | assumption | omega | exact ⟨by omega, by omega⟩) (by first | assumption | omega | exact ⟨by omega, by omega⟩) (by first | assumption | omega | exact ⟨by omega, by omega⟩)) gX7_readPiece_X7_next 1 kf_X7_next ⟨rfl, rfl⟩ ⟨by decide, by decide⟩ dX7_readPiece_214 rfl 0 rfl rfl rfl rfl ⟨Nat.zero_le _, Nat.zero_le _⟩ [0, 1] rfl (by decide) [0] rfl (Nat.le_of_ble_eq_true rfl) ?_
                  have := nxV_f hpp ((k + 0) + 1) (by omega)
                  refine r_top (b := (nxV p pn ((k + 0) + 1))) rfl ?_
                  refine r_sP E (st := []) (c_X7_handFor l D (nxV p pn ((k + 0) + 1)) (by first | assumption | omega | exact ⟨by omega, by omega⟩)) gX7_readPiece_X7_handFor 1 kf_X7_handFor ⟨rfl, rfl⟩ ⟨by decide, by decide⟩ dX7_readPiece_217 rfl rfl ⟨Nat.zero_le _, Nat.zero_le _⟩ [] rfl (by decide) [] rfl (Nat.le_of_ble_eq_true rfl) ?_
                  have f_H := mHf_f (nxV p pn ((k + 0) + 1))
                  refine r_istore E [(7, .int (iJ (mHf (nxV p pn ((k + 0) + 1))))), (1, .int (iJ (((k + 0) + 1)))), (6, .int (iJ (1))), (5, .int (iJ (0))), (4, .int (iJ (p k))), (0, .ref m0), (2, .int (iJ (d))), (3, .int (iJ (f)))] dX7_readPiece_220 (by decide) rfl ?_
                  refine r_iload E 0 dX7_readPiece_222 rfl ?_
                  refine r_bipush E (-4) rfl dX7_readPiece_224 ?_
                  refine r_icmp_ne E 231 dX7_readPiece_226 (by decide) ⟨by omega, by omega⟩ ⟨by omega, by omega⟩ (fun c_226 => ?_) (fun c_226 => ?_)
                  · refine r_iinc E (k := 1) [(1, .int (iJ ((((k + 0) + 1) + 1)))), (7, .int (iJ (mHf (nxV p pn ((k + 0) + 1))))), (6, .int (iJ (1))), (5, .int (iJ (0))), (4, .int (iJ (p k))), (0, .ref m0), (2, .int (iJ (d))), (3, .int (iJ (f)))] dX7_readPiece_231 rfl (by decide) rfl ?_
                    refine r_iload E 2 dX7_readPiece_234 rfl ?_
                    refine r_if_ne E 253 dX7_readPiece_236 (by decide) ⟨by omega, by omega⟩ (fun c_236 => ?_) (fun c_236 => absurd c_236 (by omega))
                    refine r_iconst E 0 rfl dX7_readPiece_253 ?_
                    refine r_istore E [(8, .int (iJ (0))), (1, .int (iJ ((((k + 0) + 1) + 1)))), (7, .int (iJ (mHf (nxV p pn ((k + 0) + 1))))), (6, .int (iJ (1))), (5, .int (iJ (0))), (4, .int (iJ (p k))), (0, .ref m0), (2, .int (iJ (d))), (3, .int (iJ (f)))] dX7_readPiece_254 (by decide) rfl ?_
                    refine r_iload_n E 1 dX7_readPiece_256 rfl rfl ?_
                    refine r_iload E 0 dX7_readPiece_257 rfl ?_
                    refine r_if_eq E 266 dX7_readPiece_259 (by decide) ⟨by omega, by omega⟩ (fun c_259 => ?_) (fun c_259 => absurd c_259 (by omega))
                    refine r_iconst E 0 rfl dX7_readPiece_266 ?_
                    refine r_iadd E dX7_readPiece_267 ?_
                    refine r_istore_n E [(1, .int (iJ (((((k + 0) + 1) + 1) + 0)))), (8, .int (iJ (0))), (7, .int (iJ (mHf (nxV p pn ((k + 0) + 1))))), (6, .int (iJ (1))), (5, .int (iJ (0))), (4, .int (iJ (p k))), (0, .ref m0), (2, .int (iJ (d))), (3, .int (iJ (f)))] dX7_readPiece_268 rfl (by decide) rfl ?_
                    refine r_aload_n E 6 dX7_readPiece_269 rfl rfl ?_
                    refine r_iload E 2 dX7_readPiece_270 rfl ?_
                    refine r_iload E 4 dX7_readPiece_272 rfl ?_
                    refine r_iload E 1 dX7_readPiece_274 rfl ?_
                    refine r_if_eq E 283 dX7_readPiece_276 (by decide) ⟨by omega, by omega⟩ (fun c_276 => ?_) (fun c_276 => absurd c_276 (by omega))
                    refine r_iload E 3 dX7_readPiece_283 rfl ?_
                    refine r_sP E (st := [.ref m0]) (c_X7_code l D (mHf (nxV p pn ((k + 0) + 1))) 0 1) gX7_readPiece_X7_code 3 kf_X7_code ⟨rfl, rfl⟩ ⟨by decide, by decide⟩ dX7_readPiece_285 rfl rfl ⟨Nat.zero_le _, Nat.zero_le _⟩ [] rfl (by decide) [] rfl (Nat.le_of_ble_eq_true rfl) ?_
                    refine r_vV E (st := []) (c_X7_tell l D m0 ms mh mn mp ml mm md mw mt mb mi mg cI kp sv pn rf t1 T1 (1 + (mHf (nxV p pn ((k + 0) + 1))) + 3 * 0 + 6 * 1) ht1) gX7_readPiece_X7_tell 1 kf_X7_tell ⟨rfl, rfl⟩ ⟨by decide, by decide⟩ dX7_readPiece_288 rfl 0 rfl rfl rfl rfl ⟨Nat.zero_le _, Nat.zero_le _⟩ [0, 2] rfl (by decide) [0] rfl (Nat.le_of_ble_eq_true rfl) [(mp, cJ cI 60 (p)), (mb, cJ cI 30 (B1)), (mi, cJ cI 30 (X1))] [1, 3, 4] rfl (by decide) (by decide) hA [3, 0, 4, 1, 2] (by decide) (fun (_ : Unit) => [(m0, .inr (6, [.ref ms, .ref mh, .int (iJ (kp)), .ref mn, .int (iJ (sv)), .ref mp, .int (iJ (pn)), .int (iJ (rf)), .ref ml, .ref mm, .ref md, .ref mw, .ref mt, .int (iJ ((teS (T1, t1) (1 + (mHf (nxV p pn ((k + 0) + 1))) + 3 * 0 + 6 * 1)).2)), .ref mb, .ref mi, .ref mg])), (mp, cJ cI 60 (p)), (mt, cJ cI 33 ((teS (T1, t1) (1 + (mHf (nxV p pn ((k + 0) + 1))) + 3 * 0 + 6 * 1)).1)), (mb, cJ cI 30 (B1)), (mi, cJ cI 30 (X1))]) (fun _ => rfl) ?_
                    rintro ⟨⟩ hp_5
                    refine r_iconst E 1 rfl dX7_readPiece_291 ?_
                    refine r_istore_n E [(3, .int (iJ (1))), (1, .int (iJ (((((k + 0) + 1) + 1) + 0)))), (8, .int (iJ (0))), (7, .int (iJ (mHf (nxV p pn ((k + 0) + 1))))), (6, .int (iJ (1))), (5, .int (iJ (0))), (4, .int (iJ (p k))), (0, .ref m0), (2, .int (iJ (d)))] dX7_readPiece_292 rfl (by decide) rfl ?_
                    refine r_goto E 11 dX7_readPiece_293 (by decide) ?_
                    refine r_lv [7, 1, 8, 0] [(0, .ref m0), (1, .int (iJ (((((k + 0) + 1) + 1) + 0)))), (2, .int (iJ (d))), (3, .int (iJ (1)))] rfl ?_
                    exact ih11 ((((k + 0) + 1) + 1) + 0) d 1 ((teS (T1, t1) (1 + (mHf (nxV p pn ((k + 0) + 1))) + 3 * 0 + 6 * 1)).1) ((teS (T1, t1) (1 + (mHf (nxV p pn ((k + 0) + 1))) + 3 * 0 + 6 * 1)).2) B1 X1 (r - 1) ⟨by omega, by omega⟩ ⟨by omega, by omega⟩ (by first | exact Or.inl rfl | exact Or.inr rfl | exact hf) (by first | exact ht1 | exact (teS_in (u := (T1, t1)) ht1).1 | exact rpO_in _ (u := (T1, t1)) ht1) (by omega) (fun j h1 h2 => by first | exact hBX j h1 (by omega) | (by_cases z : j = d; subst z; rw [uJ_s, uJ_s]; omega; rw [uJ_n z, uJ_n z]; exact hBX j h1 (by omega))) (by
                          rw [← hs]
                          first
                          | exact (rdM_46 (by omega) (by omega) (by omega)).symm
                          | exact (rdM_num (by omega) (by omega) (by omega) (by omega) (by omega)).symm
                          | exact (rdM_cl (u := (T1, t1)) (B := B1) (X := X1) (d := d) (f := f) (k := k) (by omega) (by omega) (by omega) (by omega) (by omega) (by omega)).symm
                          | exact (rdM_st _ 0 _ _ _ (by omega) (by omega) (by omega) (by omega) (by omega) (by omega) (by omega) (by omega) (by assumption) (by omega) (by omega)).symm
                          | exact (rdM_st _ 1 _ _ _ (by omega) (by omega) (by omega) (by omega) (by omega) (by omega) (by omega) (by omega) (by assumption) (by omega) (by omega)).symm
                          | exact (rdM_st _ 2 _ _ _ (by omega) (by omega) (by omega) (by omega) (by omega) (by omega) (by omega) (by omega) (by assumption) (by omega) (by omega)).symm) (by omega)
                  · refine r_iload_n E 1 dX7_readPiece_229 rfl rfl ?_
                    exact r_retM E (((k + 0) + 1), T1, t1, B1, X1) hr dX7_readPiece_230 rfl (by
                          refine ⟨?_, by first | exact ht1 | omega, by first | omega | (split <;> omega)⟩
                          rw [← hs]
                          first
                          | exact rdM_nuB (by omega) (by omega) (by omega) (by omega) (by omega)
                          | exact rdM_clB (by omega) (by omega) (by omega) (by omega) (by omega) (by omega)
                          | exact rdM_stB _ 0 _ (by omega) (by omega) (by omega) (by omega) (by omega) (by omega) (by omega) (by omega) (by assumption)
                          | exact rdM_stB _ 1 _ (by omega) (by omega) (by omega) (by omega) (by omega) (by omega) (by omega) (by omega) (by assumption)
                          | exact rdM_stB _ 2 _ (by omega) (by omega) (by omega) (by omega) (by omega) (by omega) (by omega) (by omega) (by assumption)
                          | (rw [rdM_end (by omega) (by omega)]; first | (rw [if_pos (by omega)]; done) | (rw [if_neg (by omega)]; done))) rfl hQ
              · refine r_iconst E 1 rfl dX7_readPiece_156 ?_
                refine r_goto E 161 dX7_readPiece_157 (by decide) ?_
                refine r_istore E [(5, .int (iJ (1))), (4, .int (iJ (p k))), (0, .ref m0), (1, .int (iJ (k))), (2, .int (iJ (d))), (3, .int (iJ (f)))] dX7_readPiece_161 (by decide) rfl ?_
                refine r_iload_n E 3 dX7_readPiece_163 rfl rfl ?_
                refine r_iload E 0 dX7_readPiece_164 rfl ?_
                refine r_iadd E dX7_readPiece_166 ?_
                refine r_istore_n E [(1, .int (iJ ((k + 1)))), (5, .int (iJ (1))), (4, .int (iJ (p k))), (0, .ref m0), (2, .int (iJ (d))), (3, .int (iJ (f)))] dX7_readPiece_167 rfl (by decide) rfl ?_
                refine r_aload_n E 3 dX7_readPiece_168 rfl rfl ?_
                refine r_iload_n E 0 dX7_readPiece_169 rfl rfl ?_
                refine r_vP E (st := []) (c_X7_next l D m0 ms mh mn mp ml mm md mw mt mb mi mg cI kp sv pn rf t1 p (k + 1) (by first | assumption | omega | exact ⟨by omega, by omega⟩) (by first | assumption | omega | exact ⟨by omega, by omega⟩) (by first | assumption | omega | exact ⟨by omega, by omega⟩)) gX7_readPiece_X7_next 1 kf_X7_next ⟨rfl, rfl⟩ ⟨by decide, by decide⟩ dX7_readPiece_170 rfl 0 rfl rfl rfl rfl ⟨Nat.zero_le _, Nat.zero_le _⟩ [0, 1] rfl (by decide) [0] rfl (Nat.le_of_ble_eq_true rfl) ?_
                have := nxV_f hpp (k + 1) (by omega)
                refine r_top (b := (nxV p pn (k + 1))) rfl ?_
                refine r_bipush E 102 rfl dX7_readPiece_173 ?_
                refine r_icmp_ne E 182 dX7_readPiece_175 (by decide) ⟨by omega, by omega⟩ ⟨by omega, by omega⟩ (fun c_175 => ?_) (fun c_175 => ?_)
                · refine r_aload_n E 3 dX7_readPiece_182 rfl rfl ?_
                  refine r_iload_n E 0 dX7_readPiece_183 rfl rfl ?_
                  refine r_vP E (st := []) (c_X7_next l D m0 ms mh mn mp ml mm md mw mt mb mi mg cI kp sv pn rf t1 p (k + 1) (by first | assumption | omega | exact ⟨by omega, by omega⟩) (by first | assumption | omega | exact ⟨by omega, by omega⟩) (by first | assumption | omega | exact ⟨by omega, by omega⟩)) gX7_readPiece_X7_next 1 kf_X7_next ⟨rfl, rfl⟩ ⟨by decide, by decide⟩ dX7_readPiece_184 rfl 0 rfl rfl rfl rfl ⟨Nat.zero_le _, Nat.zero_le _⟩ [0, 1] rfl (by decide) [0] rfl (Nat.le_of_ble_eq_true rfl) ?_
                  have := nxV_f hpp (k + 1) (by omega)
                  refine r_top (b := (nxV p pn (k + 1))) rfl ?_
                  refine r_bipush E 100 rfl dX7_readPiece_187 ?_
                  refine r_icmp_ne E 196 dX7_readPiece_189 (by decide) ⟨by omega, by omega⟩ ⟨by omega, by omega⟩ (fun c_189 => ?_) (fun c_189 => ?_)
                  · refine r_iconst E 0 rfl dX7_readPiece_196 ?_
                    refine r_istore E [(6, .int (iJ (0))), (1, .int (iJ ((k + 1)))), (5, .int (iJ (1))), (4, .int (iJ (p k))), (0, .ref m0), (2, .int (iJ (d))), (3, .int (iJ (f)))] dX7_readPiece_197 (by decide) rfl ?_
                    refine r_iload_n E 1 dX7_readPiece_199 rfl rfl ?_
                    refine r_iload E 0 dX7_readPiece_200 rfl ?_
                    refine r_if_le E 209 dX7_readPiece_202 (by decide) ⟨by omega, by omega⟩ (fun c_202 => ?_) (fun c_202 => absurd c_202 (by omega))
                    refine r_iconst E 0 rfl dX7_readPiece_209 ?_
                    refine r_iadd E dX7_readPiece_210 ?_
                    refine r_istore_n E [(1, .int (iJ (((k + 1) + 0)))), (6, .int (iJ (0))), (5, .int (iJ (1))), (4, .int (iJ (p k))), (0, .ref m0), (2, .int (iJ (d))), (3, .int (iJ (f)))] dX7_readPiece_211 rfl (by decide) rfl ?_
                    refine r_aload_n E 4 dX7_readPiece_212 rfl rfl ?_
                    refine r_iload_n E 0 dX7_readPiece_213 rfl rfl ?_
                    refine r_vP E (st := []) (c_X7_next l D m0 ms mh mn mp ml mm md mw mt mb mi mg cI kp sv pn rf t1 p ((k + 1) + 0) (by first | assumption | omega | exact ⟨by omega, by omega⟩) (by first | assumption | omega | exact ⟨by omega, by omega⟩) (by first | assumption | omega | exact ⟨by omega, by omega⟩)) gX7_readPiece_X7_next 1 kf_X7_next ⟨rfl, rfl⟩ ⟨by decide, by decide⟩ dX7_readPiece_214 rfl 0 rfl rfl rfl rfl ⟨Nat.zero_le _, Nat.zero_le _⟩ [0, 1] rfl (by decide) [0] rfl (Nat.le_of_ble_eq_true rfl) ?_
                    have := nxV_f hpp ((k + 1) + 0) (by omega)
                    refine r_top (b := (nxV p pn ((k + 1) + 0))) rfl ?_
                    refine r_sP E (st := []) (c_X7_handFor l D (nxV p pn ((k + 1) + 0)) (by first | assumption | omega | exact ⟨by omega, by omega⟩)) gX7_readPiece_X7_handFor 1 kf_X7_handFor ⟨rfl, rfl⟩ ⟨by decide, by decide⟩ dX7_readPiece_217 rfl rfl ⟨Nat.zero_le _, Nat.zero_le _⟩ [] rfl (by decide) [] rfl (Nat.le_of_ble_eq_true rfl) ?_
                    have f_H := mHf_f (nxV p pn ((k + 1) + 0))
                    refine r_istore E [(7, .int (iJ (mHf (nxV p pn ((k + 1) + 0))))), (1, .int (iJ (((k + 1) + 0)))), (6, .int (iJ (0))), (5, .int (iJ (1))), (4, .int (iJ (p k))), (0, .ref m0), (2, .int (iJ (d))), (3, .int (iJ (f)))] dX7_readPiece_220 (by decide) rfl ?_
                    refine r_iload E 0 dX7_readPiece_222 rfl ?_
                    refine r_bipush E (-4) rfl dX7_readPiece_224 ?_
                    refine r_icmp_ne E 231 dX7_readPiece_226 (by decide) ⟨by omega, by omega⟩ ⟨by omega, by omega⟩ (fun c_226 => ?_) (fun c_226 => ?_)
                    · refine r_iinc E (k := 1) [(1, .int (iJ ((((k + 1) + 0) + 1)))), (7, .int (iJ (mHf (nxV p pn ((k + 1) + 0))))), (6, .int (iJ (0))), (5, .int (iJ (1))), (4, .int (iJ (p k))), (0, .ref m0), (2, .int (iJ (d))), (3, .int (iJ (f)))] dX7_readPiece_231 rfl (by decide) rfl ?_
                      refine r_iload E 2 dX7_readPiece_234 rfl ?_
                      refine r_if_ne E 253 dX7_readPiece_236 (by decide) ⟨by omega, by omega⟩ (fun c_236 => absurd c_236 (by omega)) (fun c_236 => ?_)
                      refine r_aload_n E 5 dX7_readPiece_239 rfl rfl ?_
                      refine r_iload_n E 0 dX7_readPiece_240 rfl rfl ?_
                      refine r_vP E (st := []) (c_X7_next l D m0 ms mh mn mp ml mm md mw mt mb mi mg cI kp sv pn rf t1 p (((k + 1) + 0) + 1) (by first | assumption | omega | exact ⟨by omega, by omega⟩) (by first | assumption | omega | exact ⟨by omega, by omega⟩) (by first | assumption | omega | exact ⟨by omega, by omega⟩)) gX7_readPiece_X7_next 1 kf_X7_next ⟨rfl, rfl⟩ ⟨by decide, by decide⟩ dX7_readPiece_241 rfl 0 rfl rfl rfl rfl ⟨Nat.zero_le _, Nat.zero_le _⟩ [0, 1] rfl (by decide) [0] rfl (Nat.le_of_ble_eq_true rfl) ?_
                      have := nxV_f hpp (((k + 1) + 0) + 1) (by omega)
                      refine r_top (b := (nxV p pn (((k + 1) + 0) + 1))) rfl ?_
                      refine r_bipush E 42 rfl dX7_readPiece_244 ?_
                      refine r_icmp_ne E 253 dX7_readPiece_246 (by decide) ⟨by omega, by omega⟩ ⟨by omega, by omega⟩ (fun c_246 => ?_) (fun c_246 => ?_)
                      · refine r_iconst E 0 rfl dX7_readPiece_253 ?_
                        refine r_istore E [(8, .int (iJ (0))), (1, .int (iJ ((((k + 1) + 0) + 1)))), (7, .int (iJ (mHf (nxV p pn ((k + 1) + 0))))), (6, .int (iJ (0))), (5, .int (iJ (1))), (4, .int (iJ (p k))), (0, .ref m0), (2, .int (iJ (d))), (3, .int (iJ (f)))] dX7_readPiece_254 (by decide) rfl ?_
                        refine r_iload_n E 1 dX7_readPiece_256 rfl rfl ?_
                        refine r_iload E 0 dX7_readPiece_257 rfl ?_
                        refine r_if_eq E 266 dX7_readPiece_259 (by decide) ⟨by omega, by omega⟩ (fun c_259 => ?_) (fun c_259 => absurd c_259 (by omega))
                        refine r_iconst E 0 rfl dX7_readPiece_266 ?_
                        refine r_iadd E dX7_readPiece_267 ?_
                        refine r_istore_n E [(1, .int (iJ (((((k + 1) + 0) + 1) + 0)))), (8, .int (iJ (0))), (7, .int (iJ (mHf (nxV p pn ((k + 1) + 0))))), (6, .int (iJ (0))), (5, .int (iJ (1))), (4, .int (iJ (p k))), (0, .ref m0), (2, .int (iJ (d))), (3, .int (iJ (f)))] dX7_readPiece_268 rfl (by decide) rfl ?_
                        refine r_aload_n E 6 dX7_readPiece_269 rfl rfl ?_
                        refine r_iload E 2 dX7_readPiece_270 rfl ?_
                        refine r_iload E 4 dX7_readPiece_272 rfl ?_
                        refine r_iload E 1 dX7_readPiece_274 rfl ?_
                        refine r_if_eq E 283 dX7_readPiece_276 (by decide) ⟨by omega, by omega⟩ (fun c_276 => ?_) (fun c_276 => absurd c_276 (by omega))
                        refine r_iload E 3 dX7_readPiece_283 rfl ?_
                        refine r_sP E (st := [.ref m0]) (c_X7_code l D (mHf (nxV p pn ((k + 1) + 0))) 1 0) gX7_readPiece_X7_code 3 kf_X7_code ⟨rfl, rfl⟩ ⟨by decide, by decide⟩ dX7_readPiece_285 rfl rfl ⟨Nat.zero_le _, Nat.zero_le _⟩ [] rfl (by decide) [] rfl (Nat.le_of_ble_eq_true rfl) ?_
                        refine r_vV E (st := []) (c_X7_tell l D m0 ms mh mn mp ml mm md mw mt mb mi mg cI kp sv pn rf t1 T1 (1 + (mHf (nxV p pn ((k + 1) + 0))) + 3 * 1 + 6 * 0) ht1) gX7_readPiece_X7_tell 1 kf_X7_tell ⟨rfl, rfl⟩ ⟨by decide, by decide⟩ dX7_readPiece_288 rfl 0 rfl rfl rfl rfl ⟨Nat.zero_le _, Nat.zero_le _⟩ [0, 2] rfl (by decide) [0] rfl (Nat.le_of_ble_eq_true rfl) [(mp, cJ cI 60 (p)), (mb, cJ cI 30 (B1)), (mi, cJ cI 30 (X1))] [1, 3, 4] rfl (by decide) (by decide) hA [3, 0, 4, 1, 2] (by decide) (fun (_ : Unit) => [(m0, .inr (6, [.ref ms, .ref mh, .int (iJ (kp)), .ref mn, .int (iJ (sv)), .ref mp, .int (iJ (pn)), .int (iJ (rf)), .ref ml, .ref mm, .ref md, .ref mw, .ref mt, .int (iJ ((teS (T1, t1) (1 + (mHf (nxV p pn ((k + 1) + 0))) + 3 * 1 + 6 * 0)).2)), .ref mb, .ref mi, .ref mg])), (mp, cJ cI 60 (p)), (mt, cJ cI 33 ((teS (T1, t1) (1 + (mHf (nxV p pn ((k + 1) + 0))) + 3 * 1 + 6 * 0)).1)), (mb, cJ cI 30 (B1)), (mi, cJ cI 30 (X1))]) (fun _ => rfl) ?_
                        rintro ⟨⟩ hp_6
                        refine r_iconst E 1 rfl dX7_readPiece_291 ?_
                        refine r_istore_n E [(3, .int (iJ (1))), (1, .int (iJ (((((k + 1) + 0) + 1) + 0)))), (8, .int (iJ (0))), (7, .int (iJ (mHf (nxV p pn ((k + 1) + 0))))), (6, .int (iJ (0))), (5, .int (iJ (1))), (4, .int (iJ (p k))), (0, .ref m0), (2, .int (iJ (d)))] dX7_readPiece_292 rfl (by decide) rfl ?_
                        refine r_goto E 11 dX7_readPiece_293 (by decide) ?_
                        refine r_lv [7, 1, 8, 0] [(0, .ref m0), (1, .int (iJ (((((k + 1) + 0) + 1) + 0)))), (2, .int (iJ (d))), (3, .int (iJ (1)))] rfl ?_
                        exact ih11 ((((k + 1) + 0) + 1) + 0) d 1 ((teS (T1, t1) (1 + (mHf (nxV p pn ((k + 1) + 0))) + 3 * 1 + 6 * 0)).1) ((teS (T1, t1) (1 + (mHf (nxV p pn ((k + 1) + 0))) + 3 * 1 + 6 * 0)).2) B1 X1 (r - 1) ⟨by omega, by omega⟩ ⟨by omega, by omega⟩ (by first | exact Or.inl rfl | exact Or.inr rfl | exact hf) (by first | exact ht1 | exact (teS_in (u := (T1, t1)) ht1).1 | exact rpO_in _ (u := (T1, t1)) ht1) (by omega) (fun j h1 h2 => by first | exact hBX j h1 (by omega) | (by_cases z : j = d; subst z; rw [uJ_s, uJ_s]; omega; rw [uJ_n z, uJ_n z]; exact hBX j h1 (by omega))) (by
                              rw [← hs]
                              first
                              | exact (rdM_46 (by omega) (by omega) (by omega)).symm
                              | exact (rdM_num (by omega) (by omega) (by omega) (by omega) (by omega)).symm
                              | exact (rdM_cl (u := (T1, t1)) (B := B1) (X := X1) (d := d) (f := f) (k := k) (by omega) (by omega) (by omega) (by omega) (by omega) (by omega)).symm
                              | exact (rdM_st _ 0 _ _ _ (by omega) (by omega) (by omega) (by omega) (by omega) (by omega) (by omega) (by omega) (by assumption) (by omega) (by omega)).symm
                              | exact (rdM_st _ 1 _ _ _ (by omega) (by omega) (by omega) (by omega) (by omega) (by omega) (by omega) (by omega) (by assumption) (by omega) (by omega)).symm
                              | exact (rdM_st _ 2 _ _ _ (by omega) (by omega) (by omega) (by omega) (by omega) (by omega) (by omega) (by omega) (by assumption) (by omega) (by omega)).symm) (by omega)
                      · refine r_iconst E 1 rfl dX7_readPiece_249 ?_
                        refine r_goto E 254 dX7_readPiece_250 (by decide) ?_
                        refine r_istore E [(8, .int (iJ (1))), (1, .int (iJ ((((k + 1) + 0) + 1)))), (7, .int (iJ (mHf (nxV p pn ((k + 1) + 0))))), (6, .int (iJ (0))), (5, .int (iJ (1))), (4, .int (iJ (p k))), (0, .ref m0), (2, .int (iJ (d))), (3, .int (iJ (f)))] dX7_readPiece_254 (by decide) rfl ?_
                        refine r_iload_n E 1 dX7_readPiece_256 rfl rfl ?_
                        refine r_iload E 0 dX7_readPiece_257 rfl ?_
                        refine r_if_eq E 266 dX7_readPiece_259 (by decide) ⟨by omega, by omega⟩ (fun c_259 => absurd c_259 (by omega)) (fun c_259 => ?_)
                        refine r_iconst E 1 rfl dX7_readPiece_262 ?_
                        refine r_goto E 267 dX7_readPiece_263 (by decide) ?_
                        refine r_iadd E dX7_readPiece_267 ?_
                        refine r_istore_n E [(1, .int (iJ (((((k + 1) + 0) + 1) + 1)))), (8, .int (iJ (1))), (7, .int (iJ (mHf (nxV p pn ((k + 1) + 0))))), (6, .int (iJ (0))), (5, .int (iJ (1))), (4, .int (iJ (p k))), (0, .ref m0), (2, .int (iJ (d))), (3, .int (iJ (f)))] dX7_readPiece_268 rfl (by decide) rfl ?_
                        refine r_aload_n E 6 dX7_readPiece_269 rfl rfl ?_
                        refine r_iload E 2 dX7_readPiece_270 rfl ?_
                        refine r_iload E 4 dX7_readPiece_272 rfl ?_
                        refine r_iload E 1 dX7_readPiece_274 rfl ?_
                        refine r_if_eq E 283 dX7_readPiece_276 (by decide) ⟨by omega, by omega⟩ (fun c_276 => absurd c_276 (by omega)) (fun c_276 => ?_)
                        refine r_iconst E 3 rfl dX7_readPiece_279 ?_
                        refine r_goto E 285 dX7_readPiece_280 (by decide) ?_
                        refine r_sP E (st := [.ref m0]) (c_X7_code l D (mHf (nxV p pn ((k + 1) + 0))) 1 3) gX7_readPiece_X7_code 3 kf_X7_code ⟨rfl, rfl⟩ ⟨by decide, by decide⟩ dX7_readPiece_285 rfl rfl ⟨Nat.zero_le _, Nat.zero_le _⟩ [] rfl (by decide) [] rfl (Nat.le_of_ble_eq_true rfl) ?_
                        refine r_vV E (st := []) (c_X7_tell l D m0 ms mh mn mp ml mm md mw mt mb mi mg cI kp sv pn rf t1 T1 (1 + (mHf (nxV p pn ((k + 1) + 0))) + 3 * 1 + 6 * 3) ht1) gX7_readPiece_X7_tell 1 kf_X7_tell ⟨rfl, rfl⟩ ⟨by decide, by decide⟩ dX7_readPiece_288 rfl 0 rfl rfl rfl rfl ⟨Nat.zero_le _, Nat.zero_le _⟩ [0, 2] rfl (by decide) [0] rfl (Nat.le_of_ble_eq_true rfl) [(mp, cJ cI 60 (p)), (mb, cJ cI 30 (B1)), (mi, cJ cI 30 (X1))] [1, 3, 4] rfl (by decide) (by decide) hA [3, 0, 4, 1, 2] (by decide) (fun (_ : Unit) => [(m0, .inr (6, [.ref ms, .ref mh, .int (iJ (kp)), .ref mn, .int (iJ (sv)), .ref mp, .int (iJ (pn)), .int (iJ (rf)), .ref ml, .ref mm, .ref md, .ref mw, .ref mt, .int (iJ ((teS (T1, t1) (1 + (mHf (nxV p pn ((k + 1) + 0))) + 3 * 1 + 6 * 3)).2)), .ref mb, .ref mi, .ref mg])), (mp, cJ cI 60 (p)), (mt, cJ cI 33 ((teS (T1, t1) (1 + (mHf (nxV p pn ((k + 1) + 0))) + 3 * 1 + 6 * 3)).1)), (mb, cJ cI 30 (B1)), (mi, cJ cI 30 (X1))]) (fun _ => rfl) ?_
                        rintro ⟨⟩ hp_7
                        refine r_iconst E 1 rfl dX7_readPiece_291 ?_
                        refine r_istore_n E [(3, .int (iJ (1))), (1, .int (iJ (((((k + 1) + 0) + 1) + 1)))), (8, .int (iJ (1))), (7, .int (iJ (mHf (nxV p pn ((k + 1) + 0))))), (6, .int (iJ (0))), (5, .int (iJ (1))), (4, .int (iJ (p k))), (0, .ref m0), (2, .int (iJ (d)))] dX7_readPiece_292 rfl (by decide) rfl ?_
                        refine r_goto E 11 dX7_readPiece_293 (by decide) ?_
                        refine r_lv [7, 1, 8, 0] [(0, .ref m0), (1, .int (iJ (((((k + 1) + 0) + 1) + 1)))), (2, .int (iJ (d))), (3, .int (iJ (1)))] rfl ?_
                        exact ih11 ((((k + 1) + 0) + 1) + 1) d 1 ((teS (T1, t1) (1 + (mHf (nxV p pn ((k + 1) + 0))) + 3 * 1 + 6 * 3)).1) ((teS (T1, t1) (1 + (mHf (nxV p pn ((k + 1) + 0))) + 3 * 1 + 6 * 3)).2) B1 X1 (r - 1) ⟨by omega, by omega⟩ ⟨by omega, by omega⟩ (by first | exact Or.inl rfl | exact Or.inr rfl | exact hf) (by first | exact ht1 | exact (teS_in (u := (T1, t1)) ht1).1 | exact rpO_in _ (u := (T1, t1)) ht1) (by omega) (fun j h1 h2 => by first | exact hBX j h1 (by omega) | (by_cases z : j = d; subst z; rw [uJ_s, uJ_s]; omega; rw [uJ_n z, uJ_n z]; exact hBX j h1 (by omega))) (by
                              rw [← hs]
                              first
                              | exact (rdM_46 (by omega) (by omega) (by omega)).symm
                              | exact (rdM_num (by omega) (by omega) (by omega) (by omega) (by omega)).symm
                              | exact (rdM_cl (u := (T1, t1)) (B := B1) (X := X1) (d := d) (f := f) (k := k) (by omega) (by omega) (by omega) (by omega) (by omega) (by omega)).symm
                              | exact (rdM_st _ 0 _ _ _ (by omega) (by omega) (by omega) (by omega) (by omega) (by omega) (by omega) (by omega) (by assumption) (by omega) (by omega)).symm
                              | exact (rdM_st _ 1 _ _ _ (by omega) (by omega) (by omega) (by omega) (by omega) (by omega) (by omega) (by omega) (by assumption) (by omega) (by omega)).symm
                              | exact (rdM_st _ 2 _ _ _ (by omega) (by omega) (by omega) (by omega) (by omega) (by omega) (by omega) (by omega) (by assumption) (by omega) (by omega)).symm) (by omega)
                    · refine r_iload_n E 1 dX7_readPiece_229 rfl rfl ?_
                      exact r_retM E (((k + 1) + 0), T1, t1, B1, X1) hr dX7_readPiece_230 rfl (by
                            refine ⟨?_, by first | exact ht1 | omega, by first | omega | (split <;> omega)⟩
                            rw [← hs]
                            first
                            | exact rdM_nuB (by omega) (by omega) (by omega) (by omega) (by omega)
                            | exact rdM_clB (by omega) (by omega) (by omega) (by omega) (by omega) (by omega)
                            | exact rdM_stB _ 0 _ (by omega) (by omega) (by omega) (by omega) (by omega) (by omega) (by omega) (by omega) (by assumption)
                            | exact rdM_stB _ 1 _ (by omega) (by omega) (by omega) (by omega) (by omega) (by omega) (by omega) (by omega) (by assumption)
                            | exact rdM_stB _ 2 _ (by omega) (by omega) (by omega) (by omega) (by omega) (by omega) (by omega) (by omega) (by assumption)
                            | (rw [rdM_end (by omega) (by omega)]; first | (rw [if_pos (by omega)]; done) | (rw [if_neg (by omega)]; done))) rfl hQ
                  · refine r_iconst E 2 rfl dX7_readPiece_192 ?_
                    refine r_goto E 197 dX7_readPiece_193 (by decide) ?_
                    refine r_istore E [(6, .int (iJ (2))), (1, .int (iJ ((k + 1)))), (5, .int (iJ (1))), (4, .int (iJ (p k))), (0, .ref m0), (2, .int (iJ (d))), (3, .int (iJ (f)))] dX7_readPiece_197 (by decide) rfl ?_
                    refine r_iload_n E 1 dX7_readPiece_199 rfl rfl ?_
                    refine r_iload E 0 dX7_readPiece_200 rfl ?_
                    refine r_if_le E 209 dX7_readPiece_202 (by decide) ⟨by omega, by omega⟩ (fun c_202 => absurd c_202 (by omega)) (fun c_202 => ?_)
                    refine r_iconst E 1 rfl dX7_readPiece_205 ?_
                    refine r_goto E 210 dX7_readPiece_206 (by decide) ?_
                    refine r_iadd E dX7_readPiece_210 ?_
                    refine r_istore_n E [(1, .int (iJ (((k + 1) + 1)))), (6, .int (iJ (2))), (5, .int (iJ (1))), (4, .int (iJ (p k))), (0, .ref m0), (2, .int (iJ (d))), (3, .int (iJ (f)))] dX7_readPiece_211 rfl (by decide) rfl ?_
                    refine r_aload_n E 4 dX7_readPiece_212 rfl rfl ?_
                    refine r_iload_n E 0 dX7_readPiece_213 rfl rfl ?_
                    refine r_vP E (st := []) (c_X7_next l D m0 ms mh mn mp ml mm md mw mt mb mi mg cI kp sv pn rf t1 p ((k + 1) + 1) (by first | assumption | omega | exact ⟨by omega, by omega⟩) (by first | assumption | omega | exact ⟨by omega, by omega⟩) (by first | assumption | omega | exact ⟨by omega, by omega⟩)) gX7_readPiece_X7_next 1 kf_X7_next ⟨rfl, rfl⟩ ⟨by decide, by decide⟩ dX7_readPiece_214 rfl 0 rfl rfl rfl rfl ⟨Nat.zero_le _, Nat.zero_le _⟩ [0, 1] rfl (by decide) [0] rfl (Nat.le_of_ble_eq_true rfl) ?_
                    have := nxV_f hpp ((k + 1) + 1) (by omega)
                    refine r_top (b := (nxV p pn ((k + 1) + 1))) rfl ?_
                    refine r_sP E (st := []) (c_X7_handFor l D (nxV p pn ((k + 1) + 1)) (by first | assumption | omega | exact ⟨by omega, by omega⟩)) gX7_readPiece_X7_handFor 1 kf_X7_handFor ⟨rfl, rfl⟩ ⟨by decide, by decide⟩ dX7_readPiece_217 rfl rfl ⟨Nat.zero_le _, Nat.zero_le _⟩ [] rfl (by decide) [] rfl (Nat.le_of_ble_eq_true rfl) ?_
                    have f_H := mHf_f (nxV p pn ((k + 1) + 1))
                    refine r_istore E [(7, .int (iJ (mHf (nxV p pn ((k + 1) + 1))))), (1, .int (iJ (((k + 1) + 1)))), (6, .int (iJ (2))), (5, .int (iJ (1))), (4, .int (iJ (p k))), (0, .ref m0), (2, .int (iJ (d))), (3, .int (iJ (f)))] dX7_readPiece_220 (by decide) rfl ?_
                    refine r_iload E 0 dX7_readPiece_222 rfl ?_
                    refine r_bipush E (-4) rfl dX7_readPiece_224 ?_
                    refine r_icmp_ne E 231 dX7_readPiece_226 (by decide) ⟨by omega, by omega⟩ ⟨by omega, by omega⟩ (fun c_226 => ?_) (fun c_226 => ?_)
                    · refine r_iinc E (k := 1) [(1, .int (iJ ((((k + 1) + 1) + 1)))), (7, .int (iJ (mHf (nxV p pn ((k + 1) + 1))))), (6, .int (iJ (2))), (5, .int (iJ (1))), (4, .int (iJ (p k))), (0, .ref m0), (2, .int (iJ (d))), (3, .int (iJ (f)))] dX7_readPiece_231 rfl (by decide) rfl ?_
                      refine r_iload E 2 dX7_readPiece_234 rfl ?_
                      refine r_if_ne E 253 dX7_readPiece_236 (by decide) ⟨by omega, by omega⟩ (fun c_236 => ?_) (fun c_236 => absurd c_236 (by omega))
                      refine r_iconst E 0 rfl dX7_readPiece_253 ?_
                      refine r_istore E [(8, .int (iJ (0))), (1, .int (iJ ((((k + 1) + 1) + 1)))), (7, .int (iJ (mHf (nxV p pn ((k + 1) + 1))))), (6, .int (iJ (2))), (5, .int (iJ (1))), (4, .int (iJ (p k))), (0, .ref m0), (2, .int (iJ (d))), (3, .int (iJ (f)))] dX7_readPiece_254 (by decide) rfl ?_
                      refine r_iload_n E 1 dX7_readPiece_256 rfl rfl ?_
                      refine r_iload E 0 dX7_readPiece_257 rfl ?_
                      refine r_if_eq E 266 dX7_readPiece_259 (by decide) ⟨by omega, by omega⟩ (fun c_259 => ?_) (fun c_259 => absurd c_259 (by omega))
                      refine r_iconst E 0 rfl dX7_readPiece_266 ?_
                      refine r_iadd E dX7_readPiece_267 ?_
                      refine r_istore_n E [(1, .int (iJ (((((k + 1) + 1) + 1) + 0)))), (8, .int (iJ (0))), (7, .int (iJ (mHf (nxV p pn ((k + 1) + 1))))), (6, .int (iJ (2))), (5, .int (iJ (1))), (4, .int (iJ (p k))), (0, .ref m0), (2, .int (iJ (d))), (3, .int (iJ (f)))] dX7_readPiece_268 rfl (by decide) rfl ?_
                      refine r_aload_n E 6 dX7_readPiece_269 rfl rfl ?_
                      refine r_iload E 2 dX7_readPiece_270 rfl ?_
                      refine r_iload E 4 dX7_readPiece_272 rfl ?_
                      refine r_iload E 1 dX7_readPiece_274 rfl ?_
                      refine r_if_eq E 283 dX7_readPiece_276 (by decide) ⟨by omega, by omega⟩ (fun c_276 => ?_) (fun c_276 => absurd c_276 (by omega))
                      refine r_iload E 3 dX7_readPiece_283 rfl ?_
                      refine r_sP E (st := [.ref m0]) (c_X7_code l D (mHf (nxV p pn ((k + 1) + 1))) 1 2) gX7_readPiece_X7_code 3 kf_X7_code ⟨rfl, rfl⟩ ⟨by decide, by decide⟩ dX7_readPiece_285 rfl rfl ⟨Nat.zero_le _, Nat.zero_le _⟩ [] rfl (by decide) [] rfl (Nat.le_of_ble_eq_true rfl) ?_
                      refine r_vV E (st := []) (c_X7_tell l D m0 ms mh mn mp ml mm md mw mt mb mi mg cI kp sv pn rf t1 T1 (1 + (mHf (nxV p pn ((k + 1) + 1))) + 3 * 1 + 6 * 2) ht1) gX7_readPiece_X7_tell 1 kf_X7_tell ⟨rfl, rfl⟩ ⟨by decide, by decide⟩ dX7_readPiece_288 rfl 0 rfl rfl rfl rfl ⟨Nat.zero_le _, Nat.zero_le _⟩ [0, 2] rfl (by decide) [0] rfl (Nat.le_of_ble_eq_true rfl) [(mp, cJ cI 60 (p)), (mb, cJ cI 30 (B1)), (mi, cJ cI 30 (X1))] [1, 3, 4] rfl (by decide) (by decide) hA [3, 0, 4, 1, 2] (by decide) (fun (_ : Unit) => [(m0, .inr (6, [.ref ms, .ref mh, .int (iJ (kp)), .ref mn, .int (iJ (sv)), .ref mp, .int (iJ (pn)), .int (iJ (rf)), .ref ml, .ref mm, .ref md, .ref mw, .ref mt, .int (iJ ((teS (T1, t1) (1 + (mHf (nxV p pn ((k + 1) + 1))) + 3 * 1 + 6 * 2)).2)), .ref mb, .ref mi, .ref mg])), (mp, cJ cI 60 (p)), (mt, cJ cI 33 ((teS (T1, t1) (1 + (mHf (nxV p pn ((k + 1) + 1))) + 3 * 1 + 6 * 2)).1)), (mb, cJ cI 30 (B1)), (mi, cJ cI 30 (X1))]) (fun _ => rfl) ?_
                      rintro ⟨⟩ hp_8
                      refine r_iconst E 1 rfl dX7_readPiece_291 ?_
                      refine r_istore_n E [(3, .int (iJ (1))), (1, .int (iJ (((((k + 1) + 1) + 1) + 0)))), (8, .int (iJ (0))), (7, .int (iJ (mHf (nxV p pn ((k + 1) + 1))))), (6, .int (iJ (2))), (5, .int (iJ (1))), (4, .int (iJ (p k))), (0, .ref m0), (2, .int (iJ (d)))] dX7_readPiece_292 rfl (by decide) rfl ?_
                      refine r_goto E 11 dX7_readPiece_293 (by decide) ?_
                      refine r_lv [7, 1, 8, 0] [(0, .ref m0), (1, .int (iJ (((((k + 1) + 1) + 1) + 0)))), (2, .int (iJ (d))), (3, .int (iJ (1)))] rfl ?_
                      exact ih11 ((((k + 1) + 1) + 1) + 0) d 1 ((teS (T1, t1) (1 + (mHf (nxV p pn ((k + 1) + 1))) + 3 * 1 + 6 * 2)).1) ((teS (T1, t1) (1 + (mHf (nxV p pn ((k + 1) + 1))) + 3 * 1 + 6 * 2)).2) B1 X1 (r - 1) ⟨by omega, by omega⟩ ⟨by omega, by omega⟩ (by first | exact Or.inl rfl | exact Or.inr rfl | exact hf) (by first | exact ht1 | exact (teS_in (u := (T1, t1)) ht1).1 | exact rpO_in _ (u := (T1, t1)) ht1) (by omega) (fun j h1 h2 => by first | exact hBX j h1 (by omega) | (by_cases z : j = d; subst z; rw [uJ_s, uJ_s]; omega; rw [uJ_n z, uJ_n z]; exact hBX j h1 (by omega))) (by
                            rw [← hs]
                            first
                            | exact (rdM_46 (by omega) (by omega) (by omega)).symm
                            | exact (rdM_num (by omega) (by omega) (by omega) (by omega) (by omega)).symm
                            | exact (rdM_cl (u := (T1, t1)) (B := B1) (X := X1) (d := d) (f := f) (k := k) (by omega) (by omega) (by omega) (by omega) (by omega) (by omega)).symm
                            | exact (rdM_st _ 0 _ _ _ (by omega) (by omega) (by omega) (by omega) (by omega) (by omega) (by omega) (by omega) (by assumption) (by omega) (by omega)).symm
                            | exact (rdM_st _ 1 _ _ _ (by omega) (by omega) (by omega) (by omega) (by omega) (by omega) (by omega) (by omega) (by assumption) (by omega) (by omega)).symm
                            | exact (rdM_st _ 2 _ _ _ (by omega) (by omega) (by omega) (by omega) (by omega) (by omega) (by omega) (by omega) (by assumption) (by omega) (by omega)).symm) (by omega)
                    · refine r_iload_n E 1 dX7_readPiece_229 rfl rfl ?_
                      exact r_retM E (((k + 1) + 1), T1, t1, B1, X1) hr dX7_readPiece_230 rfl (by
                            refine ⟨?_, by first | exact ht1 | omega, by first | omega | (split <;> omega)⟩
                            rw [← hs]
                            first
                            | exact rdM_nuB (by omega) (by omega) (by omega) (by omega) (by omega)
                            | exact rdM_clB (by omega) (by omega) (by omega) (by omega) (by omega) (by omega)
                            | exact rdM_stB _ 0 _ (by omega) (by omega) (by omega) (by omega) (by omega) (by omega) (by omega) (by omega) (by assumption)
                            | exact rdM_stB _ 1 _ (by omega) (by omega) (by omega) (by omega) (by omega) (by omega) (by omega) (by omega) (by assumption)
                            | exact rdM_stB _ 2 _ (by omega) (by omega) (by omega) (by omega) (by omega) (by omega) (by omega) (by omega) (by assumption)
                            | (rw [rdM_end (by omega) (by omega)]; first | (rw [if_pos (by omega)]; done) | (rw [if_neg (by omega)]; done))) rfl hQ
                · refine r_iconst E 1 rfl dX7_readPiece_178 ?_
                  refine r_goto E 197 dX7_readPiece_179 (by decide) ?_
                  refine r_istore E [(6, .int (iJ (1))), (1, .int (iJ ((k + 1)))), (5, .int (iJ (1))), (4, .int (iJ (p k))), (0, .ref m0), (2, .int (iJ (d))), (3, .int (iJ (f)))] dX7_readPiece_197 (by decide) rfl ?_
                  refine r_iload_n E 1 dX7_readPiece_199 rfl rfl ?_
                  refine r_iload E 0 dX7_readPiece_200 rfl ?_
                  refine r_if_le E 209 dX7_readPiece_202 (by decide) ⟨by omega, by omega⟩ (fun c_202 => absurd c_202 (by omega)) (fun c_202 => ?_)
                  refine r_iconst E 1 rfl dX7_readPiece_205 ?_
                  refine r_goto E 210 dX7_readPiece_206 (by decide) ?_
                  refine r_iadd E dX7_readPiece_210 ?_
                  refine r_istore_n E [(1, .int (iJ (((k + 1) + 1)))), (6, .int (iJ (1))), (5, .int (iJ (1))), (4, .int (iJ (p k))), (0, .ref m0), (2, .int (iJ (d))), (3, .int (iJ (f)))] dX7_readPiece_211 rfl (by decide) rfl ?_
                  refine r_aload_n E 4 dX7_readPiece_212 rfl rfl ?_
                  refine r_iload_n E 0 dX7_readPiece_213 rfl rfl ?_
                  refine r_vP E (st := []) (c_X7_next l D m0 ms mh mn mp ml mm md mw mt mb mi mg cI kp sv pn rf t1 p ((k + 1) + 1) (by first | assumption | omega | exact ⟨by omega, by omega⟩) (by first | assumption | omega | exact ⟨by omega, by omega⟩) (by first | assumption | omega | exact ⟨by omega, by omega⟩)) gX7_readPiece_X7_next 1 kf_X7_next ⟨rfl, rfl⟩ ⟨by decide, by decide⟩ dX7_readPiece_214 rfl 0 rfl rfl rfl rfl ⟨Nat.zero_le _, Nat.zero_le _⟩ [0, 1] rfl (by decide) [0] rfl (Nat.le_of_ble_eq_true rfl) ?_
                  have := nxV_f hpp ((k + 1) + 1) (by omega)
                  refine r_top (b := (nxV p pn ((k + 1) + 1))) rfl ?_
                  refine r_sP E (st := []) (c_X7_handFor l D (nxV p pn ((k + 1) + 1)) (by first | assumption | omega | exact ⟨by omega, by omega⟩)) gX7_readPiece_X7_handFor 1 kf_X7_handFor ⟨rfl, rfl⟩ ⟨by decide, by decide⟩ dX7_readPiece_217 rfl rfl ⟨Nat.zero_le _, Nat.zero_le _⟩ [] rfl (by decide) [] rfl (Nat.le_of_ble_eq_true rfl) ?_
                  have f_H := mHf_f (nxV p pn ((k + 1) + 1))
                  refine r_istore E [(7, .int (iJ (mHf (nxV p pn ((k + 1) + 1))))), (1, .int (iJ (((k + 1) + 1)))), (6, .int (iJ (1))), (5, .int (iJ (1))), (4, .int (iJ (p k))), (0, .ref m0), (2, .int (iJ (d))), (3, .int (iJ (f)))] dX7_readPiece_220 (by decide) rfl ?_
                  refine r_iload E 0 dX7_readPiece_222 rfl ?_
                  refine r_bipush E (-4) rfl dX7_readPiece_224 ?_
                  refine r_icmp_ne E 231 dX7_readPiece_226 (by decide) ⟨by omega, by omega⟩ ⟨by omega, by omega⟩ (fun c_226 => ?_) (fun c_226 => ?_)
                  · refine r_iinc E (k := 1) [(1, .int (iJ ((((k + 1) + 1) + 1)))), (7, .int (iJ (mHf (nxV p pn ((k + 1) + 1))))), (6, .int (iJ (1))), (5, .int (iJ (1))), (4, .int (iJ (p k))), (0, .ref m0), (2, .int (iJ (d))), (3, .int (iJ (f)))] dX7_readPiece_231 rfl (by decide) rfl ?_
                    refine r_iload E 2 dX7_readPiece_234 rfl ?_
                    refine r_if_ne E 253 dX7_readPiece_236 (by decide) ⟨by omega, by omega⟩ (fun c_236 => ?_) (fun c_236 => absurd c_236 (by omega))
                    refine r_iconst E 0 rfl dX7_readPiece_253 ?_
                    refine r_istore E [(8, .int (iJ (0))), (1, .int (iJ ((((k + 1) + 1) + 1)))), (7, .int (iJ (mHf (nxV p pn ((k + 1) + 1))))), (6, .int (iJ (1))), (5, .int (iJ (1))), (4, .int (iJ (p k))), (0, .ref m0), (2, .int (iJ (d))), (3, .int (iJ (f)))] dX7_readPiece_254 (by decide) rfl ?_
                    refine r_iload_n E 1 dX7_readPiece_256 rfl rfl ?_
                    refine r_iload E 0 dX7_readPiece_257 rfl ?_
                    refine r_if_eq E 266 dX7_readPiece_259 (by decide) ⟨by omega, by omega⟩ (fun c_259 => ?_) (fun c_259 => absurd c_259 (by omega))
                    refine r_iconst E 0 rfl dX7_readPiece_266 ?_
                    refine r_iadd E dX7_readPiece_267 ?_
                    refine r_istore_n E [(1, .int (iJ (((((k + 1) + 1) + 1) + 0)))), (8, .int (iJ (0))), (7, .int (iJ (mHf (nxV p pn ((k + 1) + 1))))), (6, .int (iJ (1))), (5, .int (iJ (1))), (4, .int (iJ (p k))), (0, .ref m0), (2, .int (iJ (d))), (3, .int (iJ (f)))] dX7_readPiece_268 rfl (by decide) rfl ?_
                    refine r_aload_n E 6 dX7_readPiece_269 rfl rfl ?_
                    refine r_iload E 2 dX7_readPiece_270 rfl ?_
                    refine r_iload E 4 dX7_readPiece_272 rfl ?_
                    refine r_iload E 1 dX7_readPiece_274 rfl ?_
                    refine r_if_eq E 283 dX7_readPiece_276 (by decide) ⟨by omega, by omega⟩ (fun c_276 => ?_) (fun c_276 => absurd c_276 (by omega))
                    refine r_iload E 3 dX7_readPiece_283 rfl ?_
                    refine r_sP E (st := [.ref m0]) (c_X7_code l D (mHf (nxV p pn ((k + 1) + 1))) 1 1) gX7_readPiece_X7_code 3 kf_X7_code ⟨rfl, rfl⟩ ⟨by decide, by decide⟩ dX7_readPiece_285 rfl rfl ⟨Nat.zero_le _, Nat.zero_le _⟩ [] rfl (by decide) [] rfl (Nat.le_of_ble_eq_true rfl) ?_
                    refine r_vV E (st := []) (c_X7_tell l D m0 ms mh mn mp ml mm md mw mt mb mi mg cI kp sv pn rf t1 T1 (1 + (mHf (nxV p pn ((k + 1) + 1))) + 3 * 1 + 6 * 1) ht1) gX7_readPiece_X7_tell 1 kf_X7_tell ⟨rfl, rfl⟩ ⟨by decide, by decide⟩ dX7_readPiece_288 rfl 0 rfl rfl rfl rfl ⟨Nat.zero_le _, Nat.zero_le _⟩ [0, 2] rfl (by decide) [0] rfl (Nat.le_of_ble_eq_true rfl) [(mp, cJ cI 60 (p)), (mb, cJ cI 30 (B1)), (mi, cJ cI 30 (X1))] [1, 3, 4] rfl (by decide) (by decide) hA [3, 0, 4, 1, 2] (by decide) (fun (_ : Unit) => [(m0, .inr (6, [.ref ms, .ref mh, .int (iJ (kp)), .ref mn, .int (iJ (sv)), .ref mp, .int (iJ (pn)), .int (iJ (rf)), .ref ml, .ref mm, .ref md, .ref mw, .ref mt, .int (iJ ((teS (T1, t1) (1 + (mHf (nxV p pn ((k + 1) + 1))) + 3 * 1 + 6 * 1)).2)), .ref mb, .ref mi, .ref mg])), (mp, cJ cI 60 (p)), (mt, cJ cI 33 ((teS (T1, t1) (1 + (mHf (nxV p pn ((k + 1) + 1))) + 3 * 1 + 6 * 1)).1)), (mb, cJ cI 30 (B1)), (mi, cJ cI 30 (X1))]) (fun _ => rfl) ?_
                    rintro ⟨⟩ hp_9
                    refine r_iconst E 1 rfl dX7_readPiece_291 ?_
                    refine r_istore_n E [(3, .int (iJ (1))), (1, .int (iJ (((((k + 1) + 1) + 1) + 0)))), (8, .int (iJ (0))), (7, .int (iJ (mHf (nxV p pn ((k + 1) + 1))))), (6, .int (iJ (1))), (5, .int (iJ (1))), (4, .int (iJ (p k))), (0, .ref m0), (2, .int (iJ (d)))] dX7_readPiece_292 rfl (by decide) rfl ?_
                    refine r_goto E 11 dX7_readPiece_293 (by decide) ?_
                    refine r_lv [7, 1, 8, 0] [(0, .ref m0), (1, .int (iJ (((((k + 1) + 1) + 1) + 0)))), (2, .int (iJ (d))), (3, .int (iJ (1)))] rfl ?_
                    exact ih11 ((((k + 1) + 1) + 1) + 0) d 1 ((teS (T1, t1) (1 + (mHf (nxV p pn ((k + 1) + 1))) + 3 * 1 + 6 * 1)).1) ((teS (T1, t1) (1 + (mHf (nxV p pn ((k + 1) + 1))) + 3 * 1 + 6 * 1)).2) B1 X1 (r - 1) ⟨by omega, by omega⟩ ⟨by omega, by omega⟩ (by first | exact Or.inl rfl | exact Or.inr rfl | exact hf) (by first | exact ht1 | exact (teS_in (u := (T1, t1)) ht1).1 | exact rpO_in _ (u := (T1, t1)) ht1) (by omega) (fun j h1 h2 => by first | exact hBX j h1 (by omega) | (by_cases z : j = d; subst z; rw [uJ_s, uJ_s]; omega; rw [uJ_n z, uJ_n z]; exact hBX j h1 (by omega))) (by
                          rw [← hs]
                          first
                          | exact (rdM_46 (by omega) (by omega) (by omega)).symm
                          | exact (rdM_num (by omega) (by omega) (by omega) (by omega) (by omega)).symm
                          | exact (rdM_cl (u := (T1, t1)) (B := B1) (X := X1) (d := d) (f := f) (k := k) (by omega) (by omega) (by omega) (by omega) (by omega) (by omega)).symm
                          | exact (rdM_st _ 0 _ _ _ (by omega) (by omega) (by omega) (by omega) (by omega) (by omega) (by omega) (by omega) (by assumption) (by omega) (by omega)).symm
                          | exact (rdM_st _ 1 _ _ _ (by omega) (by omega) (by omega) (by omega) (by omega) (by omega) (by omega) (by omega) (by assumption) (by omega) (by omega)).symm
                          | exact (rdM_st _ 2 _ _ _ (by omega) (by omega) (by omega) (by omega) (by omega) (by omega) (by omega) (by omega) (by assumption) (by omega) (by omega)).symm) (by omega)
                  · refine r_iload_n E 1 dX7_readPiece_229 rfl rfl ?_
                    exact r_retM E (((k + 1) + 1), T1, t1, B1, X1) hr dX7_readPiece_230 rfl (by
                          refine ⟨?_, by first | exact ht1 | omega, by first | omega | (split <;> omega)⟩
                          rw [← hs]
                          first
                          | exact rdM_nuB (by omega) (by omega) (by omega) (by omega) (by omega)
                          | exact rdM_clB (by omega) (by omega) (by omega) (by omega) (by omega) (by omega)
                          | exact rdM_stB _ 0 _ (by omega) (by omega) (by omega) (by omega) (by omega) (by omega) (by omega) (by omega) (by assumption)
                          | exact rdM_stB _ 1 _ (by omega) (by omega) (by omega) (by omega) (by omega) (by omega) (by omega) (by omega) (by assumption)
                          | exact rdM_stB _ 2 _ (by omega) (by omega) (by omega) (by omega) (by omega) (by omega) (by omega) (by omega) (by assumption)
                          | (rw [rdM_end (by omega) (by omega)]; first | (rw [if_pos (by omega)]; done) | (rw [if_neg (by omega)]; done))) rfl hQ
            · refine r_iload_n E 3 dX7_readPiece_114 rfl rfl ?_
              refine r_if_eq E 122 dX7_readPiece_115 (by decide) ⟨by omega, by omega⟩ (fun c_115 => ?_) (fun c_115 => ?_)
              · refine r_iload_n E 2 dX7_readPiece_122 rfl rfl ?_
                exact r_retM E (k, T1, t1, B1, X1) hr dX7_readPiece_123 rfl (by
                      refine ⟨?_, by first | exact ht1 | omega, by first | omega | (split <;> omega)⟩
                      rw [← hs]
                      first
                      | exact rdM_nuB (by omega) (by omega) (by omega) (by omega) (by omega)
                      | exact rdM_clB (by omega) (by omega) (by omega) (by omega) (by omega) (by omega)
                      | exact rdM_stB _ 0 _ (by omega) (by omega) (by omega) (by omega) (by omega) (by omega) (by omega) (by omega) (by assumption)
                      | exact rdM_stB _ 1 _ (by omega) (by omega) (by omega) (by omega) (by omega) (by omega) (by omega) (by omega) (by assumption)
                      | exact rdM_stB _ 2 _ (by omega) (by omega) (by omega) (by omega) (by omega) (by omega) (by omega) (by omega) (by assumption)
                      | (rw [rdM_end (by omega) (by omega)]; first | (rw [if_pos (by omega)]; done) | (rw [if_neg (by omega)]; done))) rfl hQ
              · refine r_iload_n E 4 dX7_readPiece_118 rfl rfl ?_
                refine r_if_ne E 124 dX7_readPiece_119 (by decide) ⟨by omega, by omega⟩ (fun c_119 => ?_) (fun c_119 => ?_)
                · refine r_iinc E (k := 3) [(2, .int (iJ ((d + (-1))))), (4, .int (iJ (p k))), (0, .ref m0), (1, .int (iJ (k))), (3, .int (iJ (f)))] dX7_readPiece_124 rfl (by decide) rfl ?_
                  refine r_aload_n E 2 dX7_readPiece_127 rfl rfl ?_
                  have f_B := hBX (d + -1) (by omega) (by omega)
                  refine r_aload_n E 2 dX7_readPiece_128 rfl rfl ?_
                  refine r_get E 6 0 14 dX7_readPiece_129 in_X7_readPiece_X7 lk_X7_readPiece_38 rfl rfl (by decide) rfl ?_
                  refine r_iload_n E 0 dX7_readPiece_132 rfl rfl ?_
                  refine r_iald E (i := (d + (-1))) 3 0 dX7_readPiece_133 rfl rfl (by decide) ⟨by omega, by omega⟩ ?_
                  refine r_aload_n E 2 dX7_readPiece_134 rfl rfl ?_
                  refine r_get E 6 0 15 dX7_readPiece_135 in_X7_readPiece_X7 lk_X7_readPiece_41 rfl rfl (by decide) rfl ?_
                  refine r_iload_n E 0 dX7_readPiece_138 rfl rfl ?_
                  refine r_iald E (i := (d + (-1))) 4 0 dX7_readPiece_139 rfl rfl (by decide) ⟨by omega, by omega⟩ ?_
                  refine r_vV E (st := []) (c_X7_repeat l D m0 ms mh mn mp ml mm md mw mt mb mi mg cI kp sv pn rf t1 T1 (B1 (d + (-1))) (X1 (d + (-1))) ht1 (by first | assumption | omega | exact ⟨by omega, by omega⟩) (by first | assumption | omega | exact ⟨by omega, by omega⟩)) gX7_readPiece_X7_repeat 2 kf_X7_repeat ⟨rfl, rfl⟩ ⟨by decide, by decide⟩ dX7_readPiece_140 rfl 0 rfl rfl rfl rfl ⟨Nat.zero_le _, Nat.zero_le _⟩ [0, 2] rfl (by decide) [0] rfl (Nat.le_of_ble_eq_true rfl) [(mp, cJ cI 60 (p)), (mb, cJ cI 30 (B1)), (mi, cJ cI 30 (X1))] [1, 3, 4] rfl (by decide) (by decide) hA [3, 0, 4, 1, 2] (by decide) (fun (_ : Unit) => [(m0, .inr (6, [.ref ms, .ref mh, .int (iJ (kp)), .ref mn, .int (iJ (sv)), .ref mp, .int (iJ (pn)), .int (iJ (rf)), .ref ml, .ref mm, .ref md, .ref mw, .ref mt, .int (iJ ((rpO (B1 (d + (-1))) t1 ((X1 (d + (-1))) - 1).toNat (T1, t1)).2)), .ref mb, .ref mi, .ref mg])), (mp, cJ cI 60 (p)), (mt, cJ cI 33 ((rpO (B1 (d + (-1))) t1 ((X1 (d + (-1))) - 1).toNat (T1, t1)).1)), (mb, cJ cI 30 (B1)), (mi, cJ cI 30 (X1))]) (fun _ => rfl) ?_
                  rintro ⟨⟩ hp_10
                  refine r_iinc E (k := 3) [(1, .int (iJ ((k + 1)))), (2, .int (iJ ((d + (-1))))), (4, .int (iJ (p k))), (0, .ref m0), (3, .int (iJ (f)))] dX7_readPiece_143 rfl (by decide) rfl ?_
                  refine r_goto E 293 dX7_readPiece_146 (by decide) ?_
                  refine r_goto E 11 dX7_readPiece_293 (by decide) ?_
                  refine r_lv [3, 0, 1, 4] [(0, .ref m0), (1, .int (iJ ((k + 1)))), (2, .int (iJ ((d + (-1))))), (3, .int (iJ (f)))] rfl ?_
                  exact ih11 (k + 1) (d + (-1)) f ((rpO (B1 (d + (-1))) t1 ((X1 (d + (-1))) - 1).toNat (T1, t1)).1) ((rpO (B1 (d + (-1))) t1 ((X1 (d + (-1))) - 1).toNat (T1, t1)).2) B1 X1 (r - 1) ⟨by omega, by omega⟩ ⟨by omega, by omega⟩ (by first | exact Or.inl rfl | exact Or.inr rfl | exact hf) (by first | exact ht1 | exact (teS_in (u := (T1, t1)) ht1).1 | exact rpO_in _ (u := (T1, t1)) ht1) (by omega) (fun j h1 h2 => by first | exact hBX j h1 (by omega) | (by_cases z : j = d; subst z; rw [uJ_s, uJ_s]; omega; rw [uJ_n z, uJ_n z]; exact hBX j h1 (by omega))) (by
                        rw [← hs]
                        first
                        | exact (rdM_46 (by omega) (by omega) (by omega)).symm
                        | exact (rdM_num (by omega) (by omega) (by omega) (by omega) (by omega)).symm
                        | exact (rdM_cl (u := (T1, t1)) (B := B1) (X := X1) (d := d) (f := f) (k := k) (by omega) (by omega) (by omega) (by omega) (by omega) (by omega)).symm
                        | exact (rdM_st _ 0 _ _ _ (by omega) (by omega) (by omega) (by omega) (by omega) (by omega) (by omega) (by omega) (by assumption) (by omega) (by omega)).symm
                        | exact (rdM_st _ 1 _ _ _ (by omega) (by omega) (by omega) (by omega) (by omega) (by omega) (by omega) (by omega) (by assumption) (by omega) (by omega)).symm
                        | exact (rdM_st _ 2 _ _ _ (by omega) (by omega) (by omega) (by omega) (by omega) (by omega) (by omega) (by omega) (by assumption) (by omega) (by omega)).symm) (by omega)
                · refine r_iload_n E 2 dX7_readPiece_122 rfl rfl ?_
                  exact r_retM E (k, T1, t1, B1, X1) hr dX7_readPiece_123 rfl (by
                        refine ⟨?_, by first | exact ht1 | omega, by first | omega | (split <;> omega)⟩
                        rw [← hs]
                        first
                        | exact rdM_nuB (by omega) (by omega) (by omega) (by omega) (by omega)
                        | exact rdM_clB (by omega) (by omega) (by omega) (by omega) (by omega) (by omega)
                        | exact rdM_stB _ 0 _ (by omega) (by omega) (by omega) (by omega) (by omega) (by omega) (by omega) (by omega) (by assumption)
                        | exact rdM_stB _ 1 _ (by omega) (by omega) (by omega) (by omega) (by omega) (by omega) (by omega) (by omega) (by assumption)
                        | exact rdM_stB _ 2 _ (by omega) (by omega) (by omega) (by omega) (by omega) (by omega) (by omega) (by omega) (by assumption)
                        | (rw [rdM_end (by omega) (by omega)]; first | (rw [if_pos (by omega)]; done) | (rw [if_neg (by omega)]; done))) rfl hQ
          · refine r_aload_n E 1 dX7_readPiece_59 rfl rfl ?_
            refine r_iload_n E 2 dX7_readPiece_60 rfl rfl ?_
            refine r_iconst E 1 rfl dX7_readPiece_61 ?_
            refine r_iadd E dX7_readPiece_62 ?_
            refine r_vP E (st := []) (c_X7_next l D m0 ms mh mn mp ml mm md mw mt mb mi mg cI kp sv pn rf t1 p (k + 1) (by first | assumption | omega | exact ⟨by omega, by omega⟩) (by first | assumption | omega | exact ⟨by omega, by omega⟩) (by first | assumption | omega | exact ⟨by omega, by omega⟩)) gX7_readPiece_X7_next 1 kf_X7_next ⟨rfl, rfl⟩ ⟨by decide, by decide⟩ dX7_readPiece_63 rfl 0 rfl rfl rfl rfl ⟨Nat.zero_le _, Nat.zero_le _⟩ [0, 1] rfl (by decide) [0] rfl (Nat.le_of_ble_eq_true rfl) ?_
            have := nxV_f hpp (k + 1) (by omega)
            refine r_top (b := (nxV p pn (k + 1))) rfl ?_
            refine r_bipush E 40 rfl dX7_readPiece_66 ?_
            refine r_icmp_eq E 75 dX7_readPiece_68 (by decide) ⟨by omega, by omega⟩ ⟨by omega, by omega⟩ (fun c_68 => ?_) (fun c_68 => ?_)
            · refine r_aload_n E 1 dX7_readPiece_75 rfl rfl ?_
              refine r_get E 6 0 14 dX7_readPiece_76 in_X7_readPiece_X7 lk_X7_readPiece_38 rfl rfl (by decide) rfl ?_
              refine r_iload_n E 3 dX7_readPiece_79 rfl rfl ?_
              refine r_aload_n E 1 dX7_readPiece_80 rfl rfl ?_
              refine r_get E 6 0 13 dX7_readPiece_81 in_X7_readPiece_X7 lk_X7_readPiece_136 rfl rfl (by decide) rfl ?_
              refine r_iast E (i := d) 3 0 dX7_readPiece_84 rfl rfl (by decide) ⟨by omega, by omega⟩ [(m0, .inr (6, [.ref ms, .ref mh, .int (iJ (kp)), .ref mn, .int (iJ (sv)), .ref mp, .int (iJ (pn)), .int (iJ (rf)), .ref ml, .ref mm, .ref md, .ref mw, .ref mt, .int (iJ (t1)), .ref mb, .ref mi, .ref mg])), (mp, cJ cI 60 (p)), (mt, cJ cI 33 (T1)), (mb, cJ cI 30 (uJ B1 d t1)), (mi, cJ cI 30 (X1))] rfl ?_
              refine r_aload_n E 1 dX7_readPiece_85 rfl rfl ?_
              refine r_get E 6 0 15 dX7_readPiece_86 in_X7_readPiece_X7 lk_X7_readPiece_41 rfl rfl (by decide) rfl ?_
              refine r_iload_n E 3 dX7_readPiece_89 rfl rfl ?_
              refine r_iload E 0 dX7_readPiece_90 rfl ?_
              refine r_bipush E 48 rfl dX7_readPiece_92 ?_
              refine r_isub E dX7_readPiece_94 ?_
              refine r_iast E (i := d) 4 0 dX7_readPiece_95 rfl rfl (by decide) ⟨by omega, by omega⟩ [(m0, .inr (6, [.ref ms, .ref mh, .int (iJ (kp)), .ref mn, .int (iJ (sv)), .ref mp, .int (iJ (pn)), .int (iJ (rf)), .ref ml, .ref mm, .ref md, .ref mw, .ref mt, .int (iJ (t1)), .ref mb, .ref mi, .ref mg])), (mp, cJ cI 60 (p)), (mt, cJ cI 33 (T1)), (mb, cJ cI 30 (uJ B1 d t1)), (mi, cJ cI 30 (uJ X1 d ((p k) - 48)))] rfl ?_
              refine r_iinc E (k := 3) [(2, .int (iJ ((d + 1)))), (4, .int (iJ (p k))), (0, .ref m0), (1, .int (iJ (k))), (3, .int (iJ (f)))] dX7_readPiece_96 rfl (by decide) rfl ?_
              refine r_iinc E (k := 3) [(1, .int (iJ ((k + 2)))), (2, .int (iJ ((d + 1)))), (4, .int (iJ (p k))), (0, .ref m0), (3, .int (iJ (f)))] dX7_readPiece_99 rfl (by decide) rfl ?_
              refine r_iconst E 0 rfl dX7_readPiece_102 ?_
              refine r_istore_n E [(3, .int (iJ (0))), (1, .int (iJ ((k + 2)))), (2, .int (iJ ((d + 1)))), (4, .int (iJ (p k))), (0, .ref m0)] dX7_readPiece_103 rfl (by decide) rfl ?_
              refine r_goto E 293 dX7_readPiece_104 (by decide) ?_
              refine r_goto E 11 dX7_readPiece_293 (by decide) ?_
              refine r_lv [4, 1, 2, 0] [(0, .ref m0), (1, .int (iJ ((k + 2)))), (2, .int (iJ ((d + 1)))), (3, .int (iJ (0)))] rfl ?_
              exact ih11 (k + 2) (d + 1) 0 T1 t1 (uJ B1 d t1) (uJ X1 d ((p k) - 48)) (r - 1) ⟨by omega, by omega⟩ ⟨by omega, by omega⟩ (by first | exact Or.inl rfl | exact Or.inr rfl | exact hf) (by first | exact ht1 | exact (teS_in (u := (T1, t1)) ht1).1 | exact rpO_in _ (u := (T1, t1)) ht1) (by omega) (fun j h1 h2 => by first | exact hBX j h1 (by omega) | (by_cases z : j = d; subst z; rw [uJ_s, uJ_s]; omega; rw [uJ_n z, uJ_n z]; exact hBX j h1 (by omega))) (by
                    rw [← hs]
                    first
                    | exact (rdM_46 (by omega) (by omega) (by omega)).symm
                    | exact (rdM_num (by omega) (by omega) (by omega) (by omega) (by omega)).symm
                    | exact (rdM_cl (u := (T1, t1)) (B := B1) (X := X1) (d := d) (f := f) (k := k) (by omega) (by omega) (by omega) (by omega) (by omega) (by omega)).symm
                    | exact (rdM_st _ 0 _ _ _ (by omega) (by omega) (by omega) (by omega) (by omega) (by omega) (by omega) (by omega) (by assumption) (by omega) (by omega)).symm
                    | exact (rdM_st _ 1 _ _ _ (by omega) (by omega) (by omega) (by omega) (by omega) (by omega) (by omega) (by omega) (by assumption) (by omega) (by omega)).symm
                    | exact (rdM_st _ 2 _ _ _ (by omega) (by omega) (by omega) (by omega) (by omega) (by omega) (by omega) (by omega) (by assumption) (by omega) (by omega)).symm) (by omega)
            · refine r_iload_n E 2 dX7_readPiece_71 rfl rfl ?_
              refine r_iconst E 1 rfl dX7_readPiece_72 ?_
              refine r_iadd E dX7_readPiece_73 ?_
              exact r_retM E ((k + 1), T1, t1, B1, X1) hr dX7_readPiece_74 rfl (by
                    refine ⟨?_, by first | exact ht1 | omega, by first | omega | (split <;> omega)⟩
                    rw [← hs]
                    first
                    | exact rdM_nuB (by omega) (by omega) (by omega) (by omega) (by omega)
                    | exact rdM_clB (by omega) (by omega) (by omega) (by omega) (by omega) (by omega)
                    | exact rdM_stB _ 0 _ (by omega) (by omega) (by omega) (by omega) (by omega) (by omega) (by omega) (by omega) (by assumption)
                    | exact rdM_stB _ 1 _ (by omega) (by omega) (by omega) (by omega) (by omega) (by omega) (by omega) (by omega) (by assumption)
                    | exact rdM_stB _ 2 _ (by omega) (by omega) (by omega) (by omega) (by omega) (by omega) (by omega) (by omega) (by assumption)
                    | (rw [rdM_end (by omega) (by omega)]; first | (rw [if_pos (by omega)]; done) | (rw [if_neg (by omega)]; done))) rfl hQ
        · refine r_aload_n E 1 dX7_readPiece_34 rfl rfl ?_
          refine r_iconst E 0 rfl dX7_readPiece_35 ?_
          refine r_vV E (st := []) (c_X7_tell l D m0 ms mh mn mp ml mm md mw mt mb mi mg cI kp sv pn rf t1 T1 0 ht1) gX7_readPiece_X7_tell 1 kf_X7_tell ⟨rfl, rfl⟩ ⟨by decide, by decide⟩ dX7_readPiece_36 rfl 0 rfl rfl rfl rfl ⟨Nat.zero_le _, Nat.zero_le _⟩ [0, 2] rfl (by decide) [0] rfl (Nat.le_of_ble_eq_true rfl) [(mp, cJ cI 60 (p)), (mb, cJ cI 30 (B1)), (mi, cJ cI 30 (X1))] [1, 3, 4] rfl (by decide) (by decide) hA [3, 0, 4, 1, 2] (by decide) (fun (_ : Unit) => [(m0, .inr (6, [.ref ms, .ref mh, .int (iJ (kp)), .ref mn, .int (iJ (sv)), .ref mp, .int (iJ (pn)), .int (iJ (rf)), .ref ml, .ref mm, .ref md, .ref mw, .ref mt, .int (iJ ((teS (T1, t1) 0).2)), .ref mb, .ref mi, .ref mg])), (mp, cJ cI 60 (p)), (mt, cJ cI 33 ((teS (T1, t1) 0).1)), (mb, cJ cI 30 (B1)), (mi, cJ cI 30 (X1))]) (fun _ => rfl) ?_
          rintro ⟨⟩ hp_11
          refine r_iinc E (k := 2) [(1, .int (iJ ((k + 1)))), (4, .int (iJ (p k))), (0, .ref m0), (2, .int (iJ (d))), (3, .int (iJ (f)))] dX7_readPiece_39 rfl (by decide) rfl ?_
          refine r_iconst E 1 rfl dX7_readPiece_42 ?_
          refine r_istore_n E [(3, .int (iJ (1))), (1, .int (iJ ((k + 1)))), (4, .int (iJ (p k))), (0, .ref m0), (2, .int (iJ (d)))] dX7_readPiece_43 rfl (by decide) rfl ?_
          refine r_goto E 293 dX7_readPiece_44 (by decide) ?_
          refine r_goto E 11 dX7_readPiece_293 (by decide) ?_
          refine r_lv [3, 1, 4, 0] [(0, .ref m0), (1, .int (iJ ((k + 1)))), (2, .int (iJ (d))), (3, .int (iJ (1)))] rfl ?_
          exact ih11 (k + 1) d 1 ((teS (T1, t1) 0).1) ((teS (T1, t1) 0).2) B1 X1 (r - 1) ⟨by omega, by omega⟩ ⟨by omega, by omega⟩ (by first | exact Or.inl rfl | exact Or.inr rfl | exact hf) (by first | exact ht1 | exact (teS_in (u := (T1, t1)) ht1).1 | exact rpO_in _ (u := (T1, t1)) ht1) (by omega) (fun j h1 h2 => by first | exact hBX j h1 (by omega) | (by_cases z : j = d; subst z; rw [uJ_s, uJ_s]; omega; rw [uJ_n z, uJ_n z]; exact hBX j h1 (by omega))) (by
                rw [← hs]
                first
                | exact (rdM_46 (by omega) (by omega) (by omega)).symm
                | exact (rdM_num (by omega) (by omega) (by omega) (by omega) (by omega)).symm
                | exact (rdM_cl (u := (T1, t1)) (B := B1) (X := X1) (d := d) (f := f) (k := k) (by omega) (by omega) (by omega) (by omega) (by omega) (by omega)).symm
                | exact (rdM_st _ 0 _ _ _ (by omega) (by omega) (by omega) (by omega) (by omega) (by omega) (by omega) (by omega) (by assumption) (by omega) (by omega)).symm
                | exact (rdM_st _ 1 _ _ _ (by omega) (by omega) (by omega) (by omega) (by omega) (by omega) (by omega) (by omega) (by assumption) (by omega) (by omega)).symm
                | exact (rdM_st _ 2 _ _ _ (by omega) (by omega) (by omega) (by omega) (by omega) (by omega) (by omega) (by omega) (by assumption) (by omega) (by omega)).symm) (by omega)
  refine r_lv [3, 2, 1, 0] [(0, .ref m0), (1, .int (iJ (0))), (2, .int (iJ (0))), (3, .int (iJ (0)))] rfl ?_
  exact loop_11 _ 0 0 0 T 0 B X 61 ⟨by omega, by omega⟩ ⟨by omega, by omega⟩ (Or.inl rfl) ⟨by omega, by omega⟩ (by omega) (fun j h1 h2 => absurd h2 (by omega)) rfl (Nat.lt_succ_self _)
theorem kf_X7_fault : KF yX7_fault 1 wsX7_fault cX7_fault 2 (some .int) := ⟨rfl, by decide +kernel, by decide +kernel, by decide +kernel⟩
def rm_X7_fault : Room := { frames := 3, cells := 0, slots := 0, locals := 74 }
set_option maxHeartbeats 1000000 in
set_option maxRecDepth 100000 in
theorem c_X7_faultBad (l : Launch) (D : va_G) (m0 : Nat) (ms : Nat) (mh : Nat) (mn : Nat) (mp : Nat) (ml : Nat) (mm : Nat) (md : Nat) (mw : Nat) (mt : Nat) (mb : Nat) (mi : Nat) (mg : Nat) (cI : ClassId) (kp : Int) (sv : Int) (pn : Int) (rf : Int) (tl : Int) (w : Int) (hw : jb w) (hx : ¬ (w = 0 ∨ w = 1)) : MP l yX7_fault wsX7_fault rm_X7_fault D vwCl [.ref m0, .int (iJ (w))] [(m0, .inr (6, [.ref ms, .ref mh, .int (iJ (kp)), .ref mn, .int (iJ (sv)), .ref mp, .int (iJ (pn)), .int (iJ (rf)), .ref ml, .ref mm, .ref md, .ref mw, .ref mt, .int (iJ (tl)), .ref mb, .ref mi, .ref mg]))] [] (-1) := by
  refine MP.mk (cc := cX7_fault) (maxL := 2) (ret := (some .int)) (by decide) rfl (Nat.le_of_ble_eq_true rfl) rfl RX7 rfl ?_
  intro p_ e_ s_ m_ ar_ bw_ mt_ cd_ Q_ E hr hQ
  refine r_iload_n E 1 dX7_fault_0 rfl rfl ?_
  refine r_if_ne E 11 dX7_fault_1 (by decide) hw (fun c_1 => ?_) (fun c_1 => absurd c_1 (by omega))
  refine r_iload_n E 1 dX7_fault_11 rfl rfl ?_
  refine r_iconst E 1 rfl dX7_fault_12 ?_
  refine r_icmp_ne E 23 dX7_fault_13 (by decide) hw ⟨by omega, by omega⟩ (fun c_13 => ?_) (fun c_13 => absurd c_13 (by omega))
  refine r_iconst E (-1) rfl dX7_fault_23 ?_
  exact r_retP E hr dX7_fault_24 rfl hQ
set_option maxHeartbeats 1000000 in
set_option maxRecDepth 100000 in
theorem c_X7_fault1 (l : Launch) (D : va_G) (m0 : Nat) (ms : Nat) (mh : Nat) (mn : Nat) (mp : Nat) (ml : Nat) (mm : Nat) (md : Nat) (mw : Nat) (mt : Nat) (mb : Nat) (mi : Nat) (mg : Nat) (cI : ClassId) (kp : Int) (sv : Int) (pn : Int) (rf : Int) (tl : Int) (p : Int → Int) (w : Int) (hpn : 0 ≤ pn ∧ pn ≤ 60) (hpp : ∀ j : Int, 0 ≤ j → j < pn → 33 ≤ p j ∧ p j ≤ 126) (hx : w = 1) : MP l yX7_fault wsX7_fault rm_X7_fault D vwCl [.ref m0, .int (iJ (w))] [(m0, .inr (6, [.ref ms, .ref mh, .int (iJ (kp)), .ref mn, .int (iJ (sv)), .ref mp, .int (iJ (pn)), .int (iJ (rf)), .ref ml, .ref mm, .ref md, .ref mw, .ref mt, .int (iJ (tl)), .ref mb, .ref mi, .ref mg])), (mp, cJ cI 60 (p))] [(cI, .int)] (mpN p pn.toNat 0) := by
  refine MP.mk (cc := cX7_fault) (maxL := 2) (ret := (some .int)) (by decide) rfl (Nat.le_of_ble_eq_true rfl) rfl RX7 rfl ?_
  intro p_ e_ s_ m_ ar_ bw_ mt_ cd_ Q_ E hr hQ
  refine r_iload_n E 1 dX7_fault_0 rfl rfl ?_
  refine r_if_ne E 11 dX7_fault_1 (by decide) ⟨by omega, by omega⟩ (fun c_1 => ?_) (fun c_1 => absurd c_1 (by omega))
  refine r_iload_n E 1 dX7_fault_11 rfl rfl ?_
  refine r_iconst E 1 rfl dX7_fault_12 ?_
  refine r_icmp_ne E 23 dX7_fault_13 (by decide) ⟨by omega, by omega⟩ ⟨by omega, by omega⟩ (fun c_13 => absurd c_13 (by omega)) (fun c_13 => ?_)
  refine r_aload_n E 0 dX7_fault_16 rfl rfl ?_
  refine r_vP E (st := []) (c_X7_readPattern l D m0 ms mh mn mp ml mm md mw mt mb mi mg cI kp sv pn rf tl p (by first | assumption | omega | exact ⟨by omega, by omega⟩) (by first | assumption | omega | exact ⟨by omega, by omega⟩)) gX7_fault_X7_readPattern 0 kf_X7_readPattern ⟨rfl, rfl⟩ ⟨by decide, by decide⟩ dX7_fault_17 rfl 0 rfl rfl rfl rfl ⟨Nat.zero_le _, Nat.zero_le _⟩ [0, 1] rfl (by decide) [0] rfl (Nat.le_of_ble_eq_true rfl) ?_
  refine r_goto E 24 dX7_fault_20 (by decide) ?_
  exact r_retP E hr dX7_fault_24 rfl hQ
set_option maxHeartbeats 1000000 in
set_option maxRecDepth 100000 in
theorem c_X7_fault0 (l : Launch) (D : va_G) (m0 : Nat) (ms : Nat) (mh : Nat) (mn : Nat) (mp : Nat) (ml : Nat) (mm : Nat) (md : Nat) (mw : Nat) (mt : Nat) (mb : Nat) (mi : Nat) (mg : Nat) (cI : ClassId) (kp : Int) (sv : Int) (pn : Int) (rf : Int) (tl : Int) (p : Int → Int) (T : Int → Int) (B : Int → Int) (X : Int → Int) (w : Int) (hpn : 0 ≤ pn ∧ pn ≤ 60) (hpp : ∀ j : Int, 0 ≤ j → j < pn → 33 ≤ p j ∧ p j ≤ 126) (hx : w = 0) : MM (S := Int × (Int → Int) × Int × (Int → Int) × (Int → Int)) l yX7_fault wsX7_fault rm_X7_fault D vwCl [.ref m0, .int (iJ (w))] [(m0, .inr (6, [.ref ms, .ref mh, .int (iJ (kp)), .ref mn, .int (iJ (sv)), .ref mp, .int (iJ (pn)), .int (iJ (rf)), .ref ml, .ref mm, .ref md, .ref mw, .ref mt, .int (iJ (tl)), .ref mb, .ref mi, .ref mg])), (mp, cJ cI 60 (p)), (mt, cJ cI 33 (T)), (mb, cJ cI 30 (B)), (mi, cJ cI 30 (X))] [(cI, .int)] (fun (u : Int × (Int → Int) × Int × (Int → Int) × (Int → Int)) => u.1) (fun (u : Int × (Int → Int) × Int × (Int → Int) × (Int → Int)) => (rdM p pn 61 0 0 0 (T, 0) B X = (u.1, (u.2.1, u.2.2.1))) ∧ (0 ≤ u.2.2.1 ∧ u.2.2.1 ≤ 33) ∧ (-4 ≤ u.1 ∧ u.1 ≤ 60)) (fun (u : Int × (Int → Int) × Int × (Int → Int) × (Int → Int)) => [(m0, .inr (6, [.ref ms, .ref mh, .int (iJ (kp)), .ref mn, .int (iJ (sv)), .ref mp, .int (iJ (pn)), .int (iJ (rf)), .ref ml, .ref mm, .ref md, .ref mw, .ref mt, .int (iJ (u.2.2.1)), .ref mb, .ref mi, .ref mg])), (mp, cJ cI 60 (p)), (mt, cJ cI 33 (u.2.1)), (mb, cJ cI 30 (u.2.2.2.1)), (mi, cJ cI 30 (u.2.2.2.2))]) := by
  refine MM.mk (cc := cX7_fault) (maxL := 2) (ret := (some .int)) (by decide) rfl (Nat.le_of_ble_eq_true rfl) rfl RX7 rfl ?_
  intro p_ e_ s_ m_ ar_ bw_ mt_ cd_ B_ Q_ hA E hr hQ
  refine r_iload_n E 1 dX7_fault_0 rfl rfl ?_
  refine r_if_ne E 11 dX7_fault_1 (by decide) ⟨by omega, by omega⟩ (fun c_1 => absurd c_1 (by omega)) (fun c_1 => ?_)
  refine r_aload_n E 0 dX7_fault_4 rfl rfl ?_
  refine r_vM E (st := []) (c_X7_readPiece l D m0 ms mh mn mp ml mm md mw mt mb mi mg cI kp sv pn rf tl p T B X (by first | assumption | omega | exact ⟨by omega, by omega⟩) (by first | assumption | omega | exact ⟨by omega, by omega⟩)) gX7_fault_X7_readPiece 0 kf_X7_readPiece ⟨rfl, rfl⟩ ⟨by decide, by decide⟩ dX7_fault_5 rfl 0 rfl rfl rfl rfl ⟨Nat.zero_le _, Nat.zero_le _⟩ [0, 1, 2, 3, 4] rfl (by decide) [0] rfl (Nat.le_of_ble_eq_true rfl) [] [] rfl (by decide) (by decide) hA [0, 1, 2, 3, 4] (by decide) (fun u : Int × (Int → Int) × Int × (Int → Int) × (Int → Int) => [(m0, .inr (6, [.ref ms, .ref mh, .int (iJ (kp)), .ref mn, .int (iJ (sv)), .ref mp, .int (iJ (pn)), .int (iJ (rf)), .ref ml, .ref mm, .ref md, .ref mw, .ref mt, .int (iJ (u.2.2.1)), .ref mb, .ref mi, .ref mg])), (mp, cJ cI 60 (p)), (mt, cJ cI 33 (u.2.1)), (mb, cJ cI 30 (u.2.2.2.1)), (mi, cJ cI 30 (u.2.2.2.2))]) (fun _ => rfl) ?_
  rintro ⟨Rn, Tn, tn, Bn, Xn⟩ hp_1
  refine r_cv (ws2 := [(m0, .inr (6, [.ref ms, .ref mh, .int (iJ (kp)), .ref mn, .int (iJ (sv)), .ref mp, .int (iJ (pn)), .int (iJ (rf)), .ref ml, .ref mm, .ref md, .ref mw, .ref mt, .int (iJ (tn)), .ref mb, .ref mi, .ref mg])), (mp, cJ cI 60 (p)), (mt, cJ cI 33 (Tn)), (mb, cJ cI 30 (Bn)), (mi, cJ cI 30 (Xn))]) (st2 := [.int (iJ (Rn))]) rfl rfl rfl ?_
  obtain ⟨hRn, hbn, hcn⟩ := hp_1
  try dsimp only at hRn hbn hcn
  refine r_goto E 24 dX7_fault_8 (by decide) ?_
  exact r_retM E (Rn, Tn, tn, Bn, Xn) hr dX7_fault_24 rfl ⟨hRn, hbn, hcn⟩ rfl hQ
theorem kf_X7_read : KF yX7_read 0 wsX7_read cX7_read 3 (some .int) := ⟨rfl, by decide +kernel, by decide +kernel, by decide +kernel⟩
def rm_X7_read : Room := { frames := 3, cells := 0, slots := 0, locals := 74 }
set_option maxRecDepth 20000 in
theorem in_X7_read_X7 : ∀ w ∈ u_ws RX7 TX7 17, w ∈ wsX7_read := by decide +kernel
set_option maxRecDepth 20000 in
theorem lk_X7_read_136 : Cond.fieldLink RX7 136 (TX7 13).1 (TX7 13).2.1 (TX7 13).2.2.1 ∈ wsX7_read := by decide +kernel
set_option maxRecDepth 20000 in
theorem lk_X7_read_157 : Cond.fieldLink RX7 157 (TX7 7).1 (TX7 7).2.1 (TX7 7).2.2.1 ∈ wsX7_read := by decide +kernel
set_option maxRecDepth 20000 in
theorem lk_X7_read_7 : Cond.fieldLink RX7 7 (TX7 0).1 (TX7 0).2.1 (TX7 0).2.2.1 ∈ wsX7_read := by decide +kernel
set_option maxRecDepth 20000 in
theorem lk_X7_read_133 : Cond.fieldLink RX7 133 (TX7 6).1 (TX7 6).2.1 (TX7 6).2.2.1 ∈ wsX7_read := by decide +kernel
set_option maxRecDepth 20000 in
theorem lk_X7_read_35 : Cond.fieldLink RX7 35 (TX7 12).1 (TX7 12).2.1 (TX7 12).2.2.1 ∈ wsX7_read := by decide +kernel
set_option maxHeartbeats 1000000 in
set_option maxRecDepth 100000 in
theorem c_X7_read (l : Launch) (D : va_G) (m0 : Nat) (ms : Nat) (mh : Nat) (mn : Nat) (mp : Nat) (ml : Nat) (mm : Nat) (md : Nat) (mw : Nat) (mt : Nat) (mb : Nat) (mi : Nat) (mg : Nat) (cI : ClassId) (kp : Int) (sv : Int) (pn : Int) (rf : Int) (tl : Int) (p : Int → Int) (T : Int → Int) (B : Int → Int) (X : Int → Int) (s : Int → Int) (h : Int → Int) (hpn : 0 ≤ pn ∧ pn ≤ 60) (hpp : ∀ j : Int, 0 ≤ j → j < pn → 33 ≤ p j ∧ p j ≤ 126) (hkp : 0 ≤ kp ∧ kp ≤ 4) : MM (S := Int × (Int → Int) × Int × (Int → Int) × (Int → Int)) l yX7_read wsX7_read rm_X7_read D vwCl [.ref m0] [(m0, .inr (6, [.ref ms, .ref mh, .int (iJ (kp)), .ref mn, .int (iJ (sv)), .ref mp, .int (iJ (pn)), .int (iJ (rf)), .ref ml, .ref mm, .ref md, .ref mw, .ref mt, .int (iJ (tl)), .ref mb, .ref mi, .ref mg])), (mp, cJ cI 60 (p)), (mt, cJ cI 33 (T)), (mb, cJ cI 30 (B)), (mi, cJ cI 30 (X)), (ms, cJ cI 34 (s)), (mh, cJ cI 136 (h))] [(cI, .int)] (fun (u : Int × (Int → Int) × Int × (Int → Int) × (Int → Int)) => (if u.1 = -4 then (if 32 < u.2.2.1 then -3 else u.2.2.1) else -2)) (fun (u : Int × (Int → Int) × Int × (Int → Int) × (Int → Int)) => (rdM p pn 61 0 0 0 (T, 0) B X = (u.1, (u.2.1, u.2.2.1))) ∧ (0 ≤ u.2.2.1 ∧ u.2.2.1 ≤ 33)) (fun (u : Int × (Int → Int) × Int × (Int → Int) × (Int → Int)) => [(m0, .inr (6, [.ref ms, .ref mh, .int (iJ ((if u.1 = -4 ∧ u.2.2.1 ≤ 32 then rcK kp else kp))), .ref mn, .int (iJ (sv)), .ref mp, .int (iJ ((if u.1 = -4 ∧ u.2.2.1 ≤ 32 then 0 else pn))), .int (iJ ((if u.1 = -4 then (if 32 < u.2.2.1 then 2 else 0) else 1))), .ref ml, .ref mm, .ref md, .ref mw, .ref mt, .int (iJ (u.2.2.1)), .ref mb, .ref mi, .ref mg])), (mp, cJ cI 60 (p)), (mt, cJ cI 33 (u.2.1)), (mb, cJ cI 30 (u.2.2.2.1)), (mi, cJ cI 30 (u.2.2.2.2)), (ms, cJ cI 34 ((if u.1 = -4 ∧ u.2.2.1 ≤ 32 then (fun j => if j = 0 then u.2.2.1 else if 2 ≤ j ∧ j < 34 then (if j - 2 < u.2.2.1 then u.2.1 (j - 2) else 0) else s j) else s))), (mh, cJ cI 136 ((if u.1 = -4 ∧ u.2.2.1 ≤ 32 then rcH s h kp else h)))]) := by
  refine MM.mk (cc := cX7_read) (maxL := 3) (ret := (some .int)) (by decide) rfl (Nat.le_of_ble_eq_true rfl) rfl RX7 rfl ?_
  intro p_ e_ s_ m_ ar_ bw_ mt_ cd_ B_ Q_ hA E hr hQ
  refine r_aload_n E 0 dX7_read_0 rfl rfl ?_
  refine r_vM E (st := []) (c_X7_readPiece l D m0 ms mh mn mp ml mm md mw mt mb mi mg cI kp sv pn rf tl p T B X (by first | assumption | omega | exact ⟨by omega, by omega⟩) (by first | assumption | omega | exact ⟨by omega, by omega⟩)) gX7_read_X7_readPiece 0 kf_X7_readPiece ⟨rfl, rfl⟩ ⟨by decide, by decide⟩ dX7_read_1 rfl 0 rfl rfl rfl rfl ⟨Nat.zero_le _, Nat.zero_le _⟩ [0, 1, 2, 3, 4] rfl (by decide) [0] rfl (Nat.le_of_ble_eq_true rfl) [(ms, cJ cI 34 (s)), (mh, cJ cI 136 (h))] [5, 6] rfl (by decide) (by decide) hA [2, 3, 4, 5, 6, 0, 1] (by decide) (fun u : Int × (Int → Int) × Int × (Int → Int) × (Int → Int) => [(m0, .inr (6, [.ref ms, .ref mh, .int (iJ (kp)), .ref mn, .int (iJ (sv)), .ref mp, .int (iJ (pn)), .int (iJ (rf)), .ref ml, .ref mm, .ref md, .ref mw, .ref mt, .int (iJ (u.2.2.1)), .ref mb, .ref mi, .ref mg])), (mp, cJ cI 60 (p)), (mt, cJ cI 33 (u.2.1)), (mb, cJ cI 30 (u.2.2.2.1)), (mi, cJ cI 30 (u.2.2.2.2)), (ms, cJ cI 34 (s)), (mh, cJ cI 136 (h))]) (fun _ => rfl) ?_
  rintro ⟨Rn, Tn, tn, Bn, Xn⟩ hp_1
  refine r_cv (ws2 := [(m0, .inr (6, [.ref ms, .ref mh, .int (iJ (kp)), .ref mn, .int (iJ (sv)), .ref mp, .int (iJ (pn)), .int (iJ (rf)), .ref ml, .ref mm, .ref md, .ref mw, .ref mt, .int (iJ (tn)), .ref mb, .ref mi, .ref mg])), (mp, cJ cI 60 (p)), (mt, cJ cI 33 (Tn)), (mb, cJ cI 30 (Bn)), (mi, cJ cI 30 (Xn)), (ms, cJ cI 34 (s)), (mh, cJ cI 136 (h))]) (st2 := [.int (iJ (Rn))]) rfl rfl rfl ?_
  obtain ⟨hRn, hbn, hcn⟩ := hp_1
  try dsimp only at hRn hbn hcn
  refine r_bipush E (-4) rfl dX7_read_4 ?_
  refine r_icmp_eq E 13 dX7_read_6 (by decide) ⟨by omega, by omega⟩ ⟨by omega, by omega⟩ (fun c_6 => ?_) (fun c_6 => ?_)
  · refine r_iconst E 0 rfl dX7_read_13 ?_
    refine r_istore_n E [(1, .int (iJ (0))), (0, .ref m0)] dX7_read_14 rfl (by decide) rfl ?_
    refine r_aload_n E 1 dX7_read_15 rfl rfl ?_
    refine r_iload_n E 0 dX7_read_16 rfl rfl ?_
    refine r_if_eq E 24 dX7_read_17 (by decide) ⟨by omega, by omega⟩ (fun c_17 => ?_) (fun c_17 => absurd c_17 (by omega))
    refine r_aload_n E 1 dX7_read_24 rfl rfl ?_
    refine r_get E 6 0 13 dX7_read_25 in_X7_read_X7 lk_X7_read_136 rfl rfl (by decide) rfl ?_
    refine r_bipush E 32 rfl dX7_read_28 ?_
    refine r_icmp_le E 37 dX7_read_30 (by decide) ⟨by omega, by omega⟩ ⟨by omega, by omega⟩ (fun c_30 => ?_) (fun c_30 => ?_)
    · refine r_iconst E 0 rfl dX7_read_37 ?_
      refine r_put E (ty := .int) 6 0 7 tyX7 tyX7_ok nmX7 dX7_read_38 in_X7_read_X7 lk_X7_read_157 rfl rfl (by decide) rfl (by decide +kernel) rfl rfl (Nat.le_of_ble_eq_true rfl) [(m0, .inr (6, [.ref ms, .ref mh, .int (iJ (kp)), .ref mn, .int (iJ (sv)), .ref mp, .int (iJ (pn)), .int (iJ (0)), .ref ml, .ref mm, .ref md, .ref mw, .ref mt, .int (iJ (tn)), .ref mb, .ref mi, .ref mg])), (mp, cJ cI 60 (p)), (mt, cJ cI 33 (Tn)), (mb, cJ cI 30 (Bn)), (mi, cJ cI 30 (Xn)), (ms, cJ cI 34 (s)), (mh, cJ cI 136 (h))] rfl ?_
      refine r_aload_n E 1 dX7_read_41 rfl rfl ?_
      refine r_get E 6 0 7 dX7_read_42 in_X7_read_X7 lk_X7_read_157 rfl rfl (by decide) rfl ?_
      refine r_if_le E 60 dX7_read_45 (by decide) ⟨by omega, by omega⟩ (fun c_45 => ?_) (fun c_45 => absurd c_45 (by omega))
      refine r_aload_n E 1 dX7_read_60 rfl rfl ?_
      refine r_vV E (st := []) (c_X7_record l D m0 ms mh mn mp ml mm md mw mt mb mi mg cI kp sv pn 0 tn s h (by first | assumption | omega | exact ⟨by omega, by omega⟩)) gX7_read_X7_record 0 kf_X7_record ⟨rfl, rfl⟩ ⟨by decide, by decide⟩ dX7_read_61 rfl 0 rfl rfl rfl rfl ⟨Nat.zero_le _, Nat.zero_le _⟩ [0, 5, 6] rfl (by decide) [0] rfl (Nat.le_of_ble_eq_true rfl) [(mp, cJ cI 60 (p)), (mt, cJ cI 33 (Tn)), (mb, cJ cI 30 (Bn)), (mi, cJ cI 30 (Xn))] [1, 2, 3, 4] rfl (by decide) (by decide) hA [4, 0, 1, 2, 3, 5, 6] (by decide) (fun (_ : Unit) => [(m0, .inr (6, [.ref ms, .ref mh, .int (iJ (rcK kp)), .ref mn, .int (iJ (sv)), .ref mp, .int (iJ (pn)), .int (iJ (0)), .ref ml, .ref mm, .ref md, .ref mw, .ref mt, .int (iJ (tn)), .ref mb, .ref mi, .ref mg])), (mp, cJ cI 60 (p)), (mt, cJ cI 33 (Tn)), (mb, cJ cI 30 (Bn)), (mi, cJ cI 30 (Xn)), (ms, cJ cI 34 (s)), (mh, cJ cI 136 (rcH s h kp))]) (fun _ => rfl) ?_
      rintro ⟨⟩ hp_2
      refine r_aload_n E 1 dX7_read_64 rfl rfl ?_
      refine r_get E 6 0 0 dX7_read_65 in_X7_read_X7 lk_X7_read_7 rfl rfl (by decide) rfl ?_
      refine r_iconst E 0 rfl dX7_read_68 ?_
      refine r_aload_n E 1 dX7_read_69 rfl rfl ?_
      refine r_get E 6 0 13 dX7_read_70 in_X7_read_X7 lk_X7_read_136 rfl rfl (by decide) rfl ?_
      refine r_iast E (i := 0) 5 0 dX7_read_73 rfl rfl (by decide) ⟨by omega, by omega⟩ [(m0, .inr (6, [.ref ms, .ref mh, .int (iJ (rcK kp)), .ref mn, .int (iJ (sv)), .ref mp, .int (iJ (pn)), .int (iJ (0)), .ref ml, .ref mm, .ref md, .ref mw, .ref mt, .int (iJ (tn)), .ref mb, .ref mi, .ref mg])), (mp, cJ cI 60 (p)), (mt, cJ cI 33 (Tn)), (mb, cJ cI 30 (Bn)), (mi, cJ cI 30 (Xn)), (ms, cJ cI 34 (uJ s 0 tn)), (mh, cJ cI 136 (rcH s h kp))] rfl ?_
      refine r_iconst E 0 rfl dX7_read_74 ?_
      refine r_istore_n E [(2, .int (iJ (0))), (1, .int (iJ (0))), (0, .ref m0)] dX7_read_75 rfl (by decide) rfl ?_
      have loop_76 : ∀ (N : Nat) (k : Int) (G : Int → Int), (0 ≤ k ∧ k ≤ 32) → (∀ j : Int, G j = if j = 0 then tn else if 2 ≤ j ∧ j < 2 + k then (if j - 2 < tn then Tn (j - 2) else 0) else s j) → (32 - k).toNat < N → GG p_ l e_ rm_X7_read s_ m_ ar_ bw_ mt_ cd_ D vwCl B_ B_ s_.heap 3 0 0 Q_ [(m0, .inr (6, [.ref ms, .ref mh, .int (iJ (rcK kp)), .ref mn, .int (iJ (sv)), .ref mp, .int (iJ (pn)), .int (iJ (0)), .ref ml, .ref mm, .ref md, .ref mw, .ref mt, .int (iJ (tn)), .ref mb, .ref mi, .ref mg])), (mp, cJ cI 60 (p)), (mt, cJ cI 33 (Tn)), (mb, cJ cI 30 (Bn)), (mi, cJ cI 30 (Xn)), (ms, cJ cI 34 (G)), (mh, cJ cI 136 (rcH s h kp))] [(0, .ref m0), (1, .int (iJ (0))), (2, .int (iJ (k)))] 76 [] := by
        intro N; induction N with
        | zero => intro k G hk hG hN; exact absurd hN (Nat.not_lt_zero _)
        | succ N ih76 =>
          intro k G hk hG hN
          refine r_iload_n E 2 dX7_read_76 rfl rfl ?_
          refine r_bipush E 32 rfl dX7_read_77 ?_
          refine r_icmp_ge E 114 dX7_read_79 (by decide) ⟨by omega, by omega⟩ ⟨by omega, by omega⟩ (fun c_79 => ?_) (fun c_79 => ?_)
          · refine r_aload_n E 0 dX7_read_114 rfl rfl ?_
            refine r_iconst E 0 rfl dX7_read_115 ?_
            refine r_put E (ty := .int) 6 0 6 tyX7 tyX7_ok nmX7 dX7_read_116 in_X7_read_X7 lk_X7_read_133 rfl rfl (by decide) rfl (by decide +kernel) rfl rfl (Nat.le_of_ble_eq_true rfl) [(m0, .inr (6, [.ref ms, .ref mh, .int (iJ (rcK kp)), .ref mn, .int (iJ (sv)), .ref mp, .int (iJ (0)), .int (iJ (0)), .ref ml, .ref mm, .ref md, .ref mw, .ref mt, .int (iJ (tn)), .ref mb, .ref mi, .ref mg])), (mp, cJ cI 60 (p)), (mt, cJ cI 33 (Tn)), (mb, cJ cI 30 (Bn)), (mi, cJ cI 30 (Xn)), (ms, cJ cI 34 (G)), (mh, cJ cI 136 (rcH s h kp))] rfl ?_
            refine r_aload_n E 0 dX7_read_119 rfl rfl ?_
            refine r_get E 6 0 13 dX7_read_120 in_X7_read_X7 lk_X7_read_136 rfl rfl (by decide) rfl ?_
            exact r_retM E (Rn, Tn, tn, Bn, Xn) hr dX7_read_123 (by
                  show _ = (if Rn = -4 then (if 32 < tn then -3 else tn) else -2)
                  first
                  | (rw [if_neg (show ¬ Rn = -4 by omega)]; done)
                  | (rw [if_pos (show Rn = -4 by omega), if_pos (show 32 < tn by omega)]; done)
                  | (rw [if_pos (show Rn = -4 by omega), if_neg (show ¬ 32 < tn by omega)]; done)) ⟨hRn, hbn⟩ (by
                  dsimp only
                  first
                  | (rw [if_neg (show ¬ Rn = -4 by omega)]; repeat' rw [if_neg (show ¬ (Rn = -4 ∧ tn ≤ 32) by omega)])
                  | (rw [if_pos (show Rn = -4 by omega), if_pos (show 32 < tn by omega)]; repeat' rw [if_neg (show ¬ (Rn = -4 ∧ tn ≤ 32) by omega)])
                  | (have ek : k = 32 := by omega
                     have e : G = (fun j => if j = 0 then tn else if 2 ≤ j ∧ j < 34 then (if j - 2 < tn then Tn (j - 2) else 0) else s j) := by
                       funext j; rw [hG, ek]; rfl
                     rw [if_pos (show Rn = -4 by omega), if_neg (show ¬ 32 < tn by omega), e]; repeat' rw [if_pos (show (Rn = -4 ∧ tn ≤ 32) by omega)])) hQ
          · refine r_aload_n E 0 dX7_read_82 rfl rfl ?_
            refine r_get E 6 0 0 dX7_read_83 in_X7_read_X7 lk_X7_read_7 rfl rfl (by decide) rfl ?_
            refine r_iconst E 2 rfl dX7_read_86 ?_
            refine r_iload_n E 2 dX7_read_87 rfl rfl ?_
            refine r_iadd E dX7_read_88 ?_
            refine r_iload_n E 2 dX7_read_89 rfl rfl ?_
            refine r_aload_n E 0 dX7_read_90 rfl rfl ?_
            refine r_get E 6 0 13 dX7_read_91 in_X7_read_X7 lk_X7_read_136 rfl rfl (by decide) rfl ?_
            refine r_icmp_ge E 106 dX7_read_94 (by decide) ⟨by omega, by omega⟩ ⟨by omega, by omega⟩ (fun c_94 => ?_) (fun c_94 => ?_)
            · refine r_iconst E 0 rfl dX7_read_106 ?_
              refine r_iast E (i := (2 + k)) 5 0 dX7_read_107 rfl rfl (by decide) ⟨by omega, by omega⟩ [(m0, .inr (6, [.ref ms, .ref mh, .int (iJ (rcK kp)), .ref mn, .int (iJ (sv)), .ref mp, .int (iJ (pn)), .int (iJ (0)), .ref ml, .ref mm, .ref md, .ref mw, .ref mt, .int (iJ (tn)), .ref mb, .ref mi, .ref mg])), (mp, cJ cI 60 (p)), (mt, cJ cI 33 (Tn)), (mb, cJ cI 30 (Bn)), (mi, cJ cI 30 (Xn)), (ms, cJ cI 34 (uJ G (2 + k) 0)), (mh, cJ cI 136 (rcH s h kp))] rfl ?_
              refine r_iinc E (k := 2) [(2, .int (iJ ((k + 1)))), (0, .ref m0), (1, .int (iJ (0)))] dX7_read_108 rfl (by decide) rfl ?_
              refine r_goto E 76 dX7_read_111 (by decide) ?_
              refine r_lv [1, 2, 0] [(0, .ref m0), (1, .int (iJ (0))), (2, .int (iJ ((k + 1))))] rfl ?_
              exact ih76 (k + 1) (uJ G (2 + k) 0) ⟨by omega, by omega⟩ (fun j => by
                    by_cases q0 : j = 2 + k
                    · subst q0; rw [uJ_s, if_neg (by omega), if_pos (by omega), show 2 + k - 2 = k by omega]
                      first | (rw [if_pos (by omega)]; done) | (rw [if_neg (by omega)]; done)
                    · rw [uJ_n q0, hG]; by_cases z : j = 0
                      · rw [if_pos z, if_pos z]
                      · rw [if_neg z, if_neg z]; by_cases y : 2 ≤ j ∧ j < 2 + k
                        · rw [if_pos y, if_pos (show 2 ≤ j ∧ j < 2 + (k + 1) by omega)]
                        · rw [if_neg y, if_neg (show ¬ (2 ≤ j ∧ j < 2 + (k + 1)) by omega)]) (by omega)
            · refine r_aload_n E 0 dX7_read_97 rfl rfl ?_
              refine r_get E 6 0 12 dX7_read_98 in_X7_read_X7 lk_X7_read_35 rfl rfl (by decide) rfl ?_
              refine r_iload_n E 2 dX7_read_101 rfl rfl ?_
              refine r_iald E (i := k) 2 0 dX7_read_102 rfl rfl (by decide) ⟨by omega, by omega⟩ ?_
              refine r_goto E 107 dX7_read_103 (by decide) ?_
              refine r_iast E (i := (2 + k)) 5 0 dX7_read_107 rfl rfl (by decide) ⟨by omega, by omega⟩ [(m0, .inr (6, [.ref ms, .ref mh, .int (iJ (rcK kp)), .ref mn, .int (iJ (sv)), .ref mp, .int (iJ (pn)), .int (iJ (0)), .ref ml, .ref mm, .ref md, .ref mw, .ref mt, .int (iJ (tn)), .ref mb, .ref mi, .ref mg])), (mp, cJ cI 60 (p)), (mt, cJ cI 33 (Tn)), (mb, cJ cI 30 (Bn)), (mi, cJ cI 30 (Xn)), (ms, cJ cI 34 (uJ G (2 + k) (Tn k))), (mh, cJ cI 136 (rcH s h kp))] rfl ?_
              refine r_iinc E (k := 2) [(2, .int (iJ ((k + 1)))), (0, .ref m0), (1, .int (iJ (0)))] dX7_read_108 rfl (by decide) rfl ?_
              refine r_goto E 76 dX7_read_111 (by decide) ?_
              refine r_lv [1, 2, 0] [(0, .ref m0), (1, .int (iJ (0))), (2, .int (iJ ((k + 1))))] rfl ?_
              exact ih76 (k + 1) (uJ G (2 + k) (Tn k)) ⟨by omega, by omega⟩ (fun j => by
                    by_cases q0 : j = 2 + k
                    · subst q0; rw [uJ_s, if_neg (by omega), if_pos (by omega), show 2 + k - 2 = k by omega]
                      first | (rw [if_pos (by omega)]; done) | (rw [if_neg (by omega)]; done)
                    · rw [uJ_n q0, hG]; by_cases z : j = 0
                      · rw [if_pos z, if_pos z]
                      · rw [if_neg z, if_neg z]; by_cases y : 2 ≤ j ∧ j < 2 + k
                        · rw [if_pos y, if_pos (show 2 ≤ j ∧ j < 2 + (k + 1) by omega)]
                        · rw [if_neg y, if_neg (show ¬ (2 ≤ j ∧ j < 2 + (k + 1)) by omega)]) (by omega)
      refine r_lv [2, 1, 0] [(0, .ref m0), (1, .int (iJ (0))), (2, .int (iJ (0)))] rfl ?_
      exact loop_76 _ 0 (uJ s 0 tn) ⟨by omega, by omega⟩ (fun j => by
            by_cases z : j = 0
            · subst z; rw [uJ_s, if_pos rfl]
            · rw [uJ_n z, if_neg z, if_neg (by omega)]) (Nat.lt_succ_self _)
    · refine r_iconst E 2 rfl dX7_read_33 ?_
      refine r_goto E 38 dX7_read_34 (by decide) ?_
      refine r_put E (ty := .int) 6 0 7 tyX7 tyX7_ok nmX7 dX7_read_38 in_X7_read_X7 lk_X7_read_157 rfl rfl (by decide) rfl (by decide +kernel) rfl rfl (Nat.le_of_ble_eq_true rfl) [(m0, .inr (6, [.ref ms, .ref mh, .int (iJ (kp)), .ref mn, .int (iJ (sv)), .ref mp, .int (iJ (pn)), .int (iJ (2)), .ref ml, .ref mm, .ref md, .ref mw, .ref mt, .int (iJ (tn)), .ref mb, .ref mi, .ref mg])), (mp, cJ cI 60 (p)), (mt, cJ cI 33 (Tn)), (mb, cJ cI 30 (Bn)), (mi, cJ cI 30 (Xn)), (ms, cJ cI 34 (s)), (mh, cJ cI 136 (h))] rfl ?_
      refine r_aload_n E 1 dX7_read_41 rfl rfl ?_
      refine r_get E 6 0 7 dX7_read_42 in_X7_read_X7 lk_X7_read_157 rfl rfl (by decide) rfl ?_
      refine r_if_le E 60 dX7_read_45 (by decide) ⟨by omega, by omega⟩ (fun c_45 => absurd c_45 (by omega)) (fun c_45 => ?_)
      refine r_iload_n E 0 dX7_read_48 rfl rfl ?_
      refine r_if_eq E 57 dX7_read_49 (by decide) ⟨by omega, by omega⟩ (fun c_49 => ?_) (fun c_49 => absurd c_49 (by omega))
      refine r_bipush E (-3) rfl dX7_read_57 ?_
      exact r_retM E (Rn, Tn, tn, Bn, Xn) hr dX7_read_59 (by
            show _ = (if Rn = -4 then (if 32 < tn then -3 else tn) else -2)
            first
            | (rw [if_neg (show ¬ Rn = -4 by omega)]; done)
            | (rw [if_pos (show Rn = -4 by omega), if_pos (show 32 < tn by omega)]; done)
            | (rw [if_pos (show Rn = -4 by omega), if_neg (show ¬ 32 < tn by omega)]; done)) ⟨hRn, hbn⟩ (by
            dsimp only
            first
            | (rw [if_neg (show ¬ Rn = -4 by omega)]; repeat' rw [if_neg (show ¬ (Rn = -4 ∧ tn ≤ 32) by omega)])
            | (rw [if_pos (show Rn = -4 by omega), if_pos (show 32 < tn by omega)]; repeat' rw [if_neg (show ¬ (Rn = -4 ∧ tn ≤ 32) by omega)])
            | (have ek : k = 32 := by omega
               have e : G = (fun j => if j = 0 then tn else if 2 ≤ j ∧ j < 34 then (if j - 2 < tn then Tn (j - 2) else 0) else s j) := by
                 funext j; rw [hG, ek]; rfl
               rw [if_pos (show Rn = -4 by omega), if_neg (show ¬ 32 < tn by omega), e]; repeat' rw [if_pos (show (Rn = -4 ∧ tn ≤ 32) by omega)])) hQ
  · refine r_iconst E 1 rfl dX7_read_9 ?_
    refine r_goto E 14 dX7_read_10 (by decide) ?_
    refine r_istore_n E [(1, .int (iJ (1))), (0, .ref m0)] dX7_read_14 rfl (by decide) rfl ?_
    refine r_aload_n E 1 dX7_read_15 rfl rfl ?_
    refine r_iload_n E 0 dX7_read_16 rfl rfl ?_
    refine r_if_eq E 24 dX7_read_17 (by decide) ⟨by omega, by omega⟩ (fun c_17 => absurd c_17 (by omega)) (fun c_17 => ?_)
    refine r_iconst E 1 rfl dX7_read_20 ?_
    refine r_goto E 38 dX7_read_21 (by decide) ?_
    refine r_put E (ty := .int) 6 0 7 tyX7 tyX7_ok nmX7 dX7_read_38 in_X7_read_X7 lk_X7_read_157 rfl rfl (by decide) rfl (by decide +kernel) rfl rfl (Nat.le_of_ble_eq_true rfl) [(m0, .inr (6, [.ref ms, .ref mh, .int (iJ (kp)), .ref mn, .int (iJ (sv)), .ref mp, .int (iJ (pn)), .int (iJ (1)), .ref ml, .ref mm, .ref md, .ref mw, .ref mt, .int (iJ (tn)), .ref mb, .ref mi, .ref mg])), (mp, cJ cI 60 (p)), (mt, cJ cI 33 (Tn)), (mb, cJ cI 30 (Bn)), (mi, cJ cI 30 (Xn)), (ms, cJ cI 34 (s)), (mh, cJ cI 136 (h))] rfl ?_
    refine r_aload_n E 1 dX7_read_41 rfl rfl ?_
    refine r_get E 6 0 7 dX7_read_42 in_X7_read_X7 lk_X7_read_157 rfl rfl (by decide) rfl ?_
    refine r_if_le E 60 dX7_read_45 (by decide) ⟨by omega, by omega⟩ (fun c_45 => absurd c_45 (by omega)) (fun c_45 => ?_)
    refine r_iload_n E 0 dX7_read_48 rfl rfl ?_
    refine r_if_eq E 57 dX7_read_49 (by decide) ⟨by omega, by omega⟩ (fun c_49 => absurd c_49 (by omega)) (fun c_49 => ?_)
    refine r_bipush E (-2) rfl dX7_read_52 ?_
    refine r_goto E 59 dX7_read_54 (by decide) ?_
    exact r_retM E (Rn, Tn, tn, Bn, Xn) hr dX7_read_59 (by
          show _ = (if Rn = -4 then (if 32 < tn then -3 else tn) else -2)
          first
          | (rw [if_neg (show ¬ Rn = -4 by omega)]; done)
          | (rw [if_pos (show Rn = -4 by omega), if_pos (show 32 < tn by omega)]; done)
          | (rw [if_pos (show Rn = -4 by omega), if_neg (show ¬ 32 < tn by omega)]; done)) ⟨hRn, hbn⟩ (by
          dsimp only
          first
          | (rw [if_neg (show ¬ Rn = -4 by omega)]; repeat' rw [if_neg (show ¬ (Rn = -4 ∧ tn ≤ 32) by omega)])
          | (rw [if_pos (show Rn = -4 by omega), if_pos (show 32 < tn by omega)]; repeat' rw [if_neg (show ¬ (Rn = -4 ∧ tn ≤ 32) by omega)])
          | (have ek : k = 32 := by omega
             have e : G = (fun j => if j = 0 then tn else if 2 ≤ j ∧ j < 34 then (if j - 2 < tn then Tn (j - 2) else 0) else s j) := by
               funext j; rw [hG, ek]; rfl
             rw [if_pos (show Rn = -4 by omega), if_neg (show ¬ 32 < tn by omega), e]; repeat' rw [if_pos (show (Rn = -4 ∧ tn ≤ 32) by omega)])) hQ
