theorem kf_X7_record : KF yX7_record 0 wsX7_record cX7_record 2 none := ⟨rfl, by decide +kernel, by decide +kernel, by decide +kernel⟩
def rm_X7_record : Room := { frames := 0, cells := 0, slots := 0, locals := 0 }
set_option maxRecDepth 20000 in
theorem in_X7_record_X7 : ∀ w ∈ u_ws RX7 TX7 17, w ∈ wsX7_record := by decide +kernel
set_option maxRecDepth 20000 in
theorem lk_X7_record_59 : Cond.fieldLink RX7 59 (TX7 2).1 (TX7 2).2.1 (TX7 2).2.2.1 ∈ wsX7_record := by decide +kernel
set_option maxRecDepth 20000 in
theorem lk_X7_record_13 : Cond.fieldLink RX7 13 (TX7 1).1 (TX7 1).2.1 (TX7 1).2.2.1 ∈ wsX7_record := by decide +kernel
set_option maxRecDepth 20000 in
theorem lk_X7_record_7 : Cond.fieldLink RX7 7 (TX7 0).1 (TX7 0).2.1 (TX7 0).2.2.1 ∈ wsX7_record := by decide +kernel
set_option maxHeartbeats 1000000 in
set_option maxRecDepth 100000 in
theorem c_X7_recLt (l : Launch) (D : va_G) (m0 : Nat) (ms : Nat) (mh : Nat) (mn : Nat) (mp : Nat) (ml : Nat) (mm : Nat) (md : Nat) (mw : Nat) (mt : Nat) (mb : Nat) (mi : Nat) (mg : Nat) (cI : ClassId) (kp : Int) (sv : Int) (pn : Int) (rf : Int) (tl : Int) (s : Int → Int) (h : Int → Int) (hk4 : 0 ≤ kp ∧ kp < 4) : MV (S := Unit) l yX7_record wsX7_record rm_X7_record D vwCl [.ref m0] [(m0, .inr (6, [.ref ms, .ref mh, .int (iJ (kp)), .ref mn, .int (iJ (sv)), .ref mp, .int (iJ (pn)), .int (iJ (rf)), .ref ml, .ref mm, .ref md, .ref mw, .ref mt, .int (iJ (tl)), .ref mb, .ref mi, .ref mg])), (ms, cJ cI 34 (s)), (mh, cJ cI 136 (h))] [(cI, .int)] (fun (_ : Unit) => True) (fun (_ : Unit) => [(m0, .inr (6, [.ref ms, .ref mh, .int (iJ ((kp + 1))), .ref mn, .int (iJ (sv)), .ref mp, .int (iJ (pn)), .int (iJ (rf)), .ref ml, .ref mm, .ref md, .ref mw, .ref mt, .int (iJ (tl)), .ref mb, .ref mi, .ref mg])), (ms, cJ cI 34 (s)), (mh, cJ cI 136 (rcH s h kp))]) := by
  refine MV.mk (cc := cX7_record) (maxL := 2) (ret := none) (by decide) rfl (Nat.le_of_ble_eq_true rfl) rfl RX7 rfl ?_
  intro p_ e_ s_ m_ ar_ bw_ mt_ cd_ B_ Q_ hA E hr hQ
  refine r_aload_n E 0 dX7_record_0 rfl rfl ?_
  refine r_get E 6 0 2 dX7_record_1 in_X7_record_X7 lk_X7_record_59 rfl rfl (by decide) rfl ?_
  refine r_iconst E 4 rfl dX7_record_4 ?_
  refine r_icmp_ne E 47 dX7_record_5 (by decide) ⟨by omega, by omega⟩ ⟨by omega, by omega⟩ (fun c_5 => ?_) (fun c_5 => absurd c_5 (by omega))
  refine r_iconst E 0 rfl dX7_record_47 ?_
  refine r_istore_n E [(1, .int (iJ (0))), (0, .ref m0)] dX7_record_48 rfl (by decide) rfl ?_
  have loop_49 : ∀ (N : Nat) (k : Int) (G : Int → Int), (0 ≤ k ∧ k ≤ 34) → (∀ j : Int, G j = if 34 * kp ≤ j ∧ j < 34 * kp + k then s (j - 34 * kp) else h j) → (34 - k).toNat < N → GG p_ l e_ rm_X7_record s_ m_ ar_ bw_ mt_ cd_ D vwCl B_ B_ s_.heap 2 0 0 Q_ [(m0, .inr (6, [.ref ms, .ref mh, .int (iJ (kp)), .ref mn, .int (iJ (sv)), .ref mp, .int (iJ (pn)), .int (iJ (rf)), .ref ml, .ref mm, .ref md, .ref mw, .ref mt, .int (iJ (tl)), .ref mb, .ref mi, .ref mg])), (ms, cJ cI 34 (s)), (mh, cJ cI 136 (G))] [(0, .ref m0), (1, .int (iJ (k)))] 49 [] := by
    intro N; induction N with
    | zero => intro k G hk hG hN; exact absurd hN (Nat.not_lt_zero _)
    | succ N ih49 =>
      intro k G hk hG hN
      refine r_iload_n E 1 dX7_record_49 rfl rfl ?_
      refine r_bipush E 34 rfl dX7_record_50 ?_
      refine r_icmp_ge E 81 dX7_record_52 (by decide) ⟨by omega, by omega⟩ ⟨by omega, by omega⟩ (fun c_52 => ?_) (fun c_52 => ?_)
      · refine r_aload_n E 0 dX7_record_81 rfl rfl ?_
        refine r_dup E dX7_record_82 rfl ?_
        refine r_get E 6 0 2 dX7_record_83 in_X7_record_X7 lk_X7_record_59 rfl rfl (by decide) rfl ?_
        refine r_iconst E 1 rfl dX7_record_86 ?_
        refine r_iadd E dX7_record_87 ?_
        refine r_put E (ty := .int) 6 0 2 tyX7 tyX7_ok nmX7 dX7_record_88 in_X7_record_X7 lk_X7_record_59 rfl rfl (by decide) rfl (by decide +kernel) rfl rfl (Nat.le_of_ble_eq_true rfl) [(m0, .inr (6, [.ref ms, .ref mh, .int (iJ ((kp + 1))), .ref mn, .int (iJ (sv)), .ref mp, .int (iJ (pn)), .int (iJ (rf)), .ref ml, .ref mm, .ref md, .ref mw, .ref mt, .int (iJ (tl)), .ref mb, .ref mi, .ref mg])), (ms, cJ cI 34 (s)), (mh, cJ cI 136 (G))] rfl ?_
        exact r_retMV E () hr dX7_record_91 trivial (by
              have ek : k = 34 := by omega
              have e : G = rcH s h kp := by funext j; unfold rcH; rw [hG, if_pos (show kp < 4 by omega), ek]
              rw [e]) hQ
      · refine r_aload_n E 0 dX7_record_55 rfl rfl ?_
        refine r_get E 6 0 1 dX7_record_56 in_X7_record_X7 lk_X7_record_13 rfl rfl (by decide) rfl ?_
        refine r_bipush E 34 rfl dX7_record_59 ?_
        refine r_aload_n E 0 dX7_record_61 rfl rfl ?_
        refine r_get E 6 0 2 dX7_record_62 in_X7_record_X7 lk_X7_record_59 rfl rfl (by decide) rfl ?_
        refine r_imul E dX7_record_65 ?_
        refine r_iload_n E 1 dX7_record_66 rfl rfl ?_
        refine r_iadd E dX7_record_67 ?_
        refine r_aload_n E 0 dX7_record_68 rfl rfl ?_
        refine r_get E 6 0 0 dX7_record_69 in_X7_record_X7 lk_X7_record_7 rfl rfl (by decide) rfl ?_
        refine r_iload_n E 1 dX7_record_72 rfl rfl ?_
        refine r_iald E (i := k) 1 0 dX7_record_73 rfl rfl (by decide) ⟨by omega, by omega⟩ ?_
        refine r_iast E (i := ((34 * kp) + k)) 2 0 dX7_record_74 rfl rfl (by decide) ⟨by omega, by omega⟩ [(m0, .inr (6, [.ref ms, .ref mh, .int (iJ (kp)), .ref mn, .int (iJ (sv)), .ref mp, .int (iJ (pn)), .int (iJ (rf)), .ref ml, .ref mm, .ref md, .ref mw, .ref mt, .int (iJ (tl)), .ref mb, .ref mi, .ref mg])), (ms, cJ cI 34 (s)), (mh, cJ cI 136 (uJ G ((34 * kp) + k) (s k)))] rfl ?_
        refine r_iinc E (k := 1) [(1, .int (iJ ((k + 1)))), (0, .ref m0)] dX7_record_75 rfl (by decide) rfl ?_
        refine r_goto E 49 dX7_record_78 (by decide) ?_
        refine r_lv [1, 0] [(0, .ref m0), (1, .int (iJ ((k + 1))))] rfl ?_
        exact ih49 (k + 1) (uJ G ((34 * kp) + k) (s k)) ⟨by omega, by omega⟩ (fun j => by
              by_cases q0 : j = 34 * kp + k
              · subst q0; rw [uJ_s, if_pos (by omega), show 34 * kp + k - 34 * kp = k by omega]
              · rw [uJ_n q0, hG]; by_cases q2 : 34 * kp ≤ j ∧ j < 34 * kp + k
                · rw [if_pos q2, if_pos (by omega)]
                · rw [if_neg q2, if_neg (by omega)]) (by omega)
  refine r_lv [1, 0] [(0, .ref m0), (1, .int (iJ (0)))] rfl ?_
  exact loop_49 _ 0 h ⟨by omega, by omega⟩ (fun j => by rw [if_neg (by omega)]) (Nat.lt_succ_self _)
set_option maxHeartbeats 1000000 in
set_option maxRecDepth 100000 in
theorem c_X7_rec4 (l : Launch) (D : va_G) (m0 : Nat) (ms : Nat) (mh : Nat) (mn : Nat) (mp : Nat) (ml : Nat) (mm : Nat) (md : Nat) (mw : Nat) (mt : Nat) (mb : Nat) (mi : Nat) (mg : Nat) (cI : ClassId) (kp : Int) (sv : Int) (pn : Int) (rf : Int) (tl : Int) (s : Int → Int) (h : Int → Int) (hk4 : kp = 4) : MV (S := Unit) l yX7_record wsX7_record rm_X7_record D vwCl [.ref m0] [(m0, .inr (6, [.ref ms, .ref mh, .int (iJ (kp)), .ref mn, .int (iJ (sv)), .ref mp, .int (iJ (pn)), .int (iJ (rf)), .ref ml, .ref mm, .ref md, .ref mw, .ref mt, .int (iJ (tl)), .ref mb, .ref mi, .ref mg])), (ms, cJ cI 34 (s)), (mh, cJ cI 136 (h))] [(cI, .int)] (fun (_ : Unit) => True) (fun (_ : Unit) => [(m0, .inr (6, [.ref ms, .ref mh, .int (iJ (4)), .ref mn, .int (iJ (sv)), .ref mp, .int (iJ (pn)), .int (iJ (rf)), .ref ml, .ref mm, .ref md, .ref mw, .ref mt, .int (iJ (tl)), .ref mb, .ref mi, .ref mg])), (ms, cJ cI 34 (s)), (mh, cJ cI 136 (rcH s h 4))]) := by
  refine MV.mk (cc := cX7_record) (maxL := 2) (ret := none) (by decide) rfl (Nat.le_of_ble_eq_true rfl) rfl RX7 rfl ?_
  intro p_ e_ s_ m_ ar_ bw_ mt_ cd_ B_ Q_ hA E hr hQ
  refine r_cv (ws2 := [(m0, .inr (6, [.ref ms, .ref mh, .int (iJ (4)), .ref mn, .int (iJ (sv)), .ref mp, .int (iJ (pn)), .int (iJ (rf)), .ref ml, .ref mm, .ref md, .ref mw, .ref mt, .int (iJ (tl)), .ref mb, .ref mi, .ref mg])), (ms, cJ cI 34 (s)), (mh, cJ cI 136 (h))]) (by rw [hk4]) rfl rfl ?_
  refine r_aload_n E 0 dX7_record_0 rfl rfl ?_
  refine r_get E 6 0 2 dX7_record_1 in_X7_record_X7 lk_X7_record_59 rfl rfl (by decide) rfl ?_
  refine r_iconst E 4 rfl dX7_record_4 ?_
  refine r_icmp_ne E 47 dX7_record_5 (by decide) ⟨by omega, by omega⟩ ⟨by omega, by omega⟩ (fun c_5 => absurd c_5 (by omega)) (fun c_5 => ?_)
  refine r_iconst E 0 rfl dX7_record_8 ?_
  refine r_istore_n E [(1, .int (iJ (0))), (0, .ref m0)] dX7_record_9 rfl (by decide) rfl ?_
  have loop_10 : ∀ (N : Nat) (k : Int) (G : Int → Int), (0 ≤ k ∧ k ≤ 102) → (∀ j : Int, G j = if 0 ≤ j ∧ j < k then h (j + 34) else h j) → (102 - k).toNat < N → GG p_ l e_ rm_X7_record s_ m_ ar_ bw_ mt_ cd_ D vwCl B_ B_ s_.heap 2 0 0 Q_ [(m0, .inr (6, [.ref ms, .ref mh, .int (iJ (4)), .ref mn, .int (iJ (sv)), .ref mp, .int (iJ (pn)), .int (iJ (rf)), .ref ml, .ref mm, .ref md, .ref mw, .ref mt, .int (iJ (tl)), .ref mb, .ref mi, .ref mg])), (ms, cJ cI 34 (s)), (mh, cJ cI 136 (G))] [(0, .ref m0), (1, .int (iJ (k)))] 10 [] := by
    intro N; induction N with
    | zero => intro k G hk hG hN; exact absurd hN (Nat.not_lt_zero _)
    | succ N ih10 =>
      intro k G hk hG hN
      refine r_iload_n E 1 dX7_record_10 rfl rfl ?_
      refine r_bipush E 102 rfl dX7_record_11 ?_
      refine r_icmp_ge E 37 dX7_record_13 (by decide) ⟨by omega, by omega⟩ ⟨by omega, by omega⟩ (fun c_13 => ?_) (fun c_13 => ?_)
      · refine r_aload_n E 0 dX7_record_37 rfl rfl ?_
        refine r_dup E dX7_record_38 rfl ?_
        refine r_get E 6 0 2 dX7_record_39 in_X7_record_X7 lk_X7_record_59 rfl rfl (by decide) rfl ?_
        refine r_iconst E 1 rfl dX7_record_42 ?_
        refine r_isub E dX7_record_43 ?_
        refine r_top 3 rfl ?_
        refine r_put E (ty := .int) 6 0 2 tyX7 tyX7_ok nmX7 dX7_record_44 in_X7_record_X7 lk_X7_record_59 rfl rfl (by decide) rfl (by decide +kernel) rfl rfl (Nat.le_of_ble_eq_true rfl) [(m0, .inr (6, [.ref ms, .ref mh, .int (iJ (3)), .ref mn, .int (iJ (sv)), .ref mp, .int (iJ (pn)), .int (iJ (rf)), .ref ml, .ref mm, .ref md, .ref mw, .ref mt, .int (iJ (tl)), .ref mb, .ref mi, .ref mg])), (ms, cJ cI 34 (s)), (mh, cJ cI 136 (G))] rfl ?_
        refine r_iconst E 0 rfl dX7_record_47 ?_
        refine r_istore_n E [(1, .int (iJ (0))), (0, .ref m0)] dX7_record_48 rfl (by decide) rfl ?_
        have loop_49 : ∀ (N : Nat) (k2 : Int) (G2 : Int → Int), (0 ≤ k2 ∧ k2 ≤ 34) → (∀ j : Int, G2 j = if 102 ≤ j ∧ j < 102 + k2 then s (j - 102) else G j) → (34 - k2).toNat < N → GG p_ l e_ rm_X7_record s_ m_ ar_ bw_ mt_ cd_ D vwCl B_ B_ s_.heap 2 0 0 Q_ [(m0, .inr (6, [.ref ms, .ref mh, .int (iJ (3)), .ref mn, .int (iJ (sv)), .ref mp, .int (iJ (pn)), .int (iJ (rf)), .ref ml, .ref mm, .ref md, .ref mw, .ref mt, .int (iJ (tl)), .ref mb, .ref mi, .ref mg])), (ms, cJ cI 34 (s)), (mh, cJ cI 136 (G2))] [(0, .ref m0), (1, .int (iJ (k2)))] 49 [] := by
          intro N; induction N with
          | zero => intro k2 G2 hk2 hG2 hN; exact absurd hN (Nat.not_lt_zero _)
          | succ N ih49 =>
            intro k2 G2 hk2 hG2 hN
            refine r_iload_n E 1 dX7_record_49 rfl rfl ?_
            refine r_bipush E 34 rfl dX7_record_50 ?_
            refine r_icmp_ge E 81 dX7_record_52 (by decide) ⟨by omega, by omega⟩ ⟨by omega, by omega⟩ (fun c_52 => ?_) (fun c_52 => ?_)
            · refine r_aload_n E 0 dX7_record_81 rfl rfl ?_
              refine r_dup E dX7_record_82 rfl ?_
              refine r_get E 6 0 2 dX7_record_83 in_X7_record_X7 lk_X7_record_59 rfl rfl (by decide) rfl ?_
              refine r_iconst E 1 rfl dX7_record_86 ?_
              refine r_iadd E dX7_record_87 ?_
              refine r_top 4 rfl ?_
              refine r_put E (ty := .int) 6 0 2 tyX7 tyX7_ok nmX7 dX7_record_88 in_X7_record_X7 lk_X7_record_59 rfl rfl (by decide) rfl (by decide +kernel) rfl rfl (Nat.le_of_ble_eq_true rfl) [(m0, .inr (6, [.ref ms, .ref mh, .int (iJ (4)), .ref mn, .int (iJ (sv)), .ref mp, .int (iJ (pn)), .int (iJ (rf)), .ref ml, .ref mm, .ref md, .ref mw, .ref mt, .int (iJ (tl)), .ref mb, .ref mi, .ref mg])), (ms, cJ cI 34 (s)), (mh, cJ cI 136 (G2))] rfl ?_
              exact r_retMV E () hr dX7_record_91 trivial (by
                    have ek : k = 102 := by omega
                    have ek2 : k2 = 34 := by omega
                    have e : G2 = rcH s h 4 := by
                      funext j; unfold rcH; rw [hG2, hG, if_neg (show ¬ (4 : Int) < 4 by omega), ek, ek2]
                      by_cases z : 102 ≤ j ∧ j < 136
                      · rw [if_pos (by omega), if_neg (by omega), if_pos z]
                      · rw [if_neg (by omega)]; by_cases y : 0 ≤ j ∧ j < 102
                        · rw [if_pos y, if_pos y]
                        · rw [if_neg y, if_neg y, if_neg z]
                    rw [e]) hQ
            · refine r_aload_n E 0 dX7_record_55 rfl rfl ?_
              refine r_get E 6 0 1 dX7_record_56 in_X7_record_X7 lk_X7_record_13 rfl rfl (by decide) rfl ?_
              refine r_bipush E 34 rfl dX7_record_59 ?_
              refine r_aload_n E 0 dX7_record_61 rfl rfl ?_
              refine r_get E 6 0 2 dX7_record_62 in_X7_record_X7 lk_X7_record_59 rfl rfl (by decide) rfl ?_
              refine r_imul E dX7_record_65 ?_
              refine r_top 102 rfl ?_
              refine r_iload_n E 1 dX7_record_66 rfl rfl ?_
              refine r_iadd E dX7_record_67 ?_
              refine r_aload_n E 0 dX7_record_68 rfl rfl ?_
              refine r_get E 6 0 0 dX7_record_69 in_X7_record_X7 lk_X7_record_7 rfl rfl (by decide) rfl ?_
              refine r_iload_n E 1 dX7_record_72 rfl rfl ?_
              refine r_iald E (i := k2) 1 0 dX7_record_73 rfl rfl (by decide) ⟨by omega, by omega⟩ ?_
              refine r_iast E (i := (102 + k2)) 2 0 dX7_record_74 rfl rfl (by decide) ⟨by omega, by omega⟩ [(m0, .inr (6, [.ref ms, .ref mh, .int (iJ (3)), .ref mn, .int (iJ (sv)), .ref mp, .int (iJ (pn)), .int (iJ (rf)), .ref ml, .ref mm, .ref md, .ref mw, .ref mt, .int (iJ (tl)), .ref mb, .ref mi, .ref mg])), (ms, cJ cI 34 (s)), (mh, cJ cI 136 (uJ G2 (102 + k2) (s k2)))] rfl ?_
              refine r_iinc E (k := 1) [(1, .int (iJ ((k2 + 1)))), (0, .ref m0)] dX7_record_75 rfl (by decide) rfl ?_
              refine r_goto E 49 dX7_record_78 (by decide) ?_
              refine r_lv [1, 0] [(0, .ref m0), (1, .int (iJ ((k2 + 1))))] rfl ?_
              exact ih49 (k2 + 1) (uJ G2 (102 + k2) (s k2)) ⟨by omega, by omega⟩ (fun j => by
                    by_cases q0 : j = 102 + k2
                    · subst q0; rw [uJ_s, if_pos (by omega), show 102 + k2 - 102 = k2 by omega]
                    · rw [uJ_n q0, hG2]; by_cases q2 : 102 ≤ j ∧ j < 102 + k2
                      · rw [if_pos q2, if_pos (by omega)]
                      · rw [if_neg q2, if_neg (by omega)]) (by omega)
        refine r_lv [1, 0] [(0, .ref m0), (1, .int (iJ (0)))] rfl ?_
        exact loop_49 _ 0 G ⟨by omega, by omega⟩ (fun j => by rw [if_neg (by omega)]) (Nat.lt_succ_self _)
      · refine r_aload_n E 0 dX7_record_16 rfl rfl ?_
        refine r_get E 6 0 1 dX7_record_17 in_X7_record_X7 lk_X7_record_13 rfl rfl (by decide) rfl ?_
        refine r_iload_n E 1 dX7_record_20 rfl rfl ?_
        refine r_aload_n E 0 dX7_record_21 rfl rfl ?_
        refine r_get E 6 0 1 dX7_record_22 in_X7_record_X7 lk_X7_record_13 rfl rfl (by decide) rfl ?_
        refine r_iload_n E 1 dX7_record_25 rfl rfl ?_
        refine r_bipush E 34 rfl dX7_record_26 ?_
        refine r_iadd E dX7_record_28 ?_
        refine r_iald E (i := (k + 34)) 2 0 dX7_record_29 rfl rfl (by decide) ⟨by omega, by omega⟩ ?_
        refine r_iast E (i := k) 2 0 dX7_record_30 rfl rfl (by decide) ⟨by omega, by omega⟩ [(m0, .inr (6, [.ref ms, .ref mh, .int (iJ (4)), .ref mn, .int (iJ (sv)), .ref mp, .int (iJ (pn)), .int (iJ (rf)), .ref ml, .ref mm, .ref md, .ref mw, .ref mt, .int (iJ (tl)), .ref mb, .ref mi, .ref mg])), (ms, cJ cI 34 (s)), (mh, cJ cI 136 (uJ G k (G (k + 34))))] rfl ?_
        refine r_iinc E (k := 1) [(1, .int (iJ ((k + 1)))), (0, .ref m0)] dX7_record_31 rfl (by decide) rfl ?_
        refine r_goto E 10 dX7_record_34 (by decide) ?_
        refine r_lv [1, 0] [(0, .ref m0), (1, .int (iJ ((k + 1))))] rfl ?_
        exact ih10 (k + 1) (uJ G k (G (k + 34))) ⟨by omega, by omega⟩ (fun j => by
              by_cases q0 : j = k
              · subst q0; rw [uJ_s, if_pos (by omega), hG, if_neg (by omega)]
              · rw [uJ_n q0, hG]; by_cases q2 : 0 ≤ j ∧ j < k
                · rw [if_pos q2, if_pos (by omega)]
                · rw [if_neg q2, if_neg (by omega)]) (by omega)
  refine r_lv [1, 0] [(0, .ref m0), (1, .int (iJ (0)))] rfl ?_
  exact loop_10 _ 0 h ⟨by omega, by omega⟩ (fun j => by rw [if_neg (by omega)]) (Nat.lt_succ_self _)
set_option maxHeartbeats 1000000 in
set_option maxRecDepth 100000 in
theorem c_X7_record (l : Launch) (D : va_G) (m0 : Nat) (ms : Nat) (mh : Nat) (mn : Nat) (mp : Nat) (ml : Nat) (mm : Nat) (md : Nat) (mw : Nat) (mt : Nat) (mb : Nat) (mi : Nat) (mg : Nat) (cI : ClassId) (kp : Int) (sv : Int) (pn : Int) (rf : Int) (tl : Int) (s : Int → Int) (h : Int → Int) (hkp : 0 ≤ kp ∧ kp ≤ 4) : MV (S := Unit) l yX7_record wsX7_record rm_X7_record D vwCl [.ref m0] [(m0, .inr (6, [.ref ms, .ref mh, .int (iJ (kp)), .ref mn, .int (iJ (sv)), .ref mp, .int (iJ (pn)), .int (iJ (rf)), .ref ml, .ref mm, .ref md, .ref mw, .ref mt, .int (iJ (tl)), .ref mb, .ref mi, .ref mg])), (ms, cJ cI 34 (s)), (mh, cJ cI 136 (h))] [(cI, .int)] (fun (_ : Unit) => True) (fun (_ : Unit) => [(m0, .inr (6, [.ref ms, .ref mh, .int (iJ (rcK kp)), .ref mn, .int (iJ (sv)), .ref mp, .int (iJ (pn)), .int (iJ (rf)), .ref ml, .ref mm, .ref md, .ref mw, .ref mt, .int (iJ (tl)), .ref mb, .ref mi, .ref mg])), (ms, cJ cI 34 (s)), (mh, cJ cI 136 (rcH s h kp))]) := by
  rcases (by omega : kp < 4 ∨ kp = 4) with z | z
  · have e : rcK kp = kp + 1 := if_pos z
    rw [e]; exact c_X7_recLt l D m0 ms mh mn mp ml mm md mw mt mb mi mg cI kp sv pn rf tl s h ⟨hkp.1, z⟩
  · subst z; exact c_X7_rec4 l D m0 ms mh mn mp ml mm md mw mt mb mi mg cI 4 sv pn rf tl s h rfl
theorem kf_X7_lays : KF yX7_lays 2 wsX7_lays cX7_lays 3 (some .int) := ⟨rfl, by decide +kernel, by decide +kernel, by decide +kernel⟩
def rm_X7_lays : Room := { frames := 1, cells := 0, slots := 0, locals := 21 }
set_option maxRecDepth 20000 in
theorem in_X7_lays_X7 : ∀ w ∈ u_ws RX7 TX7 17, w ∈ wsX7_lays := by decide +kernel
set_option maxRecDepth 20000 in
theorem lk_X7_lays_7 : Cond.fieldLink RX7 7 (TX7 0).1 (TX7 0).2.1 (TX7 0).2.2.1 ∈ wsX7_lays := by decide +kernel
set_option maxHeartbeats 1000000 in
set_option maxRecDepth 100000 in
theorem c_X7_laysNo (l : Launch) (D : va_G) (m0 : Nat) (ms : Nat) (mh : Nat) (mn : Nat) (mp : Nat) (ml : Nat) (mm : Nat) (md : Nat) (mw : Nat) (mt : Nat) (mb : Nat) (mi : Nat) (mg : Nat) (cI : ClassId) (kp : Int) (sv : Int) (pn : Int) (rf : Int) (tl : Int) (s : Int → Int) (a : Int) (c : Int) (ha : a = 32 ∧ s 0 = 32) : MP l yX7_lays wsX7_lays rm_X7_lays D vwCl [.ref m0, .int (iJ (a)), .int (iJ (c))] [(m0, .inr (6, [.ref ms, .ref mh, .int (iJ (kp)), .ref mn, .int (iJ (sv)), .ref mp, .int (iJ (pn)), .int (iJ (rf)), .ref ml, .ref mm, .ref md, .ref mw, .ref mt, .int (iJ (tl)), .ref mb, .ref mi, .ref mg])), (ms, cJ cI 34 (s))] [(cI, .int)] (-3) := by
  refine MP.mk (cc := cX7_lays) (maxL := 3) (ret := (some .int)) (by decide) rfl (Nat.le_of_ble_eq_true rfl) rfl RX7 rfl ?_
  intro p_ e_ s_ m_ ar_ bw_ mt_ cd_ Q_ E hr hQ
  refine r_iload_n E 1 dX7_lays_0 rfl rfl ?_
  refine r_aload_n E 0 dX7_lays_1 rfl rfl ?_
  refine r_get E 6 0 0 dX7_lays_2 in_X7_lays_X7 lk_X7_lays_7 rfl rfl (by decide) rfl ?_
  refine r_iconst E 0 rfl dX7_lays_5 ?_
  refine r_iald E (i := 0) 1 0 dX7_lays_6 rfl rfl (by decide) ⟨by omega, by omega⟩ ?_
  refine r_icmp_ne E 19 dX7_lays_7 (by decide) ⟨by omega, by omega⟩ ⟨by omega, by omega⟩ (fun c_7 => absurd c_7 (by omega)) (fun c_7 => ?_)
  refine r_iload_n E 1 dX7_lays_10 rfl rfl ?_
  refine r_bipush E 32 rfl dX7_lays_11 ?_
  refine r_icmp_ne E 19 dX7_lays_13 (by decide) ⟨by omega, by omega⟩ ⟨by omega, by omega⟩ (fun c_13 => absurd c_13 (by omega)) (fun c_13 => ?_)
  refine r_bipush E (-3) rfl dX7_lays_16 ?_
  exact r_retP E hr dX7_lays_18 rfl hQ
set_option maxHeartbeats 1000000 in
set_option maxRecDepth 100000 in
theorem c_X7_laysAdd (l : Launch) (D : va_G) (m0 : Nat) (ms : Nat) (mh : Nat) (mn : Nat) (mp : Nat) (ml : Nat) (mm : Nat) (md : Nat) (mw : Nat) (mt : Nat) (mb : Nat) (mi : Nat) (mg : Nat) (cI : ClassId) (kp : Int) (sv : Int) (pn : Int) (rf : Int) (tl : Int) (s : Int → Int) (h : Int → Int) (a : Int) (c : Int) (hs0 : 0 ≤ s 0 ∧ s 0 ≤ 32) (hkp : 0 ≤ kp ∧ kp ≤ 4) (ha : a = s 0 ∧ s 0 < 32) : MM (S := Unit) l yX7_lays wsX7_lays rm_X7_lays D vwCl [.ref m0, .int (iJ (a)), .int (iJ (c))] [(m0, .inr (6, [.ref ms, .ref mh, .int (iJ (kp)), .ref mn, .int (iJ (sv)), .ref mp, .int (iJ (pn)), .int (iJ (rf)), .ref ml, .ref mm, .ref md, .ref mw, .ref mt, .int (iJ (tl)), .ref mb, .ref mi, .ref mg])), (ms, cJ cI 34 (s)), (mh, cJ cI 136 (h))] [(cI, .int)] (fun (_ : Unit) => s 0 + 1) (fun (_ : Unit) => True) (fun (_ : Unit) => [(m0, .inr (6, [.ref ms, .ref mh, .int (iJ (rcK kp)), .ref mn, .int (iJ (sv)), .ref mp, .int (iJ (pn)), .int (iJ (rf)), .ref ml, .ref mm, .ref md, .ref mw, .ref mt, .int (iJ (tl)), .ref mb, .ref mi, .ref mg])), (ms, cJ cI 34 (uJ (uJ s 0 (s 0 + 1)) (2 + a) c)), (mh, cJ cI 136 (rcH s h kp))]) := by
  refine MM.mk (cc := cX7_lays) (maxL := 3) (ret := (some .int)) (by decide) rfl (Nat.le_of_ble_eq_true rfl) rfl RX7 rfl ?_
  intro p_ e_ s_ m_ ar_ bw_ mt_ cd_ B_ Q_ hA E hr hQ
  refine r_iload_n E 1 dX7_lays_0 rfl rfl ?_
  refine r_aload_n E 0 dX7_lays_1 rfl rfl ?_
  refine r_get E 6 0 0 dX7_lays_2 in_X7_lays_X7 lk_X7_lays_7 rfl rfl (by decide) rfl ?_
  refine r_iconst E 0 rfl dX7_lays_5 ?_
  refine r_iald E (i := 0) 1 0 dX7_lays_6 rfl rfl (by decide) ⟨by omega, by omega⟩ ?_
  refine r_icmp_ne E 19 dX7_lays_7 (by decide) ⟨by omega, by omega⟩ ⟨by omega, by omega⟩ (fun c_7 => absurd c_7 (by omega)) (fun c_7 => ?_)
  refine r_iload_n E 1 dX7_lays_10 rfl rfl ?_
  refine r_bipush E 32 rfl dX7_lays_11 ?_
  refine r_icmp_ne E 19 dX7_lays_13 (by decide) ⟨by omega, by omega⟩ ⟨by omega, by omega⟩ (fun c_13 => ?_) (fun c_13 => absurd c_13 (by omega))
  refine r_aload_n E 0 dX7_lays_19 rfl rfl ?_
  refine r_vV E (st := []) (c_X7_record l D m0 ms mh mn mp ml mm md mw mt mb mi mg cI kp sv pn rf tl s h (by first | assumption | omega | exact ⟨by omega, by omega⟩)) gX7_lays_X7_record 0 kf_X7_record ⟨rfl, rfl⟩ ⟨by decide, by decide⟩ dX7_lays_20 rfl 0 rfl rfl rfl rfl ⟨Nat.zero_le _, Nat.zero_le _⟩ [0, 1, 2] rfl (by decide) [0] rfl (Nat.le_of_ble_eq_true rfl) [] [] rfl (by decide) (by decide) hA [0, 1, 2] (by decide) (fun (_ : Unit) => [(m0, .inr (6, [.ref ms, .ref mh, .int (iJ (rcK kp)), .ref mn, .int (iJ (sv)), .ref mp, .int (iJ (pn)), .int (iJ (rf)), .ref ml, .ref mm, .ref md, .ref mw, .ref mt, .int (iJ (tl)), .ref mb, .ref mi, .ref mg])), (ms, cJ cI 34 (s)), (mh, cJ cI 136 (rcH s h kp))]) (fun _ => rfl) ?_
  rintro ⟨⟩ hp_1
  refine r_aload_n E 0 dX7_lays_23 rfl rfl ?_
  refine r_get E 6 0 0 dX7_lays_24 in_X7_lays_X7 lk_X7_lays_7 rfl rfl (by decide) rfl ?_
  refine r_iconst E 0 rfl dX7_lays_27 ?_
  refine r_dup2 E dX7_lays_28 rfl rfl ?_
  refine r_iald E (i := 0) 1 0 dX7_lays_29 rfl rfl (by decide) ⟨by omega, by omega⟩ ?_
  refine r_iload_n E 1 dX7_lays_30 rfl rfl ?_
  refine r_aload_n E 0 dX7_lays_31 rfl rfl ?_
  refine r_get E 6 0 0 dX7_lays_32 in_X7_lays_X7 lk_X7_lays_7 rfl rfl (by decide) rfl ?_
  refine r_iconst E 0 rfl dX7_lays_35 ?_
  refine r_iald E (i := 0) 1 0 dX7_lays_36 rfl rfl (by decide) ⟨by omega, by omega⟩ ?_
  refine r_icmp_ne E 44 dX7_lays_37 (by decide) ⟨by omega, by omega⟩ ⟨by omega, by omega⟩ (fun c_37 => absurd c_37 (by omega)) (fun c_37 => ?_)
  refine r_iconst E 1 rfl dX7_lays_40 ?_
  refine r_goto E 45 dX7_lays_41 (by decide) ?_
  refine r_iadd E dX7_lays_45 ?_
  refine r_iast E (i := 0) 1 0 dX7_lays_46 rfl rfl (by decide) ⟨by omega, by omega⟩ [(m0, .inr (6, [.ref ms, .ref mh, .int (iJ (rcK kp)), .ref mn, .int (iJ (sv)), .ref mp, .int (iJ (pn)), .int (iJ (rf)), .ref ml, .ref mm, .ref md, .ref mw, .ref mt, .int (iJ (tl)), .ref mb, .ref mi, .ref mg])), (ms, cJ cI 34 (uJ s 0 ((s 0) + 1))), (mh, cJ cI 136 (rcH s h kp))] rfl ?_
  refine r_aload_n E 0 dX7_lays_47 rfl rfl ?_
  refine r_get E 6 0 0 dX7_lays_48 in_X7_lays_X7 lk_X7_lays_7 rfl rfl (by decide) rfl ?_
  refine r_iconst E 2 rfl dX7_lays_51 ?_
  refine r_iload_n E 1 dX7_lays_52 rfl rfl ?_
  refine r_iadd E dX7_lays_53 ?_
  refine r_iload_n E 2 dX7_lays_54 rfl rfl ?_
  refine r_iast E (i := (2 + a)) 1 0 dX7_lays_55 rfl rfl (by decide) ⟨by omega, by omega⟩ [(m0, .inr (6, [.ref ms, .ref mh, .int (iJ (rcK kp)), .ref mn, .int (iJ (sv)), .ref mp, .int (iJ (pn)), .int (iJ (rf)), .ref ml, .ref mm, .ref md, .ref mw, .ref mt, .int (iJ (tl)), .ref mb, .ref mi, .ref mg])), (ms, cJ cI 34 (uJ (uJ s 0 ((s 0) + 1)) (2 + a) c)), (mh, cJ cI 136 (rcH s h kp))] rfl ?_
  refine r_aload_n E 0 dX7_lays_56 rfl rfl ?_
  refine r_get E 6 0 0 dX7_lays_57 in_X7_lays_X7 lk_X7_lays_7 rfl rfl (by decide) rfl ?_
  refine r_iconst E 0 rfl dX7_lays_60 ?_
  refine r_iald E (i := 0) 1 0 dX7_lays_61 rfl rfl (by decide) ⟨by omega, by omega⟩ ?_
  exact r_retM E () hr dX7_lays_62 (by rw [uJ_n (by omega), uJ_s]) trivial rfl hQ
set_option maxHeartbeats 1000000 in
set_option maxRecDepth 100000 in
theorem c_X7_laysCh (l : Launch) (D : va_G) (m0 : Nat) (ms : Nat) (mh : Nat) (mn : Nat) (mp : Nat) (ml : Nat) (mm : Nat) (md : Nat) (mw : Nat) (mt : Nat) (mb : Nat) (mi : Nat) (mg : Nat) (cI : ClassId) (kp : Int) (sv : Int) (pn : Int) (rf : Int) (tl : Int) (s : Int → Int) (h : Int → Int) (a : Int) (c : Int) (hs0 : 0 ≤ s 0 ∧ s 0 ≤ 32) (hkp : 0 ≤ kp ∧ kp ≤ 4) (ha : 0 ≤ a ∧ a < s 0) : MM (S := Unit) l yX7_lays wsX7_lays rm_X7_lays D vwCl [.ref m0, .int (iJ (a)), .int (iJ (c))] [(m0, .inr (6, [.ref ms, .ref mh, .int (iJ (kp)), .ref mn, .int (iJ (sv)), .ref mp, .int (iJ (pn)), .int (iJ (rf)), .ref ml, .ref mm, .ref md, .ref mw, .ref mt, .int (iJ (tl)), .ref mb, .ref mi, .ref mg])), (ms, cJ cI 34 (s)), (mh, cJ cI 136 (h))] [(cI, .int)] (fun (_ : Unit) => s 0) (fun (_ : Unit) => True) (fun (_ : Unit) => [(m0, .inr (6, [.ref ms, .ref mh, .int (iJ (rcK kp)), .ref mn, .int (iJ (sv)), .ref mp, .int (iJ (pn)), .int (iJ (rf)), .ref ml, .ref mm, .ref md, .ref mw, .ref mt, .int (iJ (tl)), .ref mb, .ref mi, .ref mg])), (ms, cJ cI 34 (uJ (uJ s 0 (s 0 + 0)) (2 + a) c)), (mh, cJ cI 136 (rcH s h kp))]) := by
  refine MM.mk (cc := cX7_lays) (maxL := 3) (ret := (some .int)) (by decide) rfl (Nat.le_of_ble_eq_true rfl) rfl RX7 rfl ?_
  intro p_ e_ s_ m_ ar_ bw_ mt_ cd_ B_ Q_ hA E hr hQ
  refine r_iload_n E 1 dX7_lays_0 rfl rfl ?_
  refine r_aload_n E 0 dX7_lays_1 rfl rfl ?_
  refine r_get E 6 0 0 dX7_lays_2 in_X7_lays_X7 lk_X7_lays_7 rfl rfl (by decide) rfl ?_
  refine r_iconst E 0 rfl dX7_lays_5 ?_
  refine r_iald E (i := 0) 1 0 dX7_lays_6 rfl rfl (by decide) ⟨by omega, by omega⟩ ?_
  refine r_icmp_ne E 19 dX7_lays_7 (by decide) ⟨by omega, by omega⟩ ⟨by omega, by omega⟩ (fun c_7 => ?_) (fun c_7 => absurd c_7 (by omega))
  refine r_aload_n E 0 dX7_lays_19 rfl rfl ?_
  refine r_vV E (st := []) (c_X7_record l D m0 ms mh mn mp ml mm md mw mt mb mi mg cI kp sv pn rf tl s h (by first | assumption | omega | exact ⟨by omega, by omega⟩)) gX7_lays_X7_record 0 kf_X7_record ⟨rfl, rfl⟩ ⟨by decide, by decide⟩ dX7_lays_20 rfl 0 rfl rfl rfl rfl ⟨Nat.zero_le _, Nat.zero_le _⟩ [0, 1, 2] rfl (by decide) [0] rfl (Nat.le_of_ble_eq_true rfl) [] [] rfl (by decide) (by decide) hA [0, 1, 2] (by decide) (fun (_ : Unit) => [(m0, .inr (6, [.ref ms, .ref mh, .int (iJ (rcK kp)), .ref mn, .int (iJ (sv)), .ref mp, .int (iJ (pn)), .int (iJ (rf)), .ref ml, .ref mm, .ref md, .ref mw, .ref mt, .int (iJ (tl)), .ref mb, .ref mi, .ref mg])), (ms, cJ cI 34 (s)), (mh, cJ cI 136 (rcH s h kp))]) (fun _ => rfl) ?_
  rintro ⟨⟩ hp_1
  refine r_aload_n E 0 dX7_lays_23 rfl rfl ?_
  refine r_get E 6 0 0 dX7_lays_24 in_X7_lays_X7 lk_X7_lays_7 rfl rfl (by decide) rfl ?_
  refine r_iconst E 0 rfl dX7_lays_27 ?_
  refine r_dup2 E dX7_lays_28 rfl rfl ?_
  refine r_iald E (i := 0) 1 0 dX7_lays_29 rfl rfl (by decide) ⟨by omega, by omega⟩ ?_
  refine r_iload_n E 1 dX7_lays_30 rfl rfl ?_
  refine r_aload_n E 0 dX7_lays_31 rfl rfl ?_
  refine r_get E 6 0 0 dX7_lays_32 in_X7_lays_X7 lk_X7_lays_7 rfl rfl (by decide) rfl ?_
  refine r_iconst E 0 rfl dX7_lays_35 ?_
  refine r_iald E (i := 0) 1 0 dX7_lays_36 rfl rfl (by decide) ⟨by omega, by omega⟩ ?_
  refine r_icmp_ne E 44 dX7_lays_37 (by decide) ⟨by omega, by omega⟩ ⟨by omega, by omega⟩ (fun c_37 => ?_) (fun c_37 => absurd c_37 (by omega))
  refine r_iconst E 0 rfl dX7_lays_44 ?_
  refine r_iadd E dX7_lays_45 ?_
  refine r_iast E (i := 0) 1 0 dX7_lays_46 rfl rfl (by decide) ⟨by omega, by omega⟩ [(m0, .inr (6, [.ref ms, .ref mh, .int (iJ (rcK kp)), .ref mn, .int (iJ (sv)), .ref mp, .int (iJ (pn)), .int (iJ (rf)), .ref ml, .ref mm, .ref md, .ref mw, .ref mt, .int (iJ (tl)), .ref mb, .ref mi, .ref mg])), (ms, cJ cI 34 (uJ s 0 ((s 0) + 0))), (mh, cJ cI 136 (rcH s h kp))] rfl ?_
  refine r_aload_n E 0 dX7_lays_47 rfl rfl ?_
  refine r_get E 6 0 0 dX7_lays_48 in_X7_lays_X7 lk_X7_lays_7 rfl rfl (by decide) rfl ?_
  refine r_iconst E 2 rfl dX7_lays_51 ?_
  refine r_iload_n E 1 dX7_lays_52 rfl rfl ?_
  refine r_iadd E dX7_lays_53 ?_
  refine r_iload_n E 2 dX7_lays_54 rfl rfl ?_
  refine r_iast E (i := (2 + a)) 1 0 dX7_lays_55 rfl rfl (by decide) ⟨by omega, by omega⟩ [(m0, .inr (6, [.ref ms, .ref mh, .int (iJ (rcK kp)), .ref mn, .int (iJ (sv)), .ref mp, .int (iJ (pn)), .int (iJ (rf)), .ref ml, .ref mm, .ref md, .ref mw, .ref mt, .int (iJ (tl)), .ref mb, .ref mi, .ref mg])), (ms, cJ cI 34 (uJ (uJ s 0 ((s 0) + 0)) (2 + a) c)), (mh, cJ cI 136 (rcH s h kp))] rfl ?_
  refine r_aload_n E 0 dX7_lays_56 rfl rfl ?_
  refine r_get E 6 0 0 dX7_lays_57 in_X7_lays_X7 lk_X7_lays_7 rfl rfl (by decide) rfl ?_
  refine r_iconst E 0 rfl dX7_lays_60 ?_
  refine r_iald E (i := 0) 1 0 dX7_lays_61 rfl rfl (by decide) ⟨by omega, by omega⟩ ?_
  exact r_retM E () hr dX7_lays_62 (by rw [uJ_n (by omega), uJ_s]; omega) trivial rfl hQ
theorem kf_X7_stroke : KF yX7_stroke 4 wsX7_stroke cX7_stroke 6 (some .int) := ⟨rfl, by decide +kernel, by decide +kernel, by decide +kernel⟩
def rm_X7_stroke : Room := { frames := 2, cells := 0, slots := 0, locals := 43 }
set_option maxRecDepth 20000 in
theorem in_X7_stroke_X7 : ∀ w ∈ u_ws RX7 TX7 17, w ∈ wsX7_stroke := by decide +kernel
set_option maxRecDepth 20000 in
theorem lk_X7_stroke_7 : Cond.fieldLink RX7 7 (TX7 0).1 (TX7 0).2.1 (TX7 0).2.2.1 ∈ wsX7_stroke := by decide +kernel
set_option maxHeartbeats 1000000 in
set_option maxRecDepth 100000 in
theorem c_X7_strokeBad (l : Launch) (D : va_G) (m0 : Nat) (ms : Nat) (mh : Nat) (mn : Nat) (mp : Nat) (ml : Nat) (mm : Nat) (md : Nat) (mw : Nat) (mt : Nat) (mb : Nat) (mi : Nat) (mg : Nat) (cI : ClassId) (kp : Int) (sv : Int) (pn : Int) (rf : Int) (tl : Int) (s : Int → Int) (a : Int) (h : Int) (ac : Int) (o : Int) (hs0 : 0 ≤ s 0 ∧ s 0 ≤ 32) (ha : jb a) (hh : jb h) (hac : ac = 0 ∨ ac = 1) (ho : jb o) (hb : ¬ ((0 ≤ a ∧ a ≤ s 0) ∧ (0 ≤ h ∧ h ≤ 2) ∧ (0 ≤ o ∧ o ≤ 3))) : MP l yX7_stroke wsX7_stroke rm_X7_stroke D vwCl [.ref m0, .int (iJ (a)), .int (iJ (h)), .int (iJ (ac)), .int (iJ (o))] [(m0, .inr (6, [.ref ms, .ref mh, .int (iJ (kp)), .ref mn, .int (iJ (sv)), .ref mp, .int (iJ (pn)), .int (iJ (rf)), .ref ml, .ref mm, .ref md, .ref mw, .ref mt, .int (iJ (tl)), .ref mb, .ref mi, .ref mg])), (ms, cJ cI 34 (s))] [(cI, .int)] (-1) := by
  refine MP.mk (cc := cX7_stroke) (maxL := 6) (ret := (some .int)) (by decide) rfl (Nat.le_of_ble_eq_true rfl) rfl RX7 rfl ?_
  intro p_ e_ s_ m_ ar_ bw_ mt_ cd_ Q_ E hr hQ
  refine r_iload_n E 1 dX7_stroke_0 rfl rfl ?_
  refine r_iconst E 0 rfl dX7_stroke_1 ?_
  refine r_aload_n E 0 dX7_stroke_2 rfl rfl ?_
  refine r_get E 6 0 0 dX7_stroke_3 in_X7_stroke_X7 lk_X7_stroke_7 rfl rfl (by decide) rfl ?_
  refine r_iconst E 0 rfl dX7_stroke_6 ?_
  refine r_iald E (i := 0) 1 0 dX7_stroke_7 rfl rfl (by decide) ⟨by omega, by omega⟩ ?_
  refine r_sP E (st := []) (c_X7_in l D a 0 (s 0) (by first | assumption | omega | exact ⟨by omega, by omega⟩) (by first | assumption | omega | exact ⟨by omega, by omega⟩) (by first | assumption | omega | exact ⟨by omega, by omega⟩)) gX7_stroke_X7_in 3 kf_X7_in ⟨rfl, rfl⟩ ⟨by decide, by decide⟩ dX7_stroke_8 rfl rfl ⟨Nat.zero_le _, Nat.zero_le _⟩ [] rfl (by decide) [] rfl (Nat.le_of_ble_eq_true rfl) ?_
  refine r_ifeq_b E 37 dX7_stroke_11 (by decide) (fun c_11 => ?_) (fun c_11 => ?_)
  · refine r_iconst E 0 rfl dX7_stroke_37 ?_
    refine r_istore E [(5, .int (iJ (0))), (0, .ref m0), (1, .int (iJ (a))), (2, .int (iJ (h))), (3, .int (iJ (ac))), (4, .int (iJ (o)))] dX7_stroke_38 (by decide) rfl ?_
    refine r_iload E 0 dX7_stroke_40 rfl ?_
    refine r_if_eq E 68 dX7_stroke_42 (by decide) ⟨by omega, by omega⟩ (fun c_42 => ?_) (fun c_42 => absurd c_42 (by omega))
    refine r_iconst E (-1) rfl dX7_stroke_68 ?_
    exact r_retP E hr dX7_stroke_69 rfl hQ
  · refine r_iload_n E 2 dX7_stroke_14 rfl rfl ?_
    refine r_iconst E 0 rfl dX7_stroke_15 ?_
    refine r_iconst E 2 rfl dX7_stroke_16 ?_
    refine r_sP E (st := []) (c_X7_in l D h 0 2 (by first | assumption | omega | exact ⟨by omega, by omega⟩) (by first | assumption | omega | exact ⟨by omega, by omega⟩) (by first | assumption | omega | exact ⟨by omega, by omega⟩)) gX7_stroke_X7_in 3 kf_X7_in ⟨rfl, rfl⟩ ⟨by decide, by decide⟩ dX7_stroke_17 rfl rfl ⟨Nat.zero_le _, Nat.zero_le _⟩ [] rfl (by decide) [] rfl (Nat.le_of_ble_eq_true rfl) ?_
    refine r_ifeq_b E 37 dX7_stroke_20 (by decide) (fun c_20 => ?_) (fun c_20 => ?_)
    · refine r_iconst E 0 rfl dX7_stroke_37 ?_
      refine r_istore E [(5, .int (iJ (0))), (0, .ref m0), (1, .int (iJ (a))), (2, .int (iJ (h))), (3, .int (iJ (ac))), (4, .int (iJ (o)))] dX7_stroke_38 (by decide) rfl ?_
      refine r_iload E 0 dX7_stroke_40 rfl ?_
      refine r_if_eq E 68 dX7_stroke_42 (by decide) ⟨by omega, by omega⟩ (fun c_42 => ?_) (fun c_42 => absurd c_42 (by omega))
      refine r_iconst E (-1) rfl dX7_stroke_68 ?_
      exact r_retP E hr dX7_stroke_69 rfl hQ
    · refine r_iload E 4 dX7_stroke_23 rfl ?_
      refine r_iconst E 0 rfl dX7_stroke_25 ?_
      refine r_iconst E 3 rfl dX7_stroke_26 ?_
      refine r_sP E (st := []) (c_X7_in l D o 0 3 (by first | assumption | omega | exact ⟨by omega, by omega⟩) (by first | assumption | omega | exact ⟨by omega, by omega⟩) (by first | assumption | omega | exact ⟨by omega, by omega⟩)) gX7_stroke_X7_in 3 kf_X7_in ⟨rfl, rfl⟩ ⟨by decide, by decide⟩ dX7_stroke_27 rfl rfl ⟨Nat.zero_le _, Nat.zero_le _⟩ [] rfl (by decide) [] rfl (Nat.le_of_ble_eq_true rfl) ?_
      refine r_ifeq_b E 37 dX7_stroke_30 (by decide) (fun c_30 => ?_) (fun c_30 => absurd c_30 (by omega))
      refine r_iconst E 0 rfl dX7_stroke_37 ?_
      refine r_istore E [(5, .int (iJ (0))), (0, .ref m0), (1, .int (iJ (a))), (2, .int (iJ (h))), (3, .int (iJ (ac))), (4, .int (iJ (o)))] dX7_stroke_38 (by decide) rfl ?_
      refine r_iload E 0 dX7_stroke_40 rfl ?_
      refine r_if_eq E 68 dX7_stroke_42 (by decide) ⟨by omega, by omega⟩ (fun c_42 => ?_) (fun c_42 => absurd c_42 (by omega))
      refine r_iconst E (-1) rfl dX7_stroke_68 ?_
      exact r_retP E hr dX7_stroke_69 rfl hQ
set_option maxHeartbeats 1000000 in
set_option maxRecDepth 100000 in
theorem c_X7_strokeNo (l : Launch) (D : va_G) (m0 : Nat) (ms : Nat) (mh : Nat) (mn : Nat) (mp : Nat) (ml : Nat) (mm : Nat) (md : Nat) (mw : Nat) (mt : Nat) (mb : Nat) (mi : Nat) (mg : Nat) (cI : ClassId) (kp : Int) (sv : Int) (pn : Int) (rf : Int) (tl : Int) (s : Int → Int) (a : Int) (h9 : Int) (ac : Int) (o : Int) (hs0 : 0 ≤ s 0 ∧ s 0 ≤ 32) (hk : (0 ≤ a ∧ a ≤ s 0) ∧ (0 ≤ h9 ∧ h9 ≤ 2) ∧ (0 ≤ o ∧ o ≤ 3)) (hac : ac = 0 ∨ ac = 1) (ha : a = 32) : MP l yX7_stroke wsX7_stroke rm_X7_stroke D vwCl [.ref m0, .int (iJ (a)), .int (iJ (h9)), .int (iJ (ac)), .int (iJ (o))] [(m0, .inr (6, [.ref ms, .ref mh, .int (iJ (kp)), .ref mn, .int (iJ (sv)), .ref mp, .int (iJ (pn)), .int (iJ (rf)), .ref ml, .ref mm, .ref md, .ref mw, .ref mt, .int (iJ (tl)), .ref mb, .ref mi, .ref mg])), (ms, cJ cI 34 (s))] [(cI, .int)] (-3) := by
  refine MP.mk (cc := cX7_stroke) (maxL := 6) (ret := (some .int)) (by decide) rfl (Nat.le_of_ble_eq_true rfl) rfl RX7 rfl ?_
  intro p_ e_ s_ m_ ar_ bw_ mt_ cd_ Q_ E hr hQ
  refine r_iload_n E 1 dX7_stroke_0 rfl rfl ?_
  refine r_iconst E 0 rfl dX7_stroke_1 ?_
  refine r_aload_n E 0 dX7_stroke_2 rfl rfl ?_
  refine r_get E 6 0 0 dX7_stroke_3 in_X7_stroke_X7 lk_X7_stroke_7 rfl rfl (by decide) rfl ?_
  refine r_iconst E 0 rfl dX7_stroke_6 ?_
  refine r_iald E (i := 0) 1 0 dX7_stroke_7 rfl rfl (by decide) ⟨by omega, by omega⟩ ?_
  refine r_sP E (st := []) (c_X7_in l D a 0 (s 0) (by first | assumption | omega | exact ⟨by omega, by omega⟩) (by first | assumption | omega | exact ⟨by omega, by omega⟩) (by first | assumption | omega | exact ⟨by omega, by omega⟩)) gX7_stroke_X7_in 3 kf_X7_in ⟨rfl, rfl⟩ ⟨by decide, by decide⟩ dX7_stroke_8 rfl rfl ⟨Nat.zero_le _, Nat.zero_le _⟩ [] rfl (by decide) [] rfl (Nat.le_of_ble_eq_true rfl) ?_
  refine r_ifeq_b E 37 dX7_stroke_11 (by decide) (fun c_11 => absurd c_11 (by omega)) (fun c_11 => ?_)
  refine r_iload_n E 2 dX7_stroke_14 rfl rfl ?_
  refine r_iconst E 0 rfl dX7_stroke_15 ?_
  refine r_iconst E 2 rfl dX7_stroke_16 ?_
  refine r_sP E (st := []) (c_X7_in l D h9 0 2 (by first | assumption | omega | exact ⟨by omega, by omega⟩) (by first | assumption | omega | exact ⟨by omega, by omega⟩) (by first | assumption | omega | exact ⟨by omega, by omega⟩)) gX7_stroke_X7_in 3 kf_X7_in ⟨rfl, rfl⟩ ⟨by decide, by decide⟩ dX7_stroke_17 rfl rfl ⟨Nat.zero_le _, Nat.zero_le _⟩ [] rfl (by decide) [] rfl (Nat.le_of_ble_eq_true rfl) ?_
  refine r_ifeq_b E 37 dX7_stroke_20 (by decide) (fun c_20 => absurd c_20 (by omega)) (fun c_20 => ?_)
  refine r_iload E 4 dX7_stroke_23 rfl ?_
  refine r_iconst E 0 rfl dX7_stroke_25 ?_
  refine r_iconst E 3 rfl dX7_stroke_26 ?_
  refine r_sP E (st := []) (c_X7_in l D o 0 3 (by first | assumption | omega | exact ⟨by omega, by omega⟩) (by first | assumption | omega | exact ⟨by omega, by omega⟩) (by first | assumption | omega | exact ⟨by omega, by omega⟩)) gX7_stroke_X7_in 3 kf_X7_in ⟨rfl, rfl⟩ ⟨by decide, by decide⟩ dX7_stroke_27 rfl rfl ⟨Nat.zero_le _, Nat.zero_le _⟩ [] rfl (by decide) [] rfl (Nat.le_of_ble_eq_true rfl) ?_
  refine r_ifeq_b E 37 dX7_stroke_30 (by decide) (fun c_30 => absurd c_30 (by omega)) (fun c_30 => ?_)
  refine r_iconst E 1 rfl dX7_stroke_33 ?_
  refine r_goto E 38 dX7_stroke_34 (by decide) ?_
  refine r_istore E [(5, .int (iJ (1))), (0, .ref m0), (1, .int (iJ (a))), (2, .int (iJ (h9))), (3, .int (iJ (ac))), (4, .int (iJ (o)))] dX7_stroke_38 (by decide) rfl ?_
  refine r_iload E 0 dX7_stroke_40 rfl ?_
  refine r_if_eq E 68 dX7_stroke_42 (by decide) ⟨by omega, by omega⟩ (fun c_42 => absurd c_42 (by omega)) (fun c_42 => ?_)
  refine r_aload_n E 1 dX7_stroke_45 rfl rfl ?_
  refine r_iload_n E 2 dX7_stroke_46 rfl rfl ?_
  refine r_iload_n E 3 dX7_stroke_47 rfl rfl ?_
  refine r_iload_n E 4 dX7_stroke_48 rfl rfl ?_
  refine r_if_eq E 56 dX7_stroke_49 (by decide) ⟨by omega, by omega⟩ (fun c_49 => ?_) (fun c_49 => ?_)
  · refine r_iconst E 0 rfl dX7_stroke_56 ?_
    refine r_iload E 5 dX7_stroke_57 rfl ?_
    refine r_sP E (st := [.int (iJ (a)), .ref m0]) (c_X7_code l D h9 0 o) gX7_stroke_X7_code 3 kf_X7_code ⟨rfl, rfl⟩ ⟨by decide, by decide⟩ dX7_stroke_59 rfl rfl ⟨Nat.zero_le _, Nat.zero_le _⟩ [] rfl (by decide) [] rfl (Nat.le_of_ble_eq_true rfl) ?_
    refine r_vP E (st := []) (c_X7_laysNo l D m0 ms mh mn mp ml mm md mw mt mb mi mg cI kp sv pn rf tl s a (1 + h9 + 3 * 0 + 6 * o) (by first | assumption | omega | exact ⟨by omega, by omega⟩)) gX7_stroke_X7_lays 2 kf_X7_lays ⟨rfl, rfl⟩ ⟨by decide, by decide⟩ dX7_stroke_62 rfl 0 rfl rfl rfl rfl ⟨Nat.zero_le _, Nat.zero_le _⟩ [0, 1] rfl (by decide) [0] rfl (Nat.le_of_ble_eq_true rfl) ?_
    refine r_goto E 69 dX7_stroke_65 (by decide) ?_
    exact r_retP E hr dX7_stroke_69 rfl hQ
  · refine r_iconst E 1 rfl dX7_stroke_52 ?_
    refine r_goto E 57 dX7_stroke_53 (by decide) ?_
    refine r_iload E 5 dX7_stroke_57 rfl ?_
    refine r_sP E (st := [.int (iJ (a)), .ref m0]) (c_X7_code l D h9 1 o) gX7_stroke_X7_code 3 kf_X7_code ⟨rfl, rfl⟩ ⟨by decide, by decide⟩ dX7_stroke_59 rfl rfl ⟨Nat.zero_le _, Nat.zero_le _⟩ [] rfl (by decide) [] rfl (Nat.le_of_ble_eq_true rfl) ?_
    refine r_vP E (st := []) (c_X7_laysNo l D m0 ms mh mn mp ml mm md mw mt mb mi mg cI kp sv pn rf tl s a (1 + h9 + 3 * 1 + 6 * o) (by first | assumption | omega | exact ⟨by omega, by omega⟩)) gX7_stroke_X7_lays 2 kf_X7_lays ⟨rfl, rfl⟩ ⟨by decide, by decide⟩ dX7_stroke_62 rfl 0 rfl rfl rfl rfl ⟨Nat.zero_le _, Nat.zero_le _⟩ [0, 1] rfl (by decide) [0] rfl (Nat.le_of_ble_eq_true rfl) ?_
    refine r_goto E 69 dX7_stroke_65 (by decide) ?_
    exact r_retP E hr dX7_stroke_69 rfl hQ
set_option maxHeartbeats 1000000 in
set_option maxRecDepth 100000 in
theorem c_X7_strokeAdd (l : Launch) (D : va_G) (m0 : Nat) (ms : Nat) (mh : Nat) (mn : Nat) (mp : Nat) (ml : Nat) (mm : Nat) (md : Nat) (mw : Nat) (mt : Nat) (mb : Nat) (mi : Nat) (mg : Nat) (cI : ClassId) (kp : Int) (sv : Int) (pn : Int) (rf : Int) (tl : Int) (s : Int → Int) (h : Int → Int) (a : Int) (h9 : Int) (ac : Int) (o : Int) (hs0 : 0 ≤ s 0 ∧ s 0 ≤ 32) (hkp : 0 ≤ kp ∧ kp ≤ 4) (hk : (0 ≤ a ∧ a ≤ s 0) ∧ (0 ≤ h9 ∧ h9 ≤ 2) ∧ (0 ≤ o ∧ o ≤ 3)) (hac : ac = 0 ∨ ac = 1) (ha : a = s 0 ∧ s 0 < 32) : MM (S := Unit) l yX7_stroke wsX7_stroke rm_X7_stroke D vwCl [.ref m0, .int (iJ (a)), .int (iJ (h9)), .int (iJ (ac)), .int (iJ (o))] [(m0, .inr (6, [.ref ms, .ref mh, .int (iJ (kp)), .ref mn, .int (iJ (sv)), .ref mp, .int (iJ (pn)), .int (iJ (rf)), .ref ml, .ref mm, .ref md, .ref mw, .ref mt, .int (iJ (tl)), .ref mb, .ref mi, .ref mg])), (ms, cJ cI 34 (s)), (mh, cJ cI 136 (h))] [(cI, .int)] (fun (_ : Unit) => s 0 + 1) (fun (_ : Unit) => True) (fun (_ : Unit) => [(m0, .inr (6, [.ref ms, .ref mh, .int (iJ (rcK kp)), .ref mn, .int (iJ (sv)), .ref mp, .int (iJ (pn)), .int (iJ (rf)), .ref ml, .ref mm, .ref md, .ref mw, .ref mt, .int (iJ (tl)), .ref mb, .ref mi, .ref mg])), (ms, cJ cI 34 (uJ (uJ s 0 (s 0 + 1)) (2 + a) (1 + h9 + 3 * ac + 6 * o))), (mh, cJ cI 136 (rcH s h kp))]) := by
  refine MM.mk (cc := cX7_stroke) (maxL := 6) (ret := (some .int)) (by decide) rfl (Nat.le_of_ble_eq_true rfl) rfl RX7 rfl ?_
  intro p_ e_ s_ m_ ar_ bw_ mt_ cd_ B_ Q_ hA E hr hQ
  refine r_iload_n E 1 dX7_stroke_0 rfl rfl ?_
  refine r_iconst E 0 rfl dX7_stroke_1 ?_
  refine r_aload_n E 0 dX7_stroke_2 rfl rfl ?_
  refine r_get E 6 0 0 dX7_stroke_3 in_X7_stroke_X7 lk_X7_stroke_7 rfl rfl (by decide) rfl ?_
  refine r_iconst E 0 rfl dX7_stroke_6 ?_
  refine r_iald E (i := 0) 1 0 dX7_stroke_7 rfl rfl (by decide) ⟨by omega, by omega⟩ ?_
  refine r_sP E (st := []) (c_X7_in l D a 0 (s 0) (by first | assumption | omega | exact ⟨by omega, by omega⟩) (by first | assumption | omega | exact ⟨by omega, by omega⟩) (by first | assumption | omega | exact ⟨by omega, by omega⟩)) gX7_stroke_X7_in 3 kf_X7_in ⟨rfl, rfl⟩ ⟨by decide, by decide⟩ dX7_stroke_8 rfl rfl ⟨Nat.zero_le _, Nat.zero_le _⟩ [] rfl (by decide) [] rfl (Nat.le_of_ble_eq_true rfl) ?_
  refine r_ifeq_b E 37 dX7_stroke_11 (by decide) (fun c_11 => absurd c_11 (by omega)) (fun c_11 => ?_)
  refine r_iload_n E 2 dX7_stroke_14 rfl rfl ?_
  refine r_iconst E 0 rfl dX7_stroke_15 ?_
  refine r_iconst E 2 rfl dX7_stroke_16 ?_
  refine r_sP E (st := []) (c_X7_in l D h9 0 2 (by first | assumption | omega | exact ⟨by omega, by omega⟩) (by first | assumption | omega | exact ⟨by omega, by omega⟩) (by first | assumption | omega | exact ⟨by omega, by omega⟩)) gX7_stroke_X7_in 3 kf_X7_in ⟨rfl, rfl⟩ ⟨by decide, by decide⟩ dX7_stroke_17 rfl rfl ⟨Nat.zero_le _, Nat.zero_le _⟩ [] rfl (by decide) [] rfl (Nat.le_of_ble_eq_true rfl) ?_
  refine r_ifeq_b E 37 dX7_stroke_20 (by decide) (fun c_20 => absurd c_20 (by omega)) (fun c_20 => ?_)
  refine r_iload E 4 dX7_stroke_23 rfl ?_
  refine r_iconst E 0 rfl dX7_stroke_25 ?_
  refine r_iconst E 3 rfl dX7_stroke_26 ?_
  refine r_sP E (st := []) (c_X7_in l D o 0 3 (by first | assumption | omega | exact ⟨by omega, by omega⟩) (by first | assumption | omega | exact ⟨by omega, by omega⟩) (by first | assumption | omega | exact ⟨by omega, by omega⟩)) gX7_stroke_X7_in 3 kf_X7_in ⟨rfl, rfl⟩ ⟨by decide, by decide⟩ dX7_stroke_27 rfl rfl ⟨Nat.zero_le _, Nat.zero_le _⟩ [] rfl (by decide) [] rfl (Nat.le_of_ble_eq_true rfl) ?_
  refine r_ifeq_b E 37 dX7_stroke_30 (by decide) (fun c_30 => absurd c_30 (by omega)) (fun c_30 => ?_)
  refine r_iconst E 1 rfl dX7_stroke_33 ?_
  refine r_goto E 38 dX7_stroke_34 (by decide) ?_
  refine r_istore E [(5, .int (iJ (1))), (0, .ref m0), (1, .int (iJ (a))), (2, .int (iJ (h9))), (3, .int (iJ (ac))), (4, .int (iJ (o)))] dX7_stroke_38 (by decide) rfl ?_
  refine r_iload E 0 dX7_stroke_40 rfl ?_
  refine r_if_eq E 68 dX7_stroke_42 (by decide) ⟨by omega, by omega⟩ (fun c_42 => absurd c_42 (by omega)) (fun c_42 => ?_)
  refine r_aload_n E 1 dX7_stroke_45 rfl rfl ?_
  refine r_iload_n E 2 dX7_stroke_46 rfl rfl ?_
  refine r_iload_n E 3 dX7_stroke_47 rfl rfl ?_
  refine r_iload_n E 4 dX7_stroke_48 rfl rfl ?_
  refine r_if_eq E 56 dX7_stroke_49 (by decide) ⟨by omega, by omega⟩ (fun c_49 => ?_) (fun c_49 => ?_)
  · refine r_iconst E 0 rfl dX7_stroke_56 ?_
    refine r_iload E 5 dX7_stroke_57 rfl ?_
    refine r_sP E (st := [.int (iJ (a)), .ref m0]) (c_X7_code l D h9 0 o) gX7_stroke_X7_code 3 kf_X7_code ⟨rfl, rfl⟩ ⟨by decide, by decide⟩ dX7_stroke_59 rfl rfl ⟨Nat.zero_le _, Nat.zero_le _⟩ [] rfl (by decide) [] rfl (Nat.le_of_ble_eq_true rfl) ?_
    refine r_top (b := 1 + h9 + 3 * ac + 6 * o) (by omega) ?_
    refine r_vM E (st := []) (c_X7_laysAdd l D m0 ms mh mn mp ml mm md mw mt mb mi mg cI kp sv pn rf tl s h a (1 + h9 + 3 * ac + 6 * o) (by first | assumption | omega | exact ⟨by omega, by omega⟩) (by first | assumption | omega | exact ⟨by omega, by omega⟩) (by first | assumption | omega | exact ⟨by omega, by omega⟩)) gX7_stroke_X7_lays 2 kf_X7_lays ⟨rfl, rfl⟩ ⟨by decide, by decide⟩ dX7_stroke_62 rfl 0 rfl rfl rfl rfl ⟨Nat.zero_le _, Nat.zero_le _⟩ [0, 1, 2] rfl (by decide) [0] rfl (Nat.le_of_ble_eq_true rfl) [] [] rfl (by decide) (by decide) hA [0, 1, 2] (by decide) (fun (_ : Unit) => [(m0, .inr (6, [.ref ms, .ref mh, .int (iJ (rcK kp)), .ref mn, .int (iJ (sv)), .ref mp, .int (iJ (pn)), .int (iJ (rf)), .ref ml, .ref mm, .ref md, .ref mw, .ref mt, .int (iJ (tl)), .ref mb, .ref mi, .ref mg])), (ms, cJ cI 34 (uJ (uJ s 0 (s 0 + 1)) (2 + a) (1 + h9 + 3 * ac + 6 * o))), (mh, cJ cI 136 (rcH s h kp))]) (fun _ => rfl) ?_
    rintro ⟨⟩ hp_1
    refine r_goto E 69 dX7_stroke_65 (by decide) ?_
    exact r_retM E () hr dX7_stroke_69 rfl trivial rfl hQ
  · refine r_iconst E 1 rfl dX7_stroke_52 ?_
    refine r_goto E 57 dX7_stroke_53 (by decide) ?_
    refine r_iload E 5 dX7_stroke_57 rfl ?_
    refine r_sP E (st := [.int (iJ (a)), .ref m0]) (c_X7_code l D h9 1 o) gX7_stroke_X7_code 3 kf_X7_code ⟨rfl, rfl⟩ ⟨by decide, by decide⟩ dX7_stroke_59 rfl rfl ⟨Nat.zero_le _, Nat.zero_le _⟩ [] rfl (by decide) [] rfl (Nat.le_of_ble_eq_true rfl) ?_
    refine r_top (b := 1 + h9 + 3 * ac + 6 * o) (by omega) ?_
    refine r_vM E (st := []) (c_X7_laysAdd l D m0 ms mh mn mp ml mm md mw mt mb mi mg cI kp sv pn rf tl s h a (1 + h9 + 3 * ac + 6 * o) (by first | assumption | omega | exact ⟨by omega, by omega⟩) (by first | assumption | omega | exact ⟨by omega, by omega⟩) (by first | assumption | omega | exact ⟨by omega, by omega⟩)) gX7_stroke_X7_lays 2 kf_X7_lays ⟨rfl, rfl⟩ ⟨by decide, by decide⟩ dX7_stroke_62 rfl 0 rfl rfl rfl rfl ⟨Nat.zero_le _, Nat.zero_le _⟩ [0, 1, 2] rfl (by decide) [0] rfl (Nat.le_of_ble_eq_true rfl) [] [] rfl (by decide) (by decide) hA [0, 1, 2] (by decide) (fun (_ : Unit) => [(m0, .inr (6, [.ref ms, .ref mh, .int (iJ (rcK kp)), .ref mn, .int (iJ (sv)), .ref mp, .int (iJ (pn)), .int (iJ (rf)), .ref ml, .ref mm, .ref md, .ref mw, .ref mt, .int (iJ (tl)), .ref mb, .ref mi, .ref mg])), (ms, cJ cI 34 (uJ (uJ s 0 (s 0 + 1)) (2 + a) (1 + h9 + 3 * ac + 6 * o))), (mh, cJ cI 136 (rcH s h kp))]) (fun _ => rfl) ?_
    rintro ⟨⟩ hp_2
    refine r_goto E 69 dX7_stroke_65 (by decide) ?_
    exact r_retM E () hr dX7_stroke_69 rfl trivial rfl hQ
set_option maxHeartbeats 1000000 in
set_option maxRecDepth 100000 in
theorem c_X7_strokeCh (l : Launch) (D : va_G) (m0 : Nat) (ms : Nat) (mh : Nat) (mn : Nat) (mp : Nat) (ml : Nat) (mm : Nat) (md : Nat) (mw : Nat) (mt : Nat) (mb : Nat) (mi : Nat) (mg : Nat) (cI : ClassId) (kp : Int) (sv : Int) (pn : Int) (rf : Int) (tl : Int) (s : Int → Int) (h : Int → Int) (a : Int) (h9 : Int) (ac : Int) (o : Int) (hs0 : 0 ≤ s 0 ∧ s 0 ≤ 32) (hkp : 0 ≤ kp ∧ kp ≤ 4) (hk : (0 ≤ a ∧ a ≤ s 0) ∧ (0 ≤ h9 ∧ h9 ≤ 2) ∧ (0 ≤ o ∧ o ≤ 3)) (hac : ac = 0 ∨ ac = 1) (ha : 0 ≤ a ∧ a < s 0) : MM (S := Unit) l yX7_stroke wsX7_stroke rm_X7_stroke D vwCl [.ref m0, .int (iJ (a)), .int (iJ (h9)), .int (iJ (ac)), .int (iJ (o))] [(m0, .inr (6, [.ref ms, .ref mh, .int (iJ (kp)), .ref mn, .int (iJ (sv)), .ref mp, .int (iJ (pn)), .int (iJ (rf)), .ref ml, .ref mm, .ref md, .ref mw, .ref mt, .int (iJ (tl)), .ref mb, .ref mi, .ref mg])), (ms, cJ cI 34 (s)), (mh, cJ cI 136 (h))] [(cI, .int)] (fun (_ : Unit) => s 0) (fun (_ : Unit) => True) (fun (_ : Unit) => [(m0, .inr (6, [.ref ms, .ref mh, .int (iJ (rcK kp)), .ref mn, .int (iJ (sv)), .ref mp, .int (iJ (pn)), .int (iJ (rf)), .ref ml, .ref mm, .ref md, .ref mw, .ref mt, .int (iJ (tl)), .ref mb, .ref mi, .ref mg])), (ms, cJ cI 34 (uJ (uJ s 0 (s 0 + 0)) (2 + a) (1 + h9 + 3 * ac + 6 * o))), (mh, cJ cI 136 (rcH s h kp))]) := by
  refine MM.mk (cc := cX7_stroke) (maxL := 6) (ret := (some .int)) (by decide) rfl (Nat.le_of_ble_eq_true rfl) rfl RX7 rfl ?_
  intro p_ e_ s_ m_ ar_ bw_ mt_ cd_ B_ Q_ hA E hr hQ
  refine r_iload_n E 1 dX7_stroke_0 rfl rfl ?_
  refine r_iconst E 0 rfl dX7_stroke_1 ?_
  refine r_aload_n E 0 dX7_stroke_2 rfl rfl ?_
  refine r_get E 6 0 0 dX7_stroke_3 in_X7_stroke_X7 lk_X7_stroke_7 rfl rfl (by decide) rfl ?_
  refine r_iconst E 0 rfl dX7_stroke_6 ?_
  refine r_iald E (i := 0) 1 0 dX7_stroke_7 rfl rfl (by decide) ⟨by omega, by omega⟩ ?_
  refine r_sP E (st := []) (c_X7_in l D a 0 (s 0) (by first | assumption | omega | exact ⟨by omega, by omega⟩) (by first | assumption | omega | exact ⟨by omega, by omega⟩) (by first | assumption | omega | exact ⟨by omega, by omega⟩)) gX7_stroke_X7_in 3 kf_X7_in ⟨rfl, rfl⟩ ⟨by decide, by decide⟩ dX7_stroke_8 rfl rfl ⟨Nat.zero_le _, Nat.zero_le _⟩ [] rfl (by decide) [] rfl (Nat.le_of_ble_eq_true rfl) ?_
  refine r_ifeq_b E 37 dX7_stroke_11 (by decide) (fun c_11 => absurd c_11 (by omega)) (fun c_11 => ?_)
  refine r_iload_n E 2 dX7_stroke_14 rfl rfl ?_
  refine r_iconst E 0 rfl dX7_stroke_15 ?_
  refine r_iconst E 2 rfl dX7_stroke_16 ?_
  refine r_sP E (st := []) (c_X7_in l D h9 0 2 (by first | assumption | omega | exact ⟨by omega, by omega⟩) (by first | assumption | omega | exact ⟨by omega, by omega⟩) (by first | assumption | omega | exact ⟨by omega, by omega⟩)) gX7_stroke_X7_in 3 kf_X7_in ⟨rfl, rfl⟩ ⟨by decide, by decide⟩ dX7_stroke_17 rfl rfl ⟨Nat.zero_le _, Nat.zero_le _⟩ [] rfl (by decide) [] rfl (Nat.le_of_ble_eq_true rfl) ?_
  refine r_ifeq_b E 37 dX7_stroke_20 (by decide) (fun c_20 => absurd c_20 (by omega)) (fun c_20 => ?_)
  refine r_iload E 4 dX7_stroke_23 rfl ?_
  refine r_iconst E 0 rfl dX7_stroke_25 ?_
  refine r_iconst E 3 rfl dX7_stroke_26 ?_
  refine r_sP E (st := []) (c_X7_in l D o 0 3 (by first | assumption | omega | exact ⟨by omega, by omega⟩) (by first | assumption | omega | exact ⟨by omega, by omega⟩) (by first | assumption | omega | exact ⟨by omega, by omega⟩)) gX7_stroke_X7_in 3 kf_X7_in ⟨rfl, rfl⟩ ⟨by decide, by decide⟩ dX7_stroke_27 rfl rfl ⟨Nat.zero_le _, Nat.zero_le _⟩ [] rfl (by decide) [] rfl (Nat.le_of_ble_eq_true rfl) ?_
  refine r_ifeq_b E 37 dX7_stroke_30 (by decide) (fun c_30 => absurd c_30 (by omega)) (fun c_30 => ?_)
  refine r_iconst E 1 rfl dX7_stroke_33 ?_
  refine r_goto E 38 dX7_stroke_34 (by decide) ?_
  refine r_istore E [(5, .int (iJ (1))), (0, .ref m0), (1, .int (iJ (a))), (2, .int (iJ (h9))), (3, .int (iJ (ac))), (4, .int (iJ (o)))] dX7_stroke_38 (by decide) rfl ?_
  refine r_iload E 0 dX7_stroke_40 rfl ?_
  refine r_if_eq E 68 dX7_stroke_42 (by decide) ⟨by omega, by omega⟩ (fun c_42 => absurd c_42 (by omega)) (fun c_42 => ?_)
  refine r_aload_n E 1 dX7_stroke_45 rfl rfl ?_
  refine r_iload_n E 2 dX7_stroke_46 rfl rfl ?_
  refine r_iload_n E 3 dX7_stroke_47 rfl rfl ?_
  refine r_iload_n E 4 dX7_stroke_48 rfl rfl ?_
  refine r_if_eq E 56 dX7_stroke_49 (by decide) ⟨by omega, by omega⟩ (fun c_49 => ?_) (fun c_49 => ?_)
  · refine r_iconst E 0 rfl dX7_stroke_56 ?_
    refine r_iload E 5 dX7_stroke_57 rfl ?_
    refine r_sP E (st := [.int (iJ (a)), .ref m0]) (c_X7_code l D h9 0 o) gX7_stroke_X7_code 3 kf_X7_code ⟨rfl, rfl⟩ ⟨by decide, by decide⟩ dX7_stroke_59 rfl rfl ⟨Nat.zero_le _, Nat.zero_le _⟩ [] rfl (by decide) [] rfl (Nat.le_of_ble_eq_true rfl) ?_
    refine r_top (b := 1 + h9 + 3 * ac + 6 * o) (by omega) ?_
    refine r_vM E (st := []) (c_X7_laysCh l D m0 ms mh mn mp ml mm md mw mt mb mi mg cI kp sv pn rf tl s h a (1 + h9 + 3 * ac + 6 * o) (by first | assumption | omega | exact ⟨by omega, by omega⟩) (by first | assumption | omega | exact ⟨by omega, by omega⟩) (by first | assumption | omega | exact ⟨by omega, by omega⟩)) gX7_stroke_X7_lays 2 kf_X7_lays ⟨rfl, rfl⟩ ⟨by decide, by decide⟩ dX7_stroke_62 rfl 0 rfl rfl rfl rfl ⟨Nat.zero_le _, Nat.zero_le _⟩ [0, 1, 2] rfl (by decide) [0] rfl (Nat.le_of_ble_eq_true rfl) [] [] rfl (by decide) (by decide) hA [0, 1, 2] (by decide) (fun (_ : Unit) => [(m0, .inr (6, [.ref ms, .ref mh, .int (iJ (rcK kp)), .ref mn, .int (iJ (sv)), .ref mp, .int (iJ (pn)), .int (iJ (rf)), .ref ml, .ref mm, .ref md, .ref mw, .ref mt, .int (iJ (tl)), .ref mb, .ref mi, .ref mg])), (ms, cJ cI 34 (uJ (uJ s 0 (s 0 + 0)) (2 + a) (1 + h9 + 3 * ac + 6 * o))), (mh, cJ cI 136 (rcH s h kp))]) (fun _ => rfl) ?_
    rintro ⟨⟩ hp_1
    refine r_goto E 69 dX7_stroke_65 (by decide) ?_
    exact r_retM E () hr dX7_stroke_69 rfl trivial rfl hQ
  · refine r_iconst E 1 rfl dX7_stroke_52 ?_
    refine r_goto E 57 dX7_stroke_53 (by decide) ?_
    refine r_iload E 5 dX7_stroke_57 rfl ?_
    refine r_sP E (st := [.int (iJ (a)), .ref m0]) (c_X7_code l D h9 1 o) gX7_stroke_X7_code 3 kf_X7_code ⟨rfl, rfl⟩ ⟨by decide, by decide⟩ dX7_stroke_59 rfl rfl ⟨Nat.zero_le _, Nat.zero_le _⟩ [] rfl (by decide) [] rfl (Nat.le_of_ble_eq_true rfl) ?_
    refine r_top (b := 1 + h9 + 3 * ac + 6 * o) (by omega) ?_
    refine r_vM E (st := []) (c_X7_laysCh l D m0 ms mh mn mp ml mm md mw mt mb mi mg cI kp sv pn rf tl s h a (1 + h9 + 3 * ac + 6 * o) (by first | assumption | omega | exact ⟨by omega, by omega⟩) (by first | assumption | omega | exact ⟨by omega, by omega⟩) (by first | assumption | omega | exact ⟨by omega, by omega⟩)) gX7_stroke_X7_lays 2 kf_X7_lays ⟨rfl, rfl⟩ ⟨by decide, by decide⟩ dX7_stroke_62 rfl 0 rfl rfl rfl rfl ⟨Nat.zero_le _, Nat.zero_le _⟩ [0, 1, 2] rfl (by decide) [0] rfl (Nat.le_of_ble_eq_true rfl) [] [] rfl (by decide) (by decide) hA [0, 1, 2] (by decide) (fun (_ : Unit) => [(m0, .inr (6, [.ref ms, .ref mh, .int (iJ (rcK kp)), .ref mn, .int (iJ (sv)), .ref mp, .int (iJ (pn)), .int (iJ (rf)), .ref ml, .ref mm, .ref md, .ref mw, .ref mt, .int (iJ (tl)), .ref mb, .ref mi, .ref mg])), (ms, cJ cI 34 (uJ (uJ s 0 (s 0 + 0)) (2 + a) (1 + h9 + 3 * ac + 6 * o))), (mh, cJ cI 136 (rcH s h kp))]) (fun _ => rfl) ?_
    rintro ⟨⟩ hp_2
    refine r_goto E 69 dX7_stroke_65 (by decide) ?_
    exact r_retM E () hr dX7_stroke_69 rfl trivial rfl hQ
theorem kf_X7_rest : KF yX7_rest 1 wsX7_rest cX7_rest 2 (some .int) := ⟨rfl, by decide +kernel, by decide +kernel, by decide +kernel⟩
def rm_X7_rest : Room := { frames := 2, cells := 0, slots := 0, locals := 43 }
set_option maxRecDepth 20000 in
theorem in_X7_rest_X7 : ∀ w ∈ u_ws RX7 TX7 17, w ∈ wsX7_rest := by decide +kernel
set_option maxRecDepth 20000 in
theorem lk_X7_rest_7 : Cond.fieldLink RX7 7 (TX7 0).1 (TX7 0).2.1 (TX7 0).2.2.1 ∈ wsX7_rest := by decide +kernel
set_option maxHeartbeats 1000000 in
set_option maxRecDepth 100000 in
theorem c_X7_restBad (l : Launch) (D : va_G) (m0 : Nat) (ms : Nat) (mh : Nat) (mn : Nat) (mp : Nat) (ml : Nat) (mm : Nat) (md : Nat) (mw : Nat) (mt : Nat) (mb : Nat) (mi : Nat) (mg : Nat) (cI : ClassId) (kp : Int) (sv : Int) (pn : Int) (rf : Int) (tl : Int) (s : Int → Int) (a : Int) (hs0 : 0 ≤ s 0 ∧ s 0 ≤ 32) (ha : jb a) (hb : ¬ (0 ≤ a ∧ a ≤ s 0)) : MP l yX7_rest wsX7_rest rm_X7_rest D vwCl [.ref m0, .int (iJ (a))] [(m0, .inr (6, [.ref ms, .ref mh, .int (iJ (kp)), .ref mn, .int (iJ (sv)), .ref mp, .int (iJ (pn)), .int (iJ (rf)), .ref ml, .ref mm, .ref md, .ref mw, .ref mt, .int (iJ (tl)), .ref mb, .ref mi, .ref mg])), (ms, cJ cI 34 (s))] [(cI, .int)] (-1) := by
  refine MP.mk (cc := cX7_rest) (maxL := 2) (ret := (some .int)) (by decide) rfl (Nat.le_of_ble_eq_true rfl) rfl RX7 rfl ?_
  intro p_ e_ s_ m_ ar_ bw_ mt_ cd_ Q_ E hr hQ
  refine r_iload_n E 1 dX7_rest_0 rfl rfl ?_
  refine r_iconst E 0 rfl dX7_rest_1 ?_
  refine r_aload_n E 0 dX7_rest_2 rfl rfl ?_
  refine r_get E 6 0 0 dX7_rest_3 in_X7_rest_X7 lk_X7_rest_7 rfl rfl (by decide) rfl ?_
  refine r_iconst E 0 rfl dX7_rest_6 ?_
  refine r_iald E (i := 0) 1 0 dX7_rest_7 rfl rfl (by decide) ⟨by omega, by omega⟩ ?_
  refine r_sP E (st := []) (c_X7_in l D a 0 (s 0) (by first | assumption | omega | exact ⟨by omega, by omega⟩) (by first | assumption | omega | exact ⟨by omega, by omega⟩) (by first | assumption | omega | exact ⟨by omega, by omega⟩)) gX7_rest_X7_in 3 kf_X7_in ⟨rfl, rfl⟩ ⟨by decide, by decide⟩ dX7_rest_8 rfl rfl ⟨Nat.zero_le _, Nat.zero_le _⟩ [] rfl (by decide) [] rfl (Nat.le_of_ble_eq_true rfl) ?_
  refine r_ifeq_b E 23 dX7_rest_11 (by decide) (fun c_11 => ?_) (fun c_11 => absurd c_11 (by omega))
  refine r_iconst E (-1) rfl dX7_rest_23 ?_
  exact r_retP E hr dX7_rest_24 rfl hQ
set_option maxHeartbeats 1000000 in
set_option maxRecDepth 100000 in
theorem c_X7_restNo (l : Launch) (D : va_G) (m0 : Nat) (ms : Nat) (mh : Nat) (mn : Nat) (mp : Nat) (ml : Nat) (mm : Nat) (md : Nat) (mw : Nat) (mt : Nat) (mb : Nat) (mi : Nat) (mg : Nat) (cI : ClassId) (kp : Int) (sv : Int) (pn : Int) (rf : Int) (tl : Int) (s : Int → Int) (a : Int) (hs0 : 0 ≤ s 0 ∧ s 0 ≤ 32) (ha : a = 32 ∧ s 0 = 32) : MP l yX7_rest wsX7_rest rm_X7_rest D vwCl [.ref m0, .int (iJ (a))] [(m0, .inr (6, [.ref ms, .ref mh, .int (iJ (kp)), .ref mn, .int (iJ (sv)), .ref mp, .int (iJ (pn)), .int (iJ (rf)), .ref ml, .ref mm, .ref md, .ref mw, .ref mt, .int (iJ (tl)), .ref mb, .ref mi, .ref mg])), (ms, cJ cI 34 (s))] [(cI, .int)] (-3) := by
  refine MP.mk (cc := cX7_rest) (maxL := 2) (ret := (some .int)) (by decide) rfl (Nat.le_of_ble_eq_true rfl) rfl RX7 rfl ?_
  intro p_ e_ s_ m_ ar_ bw_ mt_ cd_ Q_ E hr hQ
  refine r_iload_n E 1 dX7_rest_0 rfl rfl ?_
  refine r_iconst E 0 rfl dX7_rest_1 ?_
  refine r_aload_n E 0 dX7_rest_2 rfl rfl ?_
  refine r_get E 6 0 0 dX7_rest_3 in_X7_rest_X7 lk_X7_rest_7 rfl rfl (by decide) rfl ?_
  refine r_iconst E 0 rfl dX7_rest_6 ?_
  refine r_iald E (i := 0) 1 0 dX7_rest_7 rfl rfl (by decide) ⟨by omega, by omega⟩ ?_
  refine r_sP E (st := []) (c_X7_in l D a 0 (s 0) (by first | assumption | omega | exact ⟨by omega, by omega⟩) (by first | assumption | omega | exact ⟨by omega, by omega⟩) (by first | assumption | omega | exact ⟨by omega, by omega⟩)) gX7_rest_X7_in 3 kf_X7_in ⟨rfl, rfl⟩ ⟨by decide, by decide⟩ dX7_rest_8 rfl rfl ⟨Nat.zero_le _, Nat.zero_le _⟩ [] rfl (by decide) [] rfl (Nat.le_of_ble_eq_true rfl) ?_
  refine r_ifeq_b E 23 dX7_rest_11 (by decide) (fun c_11 => absurd c_11 (by omega)) (fun c_11 => ?_)
  refine r_aload_n E 0 dX7_rest_14 rfl rfl ?_
  refine r_iload_n E 1 dX7_rest_15 rfl rfl ?_
  refine r_iconst E 0 rfl dX7_rest_16 ?_
  refine r_vP E (st := []) (c_X7_laysNo l D m0 ms mh mn mp ml mm md mw mt mb mi mg cI kp sv pn rf tl s a 0 (by first | assumption | omega | exact ⟨by omega, by omega⟩)) gX7_rest_X7_lays 2 kf_X7_lays ⟨rfl, rfl⟩ ⟨by decide, by decide⟩ dX7_rest_17 rfl 0 rfl rfl rfl rfl ⟨Nat.zero_le _, Nat.zero_le _⟩ [0, 1] rfl (by decide) [0] rfl (Nat.le_of_ble_eq_true rfl) ?_
  refine r_goto E 24 dX7_rest_20 (by decide) ?_
  exact r_retP E hr dX7_rest_24 rfl hQ
set_option maxHeartbeats 1000000 in
set_option maxRecDepth 100000 in
theorem c_X7_restAdd (l : Launch) (D : va_G) (m0 : Nat) (ms : Nat) (mh : Nat) (mn : Nat) (mp : Nat) (ml : Nat) (mm : Nat) (md : Nat) (mw : Nat) (mt : Nat) (mb : Nat) (mi : Nat) (mg : Nat) (cI : ClassId) (kp : Int) (sv : Int) (pn : Int) (rf : Int) (tl : Int) (s : Int → Int) (h : Int → Int) (a : Int) (hs0 : 0 ≤ s 0 ∧ s 0 ≤ 32) (hkp : 0 ≤ kp ∧ kp ≤ 4) (ha : a = s 0 ∧ s 0 < 32) : MM (S := Unit) l yX7_rest wsX7_rest rm_X7_rest D vwCl [.ref m0, .int (iJ (a))] [(m0, .inr (6, [.ref ms, .ref mh, .int (iJ (kp)), .ref mn, .int (iJ (sv)), .ref mp, .int (iJ (pn)), .int (iJ (rf)), .ref ml, .ref mm, .ref md, .ref mw, .ref mt, .int (iJ (tl)), .ref mb, .ref mi, .ref mg])), (ms, cJ cI 34 (s)), (mh, cJ cI 136 (h))] [(cI, .int)] (fun (_ : Unit) => s 0 + 1) (fun (_ : Unit) => True) (fun (_ : Unit) => [(m0, .inr (6, [.ref ms, .ref mh, .int (iJ (rcK kp)), .ref mn, .int (iJ (sv)), .ref mp, .int (iJ (pn)), .int (iJ (rf)), .ref ml, .ref mm, .ref md, .ref mw, .ref mt, .int (iJ (tl)), .ref mb, .ref mi, .ref mg])), (ms, cJ cI 34 (uJ (uJ s 0 (s 0 + 1)) (2 + a) 0)), (mh, cJ cI 136 (rcH s h kp))]) := by
  refine MM.mk (cc := cX7_rest) (maxL := 2) (ret := (some .int)) (by decide) rfl (Nat.le_of_ble_eq_true rfl) rfl RX7 rfl ?_
  intro p_ e_ s_ m_ ar_ bw_ mt_ cd_ B_ Q_ hA E hr hQ
  refine r_iload_n E 1 dX7_rest_0 rfl rfl ?_
  refine r_iconst E 0 rfl dX7_rest_1 ?_
  refine r_aload_n E 0 dX7_rest_2 rfl rfl ?_
  refine r_get E 6 0 0 dX7_rest_3 in_X7_rest_X7 lk_X7_rest_7 rfl rfl (by decide) rfl ?_
  refine r_iconst E 0 rfl dX7_rest_6 ?_
  refine r_iald E (i := 0) 1 0 dX7_rest_7 rfl rfl (by decide) ⟨by omega, by omega⟩ ?_
  refine r_sP E (st := []) (c_X7_in l D a 0 (s 0) (by first | assumption | omega | exact ⟨by omega, by omega⟩) (by first | assumption | omega | exact ⟨by omega, by omega⟩) (by first | assumption | omega | exact ⟨by omega, by omega⟩)) gX7_rest_X7_in 3 kf_X7_in ⟨rfl, rfl⟩ ⟨by decide, by decide⟩ dX7_rest_8 rfl rfl ⟨Nat.zero_le _, Nat.zero_le _⟩ [] rfl (by decide) [] rfl (Nat.le_of_ble_eq_true rfl) ?_
  refine r_ifeq_b E 23 dX7_rest_11 (by decide) (fun c_11 => absurd c_11 (by omega)) (fun c_11 => ?_)
  refine r_aload_n E 0 dX7_rest_14 rfl rfl ?_
  refine r_iload_n E 1 dX7_rest_15 rfl rfl ?_
  refine r_iconst E 0 rfl dX7_rest_16 ?_
  refine r_vM E (st := []) (c_X7_laysAdd l D m0 ms mh mn mp ml mm md mw mt mb mi mg cI kp sv pn rf tl s h a 0 (by first | assumption | omega | exact ⟨by omega, by omega⟩) (by first | assumption | omega | exact ⟨by omega, by omega⟩) (by first | assumption | omega | exact ⟨by omega, by omega⟩)) gX7_rest_X7_lays 2 kf_X7_lays ⟨rfl, rfl⟩ ⟨by decide, by decide⟩ dX7_rest_17 rfl 0 rfl rfl rfl rfl ⟨Nat.zero_le _, Nat.zero_le _⟩ [0, 1, 2] rfl (by decide) [0] rfl (Nat.le_of_ble_eq_true rfl) [] [] rfl (by decide) (by decide) hA [0, 1, 2] (by decide) (fun (_ : Unit) => [(m0, .inr (6, [.ref ms, .ref mh, .int (iJ (rcK kp)), .ref mn, .int (iJ (sv)), .ref mp, .int (iJ (pn)), .int (iJ (rf)), .ref ml, .ref mm, .ref md, .ref mw, .ref mt, .int (iJ (tl)), .ref mb, .ref mi, .ref mg])), (ms, cJ cI 34 (uJ (uJ s 0 (s 0 + 1)) (2 + a) 0)), (mh, cJ cI 136 (rcH s h kp))]) (fun _ => rfl) ?_
  rintro ⟨⟩ hp_1
  refine r_goto E 24 dX7_rest_20 (by decide) ?_
  exact r_retM E () hr dX7_rest_24 rfl trivial rfl hQ
set_option maxHeartbeats 1000000 in
set_option maxRecDepth 100000 in
theorem c_X7_restCh (l : Launch) (D : va_G) (m0 : Nat) (ms : Nat) (mh : Nat) (mn : Nat) (mp : Nat) (ml : Nat) (mm : Nat) (md : Nat) (mw : Nat) (mt : Nat) (mb : Nat) (mi : Nat) (mg : Nat) (cI : ClassId) (kp : Int) (sv : Int) (pn : Int) (rf : Int) (tl : Int) (s : Int → Int) (h : Int → Int) (a : Int) (hs0 : 0 ≤ s 0 ∧ s 0 ≤ 32) (hkp : 0 ≤ kp ∧ kp ≤ 4) (ha : 0 ≤ a ∧ a < s 0) : MM (S := Unit) l yX7_rest wsX7_rest rm_X7_rest D vwCl [.ref m0, .int (iJ (a))] [(m0, .inr (6, [.ref ms, .ref mh, .int (iJ (kp)), .ref mn, .int (iJ (sv)), .ref mp, .int (iJ (pn)), .int (iJ (rf)), .ref ml, .ref mm, .ref md, .ref mw, .ref mt, .int (iJ (tl)), .ref mb, .ref mi, .ref mg])), (ms, cJ cI 34 (s)), (mh, cJ cI 136 (h))] [(cI, .int)] (fun (_ : Unit) => s 0) (fun (_ : Unit) => True) (fun (_ : Unit) => [(m0, .inr (6, [.ref ms, .ref mh, .int (iJ (rcK kp)), .ref mn, .int (iJ (sv)), .ref mp, .int (iJ (pn)), .int (iJ (rf)), .ref ml, .ref mm, .ref md, .ref mw, .ref mt, .int (iJ (tl)), .ref mb, .ref mi, .ref mg])), (ms, cJ cI 34 (uJ (uJ s 0 (s 0 + 0)) (2 + a) 0)), (mh, cJ cI 136 (rcH s h kp))]) := by
  refine MM.mk (cc := cX7_rest) (maxL := 2) (ret := (some .int)) (by decide) rfl (Nat.le_of_ble_eq_true rfl) rfl RX7 rfl ?_
  intro p_ e_ s_ m_ ar_ bw_ mt_ cd_ B_ Q_ hA E hr hQ
  refine r_iload_n E 1 dX7_rest_0 rfl rfl ?_
  refine r_iconst E 0 rfl dX7_rest_1 ?_
  refine r_aload_n E 0 dX7_rest_2 rfl rfl ?_
  refine r_get E 6 0 0 dX7_rest_3 in_X7_rest_X7 lk_X7_rest_7 rfl rfl (by decide) rfl ?_
  refine r_iconst E 0 rfl dX7_rest_6 ?_
  refine r_iald E (i := 0) 1 0 dX7_rest_7 rfl rfl (by decide) ⟨by omega, by omega⟩ ?_
  refine r_sP E (st := []) (c_X7_in l D a 0 (s 0) (by first | assumption | omega | exact ⟨by omega, by omega⟩) (by first | assumption | omega | exact ⟨by omega, by omega⟩) (by first | assumption | omega | exact ⟨by omega, by omega⟩)) gX7_rest_X7_in 3 kf_X7_in ⟨rfl, rfl⟩ ⟨by decide, by decide⟩ dX7_rest_8 rfl rfl ⟨Nat.zero_le _, Nat.zero_le _⟩ [] rfl (by decide) [] rfl (Nat.le_of_ble_eq_true rfl) ?_
  refine r_ifeq_b E 23 dX7_rest_11 (by decide) (fun c_11 => absurd c_11 (by omega)) (fun c_11 => ?_)
  refine r_aload_n E 0 dX7_rest_14 rfl rfl ?_
  refine r_iload_n E 1 dX7_rest_15 rfl rfl ?_
  refine r_iconst E 0 rfl dX7_rest_16 ?_
  refine r_vM E (st := []) (c_X7_laysCh l D m0 ms mh mn mp ml mm md mw mt mb mi mg cI kp sv pn rf tl s h a 0 (by first | assumption | omega | exact ⟨by omega, by omega⟩) (by first | assumption | omega | exact ⟨by omega, by omega⟩) (by first | assumption | omega | exact ⟨by omega, by omega⟩)) gX7_rest_X7_lays 2 kf_X7_lays ⟨rfl, rfl⟩ ⟨by decide, by decide⟩ dX7_rest_17 rfl 0 rfl rfl rfl rfl ⟨Nat.zero_le _, Nat.zero_le _⟩ [0, 1, 2] rfl (by decide) [0] rfl (Nat.le_of_ble_eq_true rfl) [] [] rfl (by decide) (by decide) hA [0, 1, 2] (by decide) (fun (_ : Unit) => [(m0, .inr (6, [.ref ms, .ref mh, .int (iJ (rcK kp)), .ref mn, .int (iJ (sv)), .ref mp, .int (iJ (pn)), .int (iJ (rf)), .ref ml, .ref mm, .ref md, .ref mw, .ref mt, .int (iJ (tl)), .ref mb, .ref mi, .ref mg])), (ms, cJ cI 34 (uJ (uJ s 0 (s 0 + 0)) (2 + a) 0)), (mh, cJ cI 136 (rcH s h kp))]) (fun _ => rfl) ?_
  rintro ⟨⟩ hp_1
  refine r_goto E 24 dX7_rest_20 (by decide) ?_
  exact r_retM E () hr dX7_rest_24 rfl trivial rfl hQ
