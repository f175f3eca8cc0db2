theorem kf_X7_put : KF yX7_put 2 wsX7_put cX7_put 5 (some .int) := ⟨rfl, by decide +kernel, by decide +kernel, by decide +kernel⟩
def rm_X7_put : Room := { frames := 2, cells := 0, slots := 0, locals := 43 }
set_option maxRecDepth 20000 in
theorem in_X7_put_X7 : ∀ w ∈ u_ws RX7 TX7 17, w ∈ wsX7_put := by decide +kernel
set_option maxRecDepth 20000 in
theorem lk_X7_put_7 : Cond.fieldLink RX7 7 (TX7 0).1 (TX7 0).2.1 (TX7 0).2.2.1 ∈ wsX7_put := by decide +kernel
set_option maxHeartbeats 1000000 in
set_option maxRecDepth 100000 in
theorem c_X7_putBad (l : Launch) (D : va_G) (m0 : Nat) (ms : Nat) (mh : Nat) (mn : Nat) (mp : Nat) (ml : Nat) (mm : Nat) (md : Nat) (mw : Nat) (mt : Nat) (mb : Nat) (mi : Nat) (mg : Nat) (cI : ClassId) (kp : Int) (sv : Int) (pn : Int) (rf : Int) (tl : Int) (s : Int → Int) (a : Int) (b : Int) (hs0 : 0 ≤ s 0 ∧ s 0 ≤ 32) (ha : jb a) (hb : jb b) (hx : ¬ ((0 ≤ a ∧ a ≤ s 0) ∧ (0 ≤ b ∧ b < s 0))) : MP l yX7_put wsX7_put rm_X7_put D vwCl [.ref m0, .int (iJ (a)), .int (iJ (b))] [(m0, .inr (6, [.ref ms, .ref mh, .int (iJ (kp)), .ref mn, .int (iJ (sv)), .ref mp, .int (iJ (pn)), .int (iJ (rf)), .ref ml, .ref mm, .ref md, .ref mw, .ref mt, .int (iJ (tl)), .ref mb, .ref mi, .ref mg])), (ms, cJ cI 34 (s))] [(cI, .int)] (-1) := by
  refine MP.mk (cc := cX7_put) (maxL := 5) (ret := (some .int)) (by decide) rfl (Nat.le_of_ble_eq_true rfl) rfl RX7 rfl ?_
  intro p_ e_ s_ m_ ar_ bw_ mt_ cd_ Q_ E hr hQ
  refine r_iload_n E 1 dX7_put_0 rfl rfl ?_
  refine r_iconst E 0 rfl dX7_put_1 ?_
  refine r_aload_n E 0 dX7_put_2 rfl rfl ?_
  refine r_get E 6 0 0 dX7_put_3 in_X7_put_X7 lk_X7_put_7 rfl rfl (by decide) rfl ?_
  refine r_iconst E 0 rfl dX7_put_6 ?_
  refine r_iald E (i := 0) 1 0 dX7_put_7 rfl rfl (by decide) ⟨by omega, by omega⟩ ?_
  refine r_sP E (st := []) (c_X7_in l D a 0 (s 0) (by first | assumption | omega | exact ⟨by omega, by omega⟩) (by first | assumption | omega | exact ⟨by omega, by omega⟩) (by first | assumption | omega | exact ⟨by omega, by omega⟩)) gX7_put_X7_in 3 kf_X7_in ⟨rfl, rfl⟩ ⟨by decide, by decide⟩ dX7_put_8 rfl rfl ⟨Nat.zero_le _, Nat.zero_le _⟩ [] rfl (by decide) [] rfl (Nat.le_of_ble_eq_true rfl) ?_
  refine r_ifeq_b E 22 dX7_put_11 (by decide) (fun c_11 => ?_) (fun c_11 => ?_)
  · refine r_iconst E (-1) rfl dX7_put_22 ?_
    exact r_retP E hr dX7_put_23 rfl hQ
  · refine r_aload_n E 0 dX7_put_14 rfl rfl ?_
    refine r_iload_n E 2 dX7_put_15 rfl rfl ?_
    refine r_vP E (st := []) (c_X7_isStep l D m0 ms mh mn mp ml mm md mw mt mb mi mg cI kp sv pn rf tl s b (by first | assumption | omega | exact ⟨by omega, by omega⟩) (by first | assumption | omega | exact ⟨by omega, by omega⟩)) gX7_put_X7_isStep 1 kf_X7_isStep ⟨rfl, rfl⟩ ⟨by decide, by decide⟩ dX7_put_16 rfl 0 rfl rfl rfl rfl ⟨Nat.zero_le _, Nat.zero_le _⟩ [0, 1] rfl (by decide) [0] rfl (Nat.le_of_ble_eq_true rfl) ?_
    refine r_ifne_b E 24 dX7_put_19 (by decide) (fun c_19 => absurd c_19 (by omega)) (fun c_19 => ?_)
    refine r_iconst E (-1) rfl dX7_put_22 ?_
    exact r_retP E hr dX7_put_23 rfl hQ
set_option maxHeartbeats 1000000 in
set_option maxRecDepth 100000 in
theorem c_X7_putNo (l : Launch) (D : va_G) (m0 : Nat) (ms : Nat) (mh : Nat) (mn : Nat) (mp : Nat) (ml : Nat) (mm : Nat) (md : Nat) (mw : Nat) (mt : Nat) (mb : Nat) (mi : Nat) (mg : Nat) (cI : ClassId) (kp : Int) (sv : Int) (pn : Int) (rf : Int) (tl : Int) (s : Int → Int) (a : Int) (b : Int) (hs0 : 0 ≤ s 0 ∧ s 0 ≤ 32) (hx : (0 ≤ a ∧ a ≤ s 0) ∧ (0 ≤ b ∧ b < s 0)) (hf : s 0 = 32) : MP l yX7_put wsX7_put rm_X7_put D vwCl [.ref m0, .int (iJ (a)), .int (iJ (b))] [(m0, .inr (6, [.ref ms, .ref mh, .int (iJ (kp)), .ref mn, .int (iJ (sv)), .ref mp, .int (iJ (pn)), .int (iJ (rf)), .ref ml, .ref mm, .ref md, .ref mw, .ref mt, .int (iJ (tl)), .ref mb, .ref mi, .ref mg])), (ms, cJ cI 34 (s))] [(cI, .int)] (-3) := by
  refine MP.mk (cc := cX7_put) (maxL := 5) (ret := (some .int)) (by decide) rfl (Nat.le_of_ble_eq_true rfl) rfl RX7 rfl ?_
  intro p_ e_ s_ m_ ar_ bw_ mt_ cd_ Q_ E hr hQ
  refine r_iload_n E 1 dX7_put_0 rfl rfl ?_
  refine r_iconst E 0 rfl dX7_put_1 ?_
  refine r_aload_n E 0 dX7_put_2 rfl rfl ?_
  refine r_get E 6 0 0 dX7_put_3 in_X7_put_X7 lk_X7_put_7 rfl rfl (by decide) rfl ?_
  refine r_iconst E 0 rfl dX7_put_6 ?_
  refine r_iald E (i := 0) 1 0 dX7_put_7 rfl rfl (by decide) ⟨by omega, by omega⟩ ?_
  refine r_sP E (st := []) (c_X7_in l D a 0 (s 0) (by first | assumption | omega | exact ⟨by omega, by omega⟩) (by first | assumption | omega | exact ⟨by omega, by omega⟩) (by first | assumption | omega | exact ⟨by omega, by omega⟩)) gX7_put_X7_in 3 kf_X7_in ⟨rfl, rfl⟩ ⟨by decide, by decide⟩ dX7_put_8 rfl rfl ⟨Nat.zero_le _, Nat.zero_le _⟩ [] rfl (by decide) [] rfl (Nat.le_of_ble_eq_true rfl) ?_
  refine r_ifeq_b E 22 dX7_put_11 (by decide) (fun c_11 => absurd c_11 (by omega)) (fun c_11 => ?_)
  refine r_aload_n E 0 dX7_put_14 rfl rfl ?_
  refine r_iload_n E 2 dX7_put_15 rfl rfl ?_
  refine r_vP E (st := []) (c_X7_isStep l D m0 ms mh mn mp ml mm md mw mt mb mi mg cI kp sv pn rf tl s b (by first | assumption | omega | exact ⟨by omega, by omega⟩) (by first | assumption | omega | exact ⟨by omega, by omega⟩)) gX7_put_X7_isStep 1 kf_X7_isStep ⟨rfl, rfl⟩ ⟨by decide, by decide⟩ dX7_put_16 rfl 0 rfl rfl rfl rfl ⟨Nat.zero_le _, Nat.zero_le _⟩ [0, 1] rfl (by decide) [0] rfl (Nat.le_of_ble_eq_true rfl) ?_
  refine r_ifne_b E 24 dX7_put_19 (by decide) (fun c_19 => ?_) (fun c_19 => absurd c_19 (by omega))
  refine r_aload_n E 0 dX7_put_24 rfl rfl ?_
  refine r_get E 6 0 0 dX7_put_25 in_X7_put_X7 lk_X7_put_7 rfl rfl (by decide) rfl ?_
  refine r_iconst E 0 rfl dX7_put_28 ?_
  refine r_iald E (i := 0) 1 0 dX7_put_29 rfl rfl (by decide) ⟨by omega, by omega⟩ ?_
  refine r_bipush E 32 rfl dX7_put_30 ?_
  refine r_icmp_ne E 38 dX7_put_32 (by decide) ⟨by omega, by omega⟩ ⟨by omega, by omega⟩ (fun c_32 => absurd c_32 (by omega)) (fun c_32 => ?_)
  refine r_bipush E (-3) rfl dX7_put_35 ?_
  exact r_retP E hr dX7_put_37 rfl hQ
set_option maxHeartbeats 1000000 in
set_option maxRecDepth 100000 in
theorem c_X7_put (l : Launch) (D : va_G) (m0 : Nat) (ms : Nat) (mh : Nat) (mn : Nat) (mp : Nat) (ml : Nat) (mm : Nat) (md : Nat) (mw : Nat) (mt : Nat) (mb : Nat) (mi : Nat) (mg : Nat) (cI : ClassId) (kp : Int) (sv : Int) (pn : Int) (rf : Int) (tl : Int) (s : Int → Int) (h : Int → Int) (a : Int) (b : Int) (hs0 : 0 ≤ s 0 ∧ s 0 ≤ 32) (hkp : 0 ≤ kp ∧ kp ≤ 4) (hx : (0 ≤ a ∧ a ≤ s 0) ∧ (0 ≤ b ∧ b < s 0)) (hf : s 0 < 32) : MM (S := Unit) l yX7_put wsX7_put rm_X7_put D vwCl [.ref m0, .int (iJ (a)), .int (iJ (b))] [(m0, .inr (6, [.ref ms, .ref mh, .int (iJ (kp)), .ref mn, .int (iJ (sv)), .ref mp, .int (iJ (pn)), .int (iJ (rf)), .ref ml, .ref mm, .ref md, .ref mw, .ref mt, .int (iJ (tl)), .ref mb, .ref mi, .ref mg])), (ms, cJ cI 34 (s)), (mh, cJ cI 136 (h))] [(cI, .int)] (fun (_ : Unit) => s 0 + 1) (fun (_ : Unit) => True) (fun (_ : Unit) => [(m0, .inr (6, [.ref ms, .ref mh, .int (iJ (rcK kp)), .ref mn, .int (iJ (sv)), .ref mp, .int (iJ (pn)), .int (iJ (rf)), .ref ml, .ref mm, .ref md, .ref mw, .ref mt, .int (iJ (tl)), .ref mb, .ref mi, .ref mg])), (ms, cJ cI 34 (mpI s a (s (2 + b)))), (mh, cJ cI 136 (rcH s h kp))]) := by
  refine MM.mk (cc := cX7_put) (maxL := 5) (ret := (some .int)) (by decide) rfl (Nat.le_of_ble_eq_true rfl) rfl RX7 rfl ?_
  intro p_ e_ s_ m_ ar_ bw_ mt_ cd_ B_ Q_ hA E hr hQ
  refine r_iload_n E 1 dX7_put_0 rfl rfl ?_
  refine r_iconst E 0 rfl dX7_put_1 ?_
  refine r_aload_n E 0 dX7_put_2 rfl rfl ?_
  refine r_get E 6 0 0 dX7_put_3 in_X7_put_X7 lk_X7_put_7 rfl rfl (by decide) rfl ?_
  refine r_iconst E 0 rfl dX7_put_6 ?_
  refine r_iald E (i := 0) 1 0 dX7_put_7 rfl rfl (by decide) ⟨by omega, by omega⟩ ?_
  refine r_sP E (st := []) (c_X7_in l D a 0 (s 0) (by first | assumption | omega | exact ⟨by omega, by omega⟩) (by first | assumption | omega | exact ⟨by omega, by omega⟩) (by first | assumption | omega | exact ⟨by omega, by omega⟩)) gX7_put_X7_in 3 kf_X7_in ⟨rfl, rfl⟩ ⟨by decide, by decide⟩ dX7_put_8 rfl rfl ⟨Nat.zero_le _, Nat.zero_le _⟩ [] rfl (by decide) [] rfl (Nat.le_of_ble_eq_true rfl) ?_
  refine r_ifeq_b E 22 dX7_put_11 (by decide) (fun c_11 => absurd c_11 (by omega)) (fun c_11 => ?_)
  refine r_aload_n E 0 dX7_put_14 rfl rfl ?_
  refine r_iload_n E 2 dX7_put_15 rfl rfl ?_
  refine r_vP E (st := []) (c_X7_isStep l D m0 ms mh mn mp ml mm md mw mt mb mi mg cI kp sv pn rf tl s b (by first | assumption | omega | exact ⟨by omega, by omega⟩) (by first | assumption | omega | exact ⟨by omega, by omega⟩)) gX7_put_X7_isStep 1 kf_X7_isStep ⟨rfl, rfl⟩ ⟨by decide, by decide⟩ dX7_put_16 rfl 0 rfl rfl rfl rfl ⟨Nat.zero_le _, Nat.zero_le _⟩ [0, 1] rfl (by decide) [0] rfl (Nat.le_of_ble_eq_true rfl) ?_
  refine r_ifne_b E 24 dX7_put_19 (by decide) (fun c_19 => ?_) (fun c_19 => absurd c_19 (by omega))
  refine r_aload_n E 0 dX7_put_24 rfl rfl ?_
  refine r_get E 6 0 0 dX7_put_25 in_X7_put_X7 lk_X7_put_7 rfl rfl (by decide) rfl ?_
  refine r_iconst E 0 rfl dX7_put_28 ?_
  refine r_iald E (i := 0) 1 0 dX7_put_29 rfl rfl (by decide) ⟨by omega, by omega⟩ ?_
  refine r_bipush E 32 rfl dX7_put_30 ?_
  refine r_icmp_ne E 38 dX7_put_32 (by decide) ⟨by omega, by omega⟩ ⟨by omega, by omega⟩ (fun c_32 => ?_) (fun c_32 => absurd c_32 (by omega))
  refine r_aload_n E 0 dX7_put_38 rfl rfl ?_
  refine r_vV E (st := []) (c_X7_record l D m0 ms mh mn mp ml mm md mw mt mb mi mg cI kp sv pn rf tl s h (by first | assumption | omega | exact ⟨by omega, by omega⟩)) gX7_put_X7_record 0 kf_X7_record ⟨rfl, rfl⟩ ⟨by decide, by decide⟩ dX7_put_39 rfl 0 rfl rfl rfl rfl ⟨Nat.zero_le _, Nat.zero_le _⟩ [0, 1, 2] rfl (by decide) [0] rfl (Nat.le_of_ble_eq_true rfl) [] [] rfl (by decide) (by decide) hA [0, 1, 2] (by decide) (fun (_ : Unit) => [(m0, .inr (6, [.ref ms, .ref mh, .int (iJ (rcK kp)), .ref mn, .int (iJ (sv)), .ref mp, .int (iJ (pn)), .int (iJ (rf)), .ref ml, .ref mm, .ref md, .ref mw, .ref mt, .int (iJ (tl)), .ref mb, .ref mi, .ref mg])), (ms, cJ cI 34 (s)), (mh, cJ cI 136 (rcH s h kp))]) (fun _ => rfl) ?_
  rintro ⟨⟩ hp_1
  refine r_aload_n E 0 dX7_put_42 rfl rfl ?_
  refine r_iload_n E 2 dX7_put_43 rfl rfl ?_
  refine r_vP E (st := []) (c_X7_at l D m0 ms mh mn mp ml mm md mw mt mb mi mg cI (rcK kp) sv pn rf tl s b (by first | assumption | omega | exact ⟨by omega, by omega⟩)) gX7_put_X7_at 1 kf_X7_at ⟨rfl, rfl⟩ ⟨by decide, by decide⟩ dX7_put_44 rfl 0 rfl rfl rfl rfl ⟨Nat.zero_le _, Nat.zero_le _⟩ [0, 1] rfl (by decide) [0] rfl (Nat.le_of_ble_eq_true rfl) ?_
  refine r_istore_n E [(3, .int (iJ (s (2 + b)))), (0, .ref m0), (1, .int (iJ (a))), (2, .int (iJ (b)))] dX7_put_47 rfl (by decide) rfl ?_
  refine r_aload_n E 1 dX7_put_48 rfl rfl ?_
  refine r_get E 6 0 0 dX7_put_49 in_X7_put_X7 lk_X7_put_7 rfl rfl (by decide) rfl ?_
  refine r_iconst E 0 rfl dX7_put_52 ?_
  refine r_iald E (i := 0) 1 0 dX7_put_53 rfl rfl (by decide) ⟨by omega, by omega⟩ ?_
  refine r_istore E [(4, .int (iJ (s 0))), (3, .int (iJ (s (2 + b)))), (0, .ref m0), (1, .int (iJ (a))), (2, .int (iJ (b)))] dX7_put_54 (by decide) rfl ?_
  have loop_56 : ∀ (N : Nat) (k : Int) (G : Int → Int), (a ≤ k ∧ k ≤ s 0) → (∀ i : Int, G i = if 2 + k < i ∧ i ≤ 2 + s 0 then s (i - 1) else s i) → (k - a).toNat < N → GG p_ l e_ rm_X7_put s_ m_ ar_ bw_ mt_ cd_ D vwCl B_ B_ s_.heap 5 0 0 Q_ [(m0, .inr (6, [.ref ms, .ref mh, .int (iJ (rcK kp)), .ref mn, .int (iJ (sv)), .ref mp, .int (iJ (pn)), .int (iJ (rf)), .ref ml, .ref mm, .ref md, .ref mw, .ref mt, .int (iJ (tl)), .ref mb, .ref mi, .ref mg])), (ms, cJ cI 34 (G)), (mh, cJ cI 136 (rcH s h kp))] [(0, .ref m0), (1, .int (iJ (a))), (2, .int (iJ (b))), (3, .int (iJ (s (2 + b)))), (4, .int (iJ (k)))] 56 [] := by
    intro N; induction N with
    | zero => intro k G hk hG hN; exact absurd hN (Nat.not_lt_zero _)
    | succ N ih56 =>
      intro k G hk hG hN
      refine r_iload E 4 dX7_put_56 rfl ?_
      refine r_iload_n E 1 dX7_put_58 rfl rfl ?_
      refine r_icmp_le E 88 dX7_put_59 (by decide) ⟨by omega, by omega⟩ ⟨by omega, by omega⟩ (fun c_59 => ?_) (fun c_59 => ?_)
      · have f_0 : G 0 = s 0 := by rw [hG, if_neg (by omega)]
        refine r_aload_n E 0 dX7_put_88 rfl rfl ?_
        refine r_get E 6 0 0 dX7_put_89 in_X7_put_X7 lk_X7_put_7 rfl rfl (by decide) rfl ?_
        refine r_iconst E 2 rfl dX7_put_92 ?_
        refine r_iload_n E 1 dX7_put_93 rfl rfl ?_
        refine r_iadd E dX7_put_94 ?_
        refine r_iload_n E 3 dX7_put_95 rfl rfl ?_
        refine r_iast E (i := (2 + a)) 1 0 dX7_put_96 rfl rfl (by decide) ⟨by omega, by omega⟩ [(m0, .inr (6, [.ref ms, .ref mh, .int (iJ (rcK kp)), .ref mn, .int (iJ (sv)), .ref mp, .int (iJ (pn)), .int (iJ (rf)), .ref ml, .ref mm, .ref md, .ref mw, .ref mt, .int (iJ (tl)), .ref mb, .ref mi, .ref mg])), (ms, cJ cI 34 (uJ G (2 + a) (s (2 + b)))), (mh, cJ cI 136 (rcH s h kp))] rfl ?_
        refine r_aload_n E 0 dX7_put_97 rfl rfl ?_
        refine r_get E 6 0 0 dX7_put_98 in_X7_put_X7 lk_X7_put_7 rfl rfl (by decide) rfl ?_
        refine r_iconst E 0 rfl dX7_put_101 ?_
        refine r_dup2 E dX7_put_102 rfl rfl ?_
        refine r_iald E (i := 0) 1 0 dX7_put_103 rfl rfl (by decide) ⟨by omega, by omega⟩ ?_
        refine r_iconst E 1 rfl dX7_put_104 ?_
        refine r_iadd E dX7_put_105 ?_
        refine r_iast E (i := 0) 1 0 dX7_put_106 rfl rfl (by decide) ⟨by omega, by omega⟩ [(m0, .inr (6, [.ref ms, .ref mh, .int (iJ (rcK kp)), .ref mn, .int (iJ (sv)), .ref mp, .int (iJ (pn)), .int (iJ (rf)), .ref ml, .ref mm, .ref md, .ref mw, .ref mt, .int (iJ (tl)), .ref mb, .ref mi, .ref mg])), (ms, cJ cI 34 (uJ (uJ G (2 + a) (s (2 + b))) 0 (((uJ G (2 + a) (s (2 + b))) 0) + 1))), (mh, cJ cI 136 (rcH s h kp))] rfl ?_
        refine r_aload_n E 0 dX7_put_107 rfl rfl ?_
        refine r_get E 6 0 0 dX7_put_108 in_X7_put_X7 lk_X7_put_7 rfl rfl (by decide) rfl ?_
        refine r_iconst E 0 rfl dX7_put_111 ?_
        refine r_iald E (i := 0) 1 0 dX7_put_112 rfl rfl (by decide) ⟨by omega, by omega⟩ ?_
        exact r_retM E () hr dX7_put_113 (by rw [uJ_s, uJ_n (by omega), f_0]) trivial (by
              have ek : k = a := by omega
              have e : uJ (uJ G (2 + a) (s (2 + b))) 0 (uJ G (2 + a) (s (2 + b)) 0 + 1) = mpI s a (s (2 + b)) := by
                funext i; unfold mpI; by_cases z : i = 0
                · subst z; rw [uJ_s, uJ_n (by omega), f_0, if_pos rfl]
                · rw [uJ_n z, if_neg z]; by_cases y : i = 2 + a
                  · subst y; rw [uJ_s, if_pos rfl]
                  · rw [uJ_n y, if_neg y, hG, ek]
              rw [e]) hQ
      · refine r_aload_n E 0 dX7_put_62 rfl rfl ?_
        refine r_get E 6 0 0 dX7_put_63 in_X7_put_X7 lk_X7_put_7 rfl rfl (by decide) rfl ?_
        refine r_iconst E 2 rfl dX7_put_66 ?_
        refine r_iload E 4 dX7_put_67 rfl ?_
        refine r_iadd E dX7_put_69 ?_
        refine r_aload_n E 0 dX7_put_70 rfl rfl ?_
        refine r_get E 6 0 0 dX7_put_71 in_X7_put_X7 lk_X7_put_7 rfl rfl (by decide) rfl ?_
        refine r_iconst E 2 rfl dX7_put_74 ?_
        refine r_iload E 4 dX7_put_75 rfl ?_
        refine r_iadd E dX7_put_77 ?_
        refine r_iconst E 1 rfl dX7_put_78 ?_
        refine r_isub E dX7_put_79 ?_
        refine r_iald E (i := ((2 + k) - 1)) 1 0 dX7_put_80 rfl rfl (by decide) ⟨by omega, by omega⟩ ?_
        refine r_iast E (i := (2 + k)) 1 0 dX7_put_81 rfl rfl (by decide) ⟨by omega, by omega⟩ [(m0, .inr (6, [.ref ms, .ref mh, .int (iJ (rcK kp)), .ref mn, .int (iJ (sv)), .ref mp, .int (iJ (pn)), .int (iJ (rf)), .ref ml, .ref mm, .ref md, .ref mw, .ref mt, .int (iJ (tl)), .ref mb, .ref mi, .ref mg])), (ms, cJ cI 34 (uJ G (2 + k) (G ((2 + k) - 1)))), (mh, cJ cI 136 (rcH s h kp))] rfl ?_
        refine r_iinc E (k := 4) [(4, .int (iJ ((k + (-1))))), (0, .ref m0), (1, .int (iJ (a))), (2, .int (iJ (b))), (3, .int (iJ (s (2 + b))))] dX7_put_82 rfl (by decide) rfl ?_
        refine r_goto E 56 dX7_put_85 (by decide) ?_
        refine r_lv [1, 2, 3, 4, 0] [(0, .ref m0), (1, .int (iJ (a))), (2, .int (iJ (b))), (3, .int (iJ (s (2 + b)))), (4, .int (iJ ((k + (-1)))))] rfl ?_
        exact ih56 (k + (-1)) (uJ G (2 + k) (G ((2 + k) - 1))) ⟨by omega, by omega⟩ (fun i => by
              by_cases q0 : i = 2 + k
              · subst q0; rw [uJ_s, if_pos (by omega), hG, if_neg (by omega)]
              · rw [uJ_n q0, hG]; by_cases q2 : 2 + k < i ∧ i ≤ 2 + s 0
                · rw [if_pos q2, if_pos (by omega)]
                · rw [if_neg q2, if_neg (by omega)]) (by omega)
  refine r_lv [2, 3, 4, 1, 0] [(0, .ref m0), (1, .int (iJ (a))), (2, .int (iJ (b))), (3, .int (iJ (s (2 + b)))), (4, .int (iJ (s 0)))] rfl ?_
  exact loop_56 _ (s 0) s ⟨by omega, by omega⟩ (fun i => by rw [if_neg (by omega)]) (Nat.lt_succ_self _)
theorem kf_X7_cut : KF yX7_cut 2 wsX7_cut cX7_cut 5 (some .int) := ⟨rfl, by decide +kernel, by decide +kernel, by decide +kernel⟩
def rm_X7_cut : Room := { frames := 2, cells := 0, slots := 0, locals := 43 }
set_option maxHeartbeats 1000000 in
set_option maxRecDepth 100000 in
theorem c_X7_cutBad (l : Launch) (D : va_G) (m0 : Nat) (ms : Nat) (mh : Nat) (mn : Nat) (mp : Nat) (ml : Nat) (mm : Nat) (md : Nat) (mw : Nat) (mt : Nat) (mb : Nat) (mi : Nat) (mg : Nat) (cI : ClassId) (kp : Int) (sv : Int) (pn : Int) (rf : Int) (tl : Int) (s : Int → Int) (a : Int) (b : Int) (hs0 : 0 ≤ s 0 ∧ s 0 ≤ 32) (ha : jb a) (hb : jb b) (hx : ¬ ((0 ≤ a ∧ a < s 0) ∧ (0 ≤ b ∧ b < s 0) ∧ a ≤ b)) : MP l yX7_cut wsX7_cut rm_X7_cut D vwCl [.ref m0, .int (iJ (a)), .int (iJ (b))] [(m0, .inr (6, [.ref ms, .ref mh, .int (iJ (kp)), .ref mn, .int (iJ (sv)), .ref mp, .int (iJ (pn)), .int (iJ (rf)), .ref ml, .ref mm, .ref md, .ref mw, .ref mt, .int (iJ (tl)), .ref mb, .ref mi, .ref mg])), (ms, cJ cI 34 (s))] [(cI, .int)] (-1) := by
  refine MP.mk (cc := cX7_cut) (maxL := 5) (ret := (some .int)) (by decide) rfl (Nat.le_of_ble_eq_true rfl) rfl RX7 rfl ?_
  intro p_ e_ s_ m_ ar_ bw_ mt_ cd_ Q_ E hr hQ
  refine r_aload_n E 0 dX7_cut_0 rfl rfl ?_
  refine r_iload_n E 1 dX7_cut_1 rfl rfl ?_
  refine r_vP E (st := []) (c_X7_isStep l D m0 ms mh mn mp ml mm md mw mt mb mi mg cI kp sv pn rf tl s a (by first | assumption | omega | exact ⟨by omega, by omega⟩) (by first | assumption | omega | exact ⟨by omega, by omega⟩)) gX7_cut_X7_isStep 1 kf_X7_isStep ⟨rfl, rfl⟩ ⟨by decide, by decide⟩ dX7_cut_2 rfl 0 rfl rfl rfl rfl ⟨Nat.zero_le _, Nat.zero_le _⟩ [0, 1] rfl (by decide) [0] rfl (Nat.le_of_ble_eq_true rfl) ?_
  refine r_ifeq_b E 21 dX7_cut_5 (by decide) (fun c_5 => ?_) (fun c_5 => ?_)
  · refine r_iconst E (-1) rfl dX7_cut_21 ?_
    exact r_retP E hr dX7_cut_22 rfl hQ
  · refine r_aload_n E 0 dX7_cut_8 rfl rfl ?_
    refine r_iload_n E 2 dX7_cut_9 rfl rfl ?_
    refine r_vP E (st := []) (c_X7_isStep l D m0 ms mh mn mp ml mm md mw mt mb mi mg cI kp sv pn rf tl s b (by first | assumption | omega | exact ⟨by omega, by omega⟩) (by first | assumption | omega | exact ⟨by omega, by omega⟩)) gX7_cut_X7_isStep 1 kf_X7_isStep ⟨rfl, rfl⟩ ⟨by decide, by decide⟩ dX7_cut_10 rfl 0 rfl rfl rfl rfl ⟨Nat.zero_le _, Nat.zero_le _⟩ [0, 1] rfl (by decide) [0] rfl (Nat.le_of_ble_eq_true rfl) ?_
    refine r_ifeq_b E 21 dX7_cut_13 (by decide) (fun c_13 => ?_) (fun c_13 => ?_)
    · refine r_iconst E (-1) rfl dX7_cut_21 ?_
      exact r_retP E hr dX7_cut_22 rfl hQ
    · refine r_iload_n E 2 dX7_cut_16 rfl rfl ?_
      refine r_iload_n E 1 dX7_cut_17 rfl rfl ?_
      refine r_icmp_ge E 23 dX7_cut_18 (by decide) hb ha (fun c_18 => absurd c_18 (by omega)) (fun c_18 => ?_)
      refine r_iconst E (-1) rfl dX7_cut_21 ?_
      exact r_retP E hr dX7_cut_22 rfl hQ
set_option maxRecDepth 20000 in
theorem in_X7_cut_X7 : ∀ w ∈ u_ws RX7 TX7 17, w ∈ wsX7_cut := by decide +kernel
set_option maxRecDepth 20000 in
theorem lk_X7_cut_7 : Cond.fieldLink RX7 7 (TX7 0).1 (TX7 0).2.1 (TX7 0).2.2.1 ∈ wsX7_cut := by decide +kernel
set_option maxHeartbeats 1000000 in
set_option maxRecDepth 100000 in
theorem c_X7_cut (l : Launch) (D : va_G) (m0 : Nat) (ms : Nat) (mh : Nat) (mn : Nat) (mp : Nat) (ml : Nat) (mm : Nat) (md : Nat) (mw : Nat) (mt : Nat) (mb : Nat) (mi : Nat) (mg : Nat) (cI : ClassId) (kp : Int) (sv : Int) (pn : Int) (rf : Int) (tl : Int) (s : Int → Int) (h : Int → Int) (a : Int) (b : Int) (hs0 : 0 ≤ s 0 ∧ s 0 ≤ 32) (hkp : 0 ≤ kp ∧ kp ≤ 4) (hx : 0 ≤ a ∧ a ≤ b ∧ b < s 0) : MM (S := Unit) l yX7_cut wsX7_cut rm_X7_cut D vwCl [.ref m0, .int (iJ (a)), .int (iJ (b))] [(m0, .inr (6, [.ref ms, .ref mh, .int (iJ (kp)), .ref mn, .int (iJ (sv)), .ref mp, .int (iJ (pn)), .int (iJ (rf)), .ref ml, .ref mm, .ref md, .ref mw, .ref mt, .int (iJ (tl)), .ref mb, .ref mi, .ref mg])), (ms, cJ cI 34 (s)), (mh, cJ cI 136 (h))] [(cI, .int)] (fun (_ : Unit) => s 0 - (b - a + 1)) (fun (_ : Unit) => True) (fun (_ : Unit) => [(m0, .inr (6, [.ref ms, .ref mh, .int (iJ (rcK kp)), .ref mn, .int (iJ (sv)), .ref mp, .int (iJ (pn)), .int (iJ (rf)), .ref ml, .ref mm, .ref md, .ref mw, .ref mt, .int (iJ (tl)), .ref mb, .ref mi, .ref mg])), (ms, cJ cI 34 (mcU s a b)), (mh, cJ cI 136 (rcH s h kp))]) := by
  refine MM.mk (cc := cX7_cut) (maxL := 5) (ret := (some .int)) (by decide) rfl (Nat.le_of_ble_eq_true rfl) rfl RX7 rfl ?_
  intro p_ e_ s_ m_ ar_ bw_ mt_ cd_ B_ Q_ hA E hr hQ
  refine r_aload_n E 0 dX7_cut_0 rfl rfl ?_
  refine r_iload_n E 1 dX7_cut_1 rfl rfl ?_
  refine r_vP E (st := []) (c_X7_isStep l D m0 ms mh mn mp ml mm md mw mt mb mi mg cI kp sv pn rf tl s a (by first | assumption | omega | exact ⟨by omega, by omega⟩) (by first | assumption | omega | exact ⟨by omega, by omega⟩)) gX7_cut_X7_isStep 1 kf_X7_isStep ⟨rfl, rfl⟩ ⟨by decide, by decide⟩ dX7_cut_2 rfl 0 rfl rfl rfl rfl ⟨Nat.zero_le _, Nat.zero_le _⟩ [0, 1] rfl (by decide) [0] rfl (Nat.le_of_ble_eq_true rfl) ?_
  refine r_ifeq_b E 21 dX7_cut_5 (by decide) (fun c_5 => absurd c_5 (by omega)) (fun c_5 => ?_)
  refine r_aload_n E 0 dX7_cut_8 rfl rfl ?_
  refine r_iload_n E 2 dX7_cut_9 rfl rfl ?_
  refine r_vP E (st := []) (c_X7_isStep l D m0 ms mh mn mp ml mm md mw mt mb mi mg cI kp sv pn rf tl s b (by first | assumption | omega | exact ⟨by omega, by omega⟩) (by first | assumption | omega | exact ⟨by omega, by omega⟩)) gX7_cut_X7_isStep 1 kf_X7_isStep ⟨rfl, rfl⟩ ⟨by decide, by decide⟩ dX7_cut_10 rfl 0 rfl rfl rfl rfl ⟨Nat.zero_le _, Nat.zero_le _⟩ [0, 1] rfl (by decide) [0] rfl (Nat.le_of_ble_eq_true rfl) ?_
  refine r_ifeq_b E 21 dX7_cut_13 (by decide) (fun c_13 => absurd c_13 (by omega)) (fun c_13 => ?_)
  refine r_iload_n E 2 dX7_cut_16 rfl rfl ?_
  refine r_iload_n E 1 dX7_cut_17 rfl rfl ?_
  refine r_icmp_ge E 23 dX7_cut_18 (by decide) ⟨by omega, by omega⟩ ⟨by omega, by omega⟩ (fun c_18 => ?_) (fun c_18 => absurd c_18 (by omega))
  refine r_aload_n E 0 dX7_cut_23 rfl rfl ?_
  refine r_vV E (st := []) (c_X7_record l D m0 ms mh mn mp ml mm md mw mt mb mi mg cI kp sv pn rf tl s h (by first | assumption | omega | exact ⟨by omega, by omega⟩)) gX7_cut_X7_record 0 kf_X7_record ⟨rfl, rfl⟩ ⟨by decide, by decide⟩ dX7_cut_24 rfl 0 rfl rfl rfl rfl ⟨Nat.zero_le _, Nat.zero_le _⟩ [0, 1, 2] rfl (by decide) [0] rfl (Nat.le_of_ble_eq_true rfl) [] [] rfl (by decide) (by decide) hA [0, 1, 2] (by decide) (fun (_ : Unit) => [(m0, .inr (6, [.ref ms, .ref mh, .int (iJ (rcK kp)), .ref mn, .int (iJ (sv)), .ref mp, .int (iJ (pn)), .int (iJ (rf)), .ref ml, .ref mm, .ref md, .ref mw, .ref mt, .int (iJ (tl)), .ref mb, .ref mi, .ref mg])), (ms, cJ cI 34 (s)), (mh, cJ cI 136 (rcH s h kp))]) (fun _ => rfl) ?_
  rintro ⟨⟩ hp_1
  refine r_iload_n E 2 dX7_cut_27 rfl rfl ?_
  refine r_iload_n E 1 dX7_cut_28 rfl rfl ?_
  refine r_isub E dX7_cut_29 ?_
  refine r_iconst E 1 rfl dX7_cut_30 ?_
  refine r_iadd E dX7_cut_31 ?_
  refine r_istore_n E [(3, .int (iJ (((b - a) + 1)))), (0, .ref m0), (1, .int (iJ (a))), (2, .int (iJ (b)))] dX7_cut_32 rfl (by decide) rfl ?_
  refine r_aload_n E 1 dX7_cut_33 rfl rfl ?_
  refine r_get E 6 0 0 dX7_cut_34 in_X7_cut_X7 lk_X7_cut_7 rfl rfl (by decide) rfl ?_
  refine r_iconst E 0 rfl dX7_cut_37 ?_
  refine r_dup2 E dX7_cut_38 rfl rfl ?_
  refine r_iald E (i := 0) 1 0 dX7_cut_39 rfl rfl (by decide) ⟨by omega, by omega⟩ ?_
  refine r_iload_n E 0 dX7_cut_40 rfl rfl ?_
  refine r_isub E dX7_cut_41 ?_
  refine r_iast E (i := 0) 1 0 dX7_cut_42 rfl rfl (by decide) ⟨by omega, by omega⟩ [(m0, .inr (6, [.ref ms, .ref mh, .int (iJ (rcK kp)), .ref mn, .int (iJ (sv)), .ref mp, .int (iJ (pn)), .int (iJ (rf)), .ref ml, .ref mm, .ref md, .ref mw, .ref mt, .int (iJ (tl)), .ref mb, .ref mi, .ref mg])), (ms, cJ cI 34 (uJ s 0 ((s 0) - ((b - a) + 1)))), (mh, cJ cI 136 (rcH s h kp))] rfl ?_
  refine r_iload_n E 2 dX7_cut_43 rfl rfl ?_
  refine r_istore E [(4, .int (iJ (a))), (3, .int (iJ (((b - a) + 1)))), (0, .ref m0), (1, .int (iJ (a))), (2, .int (iJ (b)))] dX7_cut_44 (by decide) rfl ?_
  have loop_46 : ∀ (N : Nat) (k : Int) (G : Int → Int), (a ≤ k ∧ k ≤ s 0 - (b - a + 1)) → (∀ i : Int, G i = if i = 0 then s 0 - (b - a + 1) else if 2 + a ≤ i ∧ i < 2 + k then s (i + (b - a + 1)) else s i) → (s 0 - k).toNat < N → GG p_ l e_ rm_X7_cut s_ m_ ar_ bw_ mt_ cd_ D vwCl B_ B_ s_.heap 5 0 0 Q_ [(m0, .inr (6, [.ref ms, .ref mh, .int (iJ (rcK kp)), .ref mn, .int (iJ (sv)), .ref mp, .int (iJ (pn)), .int (iJ (rf)), .ref ml, .ref mm, .ref md, .ref mw, .ref mt, .int (iJ (tl)), .ref mb, .ref mi, .ref mg])), (ms, cJ cI 34 (G)), (mh, cJ cI 136 (rcH s h kp))] [(0, .ref m0), (1, .int (iJ (a))), (2, .int (iJ (b))), (3, .int (iJ (((b - a) + 1)))), (4, .int (iJ (k)))] 46 [] := by
    intro N; induction N with
    | zero => intro k G hk hG hN; exact absurd hN (Nat.not_lt_zero _)
    | succ N ih46 =>
      intro k G hk hG hN
      refine r_iload E 4 dX7_cut_46 rfl ?_
      refine r_aload_n E 0 dX7_cut_48 rfl rfl ?_
      refine r_get E 6 0 0 dX7_cut_49 in_X7_cut_X7 lk_X7_cut_7 rfl rfl (by decide) rfl ?_
      refine r_iconst E 0 rfl dX7_cut_52 ?_
      refine r_iald E (i := 0) 1 0 dX7_cut_53 rfl rfl (by decide) ⟨by omega, by omega⟩ ?_
      refine r_top (b := (s 0 - (b - a + 1))) (by rw [hG, if_pos rfl]) ?_
      refine r_icmp_ge E 83 dX7_cut_54 (by decide) ⟨by omega, by omega⟩ ⟨by omega, by omega⟩ (fun c_54 => ?_) (fun c_54 => ?_)
      · refine r_aload_n E 0 dX7_cut_83 rfl rfl ?_
        refine r_get E 6 0 0 dX7_cut_84 in_X7_cut_X7 lk_X7_cut_7 rfl rfl (by decide) rfl ?_
        refine r_iconst E 0 rfl dX7_cut_87 ?_
        refine r_iald E (i := 0) 1 0 dX7_cut_88 rfl rfl (by decide) ⟨by omega, by omega⟩ ?_
        refine r_top (b := (s 0 - (b - a + 1))) (by rw [hG, if_pos rfl]) ?_
        refine r_istore E [(4, .int (iJ ((s 0 - (b - a + 1))))), (0, .ref m0), (1, .int (iJ (a))), (2, .int (iJ (b))), (3, .int (iJ (((b - a) + 1))))] dX7_cut_89 (by decide) rfl ?_
        have loop_91 : ∀ (N : Nat) (k2 : Int) (G2 : Int → Int), (s 0 - (b - a + 1) ≤ k2 ∧ k2 ≤ s 0) → (∀ i : Int, G2 i = if i = 0 then s 0 - (b - a + 1) else if 2 + a ≤ i ∧ i < 2 + s 0 - (b - a + 1) then s (i + (b - a + 1)) else if 2 + s 0 - (b - a + 1) ≤ i ∧ i < 2 + k2 then 0 else s i) → (s 0 - k2).toNat < N → GG p_ l e_ rm_X7_cut s_ m_ ar_ bw_ mt_ cd_ D vwCl B_ B_ s_.heap 5 0 0 Q_ [(m0, .inr (6, [.ref ms, .ref mh, .int (iJ (rcK kp)), .ref mn, .int (iJ (sv)), .ref mp, .int (iJ (pn)), .int (iJ (rf)), .ref ml, .ref mm, .ref md, .ref mw, .ref mt, .int (iJ (tl)), .ref mb, .ref mi, .ref mg])), (ms, cJ cI 34 (G2)), (mh, cJ cI 136 (rcH s h kp))] [(0, .ref m0), (1, .int (iJ (a))), (2, .int (iJ (b))), (3, .int (iJ (((b - a) + 1)))), (4, .int (iJ (k2)))] 91 [] := by
          intro N; induction N with
          | zero => intro k2 G2 hk2 hG2 hN; exact absurd hN (Nat.not_lt_zero _)
          | succ N ih91 =>
            intro k2 G2 hk2 hG2 hN
            refine r_iload E 4 dX7_cut_91 rfl ?_
            refine r_aload_n E 0 dX7_cut_93 rfl rfl ?_
            refine r_get E 6 0 0 dX7_cut_94 in_X7_cut_X7 lk_X7_cut_7 rfl rfl (by decide) rfl ?_
            refine r_iconst E 0 rfl dX7_cut_97 ?_
            refine r_iald E (i := 0) 1 0 dX7_cut_98 rfl rfl (by decide) ⟨by omega, by omega⟩ ?_
            refine r_top (b := (s 0 - (b - a + 1))) (by rw [hG2, if_pos rfl]) ?_
            refine r_iload_n E 3 dX7_cut_99 rfl rfl ?_
            refine r_iadd E dX7_cut_100 ?_
            refine r_icmp_ge E 120 dX7_cut_101 (by decide) ⟨by omega, by omega⟩ ⟨by omega, by omega⟩ (fun c_101 => ?_) (fun c_101 => ?_)
            · refine r_aload_n E 0 dX7_cut_120 rfl rfl ?_
              refine r_get E 6 0 0 dX7_cut_121 in_X7_cut_X7 lk_X7_cut_7 rfl rfl (by decide) rfl ?_
              refine r_iconst E 0 rfl dX7_cut_124 ?_
              refine r_iald E (i := 0) 1 0 dX7_cut_125 rfl rfl (by decide) ⟨by omega, by omega⟩ ?_
              exact r_retM E () hr dX7_cut_126 (by rw [hG2, if_pos rfl]) trivial (by
                    have ek : k2 = s 0 := by omega
                    have e : G2 = mcU s a b := by funext i; rw [hG2, ek]; rfl
                    rw [e]) hQ
            · refine r_aload_n E 0 dX7_cut_104 rfl rfl ?_
              refine r_get E 6 0 0 dX7_cut_105 in_X7_cut_X7 lk_X7_cut_7 rfl rfl (by decide) rfl ?_
              refine r_iconst E 2 rfl dX7_cut_108 ?_
              refine r_iload E 4 dX7_cut_109 rfl ?_
              refine r_iadd E dX7_cut_111 ?_
              refine r_iconst E 0 rfl dX7_cut_112 ?_
              refine r_iast E (i := (2 + k2)) 1 0 dX7_cut_113 rfl rfl (by decide) ⟨by omega, by omega⟩ [(m0, .inr (6, [.ref ms, .ref mh, .int (iJ (rcK kp)), .ref mn, .int (iJ (sv)), .ref mp, .int (iJ (pn)), .int (iJ (rf)), .ref ml, .ref mm, .ref md, .ref mw, .ref mt, .int (iJ (tl)), .ref mb, .ref mi, .ref mg])), (ms, cJ cI 34 (uJ G2 (2 + k2) 0)), (mh, cJ cI 136 (rcH s h kp))] rfl ?_
              refine r_iinc E (k := 4) [(4, .int (iJ ((k2 + 1)))), (0, .ref m0), (1, .int (iJ (a))), (2, .int (iJ (b))), (3, .int (iJ (((b - a) + 1))))] dX7_cut_114 rfl (by decide) rfl ?_
              refine r_goto E 91 dX7_cut_117 (by decide) ?_
              refine r_lv [1, 2, 3, 4, 0] [(0, .ref m0), (1, .int (iJ (a))), (2, .int (iJ (b))), (3, .int (iJ (((b - a) + 1)))), (4, .int (iJ ((k2 + 1))))] rfl ?_
              exact ih91 (k2 + 1) (uJ G2 (2 + k2) 0) ⟨by omega, by omega⟩ (fun i => by
                    by_cases q0 : i = 2 + k2
                    · subst q0; rw [uJ_s, if_neg (by omega), if_neg (by omega), if_pos (by omega)]
                    · rw [uJ_n q0, hG2]; by_cases z : i = 0
                      · rw [if_pos z, if_pos z]
                      · rw [if_neg z, if_neg z]; by_cases y : 2 + a ≤ i ∧ i < 2 + s 0 - (b - a + 1)
                        · rw [if_pos y, if_pos y]
                        · rw [if_neg y, if_neg y]; by_cases x : 2 + s 0 - (b - a + 1) ≤ i ∧ i < 2 + k2
                          · rw [if_pos x, if_pos (by omega)]
                          · rw [if_neg x, if_neg (by omega)]) (by omega)
        refine r_lv [1, 2, 3, 4, 0] [(0, .ref m0), (1, .int (iJ (a))), (2, .int (iJ (b))), (3, .int (iJ (((b - a) + 1)))), (4, .int (iJ ((s 0 - (b - a + 1)))))] rfl ?_
        exact loop_91 _ (s 0 - (b - a + 1)) G ⟨by omega, by omega⟩ (fun i => by
              have ek : k = s 0 - (b - a + 1) := by omega
              rw [hG, ek]; by_cases z : i = 0
              · rw [if_pos z, if_pos z]
              · rw [if_neg z, if_neg z]; by_cases y : 2 + a ≤ i ∧ i < 2 + s 0 - (b - a + 1)
                · rw [if_pos (by omega), if_pos y]
                · rw [if_neg (by omega), if_neg y, if_neg (by omega)]) (Nat.lt_succ_self _)
      · refine r_aload_n E 0 dX7_cut_57 rfl rfl ?_
        refine r_get E 6 0 0 dX7_cut_58 in_X7_cut_X7 lk_X7_cut_7 rfl rfl (by decide) rfl ?_
        refine r_iconst E 2 rfl dX7_cut_61 ?_
        refine r_iload E 4 dX7_cut_62 rfl ?_
        refine r_iadd E dX7_cut_64 ?_
        refine r_aload_n E 0 dX7_cut_65 rfl rfl ?_
        refine r_get E 6 0 0 dX7_cut_66 in_X7_cut_X7 lk_X7_cut_7 rfl rfl (by decide) rfl ?_
        refine r_iconst E 2 rfl dX7_cut_69 ?_
        refine r_iload E 4 dX7_cut_70 rfl ?_
        refine r_iadd E dX7_cut_72 ?_
        refine r_iload_n E 3 dX7_cut_73 rfl rfl ?_
        refine r_iadd E dX7_cut_74 ?_
        refine r_iald E (i := ((2 + k) + ((b - a) + 1))) 1 0 dX7_cut_75 rfl rfl (by decide) ⟨by omega, by omega⟩ ?_
        refine r_iast E (i := (2 + k)) 1 0 dX7_cut_76 rfl rfl (by decide) ⟨by omega, by omega⟩ [(m0, .inr (6, [.ref ms, .ref mh, .int (iJ (rcK kp)), .ref mn, .int (iJ (sv)), .ref mp, .int (iJ (pn)), .int (iJ (rf)), .ref ml, .ref mm, .ref md, .ref mw, .ref mt, .int (iJ (tl)), .ref mb, .ref mi, .ref mg])), (ms, cJ cI 34 (uJ G (2 + k) (G ((2 + k) + ((b - a) + 1))))), (mh, cJ cI 136 (rcH s h kp))] rfl ?_
        refine r_iinc E (k := 4) [(4, .int (iJ ((k + 1)))), (0, .ref m0), (1, .int (iJ (a))), (2, .int (iJ (b))), (3, .int (iJ (((b - a) + 1))))] dX7_cut_77 rfl (by decide) rfl ?_
        refine r_goto E 46 dX7_cut_80 (by decide) ?_
        refine r_lv [1, 2, 3, 4, 0] [(0, .ref m0), (1, .int (iJ (a))), (2, .int (iJ (b))), (3, .int (iJ (((b - a) + 1)))), (4, .int (iJ ((k + 1))))] rfl ?_
        exact ih46 (k + 1) (uJ G (2 + k) (G ((2 + k) + ((b - a) + 1)))) ⟨by omega, by omega⟩ (fun i => by
              by_cases q0 : i = 2 + k
              · subst q0; rw [uJ_s, if_neg (by omega), if_pos (by omega), hG, if_neg (by omega), if_neg (by omega), show 2 + k + (b - a + 1) = 2 + k + (b - a + 1) from rfl]
              · rw [uJ_n q0, hG]; by_cases z : i = 0
                · rw [if_pos z, if_pos z]
                · rw [if_neg z, if_neg z]; by_cases q2 : 2 + a ≤ i ∧ i < 2 + k
                  · rw [if_pos q2, if_pos (by omega)]
                  · rw [if_neg q2, if_neg (by omega)]) (by omega)
  refine r_lv [2, 3, 4, 1, 0] [(0, .ref m0), (1, .int (iJ (a))), (2, .int (iJ (b))), (3, .int (iJ (((b - a) + 1)))), (4, .int (iJ (a)))] rfl ?_
  exact loop_46 _ a (uJ s 0 ((s 0) - ((b - a) + 1))) ⟨by omega, by omega⟩ (fun i => by
        by_cases z : i = 0
        · subst z; rw [uJ_s, if_pos rfl]
        · rw [uJ_n z, if_neg z, if_neg (by omega)]) (Nat.lt_succ_self _)
theorem kf_X7_mirror : KF yX7_mirror 0 wsX7_mirror cX7_mirror 3 (some .int) := ⟨rfl, by decide +kernel, by decide +kernel, by decide +kernel⟩
def rm_X7_mirror : Room := { frames := 3, cells := 0, slots := 0, locals := 63 }
set_option maxRecDepth 20000 in
theorem in_X7_mirror_X7 : ∀ w ∈ u_ws RX7 TX7 17, w ∈ wsX7_mirror := by decide +kernel
set_option maxRecDepth 20000 in
theorem lk_X7_mirror_7 : Cond.fieldLink RX7 7 (TX7 0).1 (TX7 0).2.1 (TX7 0).2.2.1 ∈ wsX7_mirror := by decide +kernel
set_option maxHeartbeats 1000000 in
set_option maxRecDepth 100000 in
theorem c_X7_mirror (l : Launch) (D : va_G) (m0 : Nat) (ms : Nat) (mh : Nat) (mn : Nat) (mp : Nat) (ml : Nat) (mm : Nat) (md : Nat) (mw : Nat) (mt : Nat) (mb : Nat) (mi : Nat) (mg : Nat) (cI : ClassId) (kp : Int) (sv : Int) (pn : Int) (rf : Int) (tl : Int) (s : Int → Int) (h : Int → Int) (hs0 : 0 ≤ s 0 ∧ s 0 ≤ 32) (hkp : 0 ≤ kp ∧ kp ≤ 4) (hsv : ∀ j : Int, 0 ≤ j → j < s 0 → 0 ≤ s (2 + j) ∧ s (2 + j) ≤ 24) : MM (S := Unit) l yX7_mirror wsX7_mirror rm_X7_mirror D vwCl [.ref m0] [(m0, .inr (6, [.ref ms, .ref mh, .int (iJ (kp)), .ref mn, .int (iJ (sv)), .ref mp, .int (iJ (pn)), .int (iJ (rf)), .ref ml, .ref mm, .ref md, .ref mw, .ref mt, .int (iJ (tl)), .ref mb, .ref mi, .ref mg])), (ms, cJ cI 34 (s)), (mh, cJ cI 136 (h))] [(cI, .int)] (fun (_ : Unit) => sm (fun j => b2 (¬ s (2 + j) = 0 ∧ ¬ (s (2 + j) - 1) % 3 = 2)) (s 0)) (fun (_ : Unit) => True) (fun (_ : Unit) => [(m0, .inr (6, [.ref ms, .ref mh, .int (iJ (rcK kp)), .ref mn, .int (iJ (sv)), .ref mp, .int (iJ (pn)), .int (iJ (rf)), .ref ml, .ref mm, .ref md, .ref mw, .ref mt, .int (iJ (tl)), .ref mb, .ref mi, .ref mg])), (ms, cJ cI 34 (mpS (fun _ c => miM c) s (s 0))), (mh, cJ cI 136 (rcH s h kp))]) := by
  refine MM.mk (cc := cX7_mirror) (maxL := 3) (ret := (some .int)) (by decide) rfl (Nat.le_of_ble_eq_true rfl) rfl RX7 rfl ?_
  intro p_ e_ s_ m_ ar_ bw_ mt_ cd_ B_ Q_ hA E hr hQ
  refine r_aload_n E 0 dX7_mirror_0 rfl rfl ?_
  refine r_vV E (st := []) (c_X7_record l D m0 ms mh mn mp ml mm md mw mt mb mi mg cI kp sv pn rf tl s h (by first | assumption | omega | exact ⟨by omega, by omega⟩)) gX7_mirror_X7_record 0 kf_X7_record ⟨rfl, rfl⟩ ⟨by decide, by decide⟩ dX7_mirror_1 rfl 0 rfl rfl rfl rfl ⟨Nat.zero_le _, Nat.zero_le _⟩ [0, 1, 2] rfl (by decide) [0] rfl (Nat.le_of_ble_eq_true rfl) [] [] rfl (by decide) (by decide) hA [0, 1, 2] (by decide) (fun (_ : Unit) => [(m0, .inr (6, [.ref ms, .ref mh, .int (iJ (rcK kp)), .ref mn, .int (iJ (sv)), .ref mp, .int (iJ (pn)), .int (iJ (rf)), .ref ml, .ref mm, .ref md, .ref mw, .ref mt, .int (iJ (tl)), .ref mb, .ref mi, .ref mg])), (ms, cJ cI 34 (s)), (mh, cJ cI 136 (rcH s h kp))]) (fun _ => rfl) ?_
  rintro ⟨⟩ hp_1
  refine r_iconst E 0 rfl dX7_mirror_4 ?_
  refine r_istore_n E [(1, .int (iJ (0))), (0, .ref m0)] dX7_mirror_5 rfl (by decide) rfl ?_
  refine r_iconst E 0 rfl dX7_mirror_6 ?_
  refine r_istore_n E [(2, .int (iJ (0))), (1, .int (iJ (0))), (0, .ref m0)] dX7_mirror_7 rfl (by decide) rfl ?_
  have loop_8 : ∀ (N : Nat) (k : Int) (x : Int) (G : Int → Int), (0 ≤ k ∧ k ≤ s 0) → (x = sm (fun j => b2 (¬ s (2 + j) = 0 ∧ ¬ (s (2 + j) - 1) % 3 = 2)) k) → (G = mpS (fun _ c => miM c) s k) → (s 0 - k).toNat < N → GG p_ l e_ rm_X7_mirror s_ m_ ar_ bw_ mt_ cd_ D vwCl B_ B_ s_.heap 3 0 0 Q_ [(m0, .inr (6, [.ref ms, .ref mh, .int (iJ (rcK kp)), .ref mn, .int (iJ (sv)), .ref mp, .int (iJ (pn)), .int (iJ (rf)), .ref ml, .ref mm, .ref md, .ref mw, .ref mt, .int (iJ (tl)), .ref mb, .ref mi, .ref mg])), (ms, cJ cI 34 (G)), (mh, cJ cI 136 (rcH s h kp))] [(0, .ref m0), (1, .int (iJ (x))), (2, .int (iJ (k)))] 8 [] := by
    intro N; induction N with
    | zero => intro k x G hk hx2 hG hN; exact absurd hN (Nat.not_lt_zero _)
    | succ N ih8 =>
      intro k x G hk hx2 hG hN
      refine r_iload_n E 2 dX7_mirror_8 rfl rfl ?_
      refine r_aload_n E 0 dX7_mirror_9 rfl rfl ?_
      refine r_get E 6 0 0 dX7_mirror_10 in_X7_mirror_X7 lk_X7_mirror_7 rfl rfl (by decide) rfl ?_
      refine r_iconst E 0 rfl dX7_mirror_13 ?_
      refine r_iald E (i := 0) 1 0 dX7_mirror_14 rfl rfl (by decide) ⟨by omega, by omega⟩ ?_
      refine r_top (b := (s 0)) (by rw [hG]; exact mpS_n.1) ?_
      refine r_icmp_ge E 72 dX7_mirror_15 (by decide) ⟨by omega, by omega⟩ ⟨by omega, by omega⟩ (fun c_15 => ?_) (fun c_15 => ?_)
      · refine r_iload_n E 1 dX7_mirror_72 rfl rfl ?_
        exact r_retM E () hr dX7_mirror_73 (by
              have e : k = s 0 := by omega
              rw [hx2, e]) trivial (by
              have e : k = s 0 := by omega
              rw [hG, e]) hQ
      · have f_k : G (2 + k) = s (2 + k) := by rw [hG]; exact mpS_at
        have f_c := hsv k (by omega) (by omega)
        have f_o := mOr_in (c := s (2 + k)) f_c
        refine r_aload_n E 0 dX7_mirror_18 rfl rfl ?_
        refine r_iload_n E 2 dX7_mirror_19 rfl rfl ?_
        refine r_vP E (st := []) (c_X7_isStroke l D m0 ms mh mn mp ml mm md mw mt mb mi mg cI (rcK kp) sv pn rf tl G k (by first | assumption | omega | exact ⟨by omega, by omega⟩) (by rw [f_k]; omega)) gX7_mirror_X7_isStroke 1 kf_X7_isStroke ⟨rfl, rfl⟩ ⟨by decide, by decide⟩ dX7_mirror_20 rfl 0 rfl rfl rfl rfl ⟨Nat.zero_le _, Nat.zero_le _⟩ [0, 1] rfl (by decide) [0] rfl (Nat.le_of_ble_eq_true rfl) ?_
        refine r_ifeq_n E 66 dX7_mirror_23 (by decide) (fun c_23 => ?_) (fun c_23 => ?_)
        · refine r_iinc E (k := 2) [(2, .int (iJ ((k + 1)))), (0, .ref m0), (1, .int (iJ (x)))] dX7_mirror_66 rfl (by decide) rfl ?_
          refine r_goto E 8 dX7_mirror_69 (by decide) ?_
          refine r_lv [1, 2, 0] [(0, .ref m0), (1, .int (iJ (x))), (2, .int (iJ ((k + 1))))] rfl ?_
          exact ih8 (k + 1) x G ⟨by omega, by omega⟩ (by
                rw [sm_s _ (by omega), hx2]; rw [f_k] at c_23; try rw [f_k] at c_32
                first | (simp [b2, c_23, c_32]; done) | simp [b2, c_23]) (by
                rw [f_k] at c_23
                first
                | (rw [f_k] at c_32; rw [hG]; exact mpS_s1 _ _ (by omega) (by unfold miM; rw [if_pos (show ¬ s (2 + k) = 0 ∧ ¬ (s (2 + k) - 1) % 3 = 2 from ⟨c_23, c_32⟩), mpS_at]))
                | (rw [hG]; exact mpS_s0 _ _ (by omega) (by unfold miM; rw [if_neg (fun z => by first | exact z.1 c_23 | (rw [f_k] at c_32; exact z.2 c_32))]))) (by omega)
        · refine r_aload_n E 0 dX7_mirror_26 rfl rfl ?_
          refine r_iload_n E 2 dX7_mirror_27 rfl rfl ?_
          refine r_vP E (st := []) (c_X7_hand l D m0 ms mh mn mp ml mm md mw mt mb mi mg cI (rcK kp) sv pn rf tl G k (by first | assumption | omega | exact ⟨by omega, by omega⟩) (by rw [f_k]; omega)) gX7_mirror_X7_hand 1 kf_X7_hand ⟨rfl, rfl⟩ ⟨by decide, by decide⟩ dX7_mirror_28 rfl 0 rfl rfl rfl rfl ⟨Nat.zero_le _, Nat.zero_le _⟩ [0, 1] rfl (by decide) [0] rfl (Nat.le_of_ble_eq_true rfl) ?_
          refine r_iconst E 2 rfl dX7_mirror_31 ?_
          refine r_icmp_eq E 66 dX7_mirror_32 (by decide) ⟨by omega, by omega⟩ ⟨by omega, by omega⟩ (fun c_32 => ?_) (fun c_32 => ?_)
          · refine r_iinc E (k := 2) [(2, .int (iJ ((k + 1)))), (0, .ref m0), (1, .int (iJ (x)))] dX7_mirror_66 rfl (by decide) rfl ?_
            refine r_goto E 8 dX7_mirror_69 (by decide) ?_
            refine r_lv [1, 2, 0] [(0, .ref m0), (1, .int (iJ (x))), (2, .int (iJ ((k + 1))))] rfl ?_
            exact ih8 (k + 1) x G ⟨by omega, by omega⟩ (by
                  rw [sm_s _ (by omega), hx2]; rw [f_k] at c_23; try rw [f_k] at c_32
                  first | (simp [b2, c_23, c_32]; done) | simp [b2, c_23]) (by
                  rw [f_k] at c_23
                  first
                  | (rw [f_k] at c_32; rw [hG]; exact mpS_s1 _ _ (by omega) (by unfold miM; rw [if_pos (show ¬ s (2 + k) = 0 ∧ ¬ (s (2 + k) - 1) % 3 = 2 from ⟨c_23, c_32⟩), mpS_at]))
                  | (rw [hG]; exact mpS_s0 _ _ (by omega) (by unfold miM; rw [if_neg (fun z => by first | exact z.1 c_23 | (rw [f_k] at c_32; exact z.2 c_32))]))) (by omega)
          · refine r_aload_n E 0 dX7_mirror_35 rfl rfl ?_
            refine r_get E 6 0 0 dX7_mirror_36 in_X7_mirror_X7 lk_X7_mirror_7 rfl rfl (by decide) rfl ?_
            refine r_iconst E 2 rfl dX7_mirror_39 ?_
            refine r_iload_n E 2 dX7_mirror_40 rfl rfl ?_
            refine r_iadd E dX7_mirror_41 ?_
            refine r_iconst E 1 rfl dX7_mirror_42 ?_
            refine r_aload_n E 0 dX7_mirror_43 rfl rfl ?_
            refine r_iload_n E 2 dX7_mirror_44 rfl rfl ?_
            refine r_vP E (st := [.int (iJ (1)), .int (iJ ((2 + k))), .ref ms]) (c_X7_hand l D m0 ms mh mn mp ml mm md mw mt mb mi mg cI (rcK kp) sv pn rf tl G k (by first | assumption | omega | exact ⟨by omega, by omega⟩) (by rw [f_k]; omega)) gX7_mirror_X7_hand 1 kf_X7_hand ⟨rfl, rfl⟩ ⟨by decide, by decide⟩ dX7_mirror_45 rfl 0 rfl rfl rfl rfl ⟨Nat.zero_le _, Nat.zero_le _⟩ [0, 1] rfl (by decide) [0] rfl (Nat.le_of_ble_eq_true rfl) ?_
            refine r_isub E dX7_mirror_48 ?_
            refine r_aload_n E 0 dX7_mirror_49 rfl rfl ?_
            refine r_iload_n E 2 dX7_mirror_50 rfl rfl ?_
            refine r_vP E (st := [.int (iJ ((1 - ((G (2 + k) - 1) % 3)))), .int (iJ ((2 + k))), .ref ms]) (c_X7_accent l D m0 ms mh mn mp ml mm md mw mt mb mi mg cI (rcK kp) sv pn rf tl G k (by first | assumption | omega | exact ⟨by omega, by omega⟩) (by rw [f_k]; omega)) gX7_mirror_X7_accent 1 kf_X7_accent ⟨rfl, rfl⟩ ⟨by decide, by decide⟩ dX7_mirror_51 rfl 0 rfl rfl rfl rfl ⟨Nat.zero_le _, Nat.zero_le _⟩ [0, 1] rfl (by decide) [0] rfl (Nat.le_of_ble_eq_true rfl) ?_
            refine r_aload_n E 0 dX7_mirror_54 rfl rfl ?_
            refine r_iload_n E 2 dX7_mirror_55 rfl rfl ?_
            refine r_vP E (st := [.int (iJ (mAc (G (2 + k)))), .int (iJ ((1 - ((G (2 + k) - 1) % 3)))), .int (iJ ((2 + k))), .ref ms]) (c_X7_ornament l D m0 ms mh mn mp ml mm md mw mt mb mi mg cI (rcK kp) sv pn rf tl G k (by first | assumption | omega | exact ⟨by omega, by omega⟩) (by rw [f_k]; omega)) gX7_mirror_X7_ornament 1 kf_X7_ornament ⟨rfl, rfl⟩ ⟨by decide, by decide⟩ dX7_mirror_56 rfl 0 rfl rfl rfl rfl ⟨Nat.zero_le _, Nat.zero_le _⟩ [0, 1] rfl (by decide) [0] rfl (Nat.le_of_ble_eq_true rfl) ?_
            refine r_sP E (st := [.int (iJ ((2 + k))), .ref ms]) (c_X7_code l D (1 - ((G (2 + k) - 1) % 3)) (mAc (G (2 + k))) (mOr (G (2 + k)))) gX7_mirror_X7_code 3 kf_X7_code ⟨rfl, rfl⟩ ⟨by decide, by decide⟩ dX7_mirror_59 rfl rfl ⟨Nat.zero_le _, Nat.zero_le _⟩ [] rfl (by decide) [] rfl (Nat.le_of_ble_eq_true rfl) ?_
            refine r_iast E (i := (2 + k)) 1 0 dX7_mirror_62 rfl rfl (by decide) ⟨by omega, by omega⟩ [(m0, .inr (6, [.ref ms, .ref mh, .int (iJ (rcK kp)), .ref mn, .int (iJ (sv)), .ref mp, .int (iJ (pn)), .int (iJ (rf)), .ref ml, .ref mm, .ref md, .ref mw, .ref mt, .int (iJ (tl)), .ref mb, .ref mi, .ref mg])), (ms, cJ cI 34 (uJ G (2 + k) (1 + (1 - ((G (2 + k) - 1) % 3)) + 3 * (mAc (G (2 + k))) + 6 * (mOr (G (2 + k)))))), (mh, cJ cI 136 (rcH s h kp))] rfl ?_
            refine r_iinc E (k := 1) [(1, .int (iJ ((x + 1)))), (0, .ref m0), (2, .int (iJ (k)))] dX7_mirror_63 rfl (by decide) rfl ?_
            refine r_iinc E (k := 2) [(2, .int (iJ ((k + 1)))), (1, .int (iJ ((x + 1)))), (0, .ref m0)] dX7_mirror_66 rfl (by decide) rfl ?_
            refine r_goto E 8 dX7_mirror_69 (by decide) ?_
            refine r_lv [2, 1, 0] [(0, .ref m0), (1, .int (iJ ((x + 1)))), (2, .int (iJ ((k + 1))))] rfl ?_
            exact ih8 (k + 1) (x + 1) (uJ G (2 + k) (1 + (1 - ((G (2 + k) - 1) % 3)) + 3 * (mAc (G (2 + k))) + 6 * (mOr (G (2 + k))))) ⟨by omega, by omega⟩ (by
                  rw [sm_s _ (by omega), hx2]; rw [f_k] at c_23; try rw [f_k] at c_32
                  first | (simp [b2, c_23, c_32]; done) | simp [b2, c_23]) (by
                  rw [f_k] at c_23
                  first
                  | (rw [f_k] at c_32; rw [hG]; exact mpS_s1 _ _ (by omega) (by unfold miM; rw [if_pos (show ¬ s (2 + k) = 0 ∧ ¬ (s (2 + k) - 1) % 3 = 2 from ⟨c_23, c_32⟩), mpS_at]))
                  | (rw [hG]; exact mpS_s0 _ _ (by omega) (by unfold miM; rw [if_neg (fun z => by first | exact z.1 c_23 | (rw [f_k] at c_32; exact z.2 c_32))]))) (by omega)
  refine r_lv [2, 1, 0] [(0, .ref m0), (1, .int (iJ (0))), (2, .int (iJ (0)))] rfl ?_
  exact loop_8 _ 0 0 s ⟨by omega, by omega⟩ (sm_0 _).symm (mpS_0 _ _) (Nat.lt_succ_self _)
theorem kf_X7_lean : KF yX7_lean 1 wsX7_lean cX7_lean 5 (some .int) := ⟨rfl, by decide +kernel, by decide +kernel, by decide +kernel⟩
def rm_X7_lean : Room := { frames := 3, cells := 0, slots := 0, locals := 63 }
set_option maxRecDepth 20000 in
theorem in_X7_lean_X7 : ∀ w ∈ u_ws RX7 TX7 17, w ∈ wsX7_lean := by decide +kernel
set_option maxRecDepth 20000 in
theorem lk_X7_lean_7 : Cond.fieldLink RX7 7 (TX7 0).1 (TX7 0).2.1 (TX7 0).2.2.1 ∈ wsX7_lean := by decide +kernel
set_option maxHeartbeats 1000000 in
set_option maxRecDepth 100000 in
theorem c_X7_lean (l : Launch) (D : va_G) (m0 : Nat) (ms : Nat) (mh : Nat) (mn : Nat) (mp : Nat) (ml : Nat) (mm : Nat) (md : Nat) (mw : Nat) (mt : Nat) (mb : Nat) (mi : Nat) (mg : Nat) (cI : ClassId) (kp : Int) (sv : Int) (pn : Int) (rf : Int) (tl : Int) (s : Int → Int) (h : Int → Int) (d : Int) (hs0 : 0 ≤ s 0 ∧ s 0 ≤ 32) (hkp : 0 ≤ kp ∧ kp ≤ 4) (hsv : ∀ j : Int, 0 ≤ j → j < s 0 → 0 ≤ s (2 + j) ∧ s (2 + j) ≤ 24) (hd : d = 0 ∨ d = 1) : MM (S := Unit) l yX7_lean wsX7_lean rm_X7_lean D vwCl [.ref m0, .int (iJ (d))] [(m0, .inr (6, [.ref ms, .ref mh, .int (iJ (kp)), .ref mn, .int (iJ (sv)), .ref mp, .int (iJ (pn)), .int (iJ (rf)), .ref ml, .ref mm, .ref md, .ref mw, .ref mt, .int (iJ (tl)), .ref mb, .ref mi, .ref mg])), (ms, cJ cI 34 (s)), (mh, cJ cI 136 (h))] [(cI, .int)] (fun (_ : Unit) => sm (fun j => b2 (mOr (s (2 + j)) = (if d = 0 then 2 else 1))) (s 0)) (fun (_ : Unit) => True) (fun (_ : Unit) => [(m0, .inr (6, [.ref ms, .ref mh, .int (iJ (rcK kp)), .ref mn, .int (iJ (sv)), .ref mp, .int (iJ (pn)), .int (iJ (rf)), .ref ml, .ref mm, .ref md, .ref mw, .ref mt, .int (iJ (tl)), .ref mb, .ref mi, .ref mg])), (ms, cJ cI 34 (mpS (fun _ c => leM d c) s (s 0))), (mh, cJ cI 136 (rcH s h kp))]) := by
  refine MM.mk (cc := cX7_lean) (maxL := 5) (ret := (some .int)) (by decide) rfl (Nat.le_of_ble_eq_true rfl) rfl RX7 rfl ?_
  intro p_ e_ s_ m_ ar_ bw_ mt_ cd_ B_ Q_ hA E hr hQ
  refine r_aload_n E 0 dX7_lean_0 rfl rfl ?_
  refine r_vV E (st := []) (c_X7_record l D m0 ms mh mn mp ml mm md mw mt mb mi mg cI kp sv pn rf tl s h (by first | assumption | omega | exact ⟨by omega, by omega⟩)) gX7_lean_X7_record 0 kf_X7_record ⟨rfl, rfl⟩ ⟨by decide, by decide⟩ dX7_lean_1 rfl 0 rfl rfl rfl rfl ⟨Nat.zero_le _, Nat.zero_le _⟩ [0, 1, 2] rfl (by decide) [0] rfl (Nat.le_of_ble_eq_true rfl) [] [] rfl (by decide) (by decide) hA [0, 1, 2] (by decide) (fun (_ : Unit) => [(m0, .inr (6, [.ref ms, .ref mh, .int (iJ (rcK kp)), .ref mn, .int (iJ (sv)), .ref mp, .int (iJ (pn)), .int (iJ (rf)), .ref ml, .ref mm, .ref md, .ref mw, .ref mt, .int (iJ (tl)), .ref mb, .ref mi, .ref mg])), (ms, cJ cI 34 (s)), (mh, cJ cI 136 (rcH s h kp))]) (fun _ => rfl) ?_
  rintro ⟨⟩ hp_1
  have K_14 : ∀ (u : Int), (u = (if d = 0 then 2 else 1) ∧ 1 ≤ u ∧ u ≤ 2) → GG p_ l e_ rm_X7_lean s_ m_ ar_ bw_ mt_ cd_ D vwCl B_ B_ s_.heap 5 0 0 Q_ [(m0, .inr (6, [.ref ms, .ref mh, .int (iJ (rcK kp)), .ref mn, .int (iJ (sv)), .ref mp, .int (iJ (pn)), .int (iJ (rf)), .ref ml, .ref mm, .ref md, .ref mw, .ref mt, .int (iJ (tl)), .ref mb, .ref mi, .ref mg])), (ms, cJ cI 34 (s)), (mh, cJ cI 136 (rcH s h kp))] [(0, .ref m0), (1, .int (iJ (d))), (2, .int (iJ (u)))] 14 [] := by
    intro u hu
    refine r_iconst E 0 rfl dX7_lean_14 ?_
    refine r_istore_n E [(3, .int (iJ (0))), (0, .ref m0), (1, .int (iJ (d))), (2, .int (iJ (u)))] dX7_lean_15 rfl (by decide) rfl ?_
    refine r_iconst E 0 rfl dX7_lean_16 ?_
    refine r_istore E [(4, .int (iJ (0))), (3, .int (iJ (0))), (0, .ref m0), (1, .int (iJ (d))), (2, .int (iJ (u)))] dX7_lean_17 (by decide) rfl ?_
    have loop_19 : ∀ (N : Nat) (k : Int) (x : Int) (G : Int → Int), (0 ≤ k ∧ k ≤ s 0) → (x = sm (fun j => b2 (mOr (s (2 + j)) = (if d = 0 then 2 else 1))) k) → (G = mpS (fun _ c => leM d c) s k) → (s 0 - k).toNat < N → GG p_ l e_ rm_X7_lean s_ m_ ar_ bw_ mt_ cd_ D vwCl B_ B_ s_.heap 5 0 0 Q_ [(m0, .inr (6, [.ref ms, .ref mh, .int (iJ (rcK kp)), .ref mn, .int (iJ (sv)), .ref mp, .int (iJ (pn)), .int (iJ (rf)), .ref ml, .ref mm, .ref md, .ref mw, .ref mt, .int (iJ (tl)), .ref mb, .ref mi, .ref mg])), (ms, cJ cI 34 (G)), (mh, cJ cI 136 (rcH s h kp))] [(0, .ref m0), (1, .int (iJ (d))), (2, .int (iJ (u))), (3, .int (iJ (x))), (4, .int (iJ (k)))] 19 [] := by
      intro N; induction N with
      | zero => intro k x G hk hx2 hG hN; exact absurd hN (Nat.not_lt_zero _)
      | succ N ih19 =>
        intro k x G hk hx2 hG hN
        refine r_iload E 4 dX7_lean_19 rfl ?_
        refine r_aload_n E 0 dX7_lean_21 rfl rfl ?_
        refine r_get E 6 0 0 dX7_lean_22 in_X7_lean_X7 lk_X7_lean_7 rfl rfl (by decide) rfl ?_
        refine r_iconst E 0 rfl dX7_lean_25 ?_
        refine r_iald E (i := 0) 1 0 dX7_lean_26 rfl rfl (by decide) ⟨by omega, by omega⟩ ?_
        refine r_top (b := (s 0)) (by rw [hG]; exact mpS_n.1) ?_
        refine r_icmp_ge E 76 dX7_lean_27 (by decide) ⟨by omega, by omega⟩ ⟨by omega, by omega⟩ (fun c_27 => ?_) (fun c_27 => ?_)
        · refine r_iload_n E 3 dX7_lean_76 rfl rfl ?_
          exact r_retM E () hr dX7_lean_77 (by
                have e : k = s 0 := by omega
                rw [hx2, e]) trivial (by
                have e : k = s 0 := by omega
                rw [hG, e]) hQ
        · have f_k : G (2 + k) = s (2 + k) := by rw [hG]; exact mpS_at
          have f_c := hsv k (by omega) (by omega)
          have f_o := mOr_in (c := s (2 + k)) f_c
          refine r_aload_n E 0 dX7_lean_30 rfl rfl ?_
          refine r_iload E 4 dX7_lean_31 rfl ?_
          refine r_vP E (st := []) (c_X7_ornament l D m0 ms mh mn mp ml mm md mw mt mb mi mg cI (rcK kp) sv pn rf tl G k (by first | assumption | omega | exact ⟨by omega, by omega⟩) (by rw [f_k]; omega)) gX7_lean_X7_ornament 1 kf_X7_ornament ⟨rfl, rfl⟩ ⟨by decide, by decide⟩ dX7_lean_33 rfl 0 rfl rfl rfl rfl ⟨Nat.zero_le _, Nat.zero_le _⟩ [0, 1] rfl (by decide) [0] rfl (Nat.le_of_ble_eq_true rfl) ?_
          refine r_iload_n E 2 dX7_lean_36 rfl rfl ?_
          refine r_icmp_ne E 70 dX7_lean_37 (by decide) (by rw [f_k]; exact ⟨by omega, by omega⟩) ⟨by omega, by omega⟩ (fun c_37 => ?_) (fun c_37 => ?_)
          · refine r_iinc E (k := 4) [(4, .int (iJ ((k + 1)))), (0, .ref m0), (1, .int (iJ (d))), (2, .int (iJ (u))), (3, .int (iJ (x)))] dX7_lean_70 rfl (by decide) rfl ?_
            refine r_goto E 19 dX7_lean_73 (by decide) ?_
            refine r_lv [1, 2, 3, 4, 0] [(0, .ref m0), (1, .int (iJ (d))), (2, .int (iJ (u))), (3, .int (iJ (x))), (4, .int (iJ ((k + 1))))] rfl ?_
            exact ih19 (k + 1) x G ⟨by omega, by omega⟩ (by
                  rw [sm_s _ (by omega), hx2, ← hu.1]; rw [f_k] at c_37
                  simp [b2, c_37]) (by
                  rw [f_k] at c_37
                  rw [hG]
                  first
                  | exact mpS_s1 _ _ (by omega) (by unfold leM; rw [← hu.1, if_pos c_37, mpS_at])
                  | exact mpS_s0 _ _ (by omega) (by unfold leM; rw [← hu.1, if_neg c_37])) (by omega)
          · refine r_aload_n E 0 dX7_lean_40 rfl rfl ?_
            refine r_get E 6 0 0 dX7_lean_41 in_X7_lean_X7 lk_X7_lean_7 rfl rfl (by decide) rfl ?_
            refine r_iconst E 2 rfl dX7_lean_44 ?_
            refine r_iload E 4 dX7_lean_45 rfl ?_
            refine r_iadd E dX7_lean_47 ?_
            refine r_aload_n E 0 dX7_lean_48 rfl rfl ?_
            refine r_iload E 4 dX7_lean_49 rfl ?_
            refine r_vP E (st := [.int (iJ ((2 + k))), .ref ms]) (c_X7_hand l D m0 ms mh mn mp ml mm md mw mt mb mi mg cI (rcK kp) sv pn rf tl G k (by first | assumption | omega | exact ⟨by omega, by omega⟩) (by rw [f_k]; rw [f_k] at c_37; unfold mOr at c_37; split at c_37 <;> omega)) gX7_lean_X7_hand 1 kf_X7_hand ⟨rfl, rfl⟩ ⟨by decide, by decide⟩ dX7_lean_51 rfl 0 rfl rfl rfl rfl ⟨Nat.zero_le _, Nat.zero_le _⟩ [0, 1] rfl (by decide) [0] rfl (Nat.le_of_ble_eq_true rfl) ?_
            refine r_aload_n E 0 dX7_lean_54 rfl rfl ?_
            refine r_iload E 4 dX7_lean_55 rfl ?_
            refine r_vP E (st := [.int (iJ ((G (2 + k) - 1) % 3)), .int (iJ ((2 + k))), .ref ms]) (c_X7_accent l D m0 ms mh mn mp ml mm md mw mt mb mi mg cI (rcK kp) sv pn rf tl G k (by first | assumption | omega | exact ⟨by omega, by omega⟩) (by rw [f_k]; omega)) gX7_lean_X7_accent 1 kf_X7_accent ⟨rfl, rfl⟩ ⟨by decide, by decide⟩ dX7_lean_57 rfl 0 rfl rfl rfl rfl ⟨Nat.zero_le _, Nat.zero_le _⟩ [0, 1] rfl (by decide) [0] rfl (Nat.le_of_ble_eq_true rfl) ?_
            refine r_iconst E 3 rfl dX7_lean_60 ?_
            refine r_iload_n E 2 dX7_lean_61 rfl rfl ?_
            refine r_isub E dX7_lean_62 ?_
            refine r_sP E (st := [.int (iJ ((2 + k))), .ref ms]) (c_X7_code l D ((G (2 + k) - 1) % 3) (mAc (G (2 + k))) (3 - u)) gX7_lean_X7_code 3 kf_X7_code ⟨rfl, rfl⟩ ⟨by decide, by decide⟩ dX7_lean_63 rfl rfl ⟨Nat.zero_le _, Nat.zero_le _⟩ [] rfl (by decide) [] rfl (Nat.le_of_ble_eq_true rfl) ?_
            refine r_iast E (i := (2 + k)) 1 0 dX7_lean_66 rfl rfl (by decide) ⟨by omega, by omega⟩ [(m0, .inr (6, [.ref ms, .ref mh, .int (iJ (rcK kp)), .ref mn, .int (iJ (sv)), .ref mp, .int (iJ (pn)), .int (iJ (rf)), .ref ml, .ref mm, .ref md, .ref mw, .ref mt, .int (iJ (tl)), .ref mb, .ref mi, .ref mg])), (ms, cJ cI 34 (uJ G (2 + k) (1 + ((G (2 + k) - 1) % 3) + 3 * (mAc (G (2 + k))) + 6 * (3 - u)))), (mh, cJ cI 136 (rcH s h kp))] rfl ?_
            refine r_iinc E (k := 3) [(3, .int (iJ ((x + 1)))), (0, .ref m0), (1, .int (iJ (d))), (2, .int (iJ (u))), (4, .int (iJ (k)))] dX7_lean_67 rfl (by decide) rfl ?_
            refine r_iinc E (k := 4) [(4, .int (iJ ((k + 1)))), (3, .int (iJ ((x + 1)))), (0, .ref m0), (1, .int (iJ (d))), (2, .int (iJ (u)))] dX7_lean_70 rfl (by decide) rfl ?_
            refine r_goto E 19 dX7_lean_73 (by decide) ?_
            refine r_lv [2, 3, 4, 1, 0] [(0, .ref m0), (1, .int (iJ (d))), (2, .int (iJ (u))), (3, .int (iJ ((x + 1)))), (4, .int (iJ ((k + 1))))] rfl ?_
            exact ih19 (k + 1) (x + 1) (uJ G (2 + k) (1 + ((G (2 + k) - 1) % 3) + 3 * (mAc (G (2 + k))) + 6 * (3 - u))) ⟨by omega, by omega⟩ (by
                  rw [sm_s _ (by omega), hx2, ← hu.1]; rw [f_k] at c_37
                  simp [b2, c_37]) (by
                  rw [f_k] at c_37
                  rw [hG]
                  first
                  | exact mpS_s1 _ _ (by omega) (by unfold leM; rw [← hu.1, if_pos c_37, mpS_at])
                  | exact mpS_s0 _ _ (by omega) (by unfold leM; rw [← hu.1, if_neg c_37])) (by omega)
    refine r_lv [2, 3, 4, 1, 0] [(0, .ref m0), (1, .int (iJ (d))), (2, .int (iJ (u))), (3, .int (iJ (0))), (4, .int (iJ (0)))] rfl ?_
    exact loop_19 _ 0 0 s ⟨by omega, by omega⟩ (sm_0 _).symm (mpS_0 _ _) (Nat.lt_succ_self _)
  refine r_iload_n E 1 dX7_lean_4 rfl rfl ?_
  refine r_if_eq E 12 dX7_lean_5 (by decide) ⟨by omega, by omega⟩ (fun c_5 => ?_) (fun c_5 => ?_)
  · refine r_iconst E 2 rfl dX7_lean_12 ?_
    refine r_istore_n E [(2, .int (iJ (2))), (0, .ref m0), (1, .int (iJ (d)))] dX7_lean_13 rfl (by decide) rfl ?_
    refine r_lv [1, 2, 0] [(0, .ref m0), (1, .int (iJ (d))), (2, .int (iJ (2)))] rfl ?_
    exact K_14 2 (by split <;> omega)
  · refine r_iconst E 1 rfl dX7_lean_8 ?_
    refine r_goto E 13 dX7_lean_9 (by decide) ?_
    refine r_istore_n E [(2, .int (iJ (1))), (0, .ref m0), (1, .int (iJ (d)))] dX7_lean_13 rfl (by decide) rfl ?_
    refine r_lv [1, 2, 0] [(0, .ref m0), (1, .int (iJ (d))), (2, .int (iJ (1)))] rfl ?_
    exact K_14 1 (by split <;> omega)
theorem kf_X7_set : KF yX7_set 1 wsX7_set cX7_set 3 (some .int) := ⟨rfl, by decide +kernel, by decide +kernel, by decide +kernel⟩
def rm_X7_set : Room := { frames := 1, cells := 0, slots := 0, locals := 22 }
set_option maxHeartbeats 1000000 in
set_option maxRecDepth 100000 in
theorem c_X7_setBad (l : Launch) (D : va_G) (m0 : Nat) (ms : Nat) (mh : Nat) (mn : Nat) (mp : Nat) (ml : Nat) (mm : Nat) (md : Nat) (mw : Nat) (mt : Nat) (mb : Nat) (mi : Nat) (mg : Nat) (cI : ClassId) (kp : Int) (sv : Int) (pn : Int) (rf : Int) (tl : Int) (s : Int → Int) (v : Int) (hv : jb v) (hx : ¬ (1 ≤ v ∧ v ≤ 4)) : MP l yX7_set wsX7_set rm_X7_set D vwCl [.ref m0, .int (iJ (v))] [(m0, .inr (6, [.ref ms, .ref mh, .int (iJ (kp)), .ref mn, .int (iJ (sv)), .ref mp, .int (iJ (pn)), .int (iJ (rf)), .ref ml, .ref mm, .ref md, .ref mw, .ref mt, .int (iJ (tl)), .ref mb, .ref mi, .ref mg])), (ms, cJ cI 34 (s))] [(cI, .int)] (-1) := by
  refine MP.mk (cc := cX7_set) (maxL := 3) (ret := (some .int)) (by decide) rfl (Nat.le_of_ble_eq_true rfl) rfl RX7 rfl ?_
  intro p_ e_ s_ m_ ar_ bw_ mt_ cd_ Q_ E hr hQ
  refine r_iload_n E 1 dX7_set_0 rfl rfl ?_
  refine r_iconst E 1 rfl dX7_set_1 ?_
  refine r_iconst E 4 rfl dX7_set_2 ?_
  refine r_sP E (st := []) (c_X7_in l D v 1 4 (by first | assumption | omega | exact ⟨by omega, by omega⟩) (by first | assumption | omega | exact ⟨by omega, by omega⟩) (by first | assumption | omega | exact ⟨by omega, by omega⟩)) gX7_set_X7_in 3 kf_X7_in ⟨rfl, rfl⟩ ⟨by decide, by decide⟩ dX7_set_3 rfl rfl ⟨Nat.zero_le _, Nat.zero_le _⟩ [] rfl (by decide) [] rfl (Nat.le_of_ble_eq_true rfl) ?_
  refine r_ifne_b E 11 dX7_set_6 (by decide) (fun c_6 => absurd c_6 (by omega)) (fun c_6 => ?_)
  refine r_iconst E (-1) rfl dX7_set_9 ?_
  exact r_retP E hr dX7_set_10 rfl hQ
set_option maxRecDepth 20000 in
theorem in_X7_set_X7 : ∀ w ∈ u_ws RX7 TX7 17, w ∈ wsX7_set := by decide +kernel
set_option maxRecDepth 20000 in
theorem lk_X7_set_7 : Cond.fieldLink RX7 7 (TX7 0).1 (TX7 0).2.1 (TX7 0).2.2.1 ∈ wsX7_set := by decide +kernel
set_option maxHeartbeats 1000000 in
set_option maxRecDepth 100000 in
theorem c_X7_set (l : Launch) (D : va_G) (m0 : Nat) (ms : Nat) (mh : Nat) (mn : Nat) (mp : Nat) (ml : Nat) (mm : Nat) (md : Nat) (mw : Nat) (mt : Nat) (mb : Nat) (mi : Nat) (mg : Nat) (cI : ClassId) (kp : Int) (sv : Int) (pn : Int) (rf : Int) (tl : Int) (s : Int → Int) (h : Int → Int) (v : Int) (hs0 : 0 ≤ s 0 ∧ s 0 ≤ 32) (hkp : 0 ≤ kp ∧ kp ≤ 4) (hx : 1 ≤ v ∧ v ≤ 4) : MM (S := Unit) l yX7_set wsX7_set rm_X7_set D vwCl [.ref m0, .int (iJ (v))] [(m0, .inr (6, [.ref ms, .ref mh, .int (iJ (kp)), .ref mn, .int (iJ (sv)), .ref mp, .int (iJ (pn)), .int (iJ (rf)), .ref ml, .ref mm, .ref md, .ref mw, .ref mt, .int (iJ (tl)), .ref mb, .ref mi, .ref mg])), (ms, cJ cI 34 (s)), (mh, cJ cI 136 (h))] [(cI, .int)] (fun (_ : Unit) => s 1) (fun (_ : Unit) => True) (fun (_ : Unit) => [(m0, .inr (6, [.ref ms, .ref mh, .int (iJ (rcK kp)), .ref mn, .int (iJ (sv)), .ref mp, .int (iJ (pn)), .int (iJ (rf)), .ref ml, .ref mm, .ref md, .ref mw, .ref mt, .int (iJ (tl)), .ref mb, .ref mi, .ref mg])), (ms, cJ cI 34 (uJ s 1 v)), (mh, cJ cI 136 (rcH s h kp))]) := by
  refine MM.mk (cc := cX7_set) (maxL := 3) (ret := (some .int)) (by decide) rfl (Nat.le_of_ble_eq_true rfl) rfl RX7 rfl ?_
  intro p_ e_ s_ m_ ar_ bw_ mt_ cd_ B_ Q_ hA E hr hQ
  refine r_iload_n E 1 dX7_set_0 rfl rfl ?_
  refine r_iconst E 1 rfl dX7_set_1 ?_
  refine r_iconst E 4 rfl dX7_set_2 ?_
  refine r_sP E (st := []) (c_X7_in l D v 1 4 (by first | assumption | omega | exact ⟨by omega, by omega⟩) (by first | assumption | omega | exact ⟨by omega, by omega⟩) (by first | assumption | omega | exact ⟨by omega, by omega⟩)) gX7_set_X7_in 3 kf_X7_in ⟨rfl, rfl⟩ ⟨by decide, by decide⟩ dX7_set_3 rfl rfl ⟨Nat.zero_le _, Nat.zero_le _⟩ [] rfl (by decide) [] rfl (Nat.le_of_ble_eq_true rfl) ?_
  refine r_ifne_b E 11 dX7_set_6 (by decide) (fun c_6 => ?_) (fun c_6 => absurd c_6 (by omega))
  refine r_aload_n E 0 dX7_set_11 rfl rfl ?_
  refine r_vV E (st := []) (c_X7_record l D m0 ms mh mn mp ml mm md mw mt mb mi mg cI kp sv pn rf tl s h (by first | assumption | omega | exact ⟨by omega, by omega⟩)) gX7_set_X7_record 0 kf_X7_record ⟨rfl, rfl⟩ ⟨by decide, by decide⟩ dX7_set_12 rfl 0 rfl rfl rfl rfl ⟨Nat.zero_le _, Nat.zero_le _⟩ [0, 1, 2] rfl (by decide) [0] rfl (Nat.le_of_ble_eq_true rfl) [] [] rfl (by decide) (by decide) hA [0, 1, 2] (by decide) (fun (_ : Unit) => [(m0, .inr (6, [.ref ms, .ref mh, .int (iJ (rcK kp)), .ref mn, .int (iJ (sv)), .ref mp, .int (iJ (pn)), .int (iJ (rf)), .ref ml, .ref mm, .ref md, .ref mw, .ref mt, .int (iJ (tl)), .ref mb, .ref mi, .ref mg])), (ms, cJ cI 34 (s)), (mh, cJ cI 136 (rcH s h kp))]) (fun _ => rfl) ?_
  rintro ⟨⟩ hp_1
  refine r_aload_n E 0 dX7_set_15 rfl rfl ?_
  refine r_get E 6 0 0 dX7_set_16 in_X7_set_X7 lk_X7_set_7 rfl rfl (by decide) rfl ?_
  refine r_iconst E 1 rfl dX7_set_19 ?_
  refine r_iald E (i := 1) 1 0 dX7_set_20 rfl rfl (by decide) ⟨by omega, by omega⟩ ?_
  refine r_istore_n E [(2, .int (iJ (s 1))), (0, .ref m0), (1, .int (iJ (v)))] dX7_set_21 rfl (by decide) rfl ?_
  refine r_aload_n E 1 dX7_set_22 rfl rfl ?_
  refine r_get E 6 0 0 dX7_set_23 in_X7_set_X7 lk_X7_set_7 rfl rfl (by decide) rfl ?_
  refine r_iconst E 1 rfl dX7_set_26 ?_
  refine r_iload_n E 2 dX7_set_27 rfl rfl ?_
  refine r_iast E (i := 1) 1 0 dX7_set_28 rfl rfl (by decide) ⟨by omega, by omega⟩ [(m0, .inr (6, [.ref ms, .ref mh, .int (iJ (rcK kp)), .ref mn, .int (iJ (sv)), .ref mp, .int (iJ (pn)), .int (iJ (rf)), .ref ml, .ref mm, .ref md, .ref mw, .ref mt, .int (iJ (tl)), .ref mb, .ref mi, .ref mg])), (ms, cJ cI 34 (uJ s 1 v)), (mh, cJ cI 136 (rcH s h kp))] rfl ?_
  refine r_iload_n E 0 dX7_set_29 rfl rfl ?_
  exact r_retM E () hr dX7_set_30 rfl trivial rfl hQ
theorem kf_X7_turn : KF yX7_turn 1 wsX7_turn cX7_turn 5 (some .int) := ⟨rfl, by decide +kernel, by decide +kernel, by decide +kernel⟩
def rm_X7_turn : Room := { frames := 1, cells := 0, slots := 0, locals := 22 }
set_option maxRecDepth 20000 in
theorem in_X7_turn_X7 : ∀ w ∈ u_ws RX7 TX7 17, w ∈ wsX7_turn := by decide +kernel
set_option maxRecDepth 20000 in
theorem lk_X7_turn_7 : Cond.fieldLink RX7 7 (TX7 0).1 (TX7 0).2.1 (TX7 0).2.2.1 ∈ wsX7_turn := by decide +kernel
set_option maxHeartbeats 1000000 in
set_option maxRecDepth 100000 in
theorem c_X7_turnBad (l : Launch) (D : va_G) (m0 : Nat) (ms : Nat) (mh : Nat) (mn : Nat) (mp : Nat) (ml : Nat) (mm : Nat) (md : Nat) (mw : Nat) (mt : Nat) (mb : Nat) (mi : Nat) (mg : Nat) (cI : ClassId) (kp : Int) (sv : Int) (pn : Int) (rf : Int) (tl : Int) (s : Int → Int) (a : Int) (hs0 : 0 ≤ s 0 ∧ s 0 ≤ 32) (ha : jb a) (hx : ¬ (0 ≤ a ∧ a ≤ s 0)) : MP l yX7_turn wsX7_turn rm_X7_turn D vwCl [.ref m0, .int (iJ (a))] [(m0, .inr (6, [.ref ms, .ref mh, .int (iJ (kp)), .ref mn, .int (iJ (sv)), .ref mp, .int (iJ (pn)), .int (iJ (rf)), .ref ml, .ref mm, .ref md, .ref mw, .ref mt, .int (iJ (tl)), .ref mb, .ref mi, .ref mg])), (ms, cJ cI 34 (s))] [(cI, .int)] (-1) := by
  refine MP.mk (cc := cX7_turn) (maxL := 5) (ret := (some .int)) (by decide) rfl (Nat.le_of_ble_eq_true rfl) rfl RX7 rfl ?_
  intro p_ e_ s_ m_ ar_ bw_ mt_ cd_ Q_ E hr hQ
  refine r_iload_n E 1 dX7_turn_0 rfl rfl ?_
  refine r_iconst E 0 rfl dX7_turn_1 ?_
  refine r_aload_n E 0 dX7_turn_2 rfl rfl ?_
  refine r_get E 6 0 0 dX7_turn_3 in_X7_turn_X7 lk_X7_turn_7 rfl rfl (by decide) rfl ?_
  refine r_iconst E 0 rfl dX7_turn_6 ?_
  refine r_iald E (i := 0) 1 0 dX7_turn_7 rfl rfl (by decide) ⟨by omega, by omega⟩ ?_
  refine r_sP E (st := []) (c_X7_in l D a 0 (s 0) (by first | assumption | omega | exact ⟨by omega, by omega⟩) (by first | assumption | omega | exact ⟨by omega, by omega⟩) (by first | assumption | omega | exact ⟨by omega, by omega⟩)) gX7_turn_X7_in 3 kf_X7_in ⟨rfl, rfl⟩ ⟨by decide, by decide⟩ dX7_turn_8 rfl rfl ⟨Nat.zero_le _, Nat.zero_le _⟩ [] rfl (by decide) [] rfl (Nat.le_of_ble_eq_true rfl) ?_
  refine r_ifne_b E 16 dX7_turn_11 (by decide) (fun c_11 => absurd c_11 (by omega)) (fun c_11 => ?_)
  refine r_iconst E (-1) rfl dX7_turn_14 ?_
  exact r_retP E hr dX7_turn_15 rfl hQ
set_option maxRecDepth 20000 in
theorem lk_X7_turn_32 : Cond.fieldLink RX7 32 (TX7 11).1 (TX7 11).2.1 (TX7 11).2.2.1 ∈ wsX7_turn := by decide +kernel
set_option maxHeartbeats 1000000 in
set_option maxRecDepth 100000 in
theorem c_X7_turn (l : Launch) (D : va_G) (m0 : Nat) (ms : Nat) (mh : Nat) (mn : Nat) (mp : Nat) (ml : Nat) (mm : Nat) (md : Nat) (mw : Nat) (mt : Nat) (mb : Nat) (mi : Nat) (mg : Nat) (cI : ClassId) (kp : Int) (sv : Int) (pn : Int) (rf : Int) (tl : Int) (s : Int → Int) (h : Int → Int) (ww : Int → Int) (a : Int) (hs0 : 0 ≤ s 0 ∧ s 0 ≤ 32) (hsv : ∀ j : Int, 0 ≤ j → j < s 0 → 0 ≤ s (2 + j) ∧ s (2 + j) ≤ 24) (hkp : 0 ≤ kp ∧ kp ≤ 4) (hx : 0 ≤ a ∧ a ≤ s 0) : MM (S := Int → Int) l yX7_turn wsX7_turn rm_X7_turn D vwCl [.ref m0, .int (iJ (a))] [(m0, .inr (6, [.ref ms, .ref mh, .int (iJ (kp)), .ref mn, .int (iJ (sv)), .ref mp, .int (iJ (pn)), .int (iJ (rf)), .ref ml, .ref mm, .ref md, .ref mw, .ref mt, .int (iJ (tl)), .ref mb, .ref mi, .ref mg])), (ms, cJ cI 34 (s)), (mh, cJ cI 136 (h)), (mw, cJ cI 32 (ww))] [(cI, .int)] (fun (W2 : Int → Int) => sm (fun j => b2 (¬ s (2 + (j + a) % s 0) = s (2 + j))) (s 0)) (fun (W2 : Int → Int) => True) (fun (W2 : Int → Int) => [(m0, .inr (6, [.ref ms, .ref mh, .int (iJ (rcK kp)), .ref mn, .int (iJ (sv)), .ref mp, .int (iJ (pn)), .int (iJ (rf)), .ref ml, .ref mm, .ref md, .ref mw, .ref mt, .int (iJ (tl)), .ref mb, .ref mi, .ref mg])), (ms, cJ cI 34 (mpS (fun j _ => s (2 + (j + a) % s 0)) s (s 0))), (mh, cJ cI 136 (rcH s h kp)), (mw, cJ cI 32 (W2))]) := by
  refine MM.mk (cc := cX7_turn) (maxL := 5) (ret := (some .int)) (by decide) rfl (Nat.le_of_ble_eq_true rfl) rfl RX7 rfl ?_
  intro p_ e_ s_ m_ ar_ bw_ mt_ cd_ B_ Q_ hA E hr hQ
  refine r_iload_n E 1 dX7_turn_0 rfl rfl ?_
  refine r_iconst E 0 rfl dX7_turn_1 ?_
  refine r_aload_n E 0 dX7_turn_2 rfl rfl ?_
  refine r_get E 6 0 0 dX7_turn_3 in_X7_turn_X7 lk_X7_turn_7 rfl rfl (by decide) rfl ?_
  refine r_iconst E 0 rfl dX7_turn_6 ?_
  refine r_iald E (i := 0) 1 0 dX7_turn_7 rfl rfl (by decide) ⟨by omega, by omega⟩ ?_
  refine r_sP E (st := []) (c_X7_in l D a 0 (s 0) (by first | assumption | omega | exact ⟨by omega, by omega⟩) (by first | assumption | omega | exact ⟨by omega, by omega⟩) (by first | assumption | omega | exact ⟨by omega, by omega⟩)) gX7_turn_X7_in 3 kf_X7_in ⟨rfl, rfl⟩ ⟨by decide, by decide⟩ dX7_turn_8 rfl rfl ⟨Nat.zero_le _, Nat.zero_le _⟩ [] rfl (by decide) [] rfl (Nat.le_of_ble_eq_true rfl) ?_
  refine r_ifne_b E 16 dX7_turn_11 (by decide) (fun c_11 => ?_) (fun c_11 => absurd c_11 (by omega))
  refine r_aload_n E 0 dX7_turn_16 rfl rfl ?_
  refine r_vV E (st := []) (c_X7_record l D m0 ms mh mn mp ml mm md mw mt mb mi mg cI kp sv pn rf tl s h (by first | assumption | omega | exact ⟨by omega, by omega⟩)) gX7_turn_X7_record 0 kf_X7_record ⟨rfl, rfl⟩ ⟨by decide, by decide⟩ dX7_turn_17 rfl 0 rfl rfl rfl rfl ⟨Nat.zero_le _, Nat.zero_le _⟩ [0, 1, 2] rfl (by decide) [0] rfl (Nat.le_of_ble_eq_true rfl) [(mw, cJ cI 32 (ww))] [3] rfl (by decide) (by decide) hA [1, 2, 3, 0] (by decide) (fun (_ : Unit) => [(m0, .inr (6, [.ref ms, .ref mh, .int (iJ (rcK kp)), .ref mn, .int (iJ (sv)), .ref mp, .int (iJ (pn)), .int (iJ (rf)), .ref ml, .ref mm, .ref md, .ref mw, .ref mt, .int (iJ (tl)), .ref mb, .ref mi, .ref mg])), (ms, cJ cI 34 (s)), (mh, cJ cI 136 (rcH s h kp)), (mw, cJ cI 32 (ww))]) (fun _ => rfl) ?_
  rintro ⟨⟩ hp_1
  refine r_aload_n E 0 dX7_turn_20 rfl rfl ?_
  refine r_get E 6 0 0 dX7_turn_21 in_X7_turn_X7 lk_X7_turn_7 rfl rfl (by decide) rfl ?_
  refine r_iconst E 0 rfl dX7_turn_24 ?_
  refine r_iald E (i := 0) 1 0 dX7_turn_25 rfl rfl (by decide) ⟨by omega, by omega⟩ ?_
  refine r_istore_n E [(2, .int (iJ (s 0))), (0, .ref m0), (1, .int (iJ (a)))] dX7_turn_26 rfl (by decide) rfl ?_
  refine r_iconst E 0 rfl dX7_turn_27 ?_
  refine r_istore_n E [(3, .int (iJ (0))), (2, .int (iJ (s 0))), (0, .ref m0), (1, .int (iJ (a)))] dX7_turn_28 rfl (by decide) rfl ?_
  refine r_iconst E 0 rfl dX7_turn_29 ?_
  refine r_istore E [(4, .int (iJ (0))), (3, .int (iJ (0))), (2, .int (iJ (s 0))), (0, .ref m0), (1, .int (iJ (a)))] dX7_turn_30 (by decide) rfl ?_
  have loop_32 : ∀ (N : Nat) (k0 : Int) (W0 : Int → Int), (0 ≤ k0 ∧ k0 ≤ s 0) → (∀ j : Int, 0 ≤ j → j < k0 → W0 j = s (2 + j)) → (s 0 - k0).toNat < N → GG p_ l e_ rm_X7_turn s_ m_ ar_ bw_ mt_ cd_ D vwCl B_ B_ s_.heap 5 0 0 Q_ [(m0, .inr (6, [.ref ms, .ref mh, .int (iJ (rcK kp)), .ref mn, .int (iJ (sv)), .ref mp, .int (iJ (pn)), .int (iJ (rf)), .ref ml, .ref mm, .ref md, .ref mw, .ref mt, .int (iJ (tl)), .ref mb, .ref mi, .ref mg])), (ms, cJ cI 34 (s)), (mh, cJ cI 136 (rcH s h kp)), (mw, cJ cI 32 (W0))] [(0, .ref m0), (1, .int (iJ (a))), (2, .int (iJ (s 0))), (3, .int (iJ (0))), (4, .int (iJ (k0)))] 32 [] := by
    intro N; induction N with
    | zero => intro k0 W0 hk0 hW hN; exact absurd hN (Nat.not_lt_zero _)
    | succ N ih32 =>
      intro k0 W0 hk0 hW hN
      refine r_iload E 4 dX7_turn_32 rfl ?_
      refine r_iload_n E 2 dX7_turn_34 rfl rfl ?_
      refine r_icmp_ge E 57 dX7_turn_35 (by decide) ⟨by omega, by omega⟩ ⟨by omega, by omega⟩ (fun c_35 => ?_) (fun c_35 => ?_)
      · refine r_iconst E 0 rfl dX7_turn_57 ?_
        refine r_istore E [(4, .int (iJ (0))), (0, .ref m0), (1, .int (iJ (a))), (2, .int (iJ (s 0))), (3, .int (iJ (0)))] dX7_turn_58 (by decide) rfl ?_
        have loop_60 : ∀ (N : Nat) (k : Int) (x : Int) (G : Int → Int), (0 ≤ k ∧ k ≤ s 0) → (x = sm (fun j => b2 (¬ s (2 + (j + a) % s 0) = s (2 + j))) k) → (G = mpS (fun j _ => s (2 + (j + a) % s 0)) s k) → (s 0 - k).toNat < N → GG p_ l e_ rm_X7_turn s_ m_ ar_ bw_ mt_ cd_ D vwCl B_ B_ s_.heap 5 0 0 Q_ [(m0, .inr (6, [.ref ms, .ref mh, .int (iJ (rcK kp)), .ref mn, .int (iJ (sv)), .ref mp, .int (iJ (pn)), .int (iJ (rf)), .ref ml, .ref mm, .ref md, .ref mw, .ref mt, .int (iJ (tl)), .ref mb, .ref mi, .ref mg])), (ms, cJ cI 34 (G)), (mh, cJ cI 136 (rcH s h kp)), (mw, cJ cI 32 (W0))] [(0, .ref m0), (1, .int (iJ (a))), (2, .int (iJ (s 0))), (3, .int (iJ (x))), (4, .int (iJ (k)))] 60 [] := by
          intro N; induction N with
          | zero => intro k x G hk hx2 hG hN; exact absurd hN (Nat.not_lt_zero _)
          | succ N ih60 =>
            intro k x G hk hx2 hG hN
            refine r_iload E 4 dX7_turn_60 rfl ?_
            refine r_iload_n E 2 dX7_turn_62 rfl rfl ?_
            refine r_icmp_ge E 116 dX7_turn_63 (by decide) ⟨by omega, by omega⟩ ⟨by omega, by omega⟩ (fun c_63 => ?_) (fun c_63 => ?_)
            · refine r_iload_n E 3 dX7_turn_116 rfl rfl ?_
              exact r_retM E W0 hr dX7_turn_117 (by
                    have e : k = s 0 := by omega
                    rw [hx2, e]) trivial (by
                    have e : k = s 0 := by omega
                    rw [hG, e]) hQ
            · refine r_aload_n E 0 dX7_turn_66 rfl rfl ?_
              refine r_get E 6 0 0 dX7_turn_67 in_X7_turn_X7 lk_X7_turn_7 rfl rfl (by decide) rfl ?_
              refine r_iconst E 2 rfl dX7_turn_70 ?_
              refine r_iload E 4 dX7_turn_71 rfl ?_
              refine r_iadd E dX7_turn_73 ?_
              refine r_aload_n E 0 dX7_turn_74 rfl rfl ?_
              refine r_get E 6 0 11 dX7_turn_75 in_X7_turn_X7 lk_X7_turn_32 rfl rfl (by decide) rfl ?_
              refine r_iload E 4 dX7_turn_78 rfl ?_
              refine r_iload_n E 1 dX7_turn_80 rfl rfl ?_
              refine r_iadd E dX7_turn_81 ?_
              refine r_iload_n E 2 dX7_turn_82 rfl rfl ?_
              have f_m : 0 ≤ (k + a) % s 0 ∧ (k + a) % s 0 < s 0 := ⟨by have := Int.emod_nonneg (k + a) (show s 0 ≠ 0 by omega); omega, Int.emod_lt_of_pos _ (by omega)⟩
              refine r_irem E ⟨by omega, by omega⟩ ⟨by omega, by omega⟩ dX7_turn_83 ?_
              refine r_iald E (i := ((k + a) % (s 0))) 3 0 dX7_turn_84 rfl rfl (by decide) ⟨by omega, by omega⟩ ?_
              refine r_top (b := (s (2 + (k + a) % s 0))) (hW _ f_m.1 (by omega)) ?_
              refine r_iast E (i := (2 + k)) 1 0 dX7_turn_85 rfl rfl (by decide) ⟨by omega, by omega⟩ [(m0, .inr (6, [.ref ms, .ref mh, .int (iJ (rcK kp)), .ref mn, .int (iJ (sv)), .ref mp, .int (iJ (pn)), .int (iJ (rf)), .ref ml, .ref mm, .ref md, .ref mw, .ref mt, .int (iJ (tl)), .ref mb, .ref mi, .ref mg])), (ms, cJ cI 34 (uJ G (2 + k) (s (2 + (k + a) % s 0)))), (mh, cJ cI 136 (rcH s h kp)), (mw, cJ cI 32 (W0))] rfl ?_
              have f_u : W0 ((k + a) % s 0) = s (2 + (k + a) % s 0) := hW _ f_m.1 (by omega)
              refine r_iload_n E 3 dX7_turn_86 rfl rfl ?_
              refine r_aload_n E 0 dX7_turn_87 rfl rfl ?_
              refine r_iload E 4 dX7_turn_88 rfl ?_
              refine r_vP E (st := [.int (iJ (x))]) (c_X7_at l D m0 ms mh mn mp ml mm md mw mt mb mi mg cI (rcK kp) sv pn rf tl (uJ G (2 + k) (s (2 + (k + a) % s 0))) k (by first | assumption | omega | exact ⟨by omega, by omega⟩)) gX7_turn_X7_at 1 kf_X7_at ⟨rfl, rfl⟩ ⟨by decide, by decide⟩ dX7_turn_90 rfl 0 rfl rfl rfl rfl ⟨Nat.zero_le _, Nat.zero_le _⟩ [0, 1] rfl (by decide) [0] rfl (Nat.le_of_ble_eq_true rfl) ?_
              refine r_top (b := (s (2 + (k + a) % s 0))) (by rw [uJ_s]) ?_
              refine r_aload_n E 0 dX7_turn_93 rfl rfl ?_
              refine r_get E 6 0 11 dX7_turn_94 in_X7_turn_X7 lk_X7_turn_32 rfl rfl (by decide) rfl ?_
              refine r_iload E 4 dX7_turn_97 rfl ?_
              refine r_iald E (i := k) 3 0 dX7_turn_99 rfl rfl (by decide) ⟨by omega, by omega⟩ ?_
              have f_c := hsv k (by omega) (by omega)
              have f_d := hsv ((k + a) % s 0) f_m.1 f_m.2
              refine r_top (b := (s (2 + k))) (hW k (by omega) (by omega)) ?_
              refine r_icmp_ne E 107 dX7_turn_100 (by decide) ⟨by omega, by omega⟩ ⟨by omega, by omega⟩ (fun c_100 => ?_) (fun c_100 => ?_)
              · refine r_iconst E 1 rfl dX7_turn_107 ?_
                refine r_iadd E dX7_turn_108 ?_
                refine r_istore_n E [(3, .int (iJ ((x + 1)))), (0, .ref m0), (1, .int (iJ (a))), (2, .int (iJ (s 0))), (4, .int (iJ (k)))] dX7_turn_109 rfl (by decide) rfl ?_
                refine r_iinc E (k := 4) [(4, .int (iJ ((k + 1)))), (3, .int (iJ ((x + 1)))), (0, .ref m0), (1, .int (iJ (a))), (2, .int (iJ (s 0)))] dX7_turn_110 rfl (by decide) rfl ?_
                refine r_goto E 60 dX7_turn_113 (by decide) ?_
                refine r_lv [2, 3, 4, 1, 0] [(0, .ref m0), (1, .int (iJ (a))), (2, .int (iJ (s 0))), (3, .int (iJ ((x + 1)))), (4, .int (iJ ((k + 1))))] rfl ?_
                exact ih60 (k + 1) (x + 1) (uJ G (2 + k) (s (2 + (k + a) % s 0))) ⟨by omega, by omega⟩ (by
                      rw [sm_s _ (by omega), hx2]; simp [b2, c_100]) (by
                      rw [hG]; exact mpS_s1 _ _ (by omega) rfl) (by omega)
              · refine r_iconst E 0 rfl dX7_turn_103 ?_
                refine r_goto E 108 dX7_turn_104 (by decide) ?_
                refine r_iadd E dX7_turn_108 ?_
                refine r_istore_n E [(3, .int (iJ ((x + 0)))), (0, .ref m0), (1, .int (iJ (a))), (2, .int (iJ (s 0))), (4, .int (iJ (k)))] dX7_turn_109 rfl (by decide) rfl ?_
                refine r_iinc E (k := 4) [(4, .int (iJ ((k + 1)))), (3, .int (iJ ((x + 0)))), (0, .ref m0), (1, .int (iJ (a))), (2, .int (iJ (s 0)))] dX7_turn_110 rfl (by decide) rfl ?_
                refine r_goto E 60 dX7_turn_113 (by decide) ?_
                refine r_lv [2, 3, 4, 1, 0] [(0, .ref m0), (1, .int (iJ (a))), (2, .int (iJ (s 0))), (3, .int (iJ ((x + 0)))), (4, .int (iJ ((k + 1))))] rfl ?_
                exact ih60 (k + 1) (x + 0) (uJ G (2 + k) (s (2 + (k + a) % s 0))) ⟨by omega, by omega⟩ (by
                      rw [sm_s _ (by omega), hx2]; simp [b2, c_100]) (by
                      rw [hG]; exact mpS_s1 _ _ (by omega) rfl) (by omega)
        refine r_lv [1, 2, 3, 4, 0] [(0, .ref m0), (1, .int (iJ (a))), (2, .int (iJ (s 0))), (3, .int (iJ (0))), (4, .int (iJ (0)))] rfl ?_
        exact loop_60 _ 0 0 s ⟨by omega, by omega⟩ (sm_0 _).symm (mpS_0 _ _) (Nat.lt_succ_self _)
      · refine r_aload_n E 0 dX7_turn_38 rfl rfl ?_
        refine r_get E 6 0 11 dX7_turn_39 in_X7_turn_X7 lk_X7_turn_32 rfl rfl (by decide) rfl ?_
        refine r_iload E 4 dX7_turn_42 rfl ?_
        refine r_aload_n E 0 dX7_turn_44 rfl rfl ?_
        refine r_iload E 4 dX7_turn_45 rfl ?_
        refine r_vP E (st := [.int (iJ (k0)), .ref mw]) (c_X7_at l D m0 ms mh mn mp ml mm md mw mt mb mi mg cI (rcK kp) sv pn rf tl s k0 (by first | assumption | omega | exact ⟨by omega, by omega⟩)) gX7_turn_X7_at 1 kf_X7_at ⟨rfl, rfl⟩ ⟨by decide, by decide⟩ dX7_turn_47 rfl 0 rfl rfl rfl rfl ⟨Nat.zero_le _, Nat.zero_le _⟩ [0, 1] rfl (by decide) [0] rfl (Nat.le_of_ble_eq_true rfl) ?_
        refine r_iast E (i := k0) 3 0 dX7_turn_50 rfl rfl (by decide) ⟨by omega, by omega⟩ [(m0, .inr (6, [.ref ms, .ref mh, .int (iJ (rcK kp)), .ref mn, .int (iJ (sv)), .ref mp, .int (iJ (pn)), .int (iJ (rf)), .ref ml, .ref mm, .ref md, .ref mw, .ref mt, .int (iJ (tl)), .ref mb, .ref mi, .ref mg])), (ms, cJ cI 34 (s)), (mh, cJ cI 136 (rcH s h kp)), (mw, cJ cI 32 (uJ W0 k0 (s (2 + k0))))] rfl ?_
        refine r_iinc E (k := 4) [(4, .int (iJ ((k0 + 1)))), (0, .ref m0), (1, .int (iJ (a))), (2, .int (iJ (s 0))), (3, .int (iJ (0)))] dX7_turn_51 rfl (by decide) rfl ?_
        refine r_goto E 32 dX7_turn_54 (by decide) ?_
        refine r_lv [1, 2, 3, 4, 0] [(0, .ref m0), (1, .int (iJ (a))), (2, .int (iJ (s 0))), (3, .int (iJ (0))), (4, .int (iJ ((k0 + 1))))] rfl ?_
        exact ih32 (k0 + 1) (uJ W0 k0 (s (2 + k0))) ⟨by omega, by omega⟩ (fun j h1 h2 => by
              by_cases q0 : j = k0
              · subst q0; exact uJ_s _ _ _
              · rw [uJ_n q0]; exact hW j h1 (by omega)) (by omega)
  refine r_lv [3, 4, 2, 1, 0] [(0, .ref m0), (1, .int (iJ (a))), (2, .int (iJ (s 0))), (3, .int (iJ (0))), (4, .int (iJ (0)))] rfl ?_
  exact loop_32 _ 0 ww ⟨by omega, by omega⟩ (fun j h1 h2 => absurd h2 (by omega)) (Nat.lt_succ_self _)
theorem kf_X7_append : KF yX7_append 1 wsX7_append cX7_append 2 (some .int) := ⟨rfl, by decide +kernel, by decide +kernel, by decide +kernel⟩
def rm_X7_append : Room := { frames := 1, cells := 0, slots := 0, locals := 22 }
set_option maxHeartbeats 1000000 in
set_option maxRecDepth 100000 in
theorem c_X7_appendBad (l : Launch) (D : va_G) (m0 : Nat) (ms : Nat) (mh : Nat) (mn : Nat) (mp : Nat) (ml : Nat) (mm : Nat) (md : Nat) (mw : Nat) (mt : Nat) (mb : Nat) (mi : Nat) (mg : Nat) (cI : ClassId) (kp : Int) (sv : Int) (pn : Int) (rf : Int) (tl : Int) (p : Int → Int) (c : Int) (hpn : 0 ≤ pn ∧ pn ≤ 60) (hc : jb c) (hx : ¬ (33 ≤ c ∧ c ≤ 126)) : MP l yX7_append wsX7_append rm_X7_append D vwCl [.ref m0, .int (iJ (c))] [(m0, .inr (6, [.ref ms, .ref mh, .int (iJ (kp)), .ref mn, .int (iJ (sv)), .ref mp, .int (iJ (pn)), .int (iJ (rf)), .ref ml, .ref mm, .ref md, .ref mw, .ref mt, .int (iJ (tl)), .ref mb, .ref mi, .ref mg])), (mp, cJ cI 60 (p))] [(cI, .int)] (-1) := by
  refine MP.mk (cc := cX7_append) (maxL := 2) (ret := (some .int)) (by decide) rfl (Nat.le_of_ble_eq_true rfl) rfl RX7 rfl ?_
  intro p_ e_ s_ m_ ar_ bw_ mt_ cd_ Q_ E hr hQ
  refine r_iload_n E 1 dX7_append_0 rfl rfl ?_
  refine r_bipush E 33 rfl dX7_append_1 ?_
  refine r_bipush E 126 rfl dX7_append_3 ?_
  refine r_sP E (st := []) (c_X7_in l D c 33 126 (by first | assumption | omega | exact ⟨by omega, by omega⟩) (by first | assumption | omega | exact ⟨by omega, by omega⟩) (by first | assumption | omega | exact ⟨by omega, by omega⟩)) gX7_append_X7_in 3 kf_X7_in ⟨rfl, rfl⟩ ⟨by decide, by decide⟩ dX7_append_5 rfl rfl ⟨Nat.zero_le _, Nat.zero_le _⟩ [] rfl (by decide) [] rfl (Nat.le_of_ble_eq_true rfl) ?_
  refine r_ifne_b E 13 dX7_append_8 (by decide) (fun c_8 => absurd c_8 (by omega)) (fun c_8 => ?_)
  refine r_iconst E (-1) rfl dX7_append_11 ?_
  exact r_retP E hr dX7_append_12 rfl hQ
set_option maxRecDepth 20000 in
theorem in_X7_append_X7 : ∀ w ∈ u_ws RX7 TX7 17, w ∈ wsX7_append := by decide +kernel
set_option maxRecDepth 20000 in
theorem lk_X7_append_133 : Cond.fieldLink RX7 133 (TX7 6).1 (TX7 6).2.1 (TX7 6).2.2.1 ∈ wsX7_append := by decide +kernel
set_option maxHeartbeats 1000000 in
set_option maxRecDepth 100000 in
theorem c_X7_appendNo (l : Launch) (D : va_G) (m0 : Nat) (ms : Nat) (mh : Nat) (mn : Nat) (mp : Nat) (ml : Nat) (mm : Nat) (md : Nat) (mw : Nat) (mt : Nat) (mb : Nat) (mi : Nat) (mg : Nat) (cI : ClassId) (kp : Int) (sv : Int) (pn : Int) (rf : Int) (tl : Int) (p : Int → Int) (c : Int) (hpn : 0 ≤ pn ∧ pn ≤ 60) (hx : 33 ≤ c ∧ c ≤ 126) (hf : pn = 60) : MP l yX7_append wsX7_append rm_X7_append D vwCl [.ref m0, .int (iJ (c))] [(m0, .inr (6, [.ref ms, .ref mh, .int (iJ (kp)), .ref mn, .int (iJ (sv)), .ref mp, .int (iJ (pn)), .int (iJ (rf)), .ref ml, .ref mm, .ref md, .ref mw, .ref mt, .int (iJ (tl)), .ref mb, .ref mi, .ref mg])), (mp, cJ cI 60 (p))] [(cI, .int)] (-3) := by
  refine MP.mk (cc := cX7_append) (maxL := 2) (ret := (some .int)) (by decide) rfl (Nat.le_of_ble_eq_true rfl) rfl RX7 rfl ?_
  intro p_ e_ s_ m_ ar_ bw_ mt_ cd_ Q_ E hr hQ
  refine r_iload_n E 1 dX7_append_0 rfl rfl ?_
  refine r_bipush E 33 rfl dX7_append_1 ?_
  refine r_bipush E 126 rfl dX7_append_3 ?_
  refine r_sP E (st := []) (c_X7_in l D c 33 126 (by first | assumption | omega | exact ⟨by omega, by omega⟩) (by first | assumption | omega | exact ⟨by omega, by omega⟩) (by first | assumption | omega | exact ⟨by omega, by omega⟩)) gX7_append_X7_in 3 kf_X7_in ⟨rfl, rfl⟩ ⟨by decide, by decide⟩ dX7_append_5 rfl rfl ⟨Nat.zero_le _, Nat.zero_le _⟩ [] rfl (by decide) [] rfl (Nat.le_of_ble_eq_true rfl) ?_
  refine r_ifne_b E 13 dX7_append_8 (by decide) (fun c_8 => ?_) (fun c_8 => absurd c_8 (by omega))
  refine r_aload_n E 0 dX7_append_13 rfl rfl ?_
  refine r_get E 6 0 6 dX7_append_14 in_X7_append_X7 lk_X7_append_133 rfl rfl (by decide) rfl ?_
  refine r_bipush E 60 rfl dX7_append_17 ?_
  refine r_icmp_ne E 25 dX7_append_19 (by decide) ⟨by omega, by omega⟩ ⟨by omega, by omega⟩ (fun c_19 => absurd c_19 (by omega)) (fun c_19 => ?_)
  refine r_bipush E (-3) rfl dX7_append_22 ?_
  exact r_retP E hr dX7_append_24 rfl hQ
set_option maxRecDepth 20000 in
theorem lk_X7_append_19 : Cond.fieldLink RX7 19 (TX7 5).1 (TX7 5).2.1 (TX7 5).2.2.1 ∈ wsX7_append := by decide +kernel
set_option maxHeartbeats 1000000 in
set_option maxRecDepth 100000 in
theorem c_X7_append (l : Launch) (D : va_G) (m0 : Nat) (ms : Nat) (mh : Nat) (mn : Nat) (mp : Nat) (ml : Nat) (mm : Nat) (md : Nat) (mw : Nat) (mt : Nat) (mb : Nat) (mi : Nat) (mg : Nat) (cI : ClassId) (kp : Int) (sv : Int) (pn : Int) (rf : Int) (tl : Int) (p : Int → Int) (c : Int) (hpn : 0 ≤ pn ∧ pn ≤ 60) (hx : 33 ≤ c ∧ c ≤ 126) (hf : pn < 60) : MM (S := Unit) l yX7_append wsX7_append rm_X7_append D vwCl [.ref m0, .int (iJ (c))] [(m0, .inr (6, [.ref ms, .ref mh, .int (iJ (kp)), .ref mn, .int (iJ (sv)), .ref mp, .int (iJ (pn)), .int (iJ (rf)), .ref ml, .ref mm, .ref md, .ref mw, .ref mt, .int (iJ (tl)), .ref mb, .ref mi, .ref mg])), (mp, cJ cI 60 (p))] [(cI, .int)] (fun (_ : Unit) => pn + 1) (fun (_ : Unit) => True) (fun (_ : Unit) => [(m0, .inr (6, [.ref ms, .ref mh, .int (iJ (kp)), .ref mn, .int (iJ (sv)), .ref mp, .int (iJ ((pn + 1))), .int (iJ (rf)), .ref ml, .ref mm, .ref md, .ref mw, .ref mt, .int (iJ (tl)), .ref mb, .ref mi, .ref mg])), (mp, cJ cI 60 (uJ p pn c))]) := by
  refine MM.mk (cc := cX7_append) (maxL := 2) (ret := (some .int)) (by decide) rfl (Nat.le_of_ble_eq_true rfl) rfl RX7 rfl ?_
  intro p_ e_ s_ m_ ar_ bw_ mt_ cd_ B_ Q_ hA E hr hQ
  refine r_iload_n E 1 dX7_append_0 rfl rfl ?_
  refine r_bipush E 33 rfl dX7_append_1 ?_
  refine r_bipush E 126 rfl dX7_append_3 ?_
  refine r_sP E (st := []) (c_X7_in l D c 33 126 (by first | assumption | omega | exact ⟨by omega, by omega⟩) (by first | assumption | omega | exact ⟨by omega, by omega⟩) (by first | assumption | omega | exact ⟨by omega, by omega⟩)) gX7_append_X7_in 3 kf_X7_in ⟨rfl, rfl⟩ ⟨by decide, by decide⟩ dX7_append_5 rfl rfl ⟨Nat.zero_le _, Nat.zero_le _⟩ [] rfl (by decide) [] rfl (Nat.le_of_ble_eq_true rfl) ?_
  refine r_ifne_b E 13 dX7_append_8 (by decide) (fun c_8 => ?_) (fun c_8 => absurd c_8 (by omega))
  refine r_aload_n E 0 dX7_append_13 rfl rfl ?_
  refine r_get E 6 0 6 dX7_append_14 in_X7_append_X7 lk_X7_append_133 rfl rfl (by decide) rfl ?_
  refine r_bipush E 60 rfl dX7_append_17 ?_
  refine r_icmp_ne E 25 dX7_append_19 (by decide) ⟨by omega, by omega⟩ ⟨by omega, by omega⟩ (fun c_19 => ?_) (fun c_19 => absurd c_19 (by omega))
  refine r_aload_n E 0 dX7_append_25 rfl rfl ?_
  refine r_get E 6 0 5 dX7_append_26 in_X7_append_X7 lk_X7_append_19 rfl rfl (by decide) rfl ?_
  refine r_aload_n E 0 dX7_append_29 rfl rfl ?_
  refine r_get E 6 0 6 dX7_append_30 in_X7_append_X7 lk_X7_append_133 rfl rfl (by decide) rfl ?_
  refine r_iload_n E 1 dX7_append_33 rfl rfl ?_
  refine r_iast E (i := pn) 1 0 dX7_append_34 rfl rfl (by decide) ⟨by omega, by omega⟩ [(m0, .inr (6, [.ref ms, .ref mh, .int (iJ (kp)), .ref mn, .int (iJ (sv)), .ref mp, .int (iJ (pn)), .int (iJ (rf)), .ref ml, .ref mm, .ref md, .ref mw, .ref mt, .int (iJ (tl)), .ref mb, .ref mi, .ref mg])), (mp, cJ cI 60 (uJ p pn c))] rfl ?_
  refine r_aload_n E 0 dX7_append_35 rfl rfl ?_
  refine r_dup E dX7_append_36 rfl ?_
  refine r_get E 6 0 6 dX7_append_37 in_X7_append_X7 lk_X7_append_133 rfl rfl (by decide) rfl ?_
  refine r_iconst E 1 rfl dX7_append_40 ?_
  refine r_iadd E dX7_append_41 ?_
  refine r_put E (ty := .int) 6 0 6 tyX7 tyX7_ok nmX7 dX7_append_42 in_X7_append_X7 lk_X7_append_133 rfl rfl (by decide) rfl (by decide +kernel) rfl rfl (Nat.le_of_ble_eq_true rfl) [(m0, .inr (6, [.ref ms, .ref mh, .int (iJ (kp)), .ref mn, .int (iJ (sv)), .ref mp, .int (iJ ((pn + 1))), .int (iJ (rf)), .ref ml, .ref mm, .ref md, .ref mw, .ref mt, .int (iJ (tl)), .ref mb, .ref mi, .ref mg])), (mp, cJ cI 60 (uJ p pn c))] rfl ?_
  refine r_aload_n E 0 dX7_append_45 rfl rfl ?_
  refine r_get E 6 0 6 dX7_append_46 in_X7_append_X7 lk_X7_append_133 rfl rfl (by decide) rfl ?_
  exact r_retM E () hr dX7_append_49 rfl trivial rfl hQ
theorem kf_X7_clear : KF yX7_clear 0 wsX7_clear cX7_clear 2 (some .int) := ⟨rfl, by decide +kernel, by decide +kernel, by decide +kernel⟩
def rm_X7_clear : Room := { frames := 0, cells := 0, slots := 0, locals := 0 }
set_option maxRecDepth 20000 in
theorem in_X7_clear_X7 : ∀ w ∈ u_ws RX7 TX7 17, w ∈ wsX7_clear := by decide +kernel
set_option maxRecDepth 20000 in
theorem lk_X7_clear_133 : Cond.fieldLink RX7 133 (TX7 6).1 (TX7 6).2.1 (TX7 6).2.2.1 ∈ wsX7_clear := by decide +kernel
set_option maxHeartbeats 1000000 in
set_option maxRecDepth 100000 in
theorem c_X7_clear (l : Launch) (D : va_G) (m0 : Nat) (ms : Nat) (mh : Nat) (mn : Nat) (mp : Nat) (ml : Nat) (mm : Nat) (md : Nat) (mw : Nat) (mt : Nat) (mb : Nat) (mi : Nat) (mg : Nat) (cI : ClassId) (kp : Int) (sv : Int) (pn : Int) (rf : Int) (tl : Int) (p : Int → Int) (hpn : 0 ≤ pn ∧ pn ≤ 60) : MM (S := Unit) l yX7_clear wsX7_clear rm_X7_clear D vwCl [.ref m0] [(m0, .inr (6, [.ref ms, .ref mh, .int (iJ (kp)), .ref mn, .int (iJ (sv)), .ref mp, .int (iJ (pn)), .int (iJ (rf)), .ref ml, .ref mm, .ref md, .ref mw, .ref mt, .int (iJ (tl)), .ref mb, .ref mi, .ref mg])), (mp, cJ cI 60 (p))] [(cI, .int)] (fun (_ : Unit) => pn) (fun (_ : Unit) => True) (fun (_ : Unit) => [(m0, .inr (6, [.ref ms, .ref mh, .int (iJ (kp)), .ref mn, .int (iJ (sv)), .ref mp, .int (iJ (0)), .int (iJ (rf)), .ref ml, .ref mm, .ref md, .ref mw, .ref mt, .int (iJ (tl)), .ref mb, .ref mi, .ref mg])), (mp, cJ cI 60 (p))]) := by
  refine MM.mk (cc := cX7_clear) (maxL := 2) (ret := (some .int)) (by decide) rfl (Nat.le_of_ble_eq_true rfl) rfl RX7 rfl ?_
  intro p_ e_ s_ m_ ar_ bw_ mt_ cd_ B_ Q_ hA E hr hQ
  refine r_aload_n E 0 dX7_clear_0 rfl rfl ?_
  refine r_get E 6 0 6 dX7_clear_1 in_X7_clear_X7 lk_X7_clear_133 rfl rfl (by decide) rfl ?_
  refine r_istore_n E [(1, .int (iJ (pn))), (0, .ref m0)] dX7_clear_4 rfl (by decide) rfl ?_
  refine r_aload_n E 1 dX7_clear_5 rfl rfl ?_
  refine r_iconst E 0 rfl dX7_clear_6 ?_
  refine r_put E (ty := .int) 6 0 6 tyX7 tyX7_ok nmX7 dX7_clear_7 in_X7_clear_X7 lk_X7_clear_133 rfl rfl (by decide) rfl (by decide +kernel) rfl rfl (Nat.le_of_ble_eq_true rfl) [(m0, .inr (6, [.ref ms, .ref mh, .int (iJ (kp)), .ref mn, .int (iJ (sv)), .ref mp, .int (iJ (0)), .int (iJ (rf)), .ref ml, .ref mm, .ref md, .ref mw, .ref mt, .int (iJ (tl)), .ref mb, .ref mi, .ref mg])), (mp, cJ cI 60 (p))] rfl ?_
  refine r_iload_n E 0 dX7_clear_10 rfl rfl ?_
  exact r_retM E () hr dX7_clear_11 rfl trivial rfl hQ
theorem kf_X7_handFor : KF yX7_handFor 1 wsX7_handFor cX7_handFor 1 (some .int) := ⟨rfl, by decide +kernel, by decide +kernel, by decide +kernel⟩
def rm_X7_handFor : Room := { frames := 0, cells := 0, slots := 0, locals := 0 }
set_option maxHeartbeats 1000000 in
set_option maxRecDepth 100000 in
theorem c_X7_handFor (l : Launch) (D : va_G) (c : Int) (hc : jb c) : MP l yX7_handFor wsX7_handFor rm_X7_handFor D vwCl [.int (iJ (c))] [] [] (mHf c) := by
  refine MP.mk (cc := cX7_handFor) (maxL := 1) (ret := (some .int)) (by decide) rfl (Nat.le_of_ble_eq_true rfl) rfl RX7 rfl ?_
  intro p_ e_ s_ m_ ar_ bw_ mt_ cd_ Q_ E hr hQ
  refine r_iload_n E 0 dX7_handFor_0 rfl rfl ?_
  refine r_bipush E 82 rfl dX7_handFor_1 ?_
  refine r_icmp_ne E 10 dX7_handFor_3 (by decide) hc ⟨by omega, by omega⟩ (fun c_3 => ?_) (fun c_3 => ?_)
  · refine r_iload_n E 0 dX7_handFor_10 rfl rfl ?_
    refine r_bipush E 76 rfl dX7_handFor_11 ?_
    refine r_icmp_ne E 20 dX7_handFor_13 (by decide) hc ⟨by omega, by omega⟩ (fun c_13 => ?_) (fun c_13 => ?_)
    · refine r_iload_n E 0 dX7_handFor_20 rfl rfl ?_
      refine r_bipush E 120 rfl dX7_handFor_21 ?_
      refine r_icmp_ne E 30 dX7_handFor_23 (by decide) hc ⟨by omega, by omega⟩ (fun c_23 => ?_) (fun c_23 => ?_)
      · refine r_bipush E (-4) rfl dX7_handFor_30 ?_
        exact r_retP E hr dX7_handFor_32 (by simp only [mHf]; (repeat' split) <;> omega) hQ
      · refine r_iconst E 2 rfl dX7_handFor_26 ?_
        refine r_goto E 32 dX7_handFor_27 (by decide) ?_
        exact r_retP E hr dX7_handFor_32 (by simp only [mHf]; (repeat' split) <;> omega) hQ
    · refine r_iconst E 1 rfl dX7_handFor_16 ?_
      refine r_goto E 32 dX7_handFor_17 (by decide) ?_
      exact r_retP E hr dX7_handFor_32 (by simp only [mHf]; (repeat' split) <;> omega) hQ
  · refine r_iconst E 0 rfl dX7_handFor_6 ?_
    refine r_goto E 32 dX7_handFor_7 (by decide) ?_
    exact r_retP E hr dX7_handFor_32 (by simp only [mHf]; (repeat' split) <;> omega) hQ
theorem kf_X7_next : KF yX7_next 1 wsX7_next cX7_next 2 (some .int) := ⟨rfl, by decide +kernel, by decide +kernel, by decide +kernel⟩
def rm_X7_next : Room := { frames := 0, cells := 0, slots := 0, locals := 0 }
set_option maxRecDepth 20000 in
theorem in_X7_next_X7 : ∀ w ∈ u_ws RX7 TX7 17, w ∈ wsX7_next := by decide +kernel
set_option maxRecDepth 20000 in
theorem lk_X7_next_133 : Cond.fieldLink RX7 133 (TX7 6).1 (TX7 6).2.1 (TX7 6).2.2.1 ∈ wsX7_next := by decide +kernel
set_option maxRecDepth 20000 in
theorem lk_X7_next_19 : Cond.fieldLink RX7 19 (TX7 5).1 (TX7 5).2.1 (TX7 5).2.2.1 ∈ wsX7_next := by decide +kernel
set_option maxHeartbeats 1000000 in
set_option maxRecDepth 100000 in
theorem c_X7_next (l : Launch) (D : va_G) (m0 : Nat) (ms : Nat) (mh : Nat) (mn : Nat) (mp : Nat) (ml : Nat) (mm : Nat) (md : Nat) (mw : Nat) (mt : Nat) (mb : Nat) (mi : Nat) (mg : Nat) (cI : ClassId) (kp : Int) (sv : Int) (pn : Int) (rf : Int) (tl : Int) (p : Int → Int) (a : Int) (hpn : 0 ≤ pn ∧ pn ≤ 60) (hpp : ∀ j : Int, 0 ≤ j → j < pn → 33 ≤ p j ∧ p j ≤ 126) (ha : 0 ≤ a ∧ a < 100) : MP l yX7_next wsX7_next rm_X7_next D vwCl [.ref m0, .int (iJ (a))] [(m0, .inr (6, [.ref ms, .ref mh, .int (iJ (kp)), .ref mn, .int (iJ (sv)), .ref mp, .int (iJ (pn)), .int (iJ (rf)), .ref ml, .ref mm, .ref md, .ref mw, .ref mt, .int (iJ (tl)), .ref mb, .ref mi, .ref mg])), (mp, cJ cI 60 (p))] [(cI, .int)] ((if a < pn then p a else 0)) := by
  refine MP.mk (cc := cX7_next) (maxL := 2) (ret := (some .int)) (by decide) rfl (Nat.le_of_ble_eq_true rfl) rfl RX7 rfl ?_
  intro p_ e_ s_ m_ ar_ bw_ mt_ cd_ Q_ E hr hQ
  refine r_iload_n E 1 dX7_next_0 rfl rfl ?_
  refine r_aload_n E 0 dX7_next_1 rfl rfl ?_
  refine r_get E 6 0 6 dX7_next_2 in_X7_next_X7 lk_X7_next_133 rfl rfl (by decide) rfl ?_
  refine r_icmp_ge E 17 dX7_next_5 (by decide) ⟨by omega, by omega⟩ ⟨by omega, by omega⟩ (fun c_5 => ?_) (fun c_5 => ?_)
  · refine r_iconst E 0 rfl dX7_next_17 ?_
    exact r_retP E hr dX7_next_18 (by first | (rw [if_pos (by omega)]; done) | (rw [if_neg (by omega)]; done)) hQ
  · refine r_aload_n E 0 dX7_next_8 rfl rfl ?_
    refine r_get E 6 0 5 dX7_next_9 in_X7_next_X7 lk_X7_next_19 rfl rfl (by decide) rfl ?_
    refine r_iload_n E 1 dX7_next_12 rfl rfl ?_
    refine r_iald E (i := a) 1 0 dX7_next_13 rfl rfl (by decide) ⟨by omega, by omega⟩ ?_
    have f_1 := hpp a (by omega) (by omega)
    refine r_goto E 18 dX7_next_14 (by decide) ?_
    exact r_retP E hr dX7_next_18 (by first | (rw [if_pos (by omega)]; done) | (rw [if_neg (by omega)]; done)) hQ
theorem kf_X7_readPattern : KF yX7_readPattern 0 wsX7_readPattern cX7_readPattern 2 (some .int) := ⟨rfl, by decide +kernel, by decide +kernel, by decide +kernel⟩
def rm_X7_readPattern : Room := { frames := 1, cells := 0, slots := 0, locals := 20 }
set_option maxRecDepth 20000 in
theorem in_X7_readPattern_X7 : ∀ w ∈ u_ws RX7 TX7 17, w ∈ wsX7_readPattern := by decide +kernel
set_option maxRecDepth 20000 in
theorem lk_X7_readPattern_133 : Cond.fieldLink RX7 133 (TX7 6).1 (TX7 6).2.1 (TX7 6).2.2.1 ∈ wsX7_readPattern := by decide +kernel
set_option maxRecDepth 20000 in
theorem lk_X7_readPattern_19 : Cond.fieldLink RX7 19 (TX7 5).1 (TX7 5).2.1 (TX7 5).2.2.1 ∈ wsX7_readPattern := by decide +kernel
set_option maxHeartbeats 1000000 in
set_option maxRecDepth 100000 in
theorem c_X7_readPattern (l : Launch) (D : va_G) (m0 : Nat) (ms : Nat) (mh : Nat) (mn : Nat) (mp : Nat) (ml : Nat) (mm : Nat) (md : Nat) (mw : Nat) (mt : Nat) (mb : Nat) (mi : Nat) (mg : Nat) (cI : ClassId) (kp : Int) (sv : Int) (pn : Int) (rf : Int) (tl : Int) (p : Int → Int) (hpn : 0 ≤ pn ∧ pn ≤ 60) (hpp : ∀ j : Int, 0 ≤ j → j < pn → 33 ≤ p j ∧ p j ≤ 126) : MP l yX7_readPattern wsX7_readPattern rm_X7_readPattern D vwCl [.ref m0] [(m0, .inr (6, [.ref ms, .ref mh, .int (iJ (kp)), .ref mn, .int (iJ (sv)), .ref mp, .int (iJ (pn)), .int (iJ (rf)), .ref ml, .ref mm, .ref md, .ref mw, .ref mt, .int (iJ (tl)), .ref mb, .ref mi, .ref mg])), (mp, cJ cI 60 (p))] [(cI, .int)] (mpN p pn.toNat 0) := by
  refine MP.mk (cc := cX7_readPattern) (maxL := 2) (ret := (some .int)) (by decide) rfl (Nat.le_of_ble_eq_true rfl) rfl RX7 rfl ?_
  intro p_ e_ s_ m_ ar_ bw_ mt_ cd_ Q_ E hr hQ
  refine r_iconst E 0 rfl dX7_readPattern_0 ?_
  refine r_istore_n E [(1, .int (iJ (0))), (0, .ref m0)] dX7_readPattern_1 rfl (by decide) rfl ?_
  have loop_2 : ∀ (N : Nat) (k : Int), (0 ≤ k ∧ k ≤ pn) → (mpN p (pn - k).toNat k = mpN p pn.toNat 0) → (pn - k).toNat < N → GG p_ l e_ rm_X7_readPattern s_ m_ ar_ bw_ mt_ cd_ D vwCl (fun _ => True) (fun _ => False) s_.heap 2 0 0 Q_ [(m0, .inr (6, [.ref ms, .ref mh, .int (iJ (kp)), .ref mn, .int (iJ (sv)), .ref mp, .int (iJ (pn)), .int (iJ (rf)), .ref ml, .ref mm, .ref md, .ref mw, .ref mt, .int (iJ (tl)), .ref mb, .ref mi, .ref mg])), (mp, cJ cI 60 (p))] [(0, .ref m0), (1, .int (iJ (k)))] 2 [] := by
    intro N; induction N with
    | zero => intro k hk hs hN; exact absurd hN (Nat.not_lt_zero _)
    | succ N ih2 =>
      intro k hk hs hN
      refine r_iload_n E 1 dX7_readPattern_2 rfl rfl ?_
      refine r_aload_n E 0 dX7_readPattern_3 rfl rfl ?_
      refine r_get E 6 0 6 dX7_readPattern_4 in_X7_readPattern_X7 lk_X7_readPattern_133 rfl rfl (by decide) rfl ?_
      refine r_icmp_ge E 43 dX7_readPattern_7 (by decide) ⟨by omega, by omega⟩ ⟨by omega, by omega⟩ (fun c_7 => ?_) (fun c_7 => ?_)
      · refine r_aload_n E 0 dX7_readPattern_43 rfl rfl ?_
        refine r_get E 6 0 6 dX7_readPattern_44 in_X7_readPattern_X7 lk_X7_readPattern_133 rfl rfl (by decide) rfl ?_
        refine r_if_ne E 54 dX7_readPattern_47 (by decide) ⟨by omega, by omega⟩ (fun c_47 => ?_) (fun c_47 => ?_)
        · refine r_bipush E (-4) rfl dX7_readPattern_54 ?_
          exact r_retP E hr dX7_readPattern_56 (by
                rw [← hs, show (pn - k).toNat = 0 by omega]
                show _ = if k = 0 then _ else _
                first | (rw [if_pos (by omega)]; done) | (rw [if_neg (by omega)]; done)) hQ
        · refine r_iconst E 0 rfl dX7_readPattern_50 ?_
          refine r_goto E 56 dX7_readPattern_51 (by decide) ?_
          exact r_retP E hr dX7_readPattern_56 (by
                rw [← hs, show (pn - k).toNat = 0 by omega]
                show _ = if k = 0 then _ else _
                first | (rw [if_pos (by omega)]; done) | (rw [if_neg (by omega)]; done)) hQ
      · refine r_aload_n E 0 dX7_readPattern_10 rfl rfl ?_
        refine r_get E 6 0 5 dX7_readPattern_11 in_X7_readPattern_X7 lk_X7_readPattern_19 rfl rfl (by decide) rfl ?_
        refine r_iload_n E 1 dX7_readPattern_14 rfl rfl ?_
        refine r_iald E (i := k) 1 0 dX7_readPattern_15 rfl rfl (by decide) ⟨by omega, by omega⟩ ?_
        have f_1 := hpp k (by omega) (by omega)
        refine r_sP E (st := []) (c_X7_handFor l D (p k) (by first | assumption | omega | exact ⟨by omega, by omega⟩)) gX7_readPattern_X7_handFor 1 kf_X7_handFor ⟨rfl, rfl⟩ ⟨by decide, by decide⟩ dX7_readPattern_16 rfl rfl ⟨Nat.zero_le _, Nat.zero_le _⟩ [] rfl (by decide) [] rfl (Nat.le_of_ble_eq_true rfl) ?_
        refine r_bipush E (-4) rfl dX7_readPattern_19 ?_
        refine r_icmp_ne E 37 dX7_readPattern_21 (by decide) (by unfold mHf; (repeat' split) <;> exact ⟨by omega, by omega⟩) ⟨by omega, by omega⟩ (fun c_21 => ?_) (fun c_21 => ?_)
        · refine r_iinc E (k := 1) [(1, .int (iJ ((k + 1)))), (0, .ref m0)] dX7_readPattern_37 rfl (by decide) rfl ?_
          refine r_goto E 2 dX7_readPattern_40 (by decide) ?_
          refine r_lv [1, 0] [(0, .ref m0), (1, .int (iJ ((k + 1))))] rfl ?_
          exact ih2 (k + 1) ⟨by omega, by omega⟩ (by
                rw [← hs, show (pn - k).toNat = (pn - (k + 1)).toNat + 1 by omega]
                show _ = if mHf (p k) = -4 ∧ ¬ p k = 46 then _ else _
                rw [if_neg (fun z => by first | exact c_21 z.1 | exact z.2 c_32)]) (by omega)
        · refine r_aload_n E 0 dX7_readPattern_24 rfl rfl ?_
          refine r_get E 6 0 5 dX7_readPattern_25 in_X7_readPattern_X7 lk_X7_readPattern_19 rfl rfl (by decide) rfl ?_
          refine r_iload_n E 1 dX7_readPattern_28 rfl rfl ?_
          refine r_iald E (i := k) 1 0 dX7_readPattern_29 rfl rfl (by decide) ⟨by omega, by omega⟩ ?_
          have f_2 := hpp k (by omega) (by omega)
          refine r_bipush E 46 rfl dX7_readPattern_30 ?_
          refine r_icmp_eq E 37 dX7_readPattern_32 (by decide) ⟨by omega, by omega⟩ ⟨by omega, by omega⟩ (fun c_32 => ?_) (fun c_32 => ?_)
          · refine r_iinc E (k := 1) [(1, .int (iJ ((k + 1)))), (0, .ref m0)] dX7_readPattern_37 rfl (by decide) rfl ?_
            refine r_goto E 2 dX7_readPattern_40 (by decide) ?_
            refine r_lv [1, 0] [(0, .ref m0), (1, .int (iJ ((k + 1))))] rfl ?_
            exact ih2 (k + 1) ⟨by omega, by omega⟩ (by
                  rw [← hs, show (pn - k).toNat = (pn - (k + 1)).toNat + 1 by omega]
                  show _ = if mHf (p k) = -4 ∧ ¬ p k = 46 then _ else _
                  rw [if_neg (fun z => by first | exact c_21 z.1 | exact z.2 c_32)]) (by omega)
          · refine r_iload_n E 1 dX7_readPattern_35 rfl rfl ?_
            exact r_retP E hr dX7_readPattern_36 (by
                  rw [← hs, show (pn - k).toNat = (pn - (k + 1)).toNat + 1 by omega]
                  show _ = if mHf (p k) = -4 ∧ ¬ p k = 46 then _ else _
                  rw [if_pos ⟨c_21, c_32⟩]) hQ
  refine r_lv [1, 0] [(0, .ref m0), (1, .int (iJ (0)))] rfl ?_
  exact loop_2 _ 0 ⟨by omega, by omega⟩ (by rw [Int.sub_zero]) (Nat.lt_succ_self _)
theorem kf_X7_why : KF yX7_why 0 wsX7_why cX7_why 1 (some .int) := ⟨rfl, by decide +kernel, by decide +kernel, by decide +kernel⟩
def rm_X7_why : Room := { frames := 0, cells := 0, slots := 0, locals := 0 }
set_option maxRecDepth 20000 in
theorem in_X7_why_X7 : ∀ w ∈ u_ws RX7 TX7 17, w ∈ wsX7_why := by decide +kernel
set_option maxRecDepth 20000 in
theorem lk_X7_why_157 : Cond.fieldLink RX7 157 (TX7 7).1 (TX7 7).2.1 (TX7 7).2.2.1 ∈ wsX7_why := by decide +kernel
set_option maxHeartbeats 1000000 in
set_option maxRecDepth 100000 in
theorem c_X7_why (l : Launch) (D : va_G) (m0 : Nat) (ms : Nat) (mh : Nat) (mn : Nat) (mp : Nat) (ml : Nat) (mm : Nat) (md : Nat) (mw : Nat) (mt : Nat) (mb : Nat) (mi : Nat) (mg : Nat) (cI : ClassId) (kp : Int) (sv : Int) (pn : Int) (rf : Int) (tl : Int)  : MP l yX7_why wsX7_why rm_X7_why D vwCl [.ref m0] [(m0, .inr (6, [.ref ms, .ref mh, .int (iJ (kp)), .ref mn, .int (iJ (sv)), .ref mp, .int (iJ (pn)), .int (iJ (rf)), .ref ml, .ref mm, .ref md, .ref mw, .ref mt, .int (iJ (tl)), .ref mb, .ref mi, .ref mg]))] [] (rf) := by
  refine MP.mk (cc := cX7_why) (maxL := 1) (ret := (some .int)) (by decide) rfl (Nat.le_of_ble_eq_true rfl) rfl RX7 rfl ?_
  intro p_ e_ s_ m_ ar_ bw_ mt_ cd_ Q_ E hr hQ
  refine r_aload_n E 0 dX7_why_0 rfl rfl ?_
  refine r_get E 6 0 7 dX7_why_1 in_X7_why_X7 lk_X7_why_157 rfl rfl (by decide) rfl ?_
  exact r_retP E hr dX7_why_4 rfl hQ
