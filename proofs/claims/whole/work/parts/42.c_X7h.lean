theorem kf_X7_quickest : KF yX7_quickest 0 wsX7_quickest cX7_quickest 4 (some .int) := ⟨rfl, by decide +kernel, by decide +kernel, by decide +kernel⟩
def rm_X7_quickest : Room := { frames := 9, cells := 0, slots := 0, locals := 209 }
set_option maxRecDepth 20000 in
theorem in_X7_quickest_X7 : ∀ w ∈ u_ws RX7 TX7 17, w ∈ wsX7_quickest := by decide +kernel
set_option maxRecDepth 20000 in
theorem lk_X7_quickest_7 : Cond.fieldLink RX7 7 (TX7 0).1 (TX7 0).2.1 (TX7 0).2.2.1 ∈ wsX7_quickest := by decide +kernel
set_option maxHeartbeats 1000000 in
set_option maxRecDepth 100000 in
theorem c_X7_quickest (l : Launch) (D : va_G) (m0 : Nat) (ms : Nat) (mh : Nat) (mn : Nat) (mp : Nat) (ml : Nat) (mm : Nat) (md : Nat) (mw : Nat) (mt : Nat) (mb : Nat) (mi : Nat) (mg : Nat) (cI : ClassId) (kp : Int) (sv : Int) (pn : Int) (rf : Int) (tl : Int) (cJ_ : ClassId) (s : Int → Int) (le : Int → Int) (my : Int → Int) (hs0 : 0 ≤ s 0 ∧ s 0 ≤ 32) (hs1 : 1 ≤ s 1 ∧ s 1 ≤ 4) (hsv : ∀ j : Int, 0 ≤ j → j < s 0 → 0 ≤ s (2 + j) ∧ s (2 + j) ≤ 24) : MM (S := (Int → Int) × (Int → Int)) l yX7_quickest wsX7_quickest rm_X7_quickest D vwCl [.ref m0] [(m0, .inr (6, [.ref ms, .ref mh, .int (iJ (kp)), .ref mn, .int (iJ (sv)), .ref mp, .int (iJ (pn)), .int (iJ (rf)), .ref ml, .ref mm, .ref md, .ref mw, .ref mt, .int (iJ (tl)), .ref mb, .ref mi, .ref mg])), (ms, cJ cI 34 (s)), (ml, cJ cI 99 (le)), (mm, cL cJ_ 99 (my))] [(cI, .int), (cJ_, .long)] (fun (u : (Int → Int) × (Int → Int)) => qkN s 4) (fun (u : (Int → Int) × (Int → Int)) => True) (fun (u : (Int → Int) × (Int → Int)) => [(m0, .inr (6, [.ref ms, .ref mh, .int (iJ (kp)), .ref mn, .int (iJ (sv)), .ref mp, .int (iJ (pn)), .int (iJ (rf)), .ref ml, .ref mm, .ref md, .ref mw, .ref mt, .int (iJ (tl)), .ref mb, .ref mi, .ref mg])), (ms, cJ cI 34 (s)), (ml, cJ cI 99 (u.1)), (mm, cL cJ_ 99 (u.2))]) := by
  refine MM.mk (cc := cX7_quickest) (maxL := 4) (ret := (some .int)) (by decide) rfl (Nat.le_of_ble_eq_true rfl) rfl RX7 rfl ?_
  intro p_ e_ s_ m_ ar_ bw_ mt_ cd_ B_ Q_ hA E hr hQ
  refine r_aload_n E 0 dX7_quickest_0 rfl rfl ?_
  refine r_get E 6 0 0 dX7_quickest_1 in_X7_quickest_X7 lk_X7_quickest_7 rfl rfl (by decide) rfl ?_
  refine r_iconst E 1 rfl dX7_quickest_4 ?_
  refine r_iald E (i := 1) 1 0 dX7_quickest_5 rfl rfl (by decide) ⟨by omega, by omega⟩ ?_
  refine r_istore_n E [(1, .int (iJ (s 1))), (0, .ref m0)] dX7_quickest_6 rfl (by decide) rfl ?_
  refine r_bipush E (-4) rfl dX7_quickest_7 ?_
  refine r_istore_n E [(2, .int (iJ ((-4)))), (1, .int (iJ (s 1))), (0, .ref m0)] dX7_quickest_9 rfl (by decide) rfl ?_
  refine r_iconst E 1 rfl dX7_quickest_10 ?_
  refine r_istore_n E [(3, .int (iJ (1))), (2, .int (iJ ((-4)))), (1, .int (iJ (s 1))), (0, .ref m0)] dX7_quickest_11 rfl (by decide) rfl ?_
  have loop_12 : ∀ (N : Nat) (k : Int) (x : Int) (G : Int → Int) (L1 : Int → Int) (M1 : Int → Int), (1 ≤ k ∧ k ≤ 5) → (x = qkN s (k - 1).toNat) → (∀ v : Int, uJ G 1 v = uJ s 1 v) → (5 - k).toNat < N → GG p_ l e_ rm_X7_quickest s_ m_ ar_ bw_ mt_ cd_ D vwCl B_ B_ s_.heap 4 0 0 Q_ [(m0, .inr (6, [.ref ms, .ref mh, .int (iJ (kp)), .ref mn, .int (iJ (sv)), .ref mp, .int (iJ (pn)), .int (iJ (rf)), .ref ml, .ref mm, .ref md, .ref mw, .ref mt, .int (iJ (tl)), .ref mb, .ref mi, .ref mg])), (ms, cJ cI 34 (G)), (ml, cJ cI 99 (L1)), (mm, cL cJ_ 99 (M1))] [(0, .ref m0), (1, .int (iJ (s 1))), (2, .int (iJ (x))), (3, .int (iJ (k)))] 12 [] := by
    intro N; induction N with
    | zero => intro k x G L1 M1 hk hx hG hN; exact absurd hN (Nat.not_lt_zero _)
    | succ N ih12 =>
      intro k x G L1 M1 hk hx hG hN
      refine r_iload_n E 3 dX7_quickest_12 rfl rfl ?_
      refine r_iconst E 4 rfl dX7_quickest_13 ?_
      refine r_icmp_gt E 43 dX7_quickest_14 (by decide) ⟨by omega, by omega⟩ ⟨by omega, by omega⟩ (fun c_14 => ?_) (fun c_14 => ?_)
      · refine r_aload_n E 0 dX7_quickest_43 rfl rfl ?_
        refine r_get E 6 0 0 dX7_quickest_44 in_X7_quickest_X7 lk_X7_quickest_7 rfl rfl (by decide) rfl ?_
        refine r_iconst E 1 rfl dX7_quickest_47 ?_
        refine r_iload_n E 1 dX7_quickest_48 rfl rfl ?_
        refine r_iast E (i := 1) 1 0 dX7_quickest_49 rfl rfl (by decide) ⟨by omega, by omega⟩ [(m0, .inr (6, [.ref ms, .ref mh, .int (iJ (kp)), .ref mn, .int (iJ (sv)), .ref mp, .int (iJ (pn)), .int (iJ (rf)), .ref ml, .ref mm, .ref md, .ref mw, .ref mt, .int (iJ (tl)), .ref mb, .ref mi, .ref mg])), (ms, cJ cI 34 (uJ G 1 (s 1))), (ml, cJ cI 99 (L1)), (mm, cL cJ_ 99 (M1))] rfl ?_
        refine r_iload_n E 2 dX7_quickest_50 rfl rfl ?_
        exact r_retM E (L1, M1) hr dX7_quickest_51 (by
              have e : k = 5 := by omega
              rw [hx, e]; rfl) trivial (by rw [uJ_bk hG]) hQ
      · refine r_aload_n E 0 dX7_quickest_17 rfl rfl ?_
        refine r_get E 6 0 0 dX7_quickest_18 in_X7_quickest_X7 lk_X7_quickest_7 rfl rfl (by decide) rfl ?_
        refine r_iconst E 1 rfl dX7_quickest_21 ?_
        refine r_iload_n E 3 dX7_quickest_22 rfl rfl ?_
        refine r_iast E (i := 1) 1 0 dX7_quickest_23 rfl rfl (by decide) ⟨by omega, by omega⟩ [(m0, .inr (6, [.ref ms, .ref mh, .int (iJ (kp)), .ref mn, .int (iJ (sv)), .ref mp, .int (iJ (pn)), .int (iJ (rf)), .ref ml, .ref mm, .ref md, .ref mw, .ref mt, .int (iJ (tl)), .ref mb, .ref mi, .ref mg])), (ms, cJ cI 34 (uJ G 1 k)), (ml, cJ cI 99 (L1)), (mm, cL cJ_ 99 (M1))] rfl ?_
        refine r_cv (ws2 := [(m0, .inr (6, [.ref ms, .ref mh, .int (iJ (kp)), .ref mn, .int (iJ (sv)), .ref mp, .int (iJ (pn)), .int (iJ (rf)), .ref ml, .ref mm, .ref md, .ref mw, .ref mt, .int (iJ (tl)), .ref mb, .ref mi, .ref mg])), (ms, cJ cI 34 (uJ s 1 k)), (ml, cJ cI 99 (L1)), (mm, cL cJ_ 99 (M1))]) (by rw [hG k]) rfl rfl ?_
        refine r_aload_n E 0 dX7_quickest_24 rfl rfl ?_
        refine r_vM E (st := []) (c_X7_canBePlayed l D m0 ms mh mn mp ml mm md mw mt mb mi mg cI kp sv pn rf tl cJ_ (uJ s 1 k) L1 M1 (by rw [uJ_n (by omega)]; exact hs0) (by rw [uJ_s]; omega) (fun j h0 h1 => by rw [uJ_n (by omega)] at h1; rw [uJ_n (by omega)]; exact hsv j h0 h1)) gX7_quickest_X7_canBePlayed 0 kf_X7_canBePlayed ⟨rfl, rfl⟩ ⟨by decide, by decide⟩ dX7_quickest_25 rfl 0 rfl rfl rfl rfl ⟨Nat.zero_le _, Nat.zero_le _⟩ [0, 1, 2, 3] rfl (by decide) [0, 1] rfl (Nat.le_of_ble_eq_true rfl) [] [] rfl (by decide) (by decide) hA [0, 1, 2, 3] (by decide) (fun u : (Int → Int) × (Int → Int) => [(m0, .inr (6, [.ref ms, .ref mh, .int (iJ (kp)), .ref mn, .int (iJ (sv)), .ref mp, .int (iJ (pn)), .int (iJ (rf)), .ref ml, .ref mm, .ref md, .ref mw, .ref mt, .int (iJ (tl)), .ref mb, .ref mi, .ref mg])), (ms, cJ cI 34 (uJ s 1 k)), (ml, cJ cI 99 (u.1)), (mm, cL cJ_ 99 (u.2))]) (fun _ => rfl) ?_
        rintro ⟨LS_1, MN_2⟩ hp_3
        refine r_cv (ws2 := [(m0, .inr (6, [.ref ms, .ref mh, .int (iJ (kp)), .ref mn, .int (iJ (sv)), .ref mp, .int (iJ (pn)), .int (iJ (rf)), .ref ml, .ref mm, .ref md, .ref mw, .ref mt, .int (iJ (tl)), .ref mb, .ref mi, .ref mg])), (ms, cJ cI 34 (uJ s 1 k)), (ml, cJ cI 99 (LS_1)), (mm, cL cJ_ 99 (MN_2))]) (st2 := [.int (iJ (b2 (lsS (uJ s 1 k) (-4) 0 2 < 1000)))]) rfl rfl rfl ?_
        have hT_4 := hp_3
        try dsimp only at hT_4
        refine r_ifeq_b E 35 dX7_quickest_28 (by decide) (fun c_28 => ?_) (fun c_28 => ?_)
        · refine r_iload_n E 2 dX7_quickest_35 rfl rfl ?_
          refine r_istore_n E [(2, .int (iJ (x))), (0, .ref m0), (1, .int (iJ (s 1))), (3, .int (iJ (k)))] dX7_quickest_36 rfl (by decide) rfl ?_
          refine r_iinc E (k := 3) [(3, .int (iJ ((k + 1)))), (2, .int (iJ (x))), (0, .ref m0), (1, .int (iJ (s 1)))] dX7_quickest_37 rfl (by decide) rfl ?_
          refine r_goto E 12 dX7_quickest_40 (by decide) ?_
          refine r_lv [2, 3, 1, 0] [(0, .ref m0), (1, .int (iJ (s 1))), (2, .int (iJ (x))), (3, .int (iJ ((k + 1))))] rfl ?_
          exact ih12 (k + 1) x (uJ s 1 k) LS_1 MN_2 ⟨by omega, by omega⟩ (by
                rw [show k + 1 - 1 = k by omega, qkN_s s hk.1]
                first | (rw [if_pos c_28]; done) | (rw [if_neg c_28]; exact hx)) (fun v => uJ_u s 1 k v) (by omega)
        · refine r_iload_n E 3 dX7_quickest_31 rfl rfl ?_
          refine r_goto E 36 dX7_quickest_32 (by decide) ?_
          refine r_istore_n E [(2, .int (iJ (k))), (0, .ref m0), (1, .int (iJ (s 1))), (3, .int (iJ (k)))] dX7_quickest_36 rfl (by decide) rfl ?_
          refine r_iinc E (k := 3) [(3, .int (iJ ((k + 1)))), (2, .int (iJ (k))), (0, .ref m0), (1, .int (iJ (s 1)))] dX7_quickest_37 rfl (by decide) rfl ?_
          refine r_goto E 12 dX7_quickest_40 (by decide) ?_
          refine r_lv [2, 3, 1, 0] [(0, .ref m0), (1, .int (iJ (s 1))), (2, .int (iJ (k))), (3, .int (iJ ((k + 1))))] rfl ?_
          exact ih12 (k + 1) k (uJ s 1 k) LS_1 MN_2 ⟨by omega, by omega⟩ (by
                rw [show k + 1 - 1 = k by omega, qkN_s s hk.1]
                first | (rw [if_pos c_28]; done) | (rw [if_neg c_28]; exact hx)) (fun v => uJ_u s 1 k v) (by omega)
  refine r_lv [3, 2, 1, 0] [(0, .ref m0), (1, .int (iJ (s 1))), (2, .int (iJ ((-4)))), (3, .int (iJ (1)))] rfl ?_
  exact loop_12 _ 1 (-4) s le my ⟨by omega, by omega⟩ rfl (fun _ => rfl) (Nat.lt_succ_self _)
theorem kf_X7_comes : KF yX7_comes 1 wsX7_comes cX7_comes 5 (some .boolean) := ⟨rfl, by decide +kernel, by decide +kernel, by decide +kernel⟩
def rm_X7_comes : Room := { frames := 2, cells := 0, slots := 0, locals := 42 }
set_option maxRecDepth 20000 in
theorem in_X7_comes_X7 : ∀ w ∈ u_ws RX7 TX7 17, w ∈ wsX7_comes := by decide +kernel
set_option maxRecDepth 20000 in
theorem lk_X7_comes_133 : Cond.fieldLink RX7 133 (TX7 6).1 (TX7 6).2.1 (TX7 6).2.2.1 ∈ wsX7_comes := by decide +kernel
set_option maxRecDepth 20000 in
theorem lk_X7_comes_19 : Cond.fieldLink RX7 19 (TX7 5).1 (TX7 5).2.1 (TX7 5).2.2.1 ∈ wsX7_comes := by decide +kernel
set_option maxRecDepth 20000 in
theorem lk_X7_comes_29 : Cond.fieldLink RX7 29 (TX7 10).1 (TX7 10).2.1 (TX7 10).2.2.1 ∈ wsX7_comes := by decide +kernel
set_option maxRecDepth 20000 in
theorem lk_X7_comes_7 : Cond.fieldLink RX7 7 (TX7 0).1 (TX7 0).2.1 (TX7 0).2.2.1 ∈ wsX7_comes := by decide +kernel
set_option maxHeartbeats 1000000 in
set_option maxRecDepth 100000 in
theorem c_X7_comes (l : Launch) (D : va_G) (m0 : Nat) (ms : Nat) (mh : Nat) (mn : Nat) (mp : Nat) (ml : Nat) (mm : Nat) (md : Nat) (mw : Nat) (mt : Nat) (mb : Nat) (mi : Nat) (mg : Nat) (cI : ClassId) (kp : Int) (sv : Int) (pn : Int) (rf : Int) (tl : Int) (s : Int → Int) (hd : Int → Int) (p : Int → Int) (a : Int) (hs0 : 0 ≤ s 0 ∧ s 0 ≤ 32) (hsv : ∀ j : Int, 0 ≤ j → j < s 0 → 0 ≤ s (2 + j) ∧ s (2 + j) ≤ 24) (hpn : 0 ≤ pn ∧ pn ≤ 60) (hpp : ∀ j : Int, 0 ≤ j → j < pn → 33 ≤ p j ∧ p j ≤ 126) (hdr : ∀ j : Int, 0 ≤ j → j < s 0 → ¬ s (2 + j) = 0 → 0 ≤ hd j ∧ hd j ≤ 2) (ha : 0 ≤ a ∧ a < s 0) : MP l yX7_comes wsX7_comes rm_X7_comes D vwCl [.ref m0, .int (iJ (a))] [(m0, .inr (6, [.ref ms, .ref mh, .int (iJ (kp)), .ref mn, .int (iJ (sv)), .ref mp, .int (iJ (pn)), .int (iJ (rf)), .ref ml, .ref mm, .ref md, .ref mw, .ref mt, .int (iJ (tl)), .ref mb, .ref mi, .ref mg])), (ms, cJ cI 34 (s)), (md, cJ cI 32 (hd)), (mp, cJ cI 60 (p))] [(cI, .int)] (cmV s hd p pn a) := by
  refine MP.mk (cc := cX7_comes) (maxL := 5) (ret := (some .boolean)) (by decide) rfl (Nat.le_of_ble_eq_true rfl) rfl RX7 rfl ?_
  intro p_ e_ s_ m_ ar_ bw_ mt_ cd_ Q_ E hr hQ
  have K_20 : ∀ (u : Int), ((u = 1 ∧ a + pn ≤ s 0) ∨ (u = 0 ∧ ¬ a + pn ≤ s 0)) → GG p_ l e_ rm_X7_comes s_ m_ ar_ bw_ mt_ cd_ D vwCl (fun _ => True) (fun _ => False) s_.heap 5 0 0 Q_ [(m0, .inr (6, [.ref ms, .ref mh, .int (iJ (kp)), .ref mn, .int (iJ (sv)), .ref mp, .int (iJ (pn)), .int (iJ (rf)), .ref ml, .ref mm, .ref md, .ref mw, .ref mt, .int (iJ (tl)), .ref mb, .ref mi, .ref mg])), (ms, cJ cI 34 (s)), (md, cJ cI 32 (hd)), (mp, cJ cI 60 (p))] [(0, .ref m0), (1, .int (iJ (a)))] 20 [.int (iJ (u))] := by
    intro u hu
    refine r_istore_n E [(2, .int (iJ (u))), (0, .ref m0), (1, .int (iJ (a)))] dX7_comes_20 rfl (by decide) rfl ?_
    refine r_iconst E 0 rfl dX7_comes_21 ?_
    refine r_istore_n E [(3, .int (iJ (0))), (2, .int (iJ (u))), (0, .ref m0), (1, .int (iJ (a)))] dX7_comes_22 rfl (by decide) rfl ?_
    have loop_23 : ∀ (N : Nat) (k : Int) (x : Int), (0 ≤ k ∧ k ≤ pn) → ((x = 1 ∧ a + pn ≤ s 0 ∧ cmN s hd p a (pn - k).toNat k = cmV s hd p pn a) ∨ (x = 0 ∧ cmV s hd p pn a = 0)) → (pn - k).toNat < N → GG p_ l e_ rm_X7_comes s_ m_ ar_ bw_ mt_ cd_ D vwCl (fun _ => True) (fun _ => False) s_.heap 5 0 0 Q_ [(m0, .inr (6, [.ref ms, .ref mh, .int (iJ (kp)), .ref mn, .int (iJ (sv)), .ref mp, .int (iJ (pn)), .int (iJ (rf)), .ref ml, .ref mm, .ref md, .ref mw, .ref mt, .int (iJ (tl)), .ref mb, .ref mi, .ref mg])), (ms, cJ cI 34 (s)), (md, cJ cI 32 (hd)), (mp, cJ cI 60 (p))] [(0, .ref m0), (1, .int (iJ (a))), (2, .int (iJ (x))), (3, .int (iJ (k)))] 23 [] := by
      intro N; induction N with
      | zero => intro k x hk hx hN; exact absurd hN (Nat.not_lt_zero _)
      | succ N ih23 =>
        intro k x hk hx hN
        refine r_iload_n E 3 dX7_comes_23 rfl rfl ?_
        refine r_aload_n E 0 dX7_comes_24 rfl rfl ?_
        refine r_get E 6 0 6 dX7_comes_25 in_X7_comes_X7 lk_X7_comes_133 rfl rfl (by decide) rfl ?_
        refine r_icmp_ge E 112 dX7_comes_28 (by decide) ⟨by omega, by omega⟩ ⟨by omega, by omega⟩ (fun c_28 => ?_) (fun c_28 => ?_)
        · refine r_iload_n E 2 dX7_comes_112 rfl rfl ?_
          exact r_retPZ E hr dX7_comes_113 (by rcases hx with z | z; exact Or.inr z.1; exact Or.inl z.1) (by
                rcases hx with z | z
                · rw [z.1, ← z.2.2, show (pn - k).toNat = 0 by omega]; rfl
                · rw [z.1, z.2]) hQ
        · refine r_iload_n E 2 dX7_comes_31 rfl rfl ?_
          refine r_if_eq E 112 dX7_comes_32 (by decide) ⟨by omega, by omega⟩ (fun c_32 => ?_) (fun c_32 => ?_)
          · refine r_iload_n E 2 dX7_comes_112 rfl rfl ?_
            exact r_retPZ E hr dX7_comes_113 (by rcases hx with z | z; exact Or.inr z.1; exact Or.inl z.1) (by
                  rcases hx with z | z
                  · rw [z.1, ← z.2.2, show (pn - k).toNat = 0 by omega]; rfl
                  · rw [z.1, z.2]) hQ
          · refine r_aload_n E 0 dX7_comes_35 rfl rfl ?_
            refine r_get E 6 0 5 dX7_comes_36 in_X7_comes_X7 lk_X7_comes_19 rfl rfl (by decide) rfl ?_
            refine r_iload_n E 3 dX7_comes_39 rfl rfl ?_
            refine r_iald E (i := k) 3 0 dX7_comes_40 rfl rfl (by decide) ⟨by omega, by omega⟩ ?_
            have f_1 := hpp k (by omega) (by omega)
            refine r_sP E (st := []) (c_X7_handFor l D (p k) (by first | assumption | omega | exact ⟨by omega, by omega⟩)) gX7_comes_X7_handFor 1 kf_X7_handFor ⟨rfl, rfl⟩ ⟨by decide, by decide⟩ dX7_comes_41 rfl rfl ⟨Nat.zero_le _, Nat.zero_le _⟩ [] rfl (by decide) [] rfl (Nat.le_of_ble_eq_true rfl) ?_
            refine r_istore E [(4, .int (iJ (mHf (p k)))), (0, .ref m0), (1, .int (iJ (a))), (2, .int (iJ (x))), (3, .int (iJ (k)))] dX7_comes_44 (by decide) rfl ?_
            have f_h := mHf_f (p k)
            have K_105 : ∀ (v : Int), (v = b2 (cmS s hd p a k)) → GG p_ l e_ rm_X7_comes s_ m_ ar_ bw_ mt_ cd_ D vwCl (fun _ => True) (fun _ => False) s_.heap 5 0 0 Q_ [(m0, .inr (6, [.ref ms, .ref mh, .int (iJ (kp)), .ref mn, .int (iJ (sv)), .ref mp, .int (iJ (pn)), .int (iJ (rf)), .ref ml, .ref mm, .ref md, .ref mw, .ref mt, .int (iJ (tl)), .ref mb, .ref mi, .ref mg])), (ms, cJ cI 34 (s)), (md, cJ cI 32 (hd)), (mp, cJ cI 60 (p))] [(0, .ref m0), (1, .int (iJ (a))), (2, .int (iJ (x))), (3, .int (iJ (k))), (4, .int (iJ (mHf (p k))))] 105 [.int (iJ (v))] := by
              intro v hv
              refine r_istore_n E [(2, .int (iJ (v))), (0, .ref m0), (1, .int (iJ (a))), (3, .int (iJ (k))), (4, .int (iJ (mHf (p k))))] dX7_comes_105 rfl (by decide) rfl ?_
              refine r_iinc E (k := 3) [(3, .int (iJ ((k + 1)))), (2, .int (iJ (v))), (0, .ref m0), (1, .int (iJ (a))), (4, .int (iJ (mHf (p k))))] dX7_comes_106 rfl (by decide) rfl ?_
              refine r_goto E 23 dX7_comes_109 (by decide) ?_
              refine r_lv [2, 3, 1, 0] [(0, .ref m0), (1, .int (iJ (a))), (2, .int (iJ (v))), (3, .int (iJ ((k + 1))))] rfl ?_
              exact ih23 (k + 1) v ⟨by omega, by omega⟩ (by
                    rcases hx with z | z
                    · rw [cmN_s s hd p a (by omega)] at z
                      by_cases y : cmS s hd p a k
                      · rw [if_pos y] at z; rw [hv, b2_t y]; exact Or.inl ⟨rfl, z.2.1, z.2.2⟩
                      · rw [if_neg y] at z; rw [hv, b2_f y]; exact Or.inr ⟨rfl, z.2.2.symm⟩
                    · omega) (by omega)
            refine r_iload E 0 dX7_comes_46 rfl ?_
            refine r_bipush E (-4) rfl dX7_comes_48 ?_
            refine r_icmp_ne E 71 dX7_comes_50 (by decide) ⟨by omega, by omega⟩ ⟨by omega, by omega⟩ (fun c_50 => ?_) (fun c_50 => ?_)
            · refine r_aload_n E 1 dX7_comes_71 rfl rfl ?_
              have f_c := hsv (a + k) (by omega) (by omega)
              refine r_iload_n E 2 dX7_comes_72 rfl rfl ?_
              refine r_iload_n E 4 dX7_comes_73 rfl rfl ?_
              refine r_iadd E dX7_comes_74 ?_
              refine r_vP E (st := []) (c_X7_isStroke l D m0 ms mh mn mp ml mm md mw mt mb mi mg cI kp sv pn rf tl s (a + k) (by first | assumption | omega | exact ⟨by omega, by omega⟩) (by first | assumption | omega | exact ⟨by omega, by omega⟩)) gX7_comes_X7_isStroke 1 kf_X7_isStroke ⟨rfl, rfl⟩ ⟨by decide, by decide⟩ dX7_comes_75 rfl 0 rfl rfl rfl rfl ⟨Nat.zero_le _, Nat.zero_le _⟩ [0, 1] rfl (by decide) [0] rfl (Nat.le_of_ble_eq_true rfl) ?_
              refine r_ifeq_n E 104 dX7_comes_78 (by decide) (fun c_78 => ?_) (fun c_78 => ?_)
              · refine r_iconst E 0 rfl dX7_comes_104 ?_
                refine r_lv [1, 2, 3, 4, 0] [(0, .ref m0), (1, .int (iJ (a))), (2, .int (iJ (x))), (3, .int (iJ (k))), (4, .int (iJ (mHf (p k))))] rfl ?_
                exact K_105 0 (by
                      first
                      | exact (b2_t (show cmS s hd p a k from Or.inl ⟨c_50, by assumption⟩)).symm
                      | exact (b2_t (show cmS s hd p a k from Or.inr ⟨c_50, by assumption, Or.inl (by omega)⟩)).symm
                      | exact (b2_t (show cmS s hd p a k from Or.inr ⟨c_50, by assumption, Or.inr (by omega)⟩)).symm
                      | exact (b2_f (fun z : cmS s hd p a k => z.elim (fun y => by first | exact absurd y.2 (by assumption) | exact absurd y.1 c_50) (fun y => by first | exact y.1 c_50 | exact y.2.1 (by assumption) | (rcases y.2.2 with x0 | x0 <;> omega)))).symm)
              · have f_d := hdr (a + k) (by omega) (by omega) (by assumption)
                refine r_iload E 0 dX7_comes_81 rfl ?_
                refine r_iconst E 2 rfl dX7_comes_83 ?_
                refine r_icmp_eq E 100 dX7_comes_84 (by decide) ⟨by omega, by omega⟩ ⟨by omega, by omega⟩ (fun c_84 => ?_) (fun c_84 => ?_)
                · refine r_iconst E 1 rfl dX7_comes_100 ?_
                  refine r_goto E 105 dX7_comes_101 (by decide) ?_
                  refine r_lv [1, 2, 3, 4, 0] [(0, .ref m0), (1, .int (iJ (a))), (2, .int (iJ (x))), (3, .int (iJ (k))), (4, .int (iJ (mHf (p k))))] rfl ?_
                  exact K_105 1 (by
                        first
                        | exact (b2_t (show cmS s hd p a k from Or.inl ⟨c_50, by assumption⟩)).symm
                        | exact (b2_t (show cmS s hd p a k from Or.inr ⟨c_50, by assumption, Or.inl (by omega)⟩)).symm
                        | exact (b2_t (show cmS s hd p a k from Or.inr ⟨c_50, by assumption, Or.inr (by omega)⟩)).symm
                        | exact (b2_f (fun z : cmS s hd p a k => z.elim (fun y => by first | exact absurd y.2 (by assumption) | exact absurd y.1 c_50) (fun y => by first | exact y.1 c_50 | exact y.2.1 (by assumption) | (rcases y.2.2 with x0 | x0 <;> omega)))).symm)
                · refine r_iload E 0 dX7_comes_87 rfl ?_
                  refine r_aload_n E 1 dX7_comes_89 rfl rfl ?_
                  refine r_get E 6 0 10 dX7_comes_90 in_X7_comes_X7 lk_X7_comes_29 rfl rfl (by decide) rfl ?_
                  refine r_iload_n E 2 dX7_comes_93 rfl rfl ?_
                  refine r_iload_n E 4 dX7_comes_94 rfl rfl ?_
                  refine r_iadd E dX7_comes_95 ?_
                  refine r_iald E (i := (a + k)) 2 0 dX7_comes_96 rfl rfl (by decide) ⟨by omega, by omega⟩ ?_
                  refine r_icmp_ne E 104 dX7_comes_97 (by decide) ⟨by omega, by omega⟩ ⟨by omega, by omega⟩ (fun c_97 => ?_) (fun c_97 => ?_)
                  · refine r_iconst E 0 rfl dX7_comes_104 ?_
                    refine r_lv [1, 2, 3, 4, 0] [(0, .ref m0), (1, .int (iJ (a))), (2, .int (iJ (x))), (3, .int (iJ (k))), (4, .int (iJ (mHf (p k))))] rfl ?_
                    exact K_105 0 (by
                          first
                          | exact (b2_t (show cmS s hd p a k from Or.inl ⟨c_50, by assumption⟩)).symm
                          | exact (b2_t (show cmS s hd p a k from Or.inr ⟨c_50, by assumption, Or.inl (by omega)⟩)).symm
                          | exact (b2_t (show cmS s hd p a k from Or.inr ⟨c_50, by assumption, Or.inr (by omega)⟩)).symm
                          | exact (b2_f (fun z : cmS s hd p a k => z.elim (fun y => by first | exact absurd y.2 (by assumption) | exact absurd y.1 c_50) (fun y => by first | exact y.1 c_50 | exact y.2.1 (by assumption) | (rcases y.2.2 with x0 | x0 <;> omega)))).symm)
                  · refine r_iconst E 1 rfl dX7_comes_100 ?_
                    refine r_goto E 105 dX7_comes_101 (by decide) ?_
                    refine r_lv [1, 2, 3, 4, 0] [(0, .ref m0), (1, .int (iJ (a))), (2, .int (iJ (x))), (3, .int (iJ (k))), (4, .int (iJ (mHf (p k))))] rfl ?_
                    exact K_105 1 (by
                          first
                          | exact (b2_t (show cmS s hd p a k from Or.inl ⟨c_50, by assumption⟩)).symm
                          | exact (b2_t (show cmS s hd p a k from Or.inr ⟨c_50, by assumption, Or.inl (by omega)⟩)).symm
                          | exact (b2_t (show cmS s hd p a k from Or.inr ⟨c_50, by assumption, Or.inr (by omega)⟩)).symm
                          | exact (b2_f (fun z : cmS s hd p a k => z.elim (fun y => by first | exact absurd y.2 (by assumption) | exact absurd y.1 c_50) (fun y => by first | exact y.1 c_50 | exact y.2.1 (by assumption) | (rcases y.2.2 with x0 | x0 <;> omega)))).symm)
            · refine r_aload_n E 1 dX7_comes_53 rfl rfl ?_
              have f_c := hsv (a + k) (by omega) (by omega)
              refine r_iload_n E 2 dX7_comes_54 rfl rfl ?_
              refine r_iload_n E 4 dX7_comes_55 rfl rfl ?_
              refine r_iadd E dX7_comes_56 ?_
              refine r_vP E (st := []) (c_X7_isStroke l D m0 ms mh mn mp ml mm md mw mt mb mi mg cI kp sv pn rf tl s (a + k) (by first | assumption | omega | exact ⟨by omega, by omega⟩) (by first | assumption | omega | exact ⟨by omega, by omega⟩)) gX7_comes_X7_isStroke 1 kf_X7_isStroke ⟨rfl, rfl⟩ ⟨by decide, by decide⟩ dX7_comes_57 rfl 0 rfl rfl rfl rfl ⟨Nat.zero_le _, Nat.zero_le _⟩ [0, 1] rfl (by decide) [0] rfl (Nat.le_of_ble_eq_true rfl) ?_
              refine r_ifne_n E 67 dX7_comes_60 (by decide) (fun c_60 => ?_) (fun c_60 => ?_)
              · refine r_iconst E 0 rfl dX7_comes_67 ?_
                refine r_goto E 105 dX7_comes_68 (by decide) ?_
                refine r_lv [1, 2, 3, 4, 0] [(0, .ref m0), (1, .int (iJ (a))), (2, .int (iJ (x))), (3, .int (iJ (k))), (4, .int (iJ (mHf (p k))))] rfl ?_
                exact K_105 0 (by
                      first
                      | exact (b2_t (show cmS s hd p a k from Or.inl ⟨c_50, by assumption⟩)).symm
                      | exact (b2_t (show cmS s hd p a k from Or.inr ⟨c_50, by assumption, Or.inl (by omega)⟩)).symm
                      | exact (b2_t (show cmS s hd p a k from Or.inr ⟨c_50, by assumption, Or.inr (by omega)⟩)).symm
                      | exact (b2_f (fun z : cmS s hd p a k => z.elim (fun y => by first | exact absurd y.2 (by assumption) | exact absurd y.1 c_50) (fun y => by first | exact y.1 c_50 | exact y.2.1 (by assumption) | (rcases y.2.2 with x0 | x0 <;> omega)))).symm)
              · refine r_iconst E 1 rfl dX7_comes_63 ?_
                refine r_goto E 105 dX7_comes_64 (by decide) ?_
                refine r_lv [1, 2, 3, 4, 0] [(0, .ref m0), (1, .int (iJ (a))), (2, .int (iJ (x))), (3, .int (iJ (k))), (4, .int (iJ (mHf (p k))))] rfl ?_
                exact K_105 1 (by
                      first
                      | exact (b2_t (show cmS s hd p a k from Or.inl ⟨c_50, by assumption⟩)).symm
                      | exact (b2_t (show cmS s hd p a k from Or.inr ⟨c_50, by assumption, Or.inl (by omega)⟩)).symm
                      | exact (b2_t (show cmS s hd p a k from Or.inr ⟨c_50, by assumption, Or.inr (by omega)⟩)).symm
                      | exact (b2_f (fun z : cmS s hd p a k => z.elim (fun y => by first | exact absurd y.2 (by assumption) | exact absurd y.1 c_50) (fun y => by first | exact y.1 c_50 | exact y.2.1 (by assumption) | (rcases y.2.2 with x0 | x0 <;> omega)))).symm)
    refine r_lv [2, 3, 1, 0] [(0, .ref m0), (1, .int (iJ (a))), (2, .int (iJ (u))), (3, .int (iJ (0)))] rfl ?_
    exact loop_23 _ 0 u ⟨by omega, by omega⟩ (by
          unfold cmV; rcases hu with z | z
          · rw [if_pos z.2]; exact Or.inl ⟨z.1, z.2, by rw [Int.sub_zero]⟩
          · rw [if_neg z.2]; exact Or.inr ⟨z.1, rfl⟩) (Nat.lt_succ_self _)
  refine r_iload_n E 1 dX7_comes_0 rfl rfl ?_
  refine r_aload_n E 0 dX7_comes_1 rfl rfl ?_
  refine r_get E 6 0 6 dX7_comes_2 in_X7_comes_X7 lk_X7_comes_133 rfl rfl (by decide) rfl ?_
  refine r_iadd E dX7_comes_5 ?_
  refine r_aload_n E 0 dX7_comes_6 rfl rfl ?_
  refine r_get E 6 0 0 dX7_comes_7 in_X7_comes_X7 lk_X7_comes_7 rfl rfl (by decide) rfl ?_
  refine r_iconst E 0 rfl dX7_comes_10 ?_
  refine r_iald E (i := 0) 1 0 dX7_comes_11 rfl rfl (by decide) ⟨by omega, by omega⟩ ?_
  refine r_icmp_gt E 19 dX7_comes_12 (by decide) ⟨by omega, by omega⟩ ⟨by omega, by omega⟩ (fun c_12 => ?_) (fun c_12 => ?_)
  · refine r_iconst E 0 rfl dX7_comes_19 ?_
    refine r_lv [0, 1] [(0, .ref m0), (1, .int (iJ (a)))] rfl ?_
    exact K_20 0 (by omega)
  · refine r_iconst E 1 rfl dX7_comes_15 ?_
    refine r_goto E 20 dX7_comes_16 (by decide) ?_
    refine r_lv [0, 1] [(0, .ref m0), (1, .int (iJ (a)))] rfl ?_
    exact K_20 1 (by omega)
theorem kf_X7_patterns : KF yX7_patterns 0 wsX7_patterns cX7_patterns 3 (some .int) := ⟨rfl, by decide +kernel, by decide +kernel, by decide +kernel⟩
def rm_X7_patterns : Room := { frames := 10, cells := 0, slots := 0, locals := 235 }
set_option maxHeartbeats 1000000 in
set_option maxRecDepth 100000 in
theorem c_X7_patternsF (l : Launch) (D : va_G) (m0 : Nat) (ms : Nat) (mh : Nat) (mn : Nat) (mp : Nat) (ml : Nat) (mm : Nat) (md : Nat) (mw : Nat) (mt : Nat) (mb : Nat) (mi : Nat) (mg : Nat) (cI : ClassId) (kp : Int) (sv : Int) (pn : Int) (rf : Int) (tl : Int) (s : Int → Int) (p : Int → Int) (hpn : 0 ≤ pn ∧ pn ≤ 60) (hpp : ∀ j : Int, 0 ≤ j → j < pn → 33 ≤ p j ∧ p j ≤ 126) (hx : ¬ mpN p pn.toNat 0 = -4) : MP l yX7_patterns wsX7_patterns rm_X7_patterns D vwCl [.ref m0] [(m0, .inr (6, [.ref ms, .ref mh, .int (iJ (kp)), .ref mn, .int (iJ (sv)), .ref mp, .int (iJ (pn)), .int (iJ (rf)), .ref ml, .ref mm, .ref md, .ref mw, .ref mt, .int (iJ (tl)), .ref mb, .ref mi, .ref mg])), (ms, cJ cI 34 (s)), (mp, cJ cI 60 (p))] [(cI, .int)] (-2) := by
  refine MP.mk (cc := cX7_patterns) (maxL := 3) (ret := (some .int)) (by decide) rfl (Nat.le_of_ble_eq_true rfl) rfl RX7 rfl ?_
  intro p_ e_ s_ m_ ar_ bw_ mt_ cd_ Q_ E hr hQ
  refine r_aload_n E 0 dX7_patterns_0 rfl rfl ?_
  refine r_vP E (st := []) (c_X7_readPattern l D m0 ms mh mn mp ml mm md mw mt mb mi mg cI kp sv pn rf tl p (by first | assumption | omega | exact ⟨by omega, by omega⟩) (by first | assumption | omega | exact ⟨by omega, by omega⟩)) gX7_patterns_X7_readPattern 0 kf_X7_readPattern ⟨rfl, rfl⟩ ⟨by decide, by decide⟩ dX7_patterns_1 rfl 0 rfl rfl rfl rfl ⟨Nat.zero_le _, Nat.zero_le _⟩ [0, 2] rfl (by decide) [0] rfl (Nat.le_of_ble_eq_true rfl) ?_
  refine r_bipush E (-4) rfl dX7_patterns_4 ?_
  refine r_icmp_ne E 17 dX7_patterns_6 (by decide) (mpN_in (by omega) (by omega)) ⟨by omega, by omega⟩ (fun c_6 => ?_) (fun c_6 => absurd c_6 (by omega))
  refine r_bipush E (-2) rfl dX7_patterns_17 ?_
  exact r_retP E hr dX7_patterns_19 rfl hQ
set_option maxHeartbeats 1000000 in
set_option maxRecDepth 100000 in
theorem c_X7_patternsC (l : Launch) (D : va_G) (m0 : Nat) (ms : Nat) (mh : Nat) (mn : Nat) (mp : Nat) (ml : Nat) (mm : Nat) (md : Nat) (mw : Nat) (mt : Nat) (mb : Nat) (mi : Nat) (mg : Nat) (cI : ClassId) (kp : Int) (sv : Int) (pn : Int) (rf : Int) (tl : Int) (cJ_ : ClassId) (s : Int → Int) (le : Int → Int) (my : Int → Int) (hd : Int → Int) (p : Int → Int) (hs0 : 0 ≤ s 0 ∧ s 0 ≤ 32) (hs1 : 1 ≤ s 1 ∧ s 1 ≤ 4) (hsv : ∀ j : Int, 0 ≤ j → j < s 0 → 0 ≤ s (2 + j) ∧ s (2 + j) ≤ 24) (hpn : 0 ≤ pn ∧ pn ≤ 60) (hpp : ∀ j : Int, 0 ≤ j → j < pn → 33 ≤ p j ∧ p j ≤ 126) (hy : mpN p pn.toNat 0 = -4) (hx : ¬ lsS s (-4) 0 2 < 1000) : MM (S := (Int → Int) × (Int → Int) × (Int → Int)) l yX7_patterns wsX7_patterns rm_X7_patterns D vwCl [.ref m0] [(m0, .inr (6, [.ref ms, .ref mh, .int (iJ (kp)), .ref mn, .int (iJ (sv)), .ref mp, .int (iJ (pn)), .int (iJ (rf)), .ref ml, .ref mm, .ref md, .ref mw, .ref mt, .int (iJ (tl)), .ref mb, .ref mi, .ref mg])), (ms, cJ cI 34 (s)), (ml, cJ cI 99 (le)), (mm, cL cJ_ 99 (my)), (md, cJ cI 32 (hd)), (mp, cJ cI 60 (p))] [(cI, .int), (cJ_, .long)] (fun (u : (Int → Int) × (Int → Int) × (Int → Int)) => -2) (fun (u : (Int → Int) × (Int → Int) × (Int → Int)) => True) (fun (u : (Int → Int) × (Int → Int) × (Int → Int)) => [(m0, .inr (6, [.ref ms, .ref mh, .int (iJ (kp)), .ref mn, .int (iJ (sv)), .ref mp, .int (iJ (pn)), .int (iJ (rf)), .ref ml, .ref mm, .ref md, .ref mw, .ref mt, .int (iJ (tl)), .ref mb, .ref mi, .ref mg])), (ms, cJ cI 34 (s)), (ml, cJ cI 99 (u.1)), (mm, cL cJ_ 99 (u.2.1)), (md, cJ cI 32 (u.2.2)), (mp, cJ cI 60 (p))]) := by
  refine MM.mk (cc := cX7_patterns) (maxL := 3) (ret := (some .int)) (by decide) rfl (Nat.le_of_ble_eq_true rfl) rfl RX7 rfl ?_
  intro p_ e_ s_ m_ ar_ bw_ mt_ cd_ B_ Q_ hA E hr hQ
  refine r_aload_n E 0 dX7_patterns_0 rfl rfl ?_
  refine r_vP E (st := []) (c_X7_readPattern l D m0 ms mh mn mp ml mm md mw mt mb mi mg cI kp sv pn rf tl p (by first | assumption | omega | exact ⟨by omega, by omega⟩) (by first | assumption | omega | exact ⟨by omega, by omega⟩)) gX7_patterns_X7_readPattern 0 kf_X7_readPattern ⟨rfl, rfl⟩ ⟨by decide, by decide⟩ dX7_patterns_1 rfl 0 rfl rfl rfl rfl ⟨Nat.zero_le _, Nat.zero_le _⟩ [0, 5] rfl (by decide) [0] rfl (Nat.le_of_ble_eq_true rfl) ?_
  refine r_bipush E (-4) rfl dX7_patterns_4 ?_
  refine r_icmp_ne E 17 dX7_patterns_6 (by decide) (mpN_in (by omega) (by omega)) ⟨by omega, by omega⟩ (fun c_6 => absurd c_6 (by omega)) (fun c_6 => ?_)
  refine r_aload_n E 0 dX7_patterns_9 rfl rfl ?_
  refine r_iconst E 1 rfl dX7_patterns_10 ?_
  refine r_vM E (st := []) (c_X7_stick l D m0 ms mh mn mp ml mm md mw mt mb mi mg cI kp sv pn rf tl cJ_ s le my hd 1 (by first | assumption | omega | exact ⟨by omega, by omega⟩) (by first | assumption | omega | exact ⟨by omega, by omega⟩) (by first | assumption | omega | exact ⟨by omega, by omega⟩) (by first | assumption | omega | exact ⟨by omega, by omega⟩)) gX7_patterns_X7_stick 1 kf_X7_stick ⟨rfl, rfl⟩ ⟨by decide, by decide⟩ dX7_patterns_11 rfl 0 rfl rfl rfl rfl ⟨Nat.zero_le _, Nat.zero_le _⟩ [0, 1, 2, 3, 4] rfl (by decide) [0, 1] rfl (Nat.le_of_ble_eq_true rfl) [(mp, cJ cI 60 (p))] [5] rfl (by decide) (by decide) hA [1, 2, 3, 4, 5, 0] (by decide) (fun u : (Int → Int) × (Int → Int) × (Int → Int) => [(m0, .inr (6, [.ref ms, .ref mh, .int (iJ (kp)), .ref mn, .int (iJ (sv)), .ref mp, .int (iJ (pn)), .int (iJ (rf)), .ref ml, .ref mm, .ref md, .ref mw, .ref mt, .int (iJ (tl)), .ref mb, .ref mi, .ref mg])), (ms, cJ cI 34 (s)), (ml, cJ cI 99 (u.1)), (mm, cL cJ_ 99 (u.2.1)), (md, cJ cI 32 (u.2.2)), (mp, cJ cI 60 (p))]) (fun _ => rfl) ?_
  rintro ⟨LT, MT, HT⟩ hp_1
  refine r_cv (ws2 := [(m0, .inr (6, [.ref ms, .ref mh, .int (iJ (kp)), .ref mn, .int (iJ (sv)), .ref mp, .int (iJ (pn)), .int (iJ (rf)), .ref ml, .ref mm, .ref md, .ref mw, .ref mt, .int (iJ (tl)), .ref mb, .ref mi, .ref mg])), (ms, cJ cI 34 (s)), (ml, cJ cI 99 (LT)), (mm, cL cJ_ 99 (MT)), (md, cJ cI 32 (HT)), (mp, cJ cI 60 (p))]) (st2 := [.int (iJ (b2 (lsS s (-4) 0 2 < 1000)))]) rfl rfl rfl ?_
  obtain ⟨hT1, hH1⟩ := hp_1
  try dsimp only at hT1 hH1
  refine r_ifne_b E 20 dX7_patterns_14 (by decide) (fun c_14 => absurd c_14 (by omega)) (fun c_14 => ?_)
  refine r_bipush E (-2) rfl dX7_patterns_17 ?_
  exact r_retM E (LT, MT, HT) hr dX7_patterns_19 rfl trivial rfl hQ
set_option maxRecDepth 20000 in
theorem in_X7_patterns_X7 : ∀ w ∈ u_ws RX7 TX7 17, w ∈ wsX7_patterns := by decide +kernel
set_option maxRecDepth 20000 in
theorem lk_X7_patterns_7 : Cond.fieldLink RX7 7 (TX7 0).1 (TX7 0).2.1 (TX7 0).2.2.1 ∈ wsX7_patterns := by decide +kernel
set_option maxHeartbeats 1000000 in
set_option maxRecDepth 100000 in
theorem c_X7_patterns (l : Launch) (D : va_G) (m0 : Nat) (ms : Nat) (mh : Nat) (mn : Nat) (mp : Nat) (ml : Nat) (mm : Nat) (md : Nat) (mw : Nat) (mt : Nat) (mb : Nat) (mi : Nat) (mg : Nat) (cI : ClassId) (kp : Int) (sv : Int) (pn : Int) (rf : Int) (tl : Int) (cJ_ : ClassId) (s : Int → Int) (le : Int → Int) (my : Int → Int) (hd : Int → Int) (p : Int → Int) (hs0 : 0 ≤ s 0 ∧ s 0 ≤ 32) (hs1 : 1 ≤ s 1 ∧ s 1 ≤ 4) (hsv : ∀ j : Int, 0 ≤ j → j < s 0 → 0 ≤ s (2 + j) ∧ s (2 + j) ≤ 24) (hpn : 0 ≤ pn ∧ pn ≤ 60) (hpp : ∀ j : Int, 0 ≤ j → j < pn → 33 ≤ p j ∧ p j ≤ 126) (hy : mpN p pn.toNat 0 = -4) (hx : lsS s (-4) 0 2 < 1000) : MM (S := (Int → Int) × (Int → Int) × (Int → Int)) l yX7_patterns wsX7_patterns rm_X7_patterns D vwCl [.ref m0] [(m0, .inr (6, [.ref ms, .ref mh, .int (iJ (kp)), .ref mn, .int (iJ (sv)), .ref mp, .int (iJ (pn)), .int (iJ (rf)), .ref ml, .ref mm, .ref md, .ref mw, .ref mt, .int (iJ (tl)), .ref mb, .ref mi, .ref mg])), (ms, cJ cI 34 (s)), (ml, cJ cI 99 (le)), (mm, cL cJ_ 99 (my)), (md, cJ cI 32 (hd)), (mp, cJ cI 60 (p))] [(cI, .int), (cJ_, .long)] (fun (u : (Int → Int) × (Int → Int) × (Int → Int)) => sm (fun a => cmV s (fun j => mcB s 1 (j + 1)) p pn a) (s 0)) (fun (u : (Int → Int) × (Int → Int) × (Int → Int)) => True) (fun (u : (Int → Int) × (Int → Int) × (Int → Int)) => [(m0, .inr (6, [.ref ms, .ref mh, .int (iJ (kp)), .ref mn, .int (iJ (sv)), .ref mp, .int (iJ (pn)), .int (iJ (rf)), .ref ml, .ref mm, .ref md, .ref mw, .ref mt, .int (iJ (tl)), .ref mb, .ref mi, .ref mg])), (ms, cJ cI 34 (s)), (ml, cJ cI 99 (u.1)), (mm, cL cJ_ 99 (u.2.1)), (md, cJ cI 32 (u.2.2)), (mp, cJ cI 60 (p))]) := by
  refine MM.mk (cc := cX7_patterns) (maxL := 3) (ret := (some .int)) (by decide) rfl (Nat.le_of_ble_eq_true rfl) rfl RX7 rfl ?_
  intro p_ e_ s_ m_ ar_ bw_ mt_ cd_ B_ Q_ hA E hr hQ
  refine r_aload_n E 0 dX7_patterns_0 rfl rfl ?_
  refine r_vP E (st := []) (c_X7_readPattern l D m0 ms mh mn mp ml mm md mw mt mb mi mg cI kp sv pn rf tl p (by first | assumption | omega | exact ⟨by omega, by omega⟩) (by first | assumption | omega | exact ⟨by omega, by omega⟩)) gX7_patterns_X7_readPattern 0 kf_X7_readPattern ⟨rfl, rfl⟩ ⟨by decide, by decide⟩ dX7_patterns_1 rfl 0 rfl rfl rfl rfl ⟨Nat.zero_le _, Nat.zero_le _⟩ [0, 5] rfl (by decide) [0] rfl (Nat.le_of_ble_eq_true rfl) ?_
  refine r_bipush E (-4) rfl dX7_patterns_4 ?_
  refine r_icmp_ne E 17 dX7_patterns_6 (by decide) (mpN_in (by omega) (by omega)) ⟨by omega, by omega⟩ (fun c_6 => absurd c_6 (by omega)) (fun c_6 => ?_)
  refine r_aload_n E 0 dX7_patterns_9 rfl rfl ?_
  refine r_iconst E 1 rfl dX7_patterns_10 ?_
  refine r_vM E (st := []) (c_X7_stick l D m0 ms mh mn mp ml mm md mw mt mb mi mg cI kp sv pn rf tl cJ_ s le my hd 1 (by first | assumption | omega | exact ⟨by omega, by omega⟩) (by first | assumption | omega | exact ⟨by omega, by omega⟩) (by first | assumption | omega | exact ⟨by omega, by omega⟩) (by first | assumption | omega | exact ⟨by omega, by omega⟩)) gX7_patterns_X7_stick 1 kf_X7_stick ⟨rfl, rfl⟩ ⟨by decide, by decide⟩ dX7_patterns_11 rfl 0 rfl rfl rfl rfl ⟨Nat.zero_le _, Nat.zero_le _⟩ [0, 1, 2, 3, 4] rfl (by decide) [0, 1] rfl (Nat.le_of_ble_eq_true rfl) [(mp, cJ cI 60 (p))] [5] rfl (by decide) (by decide) hA [1, 2, 3, 4, 5, 0] (by decide) (fun u : (Int → Int) × (Int → Int) × (Int → Int) => [(m0, .inr (6, [.ref ms, .ref mh, .int (iJ (kp)), .ref mn, .int (iJ (sv)), .ref mp, .int (iJ (pn)), .int (iJ (rf)), .ref ml, .ref mm, .ref md, .ref mw, .ref mt, .int (iJ (tl)), .ref mb, .ref mi, .ref mg])), (ms, cJ cI 34 (s)), (ml, cJ cI 99 (u.1)), (mm, cL cJ_ 99 (u.2.1)), (md, cJ cI 32 (u.2.2)), (mp, cJ cI 60 (p))]) (fun _ => rfl) ?_
  rintro ⟨LT, MT, HT⟩ hp_1
  refine r_cv (ws2 := [(m0, .inr (6, [.ref ms, .ref mh, .int (iJ (kp)), .ref mn, .int (iJ (sv)), .ref mp, .int (iJ (pn)), .int (iJ (rf)), .ref ml, .ref mm, .ref md, .ref mw, .ref mt, .int (iJ (tl)), .ref mb, .ref mi, .ref mg])), (ms, cJ cI 34 (s)), (ml, cJ cI 99 (LT)), (mm, cL cJ_ 99 (MT)), (md, cJ cI 32 (HT)), (mp, cJ cI 60 (p))]) (st2 := [.int (iJ (b2 (lsS s (-4) 0 2 < 1000)))]) rfl rfl rfl ?_
  obtain ⟨hT1, hH1⟩ := hp_1
  try dsimp only at hT1 hH1
  refine r_ifne_b E 20 dX7_patterns_14 (by decide) (fun c_14 => ?_) (fun c_14 => absurd c_14 (by omega))
  have wH : ∀ j : Int, 0 ≤ j → j < s 0 → ¬ s (2 + j) = 0 → HT j = mcB s 1 (j + 1) := fun j h0 h1 h2 => (hH1 hx j h0 h1).trans (if_neg h2)
  refine r_iconst E 0 rfl dX7_patterns_20 ?_
  refine r_istore_n E [(1, .int (iJ (0))), (0, .ref m0)] dX7_patterns_21 rfl (by decide) rfl ?_
  refine r_iconst E 0 rfl dX7_patterns_22 ?_
  refine r_istore_n E [(2, .int (iJ (0))), (1, .int (iJ (0))), (0, .ref m0)] dX7_patterns_23 rfl (by decide) rfl ?_
  have loop_24 : ∀ (N : Nat) (k : Int) (x : Int), (0 ≤ k ∧ k ≤ s 0) → (x = sm (fun a => cmV s (fun j => mcB s 1 (j + 1)) p pn a) k) → (s 0 - k).toNat < N → GG p_ l e_ rm_X7_patterns s_ m_ ar_ bw_ mt_ cd_ D vwCl B_ B_ s_.heap 3 0 0 Q_ [(m0, .inr (6, [.ref ms, .ref mh, .int (iJ (kp)), .ref mn, .int (iJ (sv)), .ref mp, .int (iJ (pn)), .int (iJ (rf)), .ref ml, .ref mm, .ref md, .ref mw, .ref mt, .int (iJ (tl)), .ref mb, .ref mi, .ref mg])), (ms, cJ cI 34 (s)), (ml, cJ cI 99 (LT)), (mm, cL cJ_ 99 (MT)), (md, cJ cI 32 (HT)), (mp, cJ cI 60 (p))] [(0, .ref m0), (1, .int (iJ (x))), (2, .int (iJ (k)))] 24 [] := by
    intro N; induction N with
    | zero => intro k x hk hx2 hN; exact absurd hN (Nat.not_lt_zero _)
    | succ N ih24 =>
      intro k x hk hx2 hN
      refine r_iload_n E 2 dX7_patterns_24 rfl rfl ?_
      refine r_aload_n E 0 dX7_patterns_25 rfl rfl ?_
      refine r_get E 6 0 0 dX7_patterns_26 in_X7_patterns_X7 lk_X7_patterns_7 rfl rfl (by decide) rfl ?_
      refine r_iconst E 0 rfl dX7_patterns_29 ?_
      refine r_iald E (i := 0) 1 0 dX7_patterns_30 rfl rfl (by decide) ⟨by omega, by omega⟩ ?_
      refine r_icmp_ge E 56 dX7_patterns_31 (by decide) ⟨by omega, by omega⟩ ⟨by omega, by omega⟩ (fun c_31 => ?_) (fun c_31 => ?_)
      · refine r_iload_n E 1 dX7_patterns_56 rfl rfl ?_
        exact r_retM E (LT, MT, HT) hr dX7_patterns_57 (by
              have e : k = s 0 := by omega
              rw [hx2, e]) trivial rfl hQ
      · refine r_iload_n E 1 dX7_patterns_34 rfl rfl ?_
        refine r_aload_n E 0 dX7_patterns_35 rfl rfl ?_
        refine r_iload_n E 2 dX7_patterns_36 rfl rfl ?_
        refine r_vP E (st := [.int (iJ (x))]) (c_X7_comes l D m0 ms mh mn mp ml mm md mw mt mb mi mg cI kp sv pn rf tl s HT p k (by first | assumption | omega | exact ⟨by omega, by omega⟩) (by first | assumption | omega | exact ⟨by omega, by omega⟩) (by first | assumption | omega | exact ⟨by omega, by omega⟩) (by first | assumption | omega | exact ⟨by omega, by omega⟩) (fun j h0 h1 h2 => by rw [wH j h0 h1 h2]; exact mcB_in) (by first | assumption | omega | exact ⟨by omega, by omega⟩)) gX7_patterns_X7_comes 1 kf_X7_comes ⟨rfl, rfl⟩ ⟨by decide, by decide⟩ dX7_patterns_37 rfl 0 rfl rfl rfl rfl ⟨Nat.zero_le _, Nat.zero_le _⟩ [0, 1, 4, 5] rfl (by decide) [0] rfl (Nat.le_of_ble_eq_true rfl) ?_
        have f_v := cmV_01 s HT p pn k
        refine r_if_eq E 47 dX7_patterns_40 (by decide) ⟨by omega, by omega⟩ (fun c_40 => ?_) (fun c_40 => ?_)
        · refine r_iconst E 0 rfl dX7_patterns_47 ?_
          refine r_iadd E dX7_patterns_48 ?_
          refine r_istore_n E [(1, .int (iJ ((x + 0)))), (0, .ref m0), (2, .int (iJ (k)))] dX7_patterns_49 rfl (by decide) rfl ?_
          refine r_iinc E (k := 2) [(2, .int (iJ ((k + 1)))), (1, .int (iJ ((x + 0)))), (0, .ref m0)] dX7_patterns_50 rfl (by decide) rfl ?_
          refine r_goto E 24 dX7_patterns_53 (by decide) ?_
          refine r_lv [2, 1, 0] [(0, .ref m0), (1, .int (iJ ((x + 0)))), (2, .int (iJ ((k + 1))))] rfl ?_
          exact ih24 (k + 1) (x + 0) ⟨by omega, by omega⟩ (by
                rw [sm_s _ (by omega), hx2, ← cmV_cg (by omega) (by omega) wH]; omega) (by omega)
        · refine r_iconst E 1 rfl dX7_patterns_43 ?_
          refine r_goto E 48 dX7_patterns_44 (by decide) ?_
          refine r_iadd E dX7_patterns_48 ?_
          refine r_istore_n E [(1, .int (iJ ((x + 1)))), (0, .ref m0), (2, .int (iJ (k)))] dX7_patterns_49 rfl (by decide) rfl ?_
          refine r_iinc E (k := 2) [(2, .int (iJ ((k + 1)))), (1, .int (iJ ((x + 1)))), (0, .ref m0)] dX7_patterns_50 rfl (by decide) rfl ?_
          refine r_goto E 24 dX7_patterns_53 (by decide) ?_
          refine r_lv [2, 1, 0] [(0, .ref m0), (1, .int (iJ ((x + 1)))), (2, .int (iJ ((k + 1))))] rfl ?_
          exact ih24 (k + 1) (x + 1) ⟨by omega, by omega⟩ (by
                rw [sm_s _ (by omega), hx2, ← cmV_cg (by omega) (by omega) wH]; omega) (by omega)
  refine r_lv [2, 1, 0] [(0, .ref m0), (1, .int (iJ (0))), (2, .int (iJ (0)))] rfl ?_
  exact loop_24 _ 0 0 ⟨by omega, by omega⟩ (sm_0 _).symm (Nat.lt_succ_self _)
theorem kf_X7_sign : KF yX7_sign 1 wsX7_sign cX7_sign 5 (some .int) := ⟨rfl, by decide +kernel, by decide +kernel, by decide +kernel⟩
def rm_X7_sign : Room := { frames := 4, cells := 0, slots := 0, locals := 85 }
set_option maxHeartbeats 1000000 in
set_option maxRecDepth 100000 in
theorem c_X7_signBad (l : Launch) (D : va_G) (m0 : Nat) (ms : Nat) (mh : Nat) (mn : Nat) (mp : Nat) (ml : Nat) (mm : Nat) (md : Nat) (mw : Nat) (mt : Nat) (mb : Nat) (mi : Nat) (mg : Nat) (cI : ClassId) (kp : Int) (sv : Int) (pn : Int) (rf : Int) (tl : Int) (s : Int → Int) (p : Int) (hp : jb p) (hx : p < 0) : MP l yX7_sign wsX7_sign rm_X7_sign D vwCl [.ref m0, .int (iJ (p))] [(m0, .inr (6, [.ref ms, .ref mh, .int (iJ (kp)), .ref mn, .int (iJ (sv)), .ref mp, .int (iJ (pn)), .int (iJ (rf)), .ref ml, .ref mm, .ref md, .ref mw, .ref mt, .int (iJ (tl)), .ref mb, .ref mi, .ref mg])), (ms, cJ cI 34 (s))] [(cI, .int)] (-1) := by
  refine MP.mk (cc := cX7_sign) (maxL := 5) (ret := (some .int)) (by decide) rfl (Nat.le_of_ble_eq_true rfl) rfl RX7 rfl ?_
  intro p_ e_ s_ m_ ar_ bw_ mt_ cd_ Q_ E hr hQ
  refine r_iload_n E 1 dX7_sign_0 rfl rfl ?_
  refine r_if_ge E 6 dX7_sign_1 (by decide) hp (fun c_1 => absurd c_1 (by omega)) (fun c_1 => ?_)
  refine r_iconst E (-1) rfl dX7_sign_4 ?_
  exact r_retP E hr dX7_sign_5 rfl hQ
set_option maxRecDepth 20000 in
theorem in_X7_sign_X7 : ∀ w ∈ u_ws RX7 TX7 17, w ∈ wsX7_sign := by decide +kernel
set_option maxRecDepth 20000 in
theorem lk_X7_sign_7 : Cond.fieldLink RX7 7 (TX7 0).1 (TX7 0).2.1 (TX7 0).2.2.1 ∈ wsX7_sign := by decide +kernel
set_option maxRecDepth 20000 in
theorem lk_X7_sign_44 : Cond.fieldLink RX7 44 (TX7 16).1 (TX7 16).2.1 (TX7 16).2.2.1 ∈ wsX7_sign := by decide +kernel
set_option maxHeartbeats 1000000 in
set_option maxRecDepth 100000 in
theorem c_X7_sign (l : Launch) (D : va_G) (m0 : Nat) (ms : Nat) (mh : Nat) (mn : Nat) (mp : Nat) (ml : Nat) (mm : Nat) (md : Nat) (mw : Nat) (mt : Nat) (mb : Nat) (mi : Nat) (mg : Nat) (cI : ClassId) (kp : Int) (sv : Int) (pn : Int) (rf : Int) (tl : Int) (s : Int → Int) (sg : Int → Int) (p : Int) (hs0 : 0 ≤ s 0 ∧ s 0 ≤ 32) (hsv : ∀ j : Int, 0 ≤ j → j < s 0 → 0 ≤ s (2 + j) ∧ s (2 + j) ≤ 24) (hp : jb p) (hx : 0 ≤ p) : MM (S := Int → Int) l yX7_sign wsX7_sign rm_X7_sign D vwCl [.ref m0, .int (iJ (p))] [(m0, .inr (6, [.ref ms, .ref mh, .int (iJ (kp)), .ref mn, .int (iJ (sv)), .ref mp, .int (iJ (pn)), .int (iJ (rf)), .ref ml, .ref mm, .ref md, .ref mw, .ref mt, .int (iJ (tl)), .ref mb, .ref mi, .ref mg])), (ms, cJ cI 34 (s)), (mg, cJ cI 4 (sg))] [(cI, .int)] (fun (G : Int → Int) => sgM s (s 0).toNat 0 p) (fun (G : Int → Int) => True) (fun (G : Int → Int) => [(m0, .inr (6, [.ref ms, .ref mh, .int (iJ (kp)), .ref mn, .int (iJ (sv)), .ref mp, .int (iJ (pn)), .int (iJ (rf)), .ref ml, .ref mm, .ref md, .ref mw, .ref mt, .int (iJ (tl)), .ref mb, .ref mi, .ref mg])), (ms, cJ cI 34 (s)), (mg, cJ cI 4 (G))]) := by
  refine MM.mk (cc := cX7_sign) (maxL := 5) (ret := (some .int)) (by decide) rfl (Nat.le_of_ble_eq_true rfl) rfl RX7 rfl ?_
  intro p_ e_ s_ m_ ar_ bw_ mt_ cd_ B_ Q_ hA E hr hQ
  refine r_iload_n E 1 dX7_sign_0 rfl rfl ?_
  refine r_if_ge E 6 dX7_sign_1 (by decide) hp (fun c_1 => ?_) (fun c_1 => absurd c_1 (by omega))
  refine r_iload_n E 1 dX7_sign_6 rfl rfl ?_
  refine r_istore_n E [(2, .int (iJ (p))), (0, .ref m0), (1, .int (iJ (p)))] dX7_sign_7 rfl (by decide) rfl ?_
  refine r_iconst E 0 rfl dX7_sign_8 ?_
  refine r_istore_n E [(3, .int (iJ (0))), (2, .int (iJ (p))), (0, .ref m0), (1, .int (iJ (p)))] dX7_sign_9 rfl (by decide) rfl ?_
  have loop_10 : ∀ (N : Nat) (k : Int) (pp : Int) (G1 : Int → Int), (0 ≤ k ∧ k ≤ s 0) → (0 ≤ pp ∧ pp ≤ p) → (sgM s (s 0 - k).toNat k pp = sgM s (s 0).toNat 0 p) → (s 0 - k).toNat < N → GG p_ l e_ rm_X7_sign s_ m_ ar_ bw_ mt_ cd_ D vwCl B_ B_ s_.heap 5 0 0 Q_ [(m0, .inr (6, [.ref ms, .ref mh, .int (iJ (kp)), .ref mn, .int (iJ (sv)), .ref mp, .int (iJ (pn)), .int (iJ (rf)), .ref ml, .ref mm, .ref md, .ref mw, .ref mt, .int (iJ (tl)), .ref mb, .ref mi, .ref mg])), (ms, cJ cI 34 (s)), (mg, cJ cI 4 (G1))] [(0, .ref m0), (1, .int (iJ (p))), (2, .int (iJ (pp))), (3, .int (iJ (k)))] 10 [] := by
    intro N; induction N with
    | zero => intro k pp G1 hk hpp2 hs hN; exact absurd hN (Nat.not_lt_zero _)
    | succ N ih10 =>
      intro k pp G1 hk hpp2 hs hN
      refine r_iload_n E 3 dX7_sign_10 rfl rfl ?_
      refine r_aload_n E 0 dX7_sign_11 rfl rfl ?_
      refine r_get E 6 0 0 dX7_sign_12 in_X7_sign_X7 lk_X7_sign_7 rfl rfl (by decide) rfl ?_
      refine r_iconst E 0 rfl dX7_sign_15 ?_
      refine r_iald E (i := 0) 1 0 dX7_sign_16 rfl rfl (by decide) ⟨by omega, by omega⟩ ?_
      refine r_icmp_ge E 51 dX7_sign_17 (by decide) ⟨by omega, by omega⟩ ⟨by omega, by omega⟩ (fun c_17 => ?_) (fun c_17 => ?_)
      · refine r_bipush E (-4) rfl dX7_sign_51 ?_
        exact r_retM E G1 hr dX7_sign_53 (by rw [← hs, show (s 0 - k).toNat = 0 by omega]; rfl) trivial rfl hQ
      · have f_c := hsv k (by omega) (by omega)
        have f_t := mTl_in (c := s (2 + k))
        refine r_aload_n E 0 dX7_sign_20 rfl rfl ?_
        refine r_iload_n E 3 dX7_sign_21 rfl rfl ?_
        refine r_vM E (st := []) (c_X7_write l D m0 ms mh mn mp ml mm md mw mt mb mi mg cI kp sv pn rf tl s G1 k (by first | assumption | omega | exact ⟨by omega, by omega⟩) (by first | assumption | omega | exact ⟨by omega, by omega⟩)) gX7_sign_X7_write 1 kf_X7_write ⟨rfl, rfl⟩ ⟨by decide, by decide⟩ dX7_sign_22 rfl 0 rfl rfl rfl rfl ⟨Nat.zero_le _, Nat.zero_le _⟩ [0, 1, 2] rfl (by decide) [0] rfl (Nat.le_of_ble_eq_true rfl) [] [] rfl (by decide) (by decide) hA [0, 1, 2] (by decide) (fun (GW : Int → Int) => [(m0, .inr (6, [.ref ms, .ref mh, .int (iJ (kp)), .ref mn, .int (iJ (sv)), .ref mp, .int (iJ (pn)), .int (iJ (rf)), .ref ml, .ref mm, .ref md, .ref mw, .ref mt, .int (iJ (tl)), .ref mb, .ref mi, .ref mg])), (ms, cJ cI 34 (s)), (mg, cJ cI 4 (GW))]) (fun _ => rfl) ?_
        intro GW hp_1
        refine r_cv (ws2 := [(m0, .inr (6, [.ref ms, .ref mh, .int (iJ (kp)), .ref mn, .int (iJ (sv)), .ref mp, .int (iJ (pn)), .int (iJ (rf)), .ref ml, .ref mm, .ref md, .ref mw, .ref mt, .int (iJ (tl)), .ref mb, .ref mi, .ref mg])), (ms, cJ cI 34 (s)), (mg, cJ cI 4 (GW))]) (st2 := [.int (iJ (mTl (s (2 + k))))]) rfl rfl rfl ?_
        have hW := hp_1
        try dsimp only at hW
        refine r_istore E [(4, .int (iJ (mTl (s (2 + k))))), (0, .ref m0), (1, .int (iJ (p))), (2, .int (iJ (pp))), (3, .int (iJ (k)))] dX7_sign_25 (by decide) rfl ?_
        refine r_iload_n E 3 dX7_sign_27 rfl rfl ?_
        refine r_iload E 0 dX7_sign_28 rfl ?_
        refine r_icmp_ge E 40 dX7_sign_30 (by decide) ⟨by omega, by omega⟩ ⟨by omega, by omega⟩ (fun c_30 => ?_) (fun c_30 => ?_)
        · refine r_iload_n E 3 dX7_sign_40 rfl rfl ?_
          refine r_iload E 0 dX7_sign_41 rfl ?_
          refine r_isub E dX7_sign_43 ?_
          refine r_istore_n E [(2, .int (iJ ((pp - (mTl (s (2 + k))))))), (4, .int (iJ (mTl (s (2 + k))))), (0, .ref m0), (1, .int (iJ (p))), (3, .int (iJ (k)))] dX7_sign_44 rfl (by decide) rfl ?_
          refine r_iinc E (k := 4) [(3, .int (iJ ((k + 1)))), (2, .int (iJ ((pp - (mTl (s (2 + k))))))), (4, .int (iJ (mTl (s (2 + k))))), (0, .ref m0), (1, .int (iJ (p)))] dX7_sign_45 rfl (by decide) rfl ?_
          refine r_goto E 10 dX7_sign_48 (by decide) ?_
          refine r_lv [3, 4, 1, 0] [(0, .ref m0), (1, .int (iJ (p))), (2, .int (iJ ((pp - (mTl (s (2 + k))))))), (3, .int (iJ ((k + 1))))] rfl ?_
          exact ih10 (k + 1) (pp - (mTl (s (2 + k)))) GW ⟨by omega, by omega⟩ ⟨by omega, by omega⟩ (by
                rw [← hs, show (s 0 - k).toNat = (s 0 - (k + 1)).toNat + 1 by omega]
                show _ = if pp < mTl (s (2 + k)) then _ else _
                rw [if_neg (by omega)]) (by omega)
        · refine r_aload_n E 1 dX7_sign_33 rfl rfl ?_
          refine r_get E 6 0 16 dX7_sign_34 in_X7_sign_X7 lk_X7_sign_44 rfl rfl (by decide) rfl ?_
          refine r_iload_n E 3 dX7_sign_37 rfl rfl ?_
          refine r_iald E (i := pp) 2 0 dX7_sign_38 rfl rfl (by decide) ⟨by omega, by omega⟩ ?_
          exact r_retM E GW hr dX7_sign_39 (by
                rw [hW pp (by omega) (by omega), ← hs, show (s 0 - k).toNat = (s 0 - (k + 1)).toNat + 1 by omega]
                show _ = if pp < mTl (s (2 + k)) then _ else _
                rw [if_pos (by omega)]) trivial rfl hQ
  refine r_lv [2, 3, 1, 0] [(0, .ref m0), (1, .int (iJ (p))), (2, .int (iJ (p))), (3, .int (iJ (0)))] rfl ?_
  exact loop_10 _ 0 p sg ⟨by omega, by omega⟩ ⟨by omega, by omega⟩ (by rw [Int.sub_zero]) (Nat.lt_succ_self _)
theorem kf_X7_sum : KF yX7_sum 1 wsX7_sum cX7_sum 4 (some .int) := ⟨rfl, by decide +kernel, by decide +kernel, by decide +kernel⟩
def rm_X7_sum : Room := { frames := 5, cells := 0, slots := 0, locals := 108 }
set_option maxRecDepth 20000 in
theorem in_X7_sum_X7 : ∀ w ∈ u_ws RX7 TX7 17, w ∈ wsX7_sum := by decide +kernel
set_option maxRecDepth 20000 in
theorem lk_X7_sum_7 : Cond.fieldLink RX7 7 (TX7 0).1 (TX7 0).2.1 (TX7 0).2.2.1 ∈ wsX7_sum := by decide +kernel
set_option maxHeartbeats 1000000 in
set_option maxRecDepth 100000 in
theorem c_X7_sumR (l : Launch) (D : va_G) (m0 : Nat) (ms : Nat) (mh : Nat) (mn : Nat) (mp : Nat) (ml : Nat) (mm : Nat) (md : Nat) (mw : Nat) (mt : Nat) (mb : Nat) (mi : Nat) (mg : Nat) (cI : ClassId) (kp : Int) (sv : Int) (pn : Int) (rf : Int) (tl : Int) (s : Int → Int) (w : Int) (hs0 : 0 ≤ s 0 ∧ s 0 ≤ 32) (hsv : ∀ j : Int, 0 ≤ j → j < s 0 → 0 ≤ s (2 + j) ∧ s (2 + j) ≤ 24) (hw : jb w) (hx : ¬ w = 6) : MP l yX7_sum wsX7_sum rm_X7_sum D vwCl [.ref m0, .int (iJ (w))] [(m0, .inr (6, [.ref ms, .ref mh, .int (iJ (kp)), .ref mn, .int (iJ (sv)), .ref mp, .int (iJ (pn)), .int (iJ (rf)), .ref ml, .ref mm, .ref md, .ref mw, .ref mt, .int (iJ (tl)), .ref mb, .ref mi, .ref mg])), (ms, cJ cI 34 (s))] [(cI, .int)] (sm (fun j => mSu s w (s (2 + j))) (s 0)) := by
  refine MP.mk (cc := cX7_sum) (maxL := 4) (ret := (some .int)) (by decide) rfl (Nat.le_of_ble_eq_true rfl) rfl RX7 rfl ?_
  intro p_ e_ s_ m_ ar_ bw_ mt_ cd_ Q_ E hr hQ
  refine r_iconst E 0 rfl dX7_sum_0 ?_
  refine r_istore_n E [(2, .int (iJ (0))), (0, .ref m0), (1, .int (iJ (w)))] dX7_sum_1 rfl (by decide) rfl ?_
  refine r_iconst E 0 rfl dX7_sum_2 ?_
  refine r_istore_n E [(3, .int (iJ (0))), (2, .int (iJ (0))), (0, .ref m0), (1, .int (iJ (w)))] dX7_sum_3 rfl (by decide) rfl ?_
  have loop_4 : ∀ (N : Nat) (k : Int) (x : Int), (0 ≤ k ∧ k ≤ s 0) → (x = sm (fun j => mSu s w (s (2 + j))) k) → (s 0 - k).toNat < N → GG p_ l e_ rm_X7_sum s_ m_ ar_ bw_ mt_ cd_ D vwCl (fun _ => True) (fun _ => False) s_.heap 4 0 0 Q_ [(m0, .inr (6, [.ref ms, .ref mh, .int (iJ (kp)), .ref mn, .int (iJ (sv)), .ref mp, .int (iJ (pn)), .int (iJ (rf)), .ref ml, .ref mm, .ref md, .ref mw, .ref mt, .int (iJ (tl)), .ref mb, .ref mi, .ref mg])), (ms, cJ cI 34 (s))] [(0, .ref m0), (1, .int (iJ (w))), (2, .int (iJ (x))), (3, .int (iJ (k)))] 4 [] := by
    intro N; induction N with
    | zero => intro k x hk hx2 hN; exact absurd hN (Nat.not_lt_zero _)
    | succ N ih4 =>
      intro k x hk hx2 hN
      refine r_iload_n E 3 dX7_sum_4 rfl rfl ?_
      refine r_aload_n E 0 dX7_sum_5 rfl rfl ?_
      refine r_get E 6 0 0 dX7_sum_6 in_X7_sum_X7 lk_X7_sum_7 rfl rfl (by decide) rfl ?_
      refine r_iconst E 0 rfl dX7_sum_9 ?_
      refine r_iald E (i := 0) 1 0 dX7_sum_10 rfl rfl (by decide) ⟨by omega, by omega⟩ ?_
      refine r_icmp_ge E 89 dX7_sum_11 (by decide) ⟨by omega, by omega⟩ ⟨by omega, by omega⟩ (fun c_11 => ?_) (fun c_11 => ?_)
      · refine r_iload_n E 2 dX7_sum_89 rfl rfl ?_
        exact r_retP E hr dX7_sum_90 (by
              have e : k = s 0 := by omega
              rw [hx2, e]; try rfl) hQ
      · have f_c := hsv k (by omega) (by omega)
        have f_o := mOr_in f_c
        refine r_iload_n E 2 dX7_sum_14 rfl rfl ?_
        refine r_iload_n E 1 dX7_sum_15 rfl rfl ?_
        refine r_if_ne E 27 dX7_sum_16 (by decide) hw (fun c_16 => ?_) (fun c_16 => ?_)
        · refine r_iload_n E 1 dX7_sum_27 rfl rfl ?_
          refine r_iconst E 4 rfl dX7_sum_28 ?_
          refine r_icmp_ne E 40 dX7_sum_29 (by decide) hw ⟨by omega, by omega⟩ (fun c_29 => ?_) (fun c_29 => ?_)
          · refine r_iload_n E 1 dX7_sum_40 rfl rfl ?_
            refine r_iconst E 5 rfl dX7_sum_41 ?_
            refine r_icmp_ne E 53 dX7_sum_42 (by decide) hw ⟨by omega, by omega⟩ (fun c_42 => ?_) (fun c_42 => ?_)
            · refine r_iload_n E 1 dX7_sum_53 rfl rfl ?_
              refine r_bipush E 6 rfl dX7_sum_54 ?_
              refine r_icmp_ne E 67 dX7_sum_56 (by decide) hw ⟨by omega, by omega⟩ (fun c_56 => ?_) (fun c_56 => absurd c_56 (by omega))
              refine r_aload_n E 0 dX7_sum_67 rfl rfl ?_
              refine r_iload_n E 3 dX7_sum_68 rfl rfl ?_
              refine r_vP E (st := [.int (iJ (x))]) (c_X7_ornament l D m0 ms mh mn mp ml mm md mw mt mb mi mg cI kp sv pn rf tl s k (by first | assumption | omega | exact ⟨by omega, by omega⟩) (by first | assumption | omega | exact ⟨by omega, by omega⟩)) gX7_sum_X7_ornament 1 kf_X7_ornament ⟨rfl, rfl⟩ ⟨by decide, by decide⟩ dX7_sum_69 rfl 0 rfl rfl rfl rfl ⟨Nat.zero_le _, Nat.zero_le _⟩ [0, 1] rfl (by decide) [0] rfl (Nat.le_of_ble_eq_true rfl) ?_
              refine r_iload_n E 1 dX7_sum_72 rfl rfl ?_
              refine r_icmp_ne E 80 dX7_sum_73 (by decide) ⟨by omega, by omega⟩ hw (fun c_73 => ?_) (fun c_73 => ?_)
              · refine r_iconst E 0 rfl dX7_sum_80 ?_
                refine r_iadd E dX7_sum_81 ?_
                refine r_istore_n E [(2, .int (iJ ((x + 0)))), (0, .ref m0), (1, .int (iJ (w))), (3, .int (iJ (k)))] dX7_sum_82 rfl (by decide) rfl ?_
                refine r_iinc E (k := 3) [(3, .int (iJ ((k + 1)))), (2, .int (iJ ((x + 0)))), (0, .ref m0), (1, .int (iJ (w)))] dX7_sum_83 rfl (by decide) rfl ?_
                refine r_goto E 4 dX7_sum_86 (by decide) ?_
                refine r_lv [2, 3, 1, 0] [(0, .ref m0), (1, .int (iJ (w))), (2, .int (iJ ((x + 0)))), (3, .int (iJ ((k + 1))))] rfl ?_
                exact ih4 (k + 1) (x + 0) ⟨by omega, by omega⟩ (by
                      rw [sm_s _ (by omega), hx2]; unfold mSu
                      first
                      | (rw [if_pos (show w = 0 by omega)]; done)
                      | (rw [if_neg (show ¬ w = 0 by omega), if_pos (show w = 4 by omega)]; done)
                      | (rw [if_neg (show ¬ w = 0 by omega), if_neg (show ¬ w = 4 by omega), if_pos (show w = 5 by omega)]; done)
                      | (rw [if_neg (show ¬ w = 0 by omega), if_neg (show ¬ w = 4 by omega), if_neg (show ¬ w = 5 by omega), if_neg (show ¬ w = 6 by omega)]; first | (rw [b2_t (by omega)]; done) | (rw [b2_f (by omega)]; done))) (by omega)
              · refine r_iconst E 1 rfl dX7_sum_76 ?_
                refine r_goto E 81 dX7_sum_77 (by decide) ?_
                refine r_iadd E dX7_sum_81 ?_
                refine r_istore_n E [(2, .int (iJ ((x + 1)))), (0, .ref m0), (1, .int (iJ (w))), (3, .int (iJ (k)))] dX7_sum_82 rfl (by decide) rfl ?_
                refine r_iinc E (k := 3) [(3, .int (iJ ((k + 1)))), (2, .int (iJ ((x + 1)))), (0, .ref m0), (1, .int (iJ (w)))] dX7_sum_83 rfl (by decide) rfl ?_
                refine r_goto E 4 dX7_sum_86 (by decide) ?_
                refine r_lv [2, 3, 1, 0] [(0, .ref m0), (1, .int (iJ (w))), (2, .int (iJ ((x + 1)))), (3, .int (iJ ((k + 1))))] rfl ?_
                exact ih4 (k + 1) (x + 1) ⟨by omega, by omega⟩ (by
                      rw [sm_s _ (by omega), hx2]; unfold mSu
                      first
                      | (rw [if_pos (show w = 0 by omega)]; done)
                      | (rw [if_neg (show ¬ w = 0 by omega), if_pos (show w = 4 by omega)]; done)
                      | (rw [if_neg (show ¬ w = 0 by omega), if_neg (show ¬ w = 4 by omega), if_pos (show w = 5 by omega)]; done)
                      | (rw [if_neg (show ¬ w = 0 by omega), if_neg (show ¬ w = 4 by omega), if_neg (show ¬ w = 5 by omega), if_neg (show ¬ w = 6 by omega)]; first | (rw [b2_t (by omega)]; done) | (rw [b2_f (by omega)]; done))) (by omega)
            · refine r_aload_n E 0 dX7_sum_45 rfl rfl ?_
              refine r_iload_n E 3 dX7_sum_46 rfl rfl ?_
              refine r_vP E (st := [.int (iJ (x))]) (c_X7_forces l D m0 ms mh mn mp ml mm md mw mt mb mi mg cI kp sv pn rf tl s k (by first | assumption | omega | exact ⟨by omega, by omega⟩) (by first | assumption | omega | exact ⟨by omega, by omega⟩)) gX7_sum_X7_forces 1 kf_X7_forces ⟨rfl, rfl⟩ ⟨by decide, by decide⟩ dX7_sum_47 rfl 0 rfl rfl rfl rfl ⟨Nat.zero_le _, Nat.zero_le _⟩ [0, 1] rfl (by decide) [0] rfl (Nat.le_of_ble_eq_true rfl) ?_
              refine r_goto E 81 dX7_sum_50 (by decide) ?_
              refine r_iadd E dX7_sum_81 ?_
              refine r_istore_n E [(2, .int (iJ ((x + (mFs (s (2 + k))))))), (0, .ref m0), (1, .int (iJ (w))), (3, .int (iJ (k)))] dX7_sum_82 rfl (by decide) rfl ?_
              refine r_iinc E (k := 3) [(3, .int (iJ ((k + 1)))), (2, .int (iJ ((x + (mFs (s (2 + k))))))), (0, .ref m0), (1, .int (iJ (w)))] dX7_sum_83 rfl (by decide) rfl ?_
              refine r_goto E 4 dX7_sum_86 (by decide) ?_
              refine r_lv [2, 3, 1, 0] [(0, .ref m0), (1, .int (iJ (w))), (2, .int (iJ ((x + (mFs (s (2 + k))))))), (3, .int (iJ ((k + 1))))] rfl ?_
              exact ih4 (k + 1) (x + (mFs (s (2 + k)))) ⟨by omega, by omega⟩ (by
                    rw [sm_s _ (by omega), hx2]; unfold mSu
                    first
                    | (rw [if_pos (show w = 0 by omega)]; done)
                    | (rw [if_neg (show ¬ w = 0 by omega), if_pos (show w = 4 by omega)]; done)
                    | (rw [if_neg (show ¬ w = 0 by omega), if_neg (show ¬ w = 4 by omega), if_pos (show w = 5 by omega)]; done)
                    | (rw [if_neg (show ¬ w = 0 by omega), if_neg (show ¬ w = 4 by omega), if_neg (show ¬ w = 5 by omega), if_neg (show ¬ w = 6 by omega)]; first | (rw [b2_t (by omega)]; done) | (rw [b2_f (by omega)]; done))) (by omega)
          · refine r_aload_n E 0 dX7_sum_32 rfl rfl ?_
            refine r_iload_n E 3 dX7_sum_33 rfl rfl ?_
            refine r_vP E (st := [.int (iJ (x))]) (c_X7_blows l D m0 ms mh mn mp ml mm md mw mt mb mi mg cI kp sv pn rf tl s k (by first | assumption | omega | exact ⟨by omega, by omega⟩) (by first | assumption | omega | exact ⟨by omega, by omega⟩)) gX7_sum_X7_blows 1 kf_X7_blows ⟨rfl, rfl⟩ ⟨by decide, by decide⟩ dX7_sum_34 rfl 0 rfl rfl rfl rfl ⟨Nat.zero_le _, Nat.zero_le _⟩ [0, 1] rfl (by decide) [0] rfl (Nat.le_of_ble_eq_true rfl) ?_
            refine r_goto E 81 dX7_sum_37 (by decide) ?_
            refine r_iadd E dX7_sum_81 ?_
            refine r_istore_n E [(2, .int (iJ ((x + (mBl (s (2 + k))))))), (0, .ref m0), (1, .int (iJ (w))), (3, .int (iJ (k)))] dX7_sum_82 rfl (by decide) rfl ?_
            refine r_iinc E (k := 3) [(3, .int (iJ ((k + 1)))), (2, .int (iJ ((x + (mBl (s (2 + k))))))), (0, .ref m0), (1, .int (iJ (w)))] dX7_sum_83 rfl (by decide) rfl ?_
            refine r_goto E 4 dX7_sum_86 (by decide) ?_
            refine r_lv [2, 3, 1, 0] [(0, .ref m0), (1, .int (iJ (w))), (2, .int (iJ ((x + (mBl (s (2 + k))))))), (3, .int (iJ ((k + 1))))] rfl ?_
            exact ih4 (k + 1) (x + (mBl (s (2 + k)))) ⟨by omega, by omega⟩ (by
                  rw [sm_s _ (by omega), hx2]; unfold mSu
                  first
                  | (rw [if_pos (show w = 0 by omega)]; done)
                  | (rw [if_neg (show ¬ w = 0 by omega), if_pos (show w = 4 by omega)]; done)
                  | (rw [if_neg (show ¬ w = 0 by omega), if_neg (show ¬ w = 4 by omega), if_pos (show w = 5 by omega)]; done)
                  | (rw [if_neg (show ¬ w = 0 by omega), if_neg (show ¬ w = 4 by omega), if_neg (show ¬ w = 5 by omega), if_neg (show ¬ w = 6 by omega)]; first | (rw [b2_t (by omega)]; done) | (rw [b2_f (by omega)]; done))) (by omega)
        · refine r_aload_n E 0 dX7_sum_19 rfl rfl ?_
          refine r_iload_n E 3 dX7_sum_20 rfl rfl ?_
          refine r_vP E (st := [.int (iJ (x))]) (c_X7_accent l D m0 ms mh mn mp ml mm md mw mt mb mi mg cI kp sv pn rf tl s k (by first | assumption | omega | exact ⟨by omega, by omega⟩) (by first | assumption | omega | exact ⟨by omega, by omega⟩)) gX7_sum_X7_accent 1 kf_X7_accent ⟨rfl, rfl⟩ ⟨by decide, by decide⟩ dX7_sum_21 rfl 0 rfl rfl rfl rfl ⟨Nat.zero_le _, Nat.zero_le _⟩ [0, 1] rfl (by decide) [0] rfl (Nat.le_of_ble_eq_true rfl) ?_
          refine r_goto E 81 dX7_sum_24 (by decide) ?_
          refine r_iadd E dX7_sum_81 ?_
          refine r_istore_n E [(2, .int (iJ ((x + (mAc (s (2 + k))))))), (0, .ref m0), (1, .int (iJ (w))), (3, .int (iJ (k)))] dX7_sum_82 rfl (by decide) rfl ?_
          refine r_iinc E (k := 3) [(3, .int (iJ ((k + 1)))), (2, .int (iJ ((x + (mAc (s (2 + k))))))), (0, .ref m0), (1, .int (iJ (w)))] dX7_sum_83 rfl (by decide) rfl ?_
          refine r_goto E 4 dX7_sum_86 (by decide) ?_
          refine r_lv [2, 3, 1, 0] [(0, .ref m0), (1, .int (iJ (w))), (2, .int (iJ ((x + (mAc (s (2 + k))))))), (3, .int (iJ ((k + 1))))] rfl ?_
          exact ih4 (k + 1) (x + (mAc (s (2 + k)))) ⟨by omega, by omega⟩ (by
                rw [sm_s _ (by omega), hx2]; unfold mSu
                first
                | (rw [if_pos (show w = 0 by omega)]; done)
                | (rw [if_neg (show ¬ w = 0 by omega), if_pos (show w = 4 by omega)]; done)
                | (rw [if_neg (show ¬ w = 0 by omega), if_neg (show ¬ w = 4 by omega), if_pos (show w = 5 by omega)]; done)
                | (rw [if_neg (show ¬ w = 0 by omega), if_neg (show ¬ w = 4 by omega), if_neg (show ¬ w = 5 by omega), if_neg (show ¬ w = 6 by omega)]; first | (rw [b2_t (by omega)]; done) | (rw [b2_f (by omega)]; done))) (by omega)
  refine r_lv [2, 3, 1, 0] [(0, .ref m0), (1, .int (iJ (w))), (2, .int (iJ (0))), (3, .int (iJ (0)))] rfl ?_
  exact loop_4 _ 0 0 ⟨by omega, by omega⟩ (sm_0 _).symm (Nat.lt_succ_self _)
set_option maxHeartbeats 1000000 in
set_option maxRecDepth 100000 in
theorem c_X7_sum6 (l : Launch) (D : va_G) (m0 : Nat) (ms : Nat) (mh : Nat) (mn : Nat) (mp : Nat) (ml : Nat) (mm : Nat) (md : Nat) (mw : Nat) (mt : Nat) (mb : Nat) (mi : Nat) (mg : Nat) (cI : ClassId) (kp : Int) (sv : Int) (pn : Int) (rf : Int) (tl : Int) (s : Int → Int) (sg : Int → Int) (w : Int) (hs0 : 0 ≤ s 0 ∧ s 0 ≤ 32) (hsv : ∀ j : Int, 0 ≤ j → j < s 0 → 0 ≤ s (2 + j) ∧ s (2 + j) ≤ 24) (hw : w = 6) : MM (S := Int → Int) l yX7_sum wsX7_sum rm_X7_sum D vwCl [.ref m0, .int (iJ (w))] [(m0, .inr (6, [.ref ms, .ref mh, .int (iJ (kp)), .ref mn, .int (iJ (sv)), .ref mp, .int (iJ (pn)), .int (iJ (rf)), .ref ml, .ref mm, .ref md, .ref mw, .ref mt, .int (iJ (tl)), .ref mb, .ref mi, .ref mg])), (ms, cJ cI 34 (s)), (mg, cJ cI 4 (sg))] [(cI, .int)] (fun (G : Int → Int) => sm (fun j => mTl (s (2 + j))) (s 0)) (fun (G : Int → Int) => True) (fun (G : Int → Int) => [(m0, .inr (6, [.ref ms, .ref mh, .int (iJ (kp)), .ref mn, .int (iJ (sv)), .ref mp, .int (iJ (pn)), .int (iJ (rf)), .ref ml, .ref mm, .ref md, .ref mw, .ref mt, .int (iJ (tl)), .ref mb, .ref mi, .ref mg])), (ms, cJ cI 34 (s)), (mg, cJ cI 4 (G))]) := by
  refine MM.mk (cc := cX7_sum) (maxL := 4) (ret := (some .int)) (by decide) rfl (Nat.le_of_ble_eq_true rfl) rfl RX7 rfl ?_
  intro p_ e_ s_ m_ ar_ bw_ mt_ cd_ B_ Q_ hA E hr hQ
  refine r_iconst E 0 rfl dX7_sum_0 ?_
  refine r_istore_n E [(2, .int (iJ (0))), (0, .ref m0), (1, .int (iJ (w)))] dX7_sum_1 rfl (by decide) rfl ?_
  refine r_iconst E 0 rfl dX7_sum_2 ?_
  refine r_istore_n E [(3, .int (iJ (0))), (2, .int (iJ (0))), (0, .ref m0), (1, .int (iJ (w)))] dX7_sum_3 rfl (by decide) rfl ?_
  have loop_4 : ∀ (N : Nat) (k : Int) (x : Int) (G1 : Int → Int), (0 ≤ k ∧ k ≤ s 0) → (x = sm (fun j => mTl (s (2 + j))) k) → (s 0 - k).toNat < N → GG p_ l e_ rm_X7_sum s_ m_ ar_ bw_ mt_ cd_ D vwCl B_ B_ s_.heap 4 0 0 Q_ [(m0, .inr (6, [.ref ms, .ref mh, .int (iJ (kp)), .ref mn, .int (iJ (sv)), .ref mp, .int (iJ (pn)), .int (iJ (rf)), .ref ml, .ref mm, .ref md, .ref mw, .ref mt, .int (iJ (tl)), .ref mb, .ref mi, .ref mg])), (ms, cJ cI 34 (s)), (mg, cJ cI 4 (G1))] [(0, .ref m0), (1, .int (iJ (w))), (2, .int (iJ (x))), (3, .int (iJ (k)))] 4 [] := by
    intro N; induction N with
    | zero => intro k x G1 hk hx2 hN; exact absurd hN (Nat.not_lt_zero _)
    | succ N ih4 =>
      intro k x G1 hk hx2 hN
      refine r_iload_n E 3 dX7_sum_4 rfl rfl ?_
      refine r_aload_n E 0 dX7_sum_5 rfl rfl ?_
      refine r_get E 6 0 0 dX7_sum_6 in_X7_sum_X7 lk_X7_sum_7 rfl rfl (by decide) rfl ?_
      refine r_iconst E 0 rfl dX7_sum_9 ?_
      refine r_iald E (i := 0) 1 0 dX7_sum_10 rfl rfl (by decide) ⟨by omega, by omega⟩ ?_
      refine r_icmp_ge E 89 dX7_sum_11 (by decide) ⟨by omega, by omega⟩ ⟨by omega, by omega⟩ (fun c_11 => ?_) (fun c_11 => ?_)
      · refine r_iload_n E 2 dX7_sum_89 rfl rfl ?_
        exact r_retM E G1 hr dX7_sum_90 (by
              have e : k = s 0 := by omega
              rw [hx2, e]; try rfl) trivial rfl hQ
      · have f_c := hsv k (by omega) (by omega)
        have f_o := mOr_in f_c
        refine r_iload_n E 2 dX7_sum_14 rfl rfl ?_
        refine r_iload_n E 1 dX7_sum_15 rfl rfl ?_
        refine r_if_ne E 27 dX7_sum_16 (by decide) ⟨by omega, by omega⟩ (fun c_16 => ?_) (fun c_16 => absurd c_16 (by omega))
        refine r_iload_n E 1 dX7_sum_27 rfl rfl ?_
        refine r_iconst E 4 rfl dX7_sum_28 ?_
        refine r_icmp_ne E 40 dX7_sum_29 (by decide) ⟨by omega, by omega⟩ ⟨by omega, by omega⟩ (fun c_29 => ?_) (fun c_29 => absurd c_29 (by omega))
        refine r_iload_n E 1 dX7_sum_40 rfl rfl ?_
        refine r_iconst E 5 rfl dX7_sum_41 ?_
        refine r_icmp_ne E 53 dX7_sum_42 (by decide) ⟨by omega, by omega⟩ ⟨by omega, by omega⟩ (fun c_42 => ?_) (fun c_42 => absurd c_42 (by omega))
        refine r_iload_n E 1 dX7_sum_53 rfl rfl ?_
        refine r_bipush E 6 rfl dX7_sum_54 ?_
        refine r_icmp_ne E 67 dX7_sum_56 (by decide) ⟨by omega, by omega⟩ ⟨by omega, by omega⟩ (fun c_56 => absurd c_56 (by omega)) (fun c_56 => ?_)
        refine r_aload_n E 0 dX7_sum_59 rfl rfl ?_
        refine r_iload_n E 3 dX7_sum_60 rfl rfl ?_
        refine r_vM E (st := [.int (iJ (x))]) (c_X7_write l D m0 ms mh mn mp ml mm md mw mt mb mi mg cI kp sv pn rf tl s G1 k (by first | assumption | omega | exact ⟨by omega, by omega⟩) (by first | assumption | omega | exact ⟨by omega, by omega⟩)) gX7_sum_X7_write 1 kf_X7_write ⟨rfl, rfl⟩ ⟨by decide, by decide⟩ dX7_sum_61 rfl 0 rfl rfl rfl rfl ⟨Nat.zero_le _, Nat.zero_le _⟩ [0, 1, 2] rfl (by decide) [0] rfl (Nat.le_of_ble_eq_true rfl) [] [] rfl (by decide) (by decide) hA [0, 1, 2] (by decide) (fun (G_1 : Int → Int) => [(m0, .inr (6, [.ref ms, .ref mh, .int (iJ (kp)), .ref mn, .int (iJ (sv)), .ref mp, .int (iJ (pn)), .int (iJ (rf)), .ref ml, .ref mm, .ref md, .ref mw, .ref mt, .int (iJ (tl)), .ref mb, .ref mi, .ref mg])), (ms, cJ cI 34 (s)), (mg, cJ cI 4 (G_1))]) (fun _ => rfl) ?_
        intro G_1 hp_2
        refine r_cv (ws2 := [(m0, .inr (6, [.ref ms, .ref mh, .int (iJ (kp)), .ref mn, .int (iJ (sv)), .ref mp, .int (iJ (pn)), .int (iJ (rf)), .ref ml, .ref mm, .ref md, .ref mw, .ref mt, .int (iJ (tl)), .ref mb, .ref mi, .ref mg])), (ms, cJ cI 34 (s)), (mg, cJ cI 4 (G_1))]) (st2 := [.int (iJ (mTl (s (2 + k)))), .int (iJ (x))]) rfl rfl rfl ?_
        have hw_3 := hp_2
        try dsimp only at hw_3
        refine r_goto E 81 dX7_sum_64 (by decide) ?_
        refine r_iadd E dX7_sum_81 ?_
        refine r_istore_n E [(2, .int (iJ ((x + (mTl (s (2 + k))))))), (0, .ref m0), (1, .int (iJ (w))), (3, .int (iJ (k)))] dX7_sum_82 rfl (by decide) rfl ?_
        refine r_iinc E (k := 3) [(3, .int (iJ ((k + 1)))), (2, .int (iJ ((x + (mTl (s (2 + k))))))), (0, .ref m0), (1, .int (iJ (w)))] dX7_sum_83 rfl (by decide) rfl ?_
        refine r_goto E 4 dX7_sum_86 (by decide) ?_
        refine r_lv [2, 3, 1, 0] [(0, .ref m0), (1, .int (iJ (w))), (2, .int (iJ ((x + (mTl (s (2 + k))))))), (3, .int (iJ ((k + 1))))] rfl ?_
        exact ih4 (k + 1) (x + (mTl (s (2 + k)))) G_1 ⟨by omega, by omega⟩ (by rw [sm_s _ (by omega), hx2]) (by omega)
  refine r_lv [2, 3, 1, 0] [(0, .ref m0), (1, .int (iJ (w))), (2, .int (iJ (0))), (3, .int (iJ (0)))] rfl ?_
  exact loop_4 _ 0 0 sg ⟨by omega, by omega⟩ (sm_0 _).symm (Nat.lt_succ_self _)
theorem kf_X7_count : KF yX7_count 1 wsX7_count cX7_count 2 (some .int) := ⟨rfl, by decide +kernel, by decide +kernel, by decide +kernel⟩
def rm_X7_count : Room := { frames := 6, cells := 0, slots := 0, locals := 131 }
set_option maxRecDepth 20000 in
theorem in_X7_count_X7 : ∀ w ∈ u_ws RX7 TX7 17, w ∈ wsX7_count := by decide +kernel
set_option maxRecDepth 20000 in
theorem lk_X7_count_7 : Cond.fieldLink RX7 7 (TX7 0).1 (TX7 0).2.1 (TX7 0).2.2.1 ∈ wsX7_count := by decide +kernel
set_option maxRecDepth 20000 in
theorem lk_X7_count_133 : Cond.fieldLink RX7 133 (TX7 6).1 (TX7 6).2.1 (TX7 6).2.2.1 ∈ wsX7_count := by decide +kernel
set_option maxRecDepth 20000 in
theorem lk_X7_count_59 : Cond.fieldLink RX7 59 (TX7 2).1 (TX7 2).2.1 (TX7 2).2.2.1 ∈ wsX7_count := by decide +kernel
set_option maxHeartbeats 1000000 in
set_option maxRecDepth 100000 in
theorem c_X7_countR (l : Launch) (D : va_G) (m0 : Nat) (ms : Nat) (mh : Nat) (mn : Nat) (mp : Nat) (ml : Nat) (mm : Nat) (md : Nat) (mw : Nat) (mt : Nat) (mb : Nat) (mi : Nat) (mg : Nat) (cI : ClassId) (kp : Int) (sv : Int) (pn : Int) (rf : Int) (tl : Int) (s : Int → Int) (w : Int) (hs0 : 0 ≤ s 0 ∧ s 0 ≤ 32) (hsv : ∀ j : Int, 0 ≤ j → j < s 0 → 0 ≤ s (2 + j) ∧ s (2 + j) ≤ 24) (hw : jb w) (hx : ¬ w = 13) : MP l yX7_count wsX7_count rm_X7_count D vwCl [.ref m0, .int (iJ (w))] [(m0, .inr (6, [.ref ms, .ref mh, .int (iJ (kp)), .ref mn, .int (iJ (sv)), .ref mp, .int (iJ (pn)), .int (iJ (rf)), .ref ml, .ref mm, .ref md, .ref mw, .ref mt, .int (iJ (tl)), .ref mb, .ref mi, .ref mg])), (ms, cJ cI 34 (s))] [(cI, .int)] (coM s pn kp w) := by
  refine MP.mk (cc := cX7_count) (maxL := 2) (ret := (some .int)) (by decide) rfl (Nat.le_of_ble_eq_true rfl) rfl RX7 rfl ?_
  intro p_ e_ s_ m_ ar_ bw_ mt_ cd_ Q_ E hr hQ
  refine r_iload_n E 1 dX7_count_0 rfl rfl ?_
  by_cases c_1_0 : w = 0
  · refine r_tabIn E 0 80 dX7_count_1 c_1_0 ⟨by decide, by decide⟩ (by decide) (by decide) rfl (by decide) ?_
    refine r_aload_n E 0 dX7_count_80 rfl rfl ?_
    refine r_get E 6 0 0 dX7_count_81 in_X7_count_X7 lk_X7_count_7 rfl rfl (by decide) rfl ?_
    refine r_iconst E 0 rfl dX7_count_84 ?_
    refine r_iald E (i := 0) 1 0 dX7_count_85 rfl rfl (by decide) ⟨by omega, by omega⟩ ?_
    exact r_retP E hr dX7_count_86 (by
          unfold coM
          first
          | (rw [if_pos (show w = 0 by omega)]; done)
          | (rw [if_neg (show ¬ w = 0 by omega), if_pos (show w = 1 by omega)]; done)
          | (rw [if_neg (show ¬ w = 0 by omega), if_neg (show ¬ w = 1 by omega), if_pos (show 2 ≤ w ∧ w ≤ 4 by omega)]; done)
          | (rw [if_neg (show ¬ w = 0 by omega), if_neg (show ¬ w = 1 by omega), if_neg (show ¬ (2 ≤ w ∧ w ≤ 4) by omega), if_pos (show 5 ≤ w ∧ w ≤ 10 by omega)]; done)
          | (rw [if_neg (show ¬ w = 0 by omega), if_neg (show ¬ w = 1 by omega), if_neg (show ¬ (2 ≤ w ∧ w ≤ 4) by omega), if_neg (show ¬ (5 ≤ w ∧ w ≤ 10) by omega)]
             first
             | (rw [if_pos (show w = 11 by omega)]; done)
             | (rw [if_neg (show ¬ w = 11 by omega), if_pos (show w = 12 by omega)]; done)
             | (rw [if_neg (show ¬ w = 11 by omega), if_neg (show ¬ w = 12 by omega), if_pos (show w = 14 by omega)]; done)
             | (rw [if_neg (show ¬ w = 11 by omega), if_neg (show ¬ w = 12 by omega), if_neg (show ¬ w = 14 by omega), if_pos (show w = 15 by omega)]; done)
             | (rw [if_neg (show ¬ w = 11 by omega), if_neg (show ¬ w = 12 by omega), if_neg (show ¬ w = 14 by omega), if_neg (show ¬ w = 15 by omega)]))) hQ
  by_cases c_1_1 : w = 1
  · refine r_tabIn E 1 87 dX7_count_1 c_1_1 ⟨by decide, by decide⟩ (by decide) (by decide) rfl (by decide) ?_
    refine r_aload_n E 0 dX7_count_87 rfl rfl ?_
    refine r_get E 6 0 0 dX7_count_88 in_X7_count_X7 lk_X7_count_7 rfl rfl (by decide) rfl ?_
    refine r_iconst E 0 rfl dX7_count_91 ?_
    refine r_iald E (i := 0) 1 0 dX7_count_92 rfl rfl (by decide) ⟨by omega, by omega⟩ ?_
    refine r_aload_n E 0 dX7_count_93 rfl rfl ?_
    refine r_iconst E 0 rfl dX7_count_94 ?_
    refine r_vP E (st := [.int (iJ (s 0))]) (c_X7_ofHand l D m0 ms mh mn mp ml mm md mw mt mb mi mg cI kp sv pn rf tl s 0 (by first | assumption | omega | exact ⟨by omega, by omega⟩) (by first | assumption | omega | exact ⟨by omega, by omega⟩) (by first | assumption | omega | exact ⟨by omega, by omega⟩)) gX7_count_X7_ofHand 1 kf_X7_ofHand ⟨rfl, rfl⟩ ⟨by decide, by decide⟩ dX7_count_95 rfl 0 rfl rfl rfl rfl ⟨Nat.zero_le _, Nat.zero_le _⟩ [0, 1] rfl (by decide) [0] rfl (Nat.le_of_ble_eq_true rfl) ?_
    refine r_isub E dX7_count_98 ?_
    refine r_aload_n E 0 dX7_count_99 rfl rfl ?_
    refine r_iconst E 1 rfl dX7_count_100 ?_
    refine r_vP E (st := [.int (iJ (((s 0) - (sm (fun j => b2 (¬ s (2 + j) = 0 ∧ (s (2 + j) - 1) % 3 = 0)) (s 0)))))]) (c_X7_ofHand l D m0 ms mh mn mp ml mm md mw mt mb mi mg cI kp sv pn rf tl s 1 (by first | assumption | omega | exact ⟨by omega, by omega⟩) (by first | assumption | omega | exact ⟨by omega, by omega⟩) (by first | assumption | omega | exact ⟨by omega, by omega⟩)) gX7_count_X7_ofHand 1 kf_X7_ofHand ⟨rfl, rfl⟩ ⟨by decide, by decide⟩ dX7_count_101 rfl 0 rfl rfl rfl rfl ⟨Nat.zero_le _, Nat.zero_le _⟩ [0, 1] rfl (by decide) [0] rfl (Nat.le_of_ble_eq_true rfl) ?_
    refine r_isub E dX7_count_104 ?_
    refine r_aload_n E 0 dX7_count_105 rfl rfl ?_
    refine r_iconst E 2 rfl dX7_count_106 ?_
    refine r_vP E (st := [.int (iJ ((((s 0) - (sm (fun j => b2 (¬ s (2 + j) = 0 ∧ (s (2 + j) - 1) % 3 = 0)) (s 0))) - (sm (fun j => b2 (¬ s (2 + j) = 0 ∧ (s (2 + j) - 1) % 3 = 1)) (s 0)))))]) (c_X7_ofHand l D m0 ms mh mn mp ml mm md mw mt mb mi mg cI kp sv pn rf tl s 2 (by first | assumption | omega | exact ⟨by omega, by omega⟩) (by first | assumption | omega | exact ⟨by omega, by omega⟩) (by first | assumption | omega | exact ⟨by omega, by omega⟩)) gX7_count_X7_ofHand 1 kf_X7_ofHand ⟨rfl, rfl⟩ ⟨by decide, by decide⟩ dX7_count_107 rfl 0 rfl rfl rfl rfl ⟨Nat.zero_le _, Nat.zero_le _⟩ [0, 1] rfl (by decide) [0] rfl (Nat.le_of_ble_eq_true rfl) ?_
    refine r_isub E dX7_count_110 ?_
    exact r_retP E hr dX7_count_111 (by
          unfold coM
          first
          | (rw [if_pos (show w = 0 by omega)]; done)
          | (rw [if_neg (show ¬ w = 0 by omega), if_pos (show w = 1 by omega)]; done)
          | (rw [if_neg (show ¬ w = 0 by omega), if_neg (show ¬ w = 1 by omega), if_pos (show 2 ≤ w ∧ w ≤ 4 by omega)]; done)
          | (rw [if_neg (show ¬ w = 0 by omega), if_neg (show ¬ w = 1 by omega), if_neg (show ¬ (2 ≤ w ∧ w ≤ 4) by omega), if_pos (show 5 ≤ w ∧ w ≤ 10 by omega)]; done)
          | (rw [if_neg (show ¬ w = 0 by omega), if_neg (show ¬ w = 1 by omega), if_neg (show ¬ (2 ≤ w ∧ w ≤ 4) by omega), if_neg (show ¬ (5 ≤ w ∧ w ≤ 10) by omega)]
             first
             | (rw [if_pos (show w = 11 by omega)]; done)
             | (rw [if_neg (show ¬ w = 11 by omega), if_pos (show w = 12 by omega)]; done)
             | (rw [if_neg (show ¬ w = 11 by omega), if_neg (show ¬ w = 12 by omega), if_pos (show w = 14 by omega)]; done)
             | (rw [if_neg (show ¬ w = 11 by omega), if_neg (show ¬ w = 12 by omega), if_neg (show ¬ w = 14 by omega), if_pos (show w = 15 by omega)]; done)
             | (rw [if_neg (show ¬ w = 11 by omega), if_neg (show ¬ w = 12 by omega), if_neg (show ¬ w = 14 by omega), if_neg (show ¬ w = 15 by omega)]))) hQ
  by_cases c_1_2 : w = 2
  · refine r_tabIn E 2 112 dX7_count_1 c_1_2 ⟨by decide, by decide⟩ (by decide) (by decide) rfl (by decide) ?_
    refine r_aload_n E 0 dX7_count_112 rfl rfl ?_
    refine r_iload_n E 1 dX7_count_113 rfl rfl ?_
    refine r_iconst E 2 rfl dX7_count_114 ?_
    refine r_isub E dX7_count_115 ?_
    refine r_vP E (st := []) (c_X7_ofHand l D m0 ms mh mn mp ml mm md mw mt mb mi mg cI kp sv pn rf tl s (w - 2) (by first | assumption | omega | exact ⟨by omega, by omega⟩) (by first | assumption | omega | exact ⟨by omega, by omega⟩) (by first | assumption | omega | exact ⟨by omega, by omega⟩)) gX7_count_X7_ofHand 1 kf_X7_ofHand ⟨rfl, rfl⟩ ⟨by decide, by decide⟩ dX7_count_116 rfl 0 rfl rfl rfl rfl ⟨Nat.zero_le _, Nat.zero_le _⟩ [0, 1] rfl (by decide) [0] rfl (Nat.le_of_ble_eq_true rfl) ?_
    exact r_retP E hr dX7_count_119 (by
          unfold coM
          first
          | (rw [if_pos (show w = 0 by omega)]; done)
          | (rw [if_neg (show ¬ w = 0 by omega), if_pos (show w = 1 by omega)]; done)
          | (rw [if_neg (show ¬ w = 0 by omega), if_neg (show ¬ w = 1 by omega), if_pos (show 2 ≤ w ∧ w ≤ 4 by omega)]; done)
          | (rw [if_neg (show ¬ w = 0 by omega), if_neg (show ¬ w = 1 by omega), if_neg (show ¬ (2 ≤ w ∧ w ≤ 4) by omega), if_pos (show 5 ≤ w ∧ w ≤ 10 by omega)]; done)
          | (rw [if_neg (show ¬ w = 0 by omega), if_neg (show ¬ w = 1 by omega), if_neg (show ¬ (2 ≤ w ∧ w ≤ 4) by omega), if_neg (show ¬ (5 ≤ w ∧ w ≤ 10) by omega)]
             first
             | (rw [if_pos (show w = 11 by omega)]; done)
             | (rw [if_neg (show ¬ w = 11 by omega), if_pos (show w = 12 by omega)]; done)
             | (rw [if_neg (show ¬ w = 11 by omega), if_neg (show ¬ w = 12 by omega), if_pos (show w = 14 by omega)]; done)
             | (rw [if_neg (show ¬ w = 11 by omega), if_neg (show ¬ w = 12 by omega), if_neg (show ¬ w = 14 by omega), if_pos (show w = 15 by omega)]; done)
             | (rw [if_neg (show ¬ w = 11 by omega), if_neg (show ¬ w = 12 by omega), if_neg (show ¬ w = 14 by omega), if_neg (show ¬ w = 15 by omega)]))) hQ
  by_cases c_1_3 : w = 3
  · refine r_tabIn E 3 112 dX7_count_1 c_1_3 ⟨by decide, by decide⟩ (by decide) (by decide) rfl (by decide) ?_
    refine r_aload_n E 0 dX7_count_112 rfl rfl ?_
    refine r_iload_n E 1 dX7_count_113 rfl rfl ?_
    refine r_iconst E 2 rfl dX7_count_114 ?_
    refine r_isub E dX7_count_115 ?_
    refine r_vP E (st := []) (c_X7_ofHand l D m0 ms mh mn mp ml mm md mw mt mb mi mg cI kp sv pn rf tl s (w - 2) (by first | assumption | omega | exact ⟨by omega, by omega⟩) (by first | assumption | omega | exact ⟨by omega, by omega⟩) (by first | assumption | omega | exact ⟨by omega, by omega⟩)) gX7_count_X7_ofHand 1 kf_X7_ofHand ⟨rfl, rfl⟩ ⟨by decide, by decide⟩ dX7_count_116 rfl 0 rfl rfl rfl rfl ⟨Nat.zero_le _, Nat.zero_le _⟩ [0, 1] rfl (by decide) [0] rfl (Nat.le_of_ble_eq_true rfl) ?_
    exact r_retP E hr dX7_count_119 (by
          unfold coM
          first
          | (rw [if_pos (show w = 0 by omega)]; done)
          | (rw [if_neg (show ¬ w = 0 by omega), if_pos (show w = 1 by omega)]; done)
          | (rw [if_neg (show ¬ w = 0 by omega), if_neg (show ¬ w = 1 by omega), if_pos (show 2 ≤ w ∧ w ≤ 4 by omega)]; done)
          | (rw [if_neg (show ¬ w = 0 by omega), if_neg (show ¬ w = 1 by omega), if_neg (show ¬ (2 ≤ w ∧ w ≤ 4) by omega), if_pos (show 5 ≤ w ∧ w ≤ 10 by omega)]; done)
          | (rw [if_neg (show ¬ w = 0 by omega), if_neg (show ¬ w = 1 by omega), if_neg (show ¬ (2 ≤ w ∧ w ≤ 4) by omega), if_neg (show ¬ (5 ≤ w ∧ w ≤ 10) by omega)]
             first
             | (rw [if_pos (show w = 11 by omega)]; done)
             | (rw [if_neg (show ¬ w = 11 by omega), if_pos (show w = 12 by omega)]; done)
             | (rw [if_neg (show ¬ w = 11 by omega), if_neg (show ¬ w = 12 by omega), if_pos (show w = 14 by omega)]; done)
             | (rw [if_neg (show ¬ w = 11 by omega), if_neg (show ¬ w = 12 by omega), if_neg (show ¬ w = 14 by omega), if_pos (show w = 15 by omega)]; done)
             | (rw [if_neg (show ¬ w = 11 by omega), if_neg (show ¬ w = 12 by omega), if_neg (show ¬ w = 14 by omega), if_neg (show ¬ w = 15 by omega)]))) hQ
  by_cases c_1_4 : w = 4
  · refine r_tabIn E 4 112 dX7_count_1 c_1_4 ⟨by decide, by decide⟩ (by decide) (by decide) rfl (by decide) ?_
    refine r_aload_n E 0 dX7_count_112 rfl rfl ?_
    refine r_iload_n E 1 dX7_count_113 rfl rfl ?_
    refine r_iconst E 2 rfl dX7_count_114 ?_
    refine r_isub E dX7_count_115 ?_
    refine r_vP E (st := []) (c_X7_ofHand l D m0 ms mh mn mp ml mm md mw mt mb mi mg cI kp sv pn rf tl s (w - 2) (by first | assumption | omega | exact ⟨by omega, by omega⟩) (by first | assumption | omega | exact ⟨by omega, by omega⟩) (by first | assumption | omega | exact ⟨by omega, by omega⟩)) gX7_count_X7_ofHand 1 kf_X7_ofHand ⟨rfl, rfl⟩ ⟨by decide, by decide⟩ dX7_count_116 rfl 0 rfl rfl rfl rfl ⟨Nat.zero_le _, Nat.zero_le _⟩ [0, 1] rfl (by decide) [0] rfl (Nat.le_of_ble_eq_true rfl) ?_
    exact r_retP E hr dX7_count_119 (by
          unfold coM
          first
          | (rw [if_pos (show w = 0 by omega)]; done)
          | (rw [if_neg (show ¬ w = 0 by omega), if_pos (show w = 1 by omega)]; done)
          | (rw [if_neg (show ¬ w = 0 by omega), if_neg (show ¬ w = 1 by omega), if_pos (show 2 ≤ w ∧ w ≤ 4 by omega)]; done)
          | (rw [if_neg (show ¬ w = 0 by omega), if_neg (show ¬ w = 1 by omega), if_neg (show ¬ (2 ≤ w ∧ w ≤ 4) by omega), if_pos (show 5 ≤ w ∧ w ≤ 10 by omega)]; done)
          | (rw [if_neg (show ¬ w = 0 by omega), if_neg (show ¬ w = 1 by omega), if_neg (show ¬ (2 ≤ w ∧ w ≤ 4) by omega), if_neg (show ¬ (5 ≤ w ∧ w ≤ 10) by omega)]
             first
             | (rw [if_pos (show w = 11 by omega)]; done)
             | (rw [if_neg (show ¬ w = 11 by omega), if_pos (show w = 12 by omega)]; done)
             | (rw [if_neg (show ¬ w = 11 by omega), if_neg (show ¬ w = 12 by omega), if_pos (show w = 14 by omega)]; done)
             | (rw [if_neg (show ¬ w = 11 by omega), if_neg (show ¬ w = 12 by omega), if_neg (show ¬ w = 14 by omega), if_pos (show w = 15 by omega)]; done)
             | (rw [if_neg (show ¬ w = 11 by omega), if_neg (show ¬ w = 12 by omega), if_neg (show ¬ w = 14 by omega), if_neg (show ¬ w = 15 by omega)]))) hQ
  by_cases c_1_5 : w = 5
  · refine r_tabIn E 5 120 dX7_count_1 c_1_5 ⟨by decide, by decide⟩ (by decide) (by decide) rfl (by decide) ?_
    refine r_aload_n E 0 dX7_count_120 rfl rfl ?_
    refine r_iload_n E 1 dX7_count_121 rfl rfl ?_
    refine r_iconst E 5 rfl dX7_count_122 ?_
    refine r_isub E dX7_count_123 ?_
    refine r_vP E (st := []) (c_X7_sumR l D m0 ms mh mn mp ml mm md mw mt mb mi mg cI kp sv pn rf tl s (w - 5) (by first | assumption | omega | exact ⟨by omega, by omega⟩) (by first | assumption | omega | exact ⟨by omega, by omega⟩) (by first | assumption | omega | exact ⟨by omega, by omega⟩) (by first | assumption | omega | exact ⟨by omega, by omega⟩)) gX7_count_X7_sum 1 kf_X7_sum ⟨rfl, rfl⟩ ⟨by decide, by decide⟩ dX7_count_124 rfl 0 rfl rfl rfl rfl ⟨Nat.zero_le _, Nat.zero_le _⟩ [0, 1] rfl (by decide) [0] rfl (Nat.le_of_ble_eq_true rfl) ?_
    exact r_retP E hr dX7_count_127 (by
          unfold coM
          first
          | (rw [if_pos (show w = 0 by omega)]; done)
          | (rw [if_neg (show ¬ w = 0 by omega), if_pos (show w = 1 by omega)]; done)
          | (rw [if_neg (show ¬ w = 0 by omega), if_neg (show ¬ w = 1 by omega), if_pos (show 2 ≤ w ∧ w ≤ 4 by omega)]; done)
          | (rw [if_neg (show ¬ w = 0 by omega), if_neg (show ¬ w = 1 by omega), if_neg (show ¬ (2 ≤ w ∧ w ≤ 4) by omega), if_pos (show 5 ≤ w ∧ w ≤ 10 by omega)]; done)
          | (rw [if_neg (show ¬ w = 0 by omega), if_neg (show ¬ w = 1 by omega), if_neg (show ¬ (2 ≤ w ∧ w ≤ 4) by omega), if_neg (show ¬ (5 ≤ w ∧ w ≤ 10) by omega)]
             first
             | (rw [if_pos (show w = 11 by omega)]; done)
             | (rw [if_neg (show ¬ w = 11 by omega), if_pos (show w = 12 by omega)]; done)
             | (rw [if_neg (show ¬ w = 11 by omega), if_neg (show ¬ w = 12 by omega), if_pos (show w = 14 by omega)]; done)
             | (rw [if_neg (show ¬ w = 11 by omega), if_neg (show ¬ w = 12 by omega), if_neg (show ¬ w = 14 by omega), if_pos (show w = 15 by omega)]; done)
             | (rw [if_neg (show ¬ w = 11 by omega), if_neg (show ¬ w = 12 by omega), if_neg (show ¬ w = 14 by omega), if_neg (show ¬ w = 15 by omega)]))) hQ
  by_cases c_1_6 : w = 6
  · refine r_tabIn E 6 120 dX7_count_1 c_1_6 ⟨by decide, by decide⟩ (by decide) (by decide) rfl (by decide) ?_
    refine r_aload_n E 0 dX7_count_120 rfl rfl ?_
    refine r_iload_n E 1 dX7_count_121 rfl rfl ?_
    refine r_iconst E 5 rfl dX7_count_122 ?_
    refine r_isub E dX7_count_123 ?_
    refine r_vP E (st := []) (c_X7_sumR l D m0 ms mh mn mp ml mm md mw mt mb mi mg cI kp sv pn rf tl s (w - 5) (by first | assumption | omega | exact ⟨by omega, by omega⟩) (by first | assumption | omega | exact ⟨by omega, by omega⟩) (by first | assumption | omega | exact ⟨by omega, by omega⟩) (by first | assumption | omega | exact ⟨by omega, by omega⟩)) gX7_count_X7_sum 1 kf_X7_sum ⟨rfl, rfl⟩ ⟨by decide, by decide⟩ dX7_count_124 rfl 0 rfl rfl rfl rfl ⟨Nat.zero_le _, Nat.zero_le _⟩ [0, 1] rfl (by decide) [0] rfl (Nat.le_of_ble_eq_true rfl) ?_
    exact r_retP E hr dX7_count_127 (by
          unfold coM
          first
          | (rw [if_pos (show w = 0 by omega)]; done)
          | (rw [if_neg (show ¬ w = 0 by omega), if_pos (show w = 1 by omega)]; done)
          | (rw [if_neg (show ¬ w = 0 by omega), if_neg (show ¬ w = 1 by omega), if_pos (show 2 ≤ w ∧ w ≤ 4 by omega)]; done)
          | (rw [if_neg (show ¬ w = 0 by omega), if_neg (show ¬ w = 1 by omega), if_neg (show ¬ (2 ≤ w ∧ w ≤ 4) by omega), if_pos (show 5 ≤ w ∧ w ≤ 10 by omega)]; done)
          | (rw [if_neg (show ¬ w = 0 by omega), if_neg (show ¬ w = 1 by omega), if_neg (show ¬ (2 ≤ w ∧ w ≤ 4) by omega), if_neg (show ¬ (5 ≤ w ∧ w ≤ 10) by omega)]
             first
             | (rw [if_pos (show w = 11 by omega)]; done)
             | (rw [if_neg (show ¬ w = 11 by omega), if_pos (show w = 12 by omega)]; done)
             | (rw [if_neg (show ¬ w = 11 by omega), if_neg (show ¬ w = 12 by omega), if_pos (show w = 14 by omega)]; done)
             | (rw [if_neg (show ¬ w = 11 by omega), if_neg (show ¬ w = 12 by omega), if_neg (show ¬ w = 14 by omega), if_pos (show w = 15 by omega)]; done)
             | (rw [if_neg (show ¬ w = 11 by omega), if_neg (show ¬ w = 12 by omega), if_neg (show ¬ w = 14 by omega), if_neg (show ¬ w = 15 by omega)]))) hQ
  by_cases c_1_7 : w = 7
  · refine r_tabIn E 7 120 dX7_count_1 c_1_7 ⟨by decide, by decide⟩ (by decide) (by decide) rfl (by decide) ?_
    refine r_aload_n E 0 dX7_count_120 rfl rfl ?_
    refine r_iload_n E 1 dX7_count_121 rfl rfl ?_
    refine r_iconst E 5 rfl dX7_count_122 ?_
    refine r_isub E dX7_count_123 ?_
    refine r_vP E (st := []) (c_X7_sumR l D m0 ms mh mn mp ml mm md mw mt mb mi mg cI kp sv pn rf tl s (w - 5) (by first | assumption | omega | exact ⟨by omega, by omega⟩) (by first | assumption | omega | exact ⟨by omega, by omega⟩) (by first | assumption | omega | exact ⟨by omega, by omega⟩) (by first | assumption | omega | exact ⟨by omega, by omega⟩)) gX7_count_X7_sum 1 kf_X7_sum ⟨rfl, rfl⟩ ⟨by decide, by decide⟩ dX7_count_124 rfl 0 rfl rfl rfl rfl ⟨Nat.zero_le _, Nat.zero_le _⟩ [0, 1] rfl (by decide) [0] rfl (Nat.le_of_ble_eq_true rfl) ?_
    exact r_retP E hr dX7_count_127 (by
          unfold coM
          first
          | (rw [if_pos (show w = 0 by omega)]; done)
          | (rw [if_neg (show ¬ w = 0 by omega), if_pos (show w = 1 by omega)]; done)
          | (rw [if_neg (show ¬ w = 0 by omega), if_neg (show ¬ w = 1 by omega), if_pos (show 2 ≤ w ∧ w ≤ 4 by omega)]; done)
          | (rw [if_neg (show ¬ w = 0 by omega), if_neg (show ¬ w = 1 by omega), if_neg (show ¬ (2 ≤ w ∧ w ≤ 4) by omega), if_pos (show 5 ≤ w ∧ w ≤ 10 by omega)]; done)
          | (rw [if_neg (show ¬ w = 0 by omega), if_neg (show ¬ w = 1 by omega), if_neg (show ¬ (2 ≤ w ∧ w ≤ 4) by omega), if_neg (show ¬ (5 ≤ w ∧ w ≤ 10) by omega)]
             first
             | (rw [if_pos (show w = 11 by omega)]; done)
             | (rw [if_neg (show ¬ w = 11 by omega), if_pos (show w = 12 by omega)]; done)
             | (rw [if_neg (show ¬ w = 11 by omega), if_neg (show ¬ w = 12 by omega), if_pos (show w = 14 by omega)]; done)
             | (rw [if_neg (show ¬ w = 11 by omega), if_neg (show ¬ w = 12 by omega), if_neg (show ¬ w = 14 by omega), if_pos (show w = 15 by omega)]; done)
             | (rw [if_neg (show ¬ w = 11 by omega), if_neg (show ¬ w = 12 by omega), if_neg (show ¬ w = 14 by omega), if_neg (show ¬ w = 15 by omega)]))) hQ
  by_cases c_1_8 : w = 8
  · refine r_tabIn E 8 120 dX7_count_1 c_1_8 ⟨by decide, by decide⟩ (by decide) (by decide) rfl (by decide) ?_
    refine r_aload_n E 0 dX7_count_120 rfl rfl ?_
    refine r_iload_n E 1 dX7_count_121 rfl rfl ?_
    refine r_iconst E 5 rfl dX7_count_122 ?_
    refine r_isub E dX7_count_123 ?_
    refine r_vP E (st := []) (c_X7_sumR l D m0 ms mh mn mp ml mm md mw mt mb mi mg cI kp sv pn rf tl s (w - 5) (by first | assumption | omega | exact ⟨by omega, by omega⟩) (by first | assumption | omega | exact ⟨by omega, by omega⟩) (by first | assumption | omega | exact ⟨by omega, by omega⟩) (by first | assumption | omega | exact ⟨by omega, by omega⟩)) gX7_count_X7_sum 1 kf_X7_sum ⟨rfl, rfl⟩ ⟨by decide, by decide⟩ dX7_count_124 rfl 0 rfl rfl rfl rfl ⟨Nat.zero_le _, Nat.zero_le _⟩ [0, 1] rfl (by decide) [0] rfl (Nat.le_of_ble_eq_true rfl) ?_
    exact r_retP E hr dX7_count_127 (by
          unfold coM
          first
          | (rw [if_pos (show w = 0 by omega)]; done)
          | (rw [if_neg (show ¬ w = 0 by omega), if_pos (show w = 1 by omega)]; done)
          | (rw [if_neg (show ¬ w = 0 by omega), if_neg (show ¬ w = 1 by omega), if_pos (show 2 ≤ w ∧ w ≤ 4 by omega)]; done)
          | (rw [if_neg (show ¬ w = 0 by omega), if_neg (show ¬ w = 1 by omega), if_neg (show ¬ (2 ≤ w ∧ w ≤ 4) by omega), if_pos (show 5 ≤ w ∧ w ≤ 10 by omega)]; done)
          | (rw [if_neg (show ¬ w = 0 by omega), if_neg (show ¬ w = 1 by omega), if_neg (show ¬ (2 ≤ w ∧ w ≤ 4) by omega), if_neg (show ¬ (5 ≤ w ∧ w ≤ 10) by omega)]
             first
             | (rw [if_pos (show w = 11 by omega)]; done)
             | (rw [if_neg (show ¬ w = 11 by omega), if_pos (show w = 12 by omega)]; done)
             | (rw [if_neg (show ¬ w = 11 by omega), if_neg (show ¬ w = 12 by omega), if_pos (show w = 14 by omega)]; done)
             | (rw [if_neg (show ¬ w = 11 by omega), if_neg (show ¬ w = 12 by omega), if_neg (show ¬ w = 14 by omega), if_pos (show w = 15 by omega)]; done)
             | (rw [if_neg (show ¬ w = 11 by omega), if_neg (show ¬ w = 12 by omega), if_neg (show ¬ w = 14 by omega), if_neg (show ¬ w = 15 by omega)]))) hQ
  by_cases c_1_9 : w = 9
  · refine r_tabIn E 9 120 dX7_count_1 c_1_9 ⟨by decide, by decide⟩ (by decide) (by decide) rfl (by decide) ?_
    refine r_aload_n E 0 dX7_count_120 rfl rfl ?_
    refine r_iload_n E 1 dX7_count_121 rfl rfl ?_
    refine r_iconst E 5 rfl dX7_count_122 ?_
    refine r_isub E dX7_count_123 ?_
    refine r_vP E (st := []) (c_X7_sumR l D m0 ms mh mn mp ml mm md mw mt mb mi mg cI kp sv pn rf tl s (w - 5) (by first | assumption | omega | exact ⟨by omega, by omega⟩) (by first | assumption | omega | exact ⟨by omega, by omega⟩) (by first | assumption | omega | exact ⟨by omega, by omega⟩) (by first | assumption | omega | exact ⟨by omega, by omega⟩)) gX7_count_X7_sum 1 kf_X7_sum ⟨rfl, rfl⟩ ⟨by decide, by decide⟩ dX7_count_124 rfl 0 rfl rfl rfl rfl ⟨Nat.zero_le _, Nat.zero_le _⟩ [0, 1] rfl (by decide) [0] rfl (Nat.le_of_ble_eq_true rfl) ?_
    exact r_retP E hr dX7_count_127 (by
          unfold coM
          first
          | (rw [if_pos (show w = 0 by omega)]; done)
          | (rw [if_neg (show ¬ w = 0 by omega), if_pos (show w = 1 by omega)]; done)
          | (rw [if_neg (show ¬ w = 0 by omega), if_neg (show ¬ w = 1 by omega), if_pos (show 2 ≤ w ∧ w ≤ 4 by omega)]; done)
          | (rw [if_neg (show ¬ w = 0 by omega), if_neg (show ¬ w = 1 by omega), if_neg (show ¬ (2 ≤ w ∧ w ≤ 4) by omega), if_pos (show 5 ≤ w ∧ w ≤ 10 by omega)]; done)
          | (rw [if_neg (show ¬ w = 0 by omega), if_neg (show ¬ w = 1 by omega), if_neg (show ¬ (2 ≤ w ∧ w ≤ 4) by omega), if_neg (show ¬ (5 ≤ w ∧ w ≤ 10) by omega)]
             first
             | (rw [if_pos (show w = 11 by omega)]; done)
             | (rw [if_neg (show ¬ w = 11 by omega), if_pos (show w = 12 by omega)]; done)
             | (rw [if_neg (show ¬ w = 11 by omega), if_neg (show ¬ w = 12 by omega), if_pos (show w = 14 by omega)]; done)
             | (rw [if_neg (show ¬ w = 11 by omega), if_neg (show ¬ w = 12 by omega), if_neg (show ¬ w = 14 by omega), if_pos (show w = 15 by omega)]; done)
             | (rw [if_neg (show ¬ w = 11 by omega), if_neg (show ¬ w = 12 by omega), if_neg (show ¬ w = 14 by omega), if_neg (show ¬ w = 15 by omega)]))) hQ
  by_cases c_1_10 : w = 10
  · refine r_tabIn E 10 120 dX7_count_1 c_1_10 ⟨by decide, by decide⟩ (by decide) (by decide) rfl (by decide) ?_
    refine r_aload_n E 0 dX7_count_120 rfl rfl ?_
    refine r_iload_n E 1 dX7_count_121 rfl rfl ?_
    refine r_iconst E 5 rfl dX7_count_122 ?_
    refine r_isub E dX7_count_123 ?_
    refine r_vP E (st := []) (c_X7_sumR l D m0 ms mh mn mp ml mm md mw mt mb mi mg cI kp sv pn rf tl s (w - 5) (by first | assumption | omega | exact ⟨by omega, by omega⟩) (by first | assumption | omega | exact ⟨by omega, by omega⟩) (by first | assumption | omega | exact ⟨by omega, by omega⟩) (by first | assumption | omega | exact ⟨by omega, by omega⟩)) gX7_count_X7_sum 1 kf_X7_sum ⟨rfl, rfl⟩ ⟨by decide, by decide⟩ dX7_count_124 rfl 0 rfl rfl rfl rfl ⟨Nat.zero_le _, Nat.zero_le _⟩ [0, 1] rfl (by decide) [0] rfl (Nat.le_of_ble_eq_true rfl) ?_
    exact r_retP E hr dX7_count_127 (by
          unfold coM
          first
          | (rw [if_pos (show w = 0 by omega)]; done)
          | (rw [if_neg (show ¬ w = 0 by omega), if_pos (show w = 1 by omega)]; done)
          | (rw [if_neg (show ¬ w = 0 by omega), if_neg (show ¬ w = 1 by omega), if_pos (show 2 ≤ w ∧ w ≤ 4 by omega)]; done)
          | (rw [if_neg (show ¬ w = 0 by omega), if_neg (show ¬ w = 1 by omega), if_neg (show ¬ (2 ≤ w ∧ w ≤ 4) by omega), if_pos (show 5 ≤ w ∧ w ≤ 10 by omega)]; done)
          | (rw [if_neg (show ¬ w = 0 by omega), if_neg (show ¬ w = 1 by omega), if_neg (show ¬ (2 ≤ w ∧ w ≤ 4) by omega), if_neg (show ¬ (5 ≤ w ∧ w ≤ 10) by omega)]
             first
             | (rw [if_pos (show w = 11 by omega)]; done)
             | (rw [if_neg (show ¬ w = 11 by omega), if_pos (show w = 12 by omega)]; done)
             | (rw [if_neg (show ¬ w = 11 by omega), if_neg (show ¬ w = 12 by omega), if_pos (show w = 14 by omega)]; done)
             | (rw [if_neg (show ¬ w = 11 by omega), if_neg (show ¬ w = 12 by omega), if_neg (show ¬ w = 14 by omega), if_pos (show w = 15 by omega)]; done)
             | (rw [if_neg (show ¬ w = 11 by omega), if_neg (show ¬ w = 12 by omega), if_neg (show ¬ w = 14 by omega), if_neg (show ¬ w = 15 by omega)]))) hQ
  by_cases c_1_11 : w = 11
  · refine r_tabIn E 11 128 dX7_count_1 c_1_11 ⟨by decide, by decide⟩ (by decide) (by decide) rfl (by decide) ?_
    refine r_aload_n E 0 dX7_count_128 rfl rfl ?_
    refine r_get E 6 0 0 dX7_count_129 in_X7_count_X7 lk_X7_count_7 rfl rfl (by decide) rfl ?_
    refine r_iconst E 1 rfl dX7_count_132 ?_
    refine r_iald E (i := 1) 1 0 dX7_count_133 rfl rfl (by decide) ⟨by omega, by omega⟩ ?_
    exact r_retP E hr dX7_count_134 (by
          unfold coM
          first
          | (rw [if_pos (show w = 0 by omega)]; done)
          | (rw [if_neg (show ¬ w = 0 by omega), if_pos (show w = 1 by omega)]; done)
          | (rw [if_neg (show ¬ w = 0 by omega), if_neg (show ¬ w = 1 by omega), if_pos (show 2 ≤ w ∧ w ≤ 4 by omega)]; done)
          | (rw [if_neg (show ¬ w = 0 by omega), if_neg (show ¬ w = 1 by omega), if_neg (show ¬ (2 ≤ w ∧ w ≤ 4) by omega), if_pos (show 5 ≤ w ∧ w ≤ 10 by omega)]; done)
          | (rw [if_neg (show ¬ w = 0 by omega), if_neg (show ¬ w = 1 by omega), if_neg (show ¬ (2 ≤ w ∧ w ≤ 4) by omega), if_neg (show ¬ (5 ≤ w ∧ w ≤ 10) by omega)]
             first
             | (rw [if_pos (show w = 11 by omega)]; done)
             | (rw [if_neg (show ¬ w = 11 by omega), if_pos (show w = 12 by omega)]; done)
             | (rw [if_neg (show ¬ w = 11 by omega), if_neg (show ¬ w = 12 by omega), if_pos (show w = 14 by omega)]; done)
             | (rw [if_neg (show ¬ w = 11 by omega), if_neg (show ¬ w = 12 by omega), if_neg (show ¬ w = 14 by omega), if_pos (show w = 15 by omega)]; done)
             | (rw [if_neg (show ¬ w = 11 by omega), if_neg (show ¬ w = 12 by omega), if_neg (show ¬ w = 14 by omega), if_neg (show ¬ w = 15 by omega)]))) hQ
  by_cases c_1_12 : w = 12
  · refine r_tabIn E 12 135 dX7_count_1 c_1_12 ⟨by decide, by decide⟩ (by decide) (by decide) rfl (by decide) ?_
    refine r_aload_n E 0 dX7_count_135 rfl rfl ?_
    refine r_vP E (st := []) (c_X7_longest l D m0 ms mh mn mp ml mm md mw mt mb mi mg cI kp sv pn rf tl s (by first | assumption | omega | exact ⟨by omega, by omega⟩) (by first | assumption | omega | exact ⟨by omega, by omega⟩)) gX7_count_X7_longest 0 kf_X7_longest ⟨rfl, rfl⟩ ⟨by decide, by decide⟩ dX7_count_136 rfl 0 rfl rfl rfl rfl ⟨Nat.zero_le _, Nat.zero_le _⟩ [0, 1] rfl (by decide) [0] rfl (Nat.le_of_ble_eq_true rfl) ?_
    exact r_retP E hr dX7_count_139 (by
          unfold coM
          first
          | (rw [if_pos (show w = 0 by omega)]; done)
          | (rw [if_neg (show ¬ w = 0 by omega), if_pos (show w = 1 by omega)]; done)
          | (rw [if_neg (show ¬ w = 0 by omega), if_neg (show ¬ w = 1 by omega), if_pos (show 2 ≤ w ∧ w ≤ 4 by omega)]; done)
          | (rw [if_neg (show ¬ w = 0 by omega), if_neg (show ¬ w = 1 by omega), if_neg (show ¬ (2 ≤ w ∧ w ≤ 4) by omega), if_pos (show 5 ≤ w ∧ w ≤ 10 by omega)]; done)
          | (rw [if_neg (show ¬ w = 0 by omega), if_neg (show ¬ w = 1 by omega), if_neg (show ¬ (2 ≤ w ∧ w ≤ 4) by omega), if_neg (show ¬ (5 ≤ w ∧ w ≤ 10) by omega)]
             first
             | (rw [if_pos (show w = 11 by omega)]; done)
             | (rw [if_neg (show ¬ w = 11 by omega), if_pos (show w = 12 by omega)]; done)
             | (rw [if_neg (show ¬ w = 11 by omega), if_neg (show ¬ w = 12 by omega), if_pos (show w = 14 by omega)]; done)
             | (rw [if_neg (show ¬ w = 11 by omega), if_neg (show ¬ w = 12 by omega), if_neg (show ¬ w = 14 by omega), if_pos (show w = 15 by omega)]; done)
             | (rw [if_neg (show ¬ w = 11 by omega), if_neg (show ¬ w = 12 by omega), if_neg (show ¬ w = 14 by omega), if_neg (show ¬ w = 15 by omega)]))) hQ
  have c_1_13 : ¬ w = 13 := by omega
  by_cases c_1_14 : w = 14
  · refine r_tabIn E 14 147 dX7_count_1 c_1_14 ⟨by decide, by decide⟩ (by decide) (by decide) rfl (by decide) ?_
    refine r_aload_n E 0 dX7_count_147 rfl rfl ?_
    refine r_get E 6 0 6 dX7_count_148 in_X7_count_X7 lk_X7_count_133 rfl rfl (by decide) rfl ?_
    exact r_retP E hr dX7_count_151 (by
          unfold coM
          first
          | (rw [if_pos (show w = 0 by omega)]; done)
          | (rw [if_neg (show ¬ w = 0 by omega), if_pos (show w = 1 by omega)]; done)
          | (rw [if_neg (show ¬ w = 0 by omega), if_neg (show ¬ w = 1 by omega), if_pos (show 2 ≤ w ∧ w ≤ 4 by omega)]; done)
          | (rw [if_neg (show ¬ w = 0 by omega), if_neg (show ¬ w = 1 by omega), if_neg (show ¬ (2 ≤ w ∧ w ≤ 4) by omega), if_pos (show 5 ≤ w ∧ w ≤ 10 by omega)]; done)
          | (rw [if_neg (show ¬ w = 0 by omega), if_neg (show ¬ w = 1 by omega), if_neg (show ¬ (2 ≤ w ∧ w ≤ 4) by omega), if_neg (show ¬ (5 ≤ w ∧ w ≤ 10) by omega)]
             first
             | (rw [if_pos (show w = 11 by omega)]; done)
             | (rw [if_neg (show ¬ w = 11 by omega), if_pos (show w = 12 by omega)]; done)
             | (rw [if_neg (show ¬ w = 11 by omega), if_neg (show ¬ w = 12 by omega), if_pos (show w = 14 by omega)]; done)
             | (rw [if_neg (show ¬ w = 11 by omega), if_neg (show ¬ w = 12 by omega), if_neg (show ¬ w = 14 by omega), if_pos (show w = 15 by omega)]; done)
             | (rw [if_neg (show ¬ w = 11 by omega), if_neg (show ¬ w = 12 by omega), if_neg (show ¬ w = 14 by omega), if_neg (show ¬ w = 15 by omega)]))) hQ
  by_cases c_1_15 : w = 15
  · refine r_tabIn E 15 152 dX7_count_1 c_1_15 ⟨by decide, by decide⟩ (by decide) (by decide) rfl (by decide) ?_
    refine r_aload_n E 0 dX7_count_152 rfl rfl ?_
    refine r_get E 6 0 2 dX7_count_153 in_X7_count_X7 lk_X7_count_59 rfl rfl (by decide) rfl ?_
    exact r_retP E hr dX7_count_156 (by
          unfold coM
          first
          | (rw [if_pos (show w = 0 by omega)]; done)
          | (rw [if_neg (show ¬ w = 0 by omega), if_pos (show w = 1 by omega)]; done)
          | (rw [if_neg (show ¬ w = 0 by omega), if_neg (show ¬ w = 1 by omega), if_pos (show 2 ≤ w ∧ w ≤ 4 by omega)]; done)
          | (rw [if_neg (show ¬ w = 0 by omega), if_neg (show ¬ w = 1 by omega), if_neg (show ¬ (2 ≤ w ∧ w ≤ 4) by omega), if_pos (show 5 ≤ w ∧ w ≤ 10 by omega)]; done)
          | (rw [if_neg (show ¬ w = 0 by omega), if_neg (show ¬ w = 1 by omega), if_neg (show ¬ (2 ≤ w ∧ w ≤ 4) by omega), if_neg (show ¬ (5 ≤ w ∧ w ≤ 10) by omega)]
             first
             | (rw [if_pos (show w = 11 by omega)]; done)
             | (rw [if_neg (show ¬ w = 11 by omega), if_pos (show w = 12 by omega)]; done)
             | (rw [if_neg (show ¬ w = 11 by omega), if_neg (show ¬ w = 12 by omega), if_pos (show w = 14 by omega)]; done)
             | (rw [if_neg (show ¬ w = 11 by omega), if_neg (show ¬ w = 12 by omega), if_neg (show ¬ w = 14 by omega), if_pos (show w = 15 by omega)]; done)
             | (rw [if_neg (show ¬ w = 11 by omega), if_neg (show ¬ w = 12 by omega), if_neg (show ¬ w = 14 by omega), if_neg (show ¬ w = 15 by omega)]))) hQ
  refine r_tabOut E 157 dX7_count_1 hw (by omega) (by decide) ?_
  refine r_iconst E (-1) rfl dX7_count_157 ?_
  exact r_retP E hr dX7_count_158 (by
        unfold coM
        first
        | (rw [if_pos (show w = 0 by omega)]; done)
        | (rw [if_neg (show ¬ w = 0 by omega), if_pos (show w = 1 by omega)]; done)
        | (rw [if_neg (show ¬ w = 0 by omega), if_neg (show ¬ w = 1 by omega), if_pos (show 2 ≤ w ∧ w ≤ 4 by omega)]; done)
        | (rw [if_neg (show ¬ w = 0 by omega), if_neg (show ¬ w = 1 by omega), if_neg (show ¬ (2 ≤ w ∧ w ≤ 4) by omega), if_pos (show 5 ≤ w ∧ w ≤ 10 by omega)]; done)
        | (rw [if_neg (show ¬ w = 0 by omega), if_neg (show ¬ w = 1 by omega), if_neg (show ¬ (2 ≤ w ∧ w ≤ 4) by omega), if_neg (show ¬ (5 ≤ w ∧ w ≤ 10) by omega)]
           first
           | (rw [if_pos (show w = 11 by omega)]; done)
           | (rw [if_neg (show ¬ w = 11 by omega), if_pos (show w = 12 by omega)]; done)
           | (rw [if_neg (show ¬ w = 11 by omega), if_neg (show ¬ w = 12 by omega), if_pos (show w = 14 by omega)]; done)
           | (rw [if_neg (show ¬ w = 11 by omega), if_neg (show ¬ w = 12 by omega), if_neg (show ¬ w = 14 by omega), if_pos (show w = 15 by omega)]; done)
           | (rw [if_neg (show ¬ w = 11 by omega), if_neg (show ¬ w = 12 by omega), if_neg (show ¬ w = 14 by omega), if_neg (show ¬ w = 15 by omega)]))) hQ
set_option maxHeartbeats 1000000 in
set_option maxRecDepth 100000 in
theorem c_X7_count6 (l : Launch) (D : va_G) (m0 : Nat) (ms : Nat) (mh : Nat) (mn : Nat) (mp : Nat) (ml : Nat) (mm : Nat) (md : Nat) (mw : Nat) (mt : Nat) (mb : Nat) (mi : Nat) (mg : Nat) (cI : ClassId) (kp : Int) (sv : Int) (pn : Int) (rf : Int) (tl : Int) (s : Int → Int) (sg : Int → Int) (w : Int) (hs0 : 0 ≤ s 0 ∧ s 0 ≤ 32) (hsv : ∀ j : Int, 0 ≤ j → j < s 0 → 0 ≤ s (2 + j) ∧ s (2 + j) ≤ 24) (hw : w = 13) : MM (S := Int → Int) l yX7_count wsX7_count rm_X7_count D vwCl [.ref m0, .int (iJ (w))] [(m0, .inr (6, [.ref ms, .ref mh, .int (iJ (kp)), .ref mn, .int (iJ (sv)), .ref mp, .int (iJ (pn)), .int (iJ (rf)), .ref ml, .ref mm, .ref md, .ref mw, .ref mt, .int (iJ (tl)), .ref mb, .ref mi, .ref mg])), (ms, cJ cI 34 (s)), (mg, cJ cI 4 (sg))] [(cI, .int)] (fun (G : Int → Int) => sm (fun j => mTl (s (2 + j))) (s 0)) (fun (G : Int → Int) => True) (fun (G : Int → Int) => [(m0, .inr (6, [.ref ms, .ref mh, .int (iJ (kp)), .ref mn, .int (iJ (sv)), .ref mp, .int (iJ (pn)), .int (iJ (rf)), .ref ml, .ref mm, .ref md, .ref mw, .ref mt, .int (iJ (tl)), .ref mb, .ref mi, .ref mg])), (ms, cJ cI 34 (s)), (mg, cJ cI 4 (G))]) := by
  refine MM.mk (cc := cX7_count) (maxL := 2) (ret := (some .int)) (by decide) rfl (Nat.le_of_ble_eq_true rfl) rfl RX7 rfl ?_
  intro p_ e_ s_ m_ ar_ bw_ mt_ cd_ B_ Q_ hA E hr hQ
  refine r_iload_n E 1 dX7_count_0 rfl rfl ?_
  have c_1_0 : ¬ w = 0 := by omega
  have c_1_1 : ¬ w = 1 := by omega
  have c_1_2 : ¬ w = 2 := by omega
  have c_1_3 : ¬ w = 3 := by omega
  have c_1_4 : ¬ w = 4 := by omega
  have c_1_5 : ¬ w = 5 := by omega
  have c_1_6 : ¬ w = 6 := by omega
  have c_1_7 : ¬ w = 7 := by omega
  have c_1_8 : ¬ w = 8 := by omega
  have c_1_9 : ¬ w = 9 := by omega
  have c_1_10 : ¬ w = 10 := by omega
  have c_1_11 : ¬ w = 11 := by omega
  have c_1_12 : ¬ w = 12 := by omega
  by_cases c_1_13 : w = 13
  · refine r_tabIn E 13 140 dX7_count_1 c_1_13 ⟨by decide, by decide⟩ (by decide) (by decide) rfl (by decide) ?_
    refine r_aload_n E 0 dX7_count_140 rfl rfl ?_
    refine r_bipush E 6 rfl dX7_count_141 ?_
    refine r_vM E (st := []) (c_X7_sum6 l D m0 ms mh mn mp ml mm md mw mt mb mi mg cI kp sv pn rf tl s sg 6 (by first | assumption | omega | exact ⟨by omega, by omega⟩) (by first | assumption | omega | exact ⟨by omega, by omega⟩) (by first | assumption | omega | exact ⟨by omega, by omega⟩)) gX7_count_X7_sum 1 kf_X7_sum ⟨rfl, rfl⟩ ⟨by decide, by decide⟩ dX7_count_143 rfl 0 rfl rfl rfl rfl ⟨Nat.zero_le _, Nat.zero_le _⟩ [0, 1, 2] rfl (by decide) [0] rfl (Nat.le_of_ble_eq_true rfl) [] [] rfl (by decide) (by decide) hA [0, 1, 2] (by decide) (fun (GW : Int → Int) => [(m0, .inr (6, [.ref ms, .ref mh, .int (iJ (kp)), .ref mn, .int (iJ (sv)), .ref mp, .int (iJ (pn)), .int (iJ (rf)), .ref ml, .ref mm, .ref md, .ref mw, .ref mt, .int (iJ (tl)), .ref mb, .ref mi, .ref mg])), (ms, cJ cI 34 (s)), (mg, cJ cI 4 (GW))]) (fun _ => rfl) ?_
    intro GW hp_1
    refine r_cv (ws2 := [(m0, .inr (6, [.ref ms, .ref mh, .int (iJ (kp)), .ref mn, .int (iJ (sv)), .ref mp, .int (iJ (pn)), .int (iJ (rf)), .ref ml, .ref mm, .ref md, .ref mw, .ref mt, .int (iJ (tl)), .ref mb, .ref mi, .ref mg])), (ms, cJ cI 34 (s)), (mg, cJ cI 4 (GW))]) (st2 := [.int (iJ (sm (fun j => mTl (s (2 + j))) (s 0)))]) rfl rfl rfl ?_
    exact r_retM E GW hr dX7_count_146 rfl trivial rfl hQ
  have c_1_14 : ¬ w = 14 := by omega
  have c_1_15 : ¬ w = 15 := by omega
  exfalso; omega
theorem kf_X7_undo : KF yX7_undo 0 wsX7_undo cX7_undo 2 (some .int) := ⟨rfl, by decide +kernel, by decide +kernel, by decide +kernel⟩
def rm_X7_undo : Room := { frames := 0, cells := 0, slots := 0, locals := 0 }
set_option maxRecDepth 20000 in
theorem in_X7_undo_X7 : ∀ w ∈ u_ws RX7 TX7 17, w ∈ wsX7_undo := by decide +kernel
set_option maxRecDepth 20000 in
theorem lk_X7_undo_59 : Cond.fieldLink RX7 59 (TX7 2).1 (TX7 2).2.1 (TX7 2).2.2.1 ∈ wsX7_undo := by decide +kernel
set_option maxHeartbeats 1000000 in
set_option maxRecDepth 100000 in
theorem c_X7_undoNo (l : Launch) (D : va_G) (m0 : Nat) (ms : Nat) (mh : Nat) (mn : Nat) (mp : Nat) (ml : Nat) (mm : Nat) (md : Nat) (mw : Nat) (mt : Nat) (mb : Nat) (mi : Nat) (mg : Nat) (cI : ClassId) (kp : Int) (sv : Int) (pn : Int) (rf : Int) (tl : Int) (s : Int → Int) (hx : kp = 0) : MP l yX7_undo wsX7_undo rm_X7_undo D vwCl [.ref m0] [(m0, .inr (6, [.ref ms, .ref mh, .int (iJ (kp)), .ref mn, .int (iJ (sv)), .ref mp, .int (iJ (pn)), .int (iJ (rf)), .ref ml, .ref mm, .ref md, .ref mw, .ref mt, .int (iJ (tl)), .ref mb, .ref mi, .ref mg])), (ms, cJ cI 34 (s))] [(cI, .int)] (-2) := by
  refine MP.mk (cc := cX7_undo) (maxL := 2) (ret := (some .int)) (by decide) rfl (Nat.le_of_ble_eq_true rfl) rfl RX7 rfl ?_
  intro p_ e_ s_ m_ ar_ bw_ mt_ cd_ Q_ E hr hQ
  refine r_aload_n E 0 dX7_undo_0 rfl rfl ?_
  refine r_get E 6 0 2 dX7_undo_1 in_X7_undo_X7 lk_X7_undo_59 rfl rfl (by decide) rfl ?_
  refine r_if_ne E 10 dX7_undo_4 (by decide) ⟨by omega, by omega⟩ (fun c_4 => absurd c_4 (by omega)) (fun c_4 => ?_)
  refine r_bipush E (-2) rfl dX7_undo_7 ?_
  exact r_retP E hr dX7_undo_9 rfl hQ
set_option maxRecDepth 20000 in
theorem lk_X7_undo_7 : Cond.fieldLink RX7 7 (TX7 0).1 (TX7 0).2.1 (TX7 0).2.2.1 ∈ wsX7_undo := by decide +kernel
set_option maxRecDepth 20000 in
theorem lk_X7_undo_13 : Cond.fieldLink RX7 13 (TX7 1).1 (TX7 1).2.1 (TX7 1).2.2.1 ∈ wsX7_undo := by decide +kernel
set_option maxHeartbeats 1000000 in
set_option maxRecDepth 100000 in
theorem c_X7_undo (l : Launch) (D : va_G) (m0 : Nat) (ms : Nat) (mh : Nat) (mn : Nat) (mp : Nat) (ml : Nat) (mm : Nat) (md : Nat) (mw : Nat) (mt : Nat) (mb : Nat) (mi : Nat) (mg : Nat) (cI : ClassId) (kp : Int) (sv : Int) (pn : Int) (rf : Int) (tl : Int) (s : Int → Int) (h : Int → Int) (hx : 1 ≤ kp ∧ kp ≤ 4) : MM (S := Unit) l yX7_undo wsX7_undo rm_X7_undo D vwCl [.ref m0] [(m0, .inr (6, [.ref ms, .ref mh, .int (iJ (kp)), .ref mn, .int (iJ (sv)), .ref mp, .int (iJ (pn)), .int (iJ (rf)), .ref ml, .ref mm, .ref md, .ref mw, .ref mt, .int (iJ (tl)), .ref mb, .ref mi, .ref mg])), (ms, cJ cI 34 (s)), (mh, cJ cI 136 (h))] [(cI, .int)] (fun (_ : Unit) => kp - 1) (fun (_ : Unit) => True) (fun (_ : Unit) => [(m0, .inr (6, [.ref ms, .ref mh, .int (iJ ((kp - 1))), .ref mn, .int (iJ (sv)), .ref mp, .int (iJ (pn)), .int (iJ (rf)), .ref ml, .ref mm, .ref md, .ref mw, .ref mt, .int (iJ (tl)), .ref mb, .ref mi, .ref mg])), (ms, cJ cI 34 (cpS s (fun j => h (34 * (kp - 1) + j)))), (mh, cJ cI 136 (h))]) := by
  refine MM.mk (cc := cX7_undo) (maxL := 2) (ret := (some .int)) (by decide) rfl (Nat.le_of_ble_eq_true rfl) rfl RX7 rfl ?_
  intro p_ e_ s_ m_ ar_ bw_ mt_ cd_ B_ Q_ hA E hr hQ
  refine r_aload_n E 0 dX7_undo_0 rfl rfl ?_
  refine r_get E 6 0 2 dX7_undo_1 in_X7_undo_X7 lk_X7_undo_59 rfl rfl (by decide) rfl ?_
  refine r_if_ne E 10 dX7_undo_4 (by decide) ⟨by omega, by omega⟩ (fun c_4 => ?_) (fun c_4 => absurd c_4 (by omega))
  refine r_aload_n E 0 dX7_undo_10 rfl rfl ?_
  refine r_dup E dX7_undo_11 rfl ?_
  refine r_get E 6 0 2 dX7_undo_12 in_X7_undo_X7 lk_X7_undo_59 rfl rfl (by decide) rfl ?_
  refine r_iconst E 1 rfl dX7_undo_15 ?_
  refine r_isub E dX7_undo_16 ?_
  refine r_put E (ty := .int) 6 0 2 tyX7 tyX7_ok nmX7 dX7_undo_17 in_X7_undo_X7 lk_X7_undo_59 rfl rfl (by decide) rfl (by decide +kernel) rfl rfl (Nat.le_of_ble_eq_true rfl) [(m0, .inr (6, [.ref ms, .ref mh, .int (iJ ((kp - 1))), .ref mn, .int (iJ (sv)), .ref mp, .int (iJ (pn)), .int (iJ (rf)), .ref ml, .ref mm, .ref md, .ref mw, .ref mt, .int (iJ (tl)), .ref mb, .ref mi, .ref mg])), (ms, cJ cI 34 (s)), (mh, cJ cI 136 (h))] rfl ?_
  refine r_iconst E 0 rfl dX7_undo_20 ?_
  refine r_istore_n E [(1, .int (iJ (0))), (0, .ref m0)] dX7_undo_21 rfl (by decide) rfl ?_
  have loop_22 : ∀ (N : Nat) (k : Int) (G : Int → Int), (0 ≤ k ∧ k ≤ 34) → (∀ j : Int, G j = if 0 ≤ j ∧ j < k then h (34 * (kp - 1) + j) else s j) → (34 - k).toNat < N → GG p_ l e_ rm_X7_undo s_ m_ ar_ bw_ mt_ cd_ D vwCl B_ B_ s_.heap 2 0 0 Q_ [(m0, .inr (6, [.ref ms, .ref mh, .int (iJ ((kp - 1))), .ref mn, .int (iJ (sv)), .ref mp, .int (iJ (pn)), .int (iJ (rf)), .ref ml, .ref mm, .ref md, .ref mw, .ref mt, .int (iJ (tl)), .ref mb, .ref mi, .ref mg])), (ms, cJ cI 34 (G)), (mh, cJ cI 136 (h))] [(0, .ref m0), (1, .int (iJ (k)))] 22 [] := by
    intro N; induction N with
    | zero => intro k G hk hG hN; exact absurd hN (Nat.not_lt_zero _)
    | succ N ih22 =>
      intro k G hk hG hN
      refine r_iload_n E 1 dX7_undo_22 rfl rfl ?_
      refine r_bipush E 34 rfl dX7_undo_23 ?_
      refine r_icmp_ge E 54 dX7_undo_25 (by decide) ⟨by omega, by omega⟩ ⟨by omega, by omega⟩ (fun c_25 => ?_) (fun c_25 => ?_)
      · refine r_aload_n E 0 dX7_undo_54 rfl rfl ?_
        refine r_get E 6 0 2 dX7_undo_55 in_X7_undo_X7 lk_X7_undo_59 rfl rfl (by decide) rfl ?_
        exact r_retM E () hr dX7_undo_58 rfl trivial (by
              have ek : k = 34 := by omega
              have e : G = cpS s (fun j => h (34 * (kp - 1) + j)) := by funext j; rw [hG, ek]; rfl
              rw [e]) hQ
      · refine r_aload_n E 0 dX7_undo_28 rfl rfl ?_
        refine r_get E 6 0 0 dX7_undo_29 in_X7_undo_X7 lk_X7_undo_7 rfl rfl (by decide) rfl ?_
        refine r_iload_n E 1 dX7_undo_32 rfl rfl ?_
        refine r_aload_n E 0 dX7_undo_33 rfl rfl ?_
        refine r_get E 6 0 1 dX7_undo_34 in_X7_undo_X7 lk_X7_undo_13 rfl rfl (by decide) rfl ?_
        refine r_bipush E 34 rfl dX7_undo_37 ?_
        refine r_aload_n E 0 dX7_undo_39 rfl rfl ?_
        refine r_get E 6 0 2 dX7_undo_40 in_X7_undo_X7 lk_X7_undo_59 rfl rfl (by decide) rfl ?_
        refine r_imul E dX7_undo_43 ?_
        refine r_iload_n E 1 dX7_undo_44 rfl rfl ?_
        refine r_iadd E dX7_undo_45 ?_
        refine r_iald E (i := ((34 * (kp - 1)) + k)) 2 0 dX7_undo_46 rfl rfl (by decide) ⟨by omega, by omega⟩ ?_
        refine r_iast E (i := k) 1 0 dX7_undo_47 rfl rfl (by decide) ⟨by omega, by omega⟩ [(m0, .inr (6, [.ref ms, .ref mh, .int (iJ ((kp - 1))), .ref mn, .int (iJ (sv)), .ref mp, .int (iJ (pn)), .int (iJ (rf)), .ref ml, .ref mm, .ref md, .ref mw, .ref mt, .int (iJ (tl)), .ref mb, .ref mi, .ref mg])), (ms, cJ cI 34 (uJ G k (h ((34 * (kp - 1)) + k)))), (mh, cJ cI 136 (h))] rfl ?_
        refine r_iinc E (k := 1) [(1, .int (iJ ((k + 1)))), (0, .ref m0)] dX7_undo_48 rfl (by decide) rfl ?_
        refine r_goto E 22 dX7_undo_51 (by decide) ?_
        refine r_lv [1, 0] [(0, .ref m0), (1, .int (iJ ((k + 1))))] rfl ?_
        exact ih22 (k + 1) (uJ G k (h ((34 * (kp - 1)) + k))) ⟨by omega, by omega⟩ (fun j => by
              by_cases q0 : j = k
              · subst q0; rw [uJ_s, if_pos (by omega)]
              · rw [uJ_n q0, hG]; by_cases q2 : 0 ≤ j ∧ j < k
                · rw [if_pos q2, if_pos (by omega)]
                · rw [if_neg q2, if_neg (by omega)]) (by omega)
  refine r_lv [1, 0] [(0, .ref m0), (1, .int (iJ (0)))] rfl ?_
  exact loop_22 _ 0 s ⟨by omega, by omega⟩ (fun j => by rw [if_neg (by omega)]) (Nat.lt_succ_self _)
theorem kf_X7_save : KF yX7_save 0 wsX7_save cX7_save 2 (some .int) := ⟨rfl, by decide +kernel, by decide +kernel, by decide +kernel⟩
def rm_X7_save : Room := { frames := 0, cells := 0, slots := 0, locals := 0 }
set_option maxRecDepth 20000 in
theorem in_X7_save_X7 : ∀ w ∈ u_ws RX7 TX7 17, w ∈ wsX7_save := by decide +kernel
set_option maxRecDepth 20000 in
theorem lk_X7_save_189 : Cond.fieldLink RX7 189 (TX7 4).1 (TX7 4).2.1 (TX7 4).2.2.1 ∈ wsX7_save := by decide +kernel
set_option maxRecDepth 20000 in
theorem lk_X7_save_7 : Cond.fieldLink RX7 7 (TX7 0).1 (TX7 0).2.1 (TX7 0).2.2.1 ∈ wsX7_save := by decide +kernel
set_option maxRecDepth 20000 in
theorem lk_X7_save_16 : Cond.fieldLink RX7 16 (TX7 3).1 (TX7 3).2.1 (TX7 3).2.2.1 ∈ wsX7_save := by decide +kernel
set_option maxHeartbeats 1000000 in
set_option maxRecDepth 100000 in
theorem c_X7_save (l : Launch) (D : va_G) (m0 : Nat) (ms : Nat) (mh : Nat) (mn : Nat) (mp : Nat) (ml : Nat) (mm : Nat) (md : Nat) (mw : Nat) (mt : Nat) (mb : Nat) (mi : Nat) (mg : Nat) (cI : ClassId) (kp : Int) (sv : Int) (pn : Int) (rf : Int) (tl : Int) (s : Int → Int) (sn : Int → Int)  : MM (S := Unit) l yX7_save wsX7_save rm_X7_save D vwCl [.ref m0] [(m0, .inr (6, [.ref ms, .ref mh, .int (iJ (kp)), .ref mn, .int (iJ (sv)), .ref mp, .int (iJ (pn)), .int (iJ (rf)), .ref ml, .ref mm, .ref md, .ref mw, .ref mt, .int (iJ (tl)), .ref mb, .ref mi, .ref mg])), (ms, cJ cI 34 (s)), (mn, cJ cI 34 (sn))] [(cI, .int)] (fun (_ : Unit) => s 0) (fun (_ : Unit) => True) (fun (_ : Unit) => [(m0, .inr (6, [.ref ms, .ref mh, .int (iJ (kp)), .ref mn, .int (iJ (1)), .ref mp, .int (iJ (pn)), .int (iJ (rf)), .ref ml, .ref mm, .ref md, .ref mw, .ref mt, .int (iJ (tl)), .ref mb, .ref mi, .ref mg])), (ms, cJ cI 34 (s)), (mn, cJ cI 34 (cpS sn s))]) := by
  refine MM.mk (cc := cX7_save) (maxL := 2) (ret := (some .int)) (by decide) rfl (Nat.le_of_ble_eq_true rfl) rfl RX7 rfl ?_
  intro p_ e_ s_ m_ ar_ bw_ mt_ cd_ B_ Q_ hA E hr hQ
  refine r_iconst E 0 rfl dX7_save_0 ?_
  refine r_istore_n E [(1, .int (iJ (0))), (0, .ref m0)] dX7_save_1 rfl (by decide) rfl ?_
  have loop_2 : ∀ (N : Nat) (k : Int) (G : Int → Int), (0 ≤ k ∧ k ≤ 34) → (∀ j : Int, G j = if 0 ≤ j ∧ j < k then s j else sn j) → (34 - k).toNat < N → GG p_ l e_ rm_X7_save s_ m_ ar_ bw_ mt_ cd_ D vwCl B_ B_ s_.heap 2 0 0 Q_ [(m0, .inr (6, [.ref ms, .ref mh, .int (iJ (kp)), .ref mn, .int (iJ (sv)), .ref mp, .int (iJ (pn)), .int (iJ (rf)), .ref ml, .ref mm, .ref md, .ref mw, .ref mt, .int (iJ (tl)), .ref mb, .ref mi, .ref mg])), (ms, cJ cI 34 (s)), (mn, cJ cI 34 (G))] [(0, .ref m0), (1, .int (iJ (k)))] 2 [] := by
    intro N; induction N with
    | zero => intro k G hk hG hN; exact absurd hN (Nat.not_lt_zero _)
    | succ N ih2 =>
      intro k G hk hG hN
      refine r_iload_n E 1 dX7_save_2 rfl rfl ?_
      refine r_bipush E 34 rfl dX7_save_3 ?_
      refine r_icmp_ge E 26 dX7_save_5 (by decide) ⟨by omega, by omega⟩ ⟨by omega, by omega⟩ (fun c_5 => ?_) (fun c_5 => ?_)
      · refine r_aload_n E 0 dX7_save_26 rfl rfl ?_
        refine r_iconst E 1 rfl dX7_save_27 ?_
        refine r_put E (ty := .boolean) 6 0 4 tyX7 tyX7_ok nmX7 dX7_save_28 in_X7_save_X7 lk_X7_save_189 rfl rfl (by decide) rfl (by decide +kernel) (narZ (Or.inr rfl)) rfl (Nat.le_of_ble_eq_true rfl) [(m0, .inr (6, [.ref ms, .ref mh, .int (iJ (kp)), .ref mn, .int (iJ (1)), .ref mp, .int (iJ (pn)), .int (iJ (rf)), .ref ml, .ref mm, .ref md, .ref mw, .ref mt, .int (iJ (tl)), .ref mb, .ref mi, .ref mg])), (ms, cJ cI 34 (s)), (mn, cJ cI 34 (G))] rfl ?_
        refine r_aload_n E 0 dX7_save_31 rfl rfl ?_
        refine r_get E 6 0 0 dX7_save_32 in_X7_save_X7 lk_X7_save_7 rfl rfl (by decide) rfl ?_
        refine r_iconst E 0 rfl dX7_save_35 ?_
        refine r_iald E (i := 0) 1 0 dX7_save_36 rfl rfl (by decide) ⟨by omega, by omega⟩ ?_
        exact r_retM E () hr dX7_save_37 rfl trivial (by
              have ek : k = 34 := by omega
              have e : G = cpS sn s := by funext j; rw [hG, ek]; rfl
              rw [e]) hQ
      · refine r_aload_n E 0 dX7_save_8 rfl rfl ?_
        refine r_get E 6 0 3 dX7_save_9 in_X7_save_X7 lk_X7_save_16 rfl rfl (by decide) rfl ?_
        refine r_iload_n E 1 dX7_save_12 rfl rfl ?_
        refine r_aload_n E 0 dX7_save_13 rfl rfl ?_
        refine r_get E 6 0 0 dX7_save_14 in_X7_save_X7 lk_X7_save_7 rfl rfl (by decide) rfl ?_
        refine r_iload_n E 1 dX7_save_17 rfl rfl ?_
        refine r_iald E (i := k) 1 0 dX7_save_18 rfl rfl (by decide) ⟨by omega, by omega⟩ ?_
        refine r_iast E (i := k) 2 0 dX7_save_19 rfl rfl (by decide) ⟨by omega, by omega⟩ [(m0, .inr (6, [.ref ms, .ref mh, .int (iJ (kp)), .ref mn, .int (iJ (sv)), .ref mp, .int (iJ (pn)), .int (iJ (rf)), .ref ml, .ref mm, .ref md, .ref mw, .ref mt, .int (iJ (tl)), .ref mb, .ref mi, .ref mg])), (ms, cJ cI 34 (s)), (mn, cJ cI 34 (uJ G k (s k)))] rfl ?_
        refine r_iinc E (k := 1) [(1, .int (iJ ((k + 1)))), (0, .ref m0)] dX7_save_20 rfl (by decide) rfl ?_
        refine r_goto E 2 dX7_save_23 (by decide) ?_
        refine r_lv [1, 0] [(0, .ref m0), (1, .int (iJ ((k + 1))))] rfl ?_
        exact ih2 (k + 1) (uJ G k (s k)) ⟨by omega, by omega⟩ (fun j => by
              by_cases q0 : j = k
              · subst q0; rw [uJ_s, if_pos (by omega)]
              · rw [uJ_n q0, hG]; by_cases q2 : 0 ≤ j ∧ j < k
                · rw [if_pos q2, if_pos (by omega)]
                · rw [if_neg q2, if_neg (by omega)]) (by omega)
  refine r_lv [1, 0] [(0, .ref m0), (1, .int (iJ (0)))] rfl ?_
  exact loop_2 _ 0 sn ⟨by omega, by omega⟩ (fun j => by rw [if_neg (by omega)]) (Nat.lt_succ_self _)
theorem kf_X7_restore : KF yX7_restore 0 wsX7_restore cX7_restore 2 (some .int) := ⟨rfl, by decide +kernel, by decide +kernel, by decide +kernel⟩
def rm_X7_restore : Room := { frames := 1, cells := 0, slots := 0, locals := 21 }
set_option maxRecDepth 20000 in
theorem in_X7_restore_X7 : ∀ w ∈ u_ws RX7 TX7 17, w ∈ wsX7_restore := by decide +kernel
set_option maxRecDepth 20000 in
theorem lk_X7_restore_189 : Cond.fieldLink RX7 189 (TX7 4).1 (TX7 4).2.1 (TX7 4).2.2.1 ∈ wsX7_restore := by decide +kernel
set_option maxHeartbeats 1000000 in
set_option maxRecDepth 100000 in
theorem c_X7_restoreNo (l : Launch) (D : va_G) (m0 : Nat) (ms : Nat) (mh : Nat) (mn : Nat) (mp : Nat) (ml : Nat) (mm : Nat) (md : Nat) (mw : Nat) (mt : Nat) (mb : Nat) (mi : Nat) (mg : Nat) (cI : ClassId) (kp : Int) (sv : Int) (pn : Int) (rf : Int) (tl : Int) (hx : sv = 0) : MP l yX7_restore wsX7_restore rm_X7_restore D vwCl [.ref m0] [(m0, .inr (6, [.ref ms, .ref mh, .int (iJ (kp)), .ref mn, .int (iJ (sv)), .ref mp, .int (iJ (pn)), .int (iJ (rf)), .ref ml, .ref mm, .ref md, .ref mw, .ref mt, .int (iJ (tl)), .ref mb, .ref mi, .ref mg]))] [] (-2) := by
  refine MP.mk (cc := cX7_restore) (maxL := 2) (ret := (some .int)) (by decide) rfl (Nat.le_of_ble_eq_true rfl) rfl RX7 rfl ?_
  intro p_ e_ s_ m_ ar_ bw_ mt_ cd_ Q_ E hr hQ
  refine r_aload_n E 0 dX7_restore_0 rfl rfl ?_
  refine r_get E 6 0 4 dX7_restore_1 in_X7_restore_X7 lk_X7_restore_189 rfl rfl (by decide) rfl ?_
  refine r_if_ne E 10 dX7_restore_4 (by decide) ⟨by omega, by omega⟩ (fun c_4 => absurd c_4 (by omega)) (fun c_4 => ?_)
  refine r_bipush E (-2) rfl dX7_restore_7 ?_
  exact r_retP E hr dX7_restore_9 rfl hQ
set_option maxRecDepth 20000 in
theorem lk_X7_restore_7 : Cond.fieldLink RX7 7 (TX7 0).1 (TX7 0).2.1 (TX7 0).2.2.1 ∈ wsX7_restore := by decide +kernel
set_option maxRecDepth 20000 in
theorem lk_X7_restore_16 : Cond.fieldLink RX7 16 (TX7 3).1 (TX7 3).2.1 (TX7 3).2.2.1 ∈ wsX7_restore := by decide +kernel
set_option maxHeartbeats 1000000 in
set_option maxRecDepth 100000 in
theorem c_X7_restore (l : Launch) (D : va_G) (m0 : Nat) (ms : Nat) (mh : Nat) (mn : Nat) (mp : Nat) (ml : Nat) (mm : Nat) (md : Nat) (mw : Nat) (mt : Nat) (mb : Nat) (mi : Nat) (mg : Nat) (cI : ClassId) (kp : Int) (sv : Int) (pn : Int) (rf : Int) (tl : Int) (s : Int → Int) (h : Int → Int) (sn : Int → Int) (hkp : 0 ≤ kp ∧ kp ≤ 4) (hx : sv = 1) : MM (S := Unit) l yX7_restore wsX7_restore rm_X7_restore D vwCl [.ref m0] [(m0, .inr (6, [.ref ms, .ref mh, .int (iJ (kp)), .ref mn, .int (iJ (sv)), .ref mp, .int (iJ (pn)), .int (iJ (rf)), .ref ml, .ref mm, .ref md, .ref mw, .ref mt, .int (iJ (tl)), .ref mb, .ref mi, .ref mg])), (ms, cJ cI 34 (s)), (mh, cJ cI 136 (h)), (mn, cJ cI 34 (sn))] [(cI, .int)] (fun (_ : Unit) => sn 0) (fun (_ : Unit) => True) (fun (_ : Unit) => [(m0, .inr (6, [.ref ms, .ref mh, .int (iJ (rcK kp)), .ref mn, .int (iJ (sv)), .ref mp, .int (iJ (pn)), .int (iJ (rf)), .ref ml, .ref mm, .ref md, .ref mw, .ref mt, .int (iJ (tl)), .ref mb, .ref mi, .ref mg])), (ms, cJ cI 34 (cpS s sn)), (mh, cJ cI 136 (rcH s h kp)), (mn, cJ cI 34 (sn))]) := by
  refine MM.mk (cc := cX7_restore) (maxL := 2) (ret := (some .int)) (by decide) rfl (Nat.le_of_ble_eq_true rfl) rfl RX7 rfl ?_
  intro p_ e_ s_ m_ ar_ bw_ mt_ cd_ B_ Q_ hA E hr hQ
  refine r_aload_n E 0 dX7_restore_0 rfl rfl ?_
  refine r_get E 6 0 4 dX7_restore_1 in_X7_restore_X7 lk_X7_restore_189 rfl rfl (by decide) rfl ?_
  refine r_if_ne E 10 dX7_restore_4 (by decide) ⟨by omega, by omega⟩ (fun c_4 => ?_) (fun c_4 => absurd c_4 (by omega))
  refine r_aload_n E 0 dX7_restore_10 rfl rfl ?_
  refine r_vV E (st := []) (c_X7_record l D m0 ms mh mn mp ml mm md mw mt mb mi mg cI kp sv pn rf tl s h (by first | assumption | omega | exact ⟨by omega, by omega⟩)) gX7_restore_X7_record 0 kf_X7_record ⟨rfl, rfl⟩ ⟨by decide, by decide⟩ dX7_restore_11 rfl 0 rfl rfl rfl rfl ⟨Nat.zero_le _, Nat.zero_le _⟩ [0, 1, 2] rfl (by decide) [0] rfl (Nat.le_of_ble_eq_true rfl) [(mn, cJ cI 34 (sn))] [3] rfl (by decide) (by decide) hA [1, 2, 3, 0] (by decide) (fun (_ : Unit) => [(m0, .inr (6, [.ref ms, .ref mh, .int (iJ (rcK kp)), .ref mn, .int (iJ (sv)), .ref mp, .int (iJ (pn)), .int (iJ (rf)), .ref ml, .ref mm, .ref md, .ref mw, .ref mt, .int (iJ (tl)), .ref mb, .ref mi, .ref mg])), (ms, cJ cI 34 (s)), (mh, cJ cI 136 (rcH s h kp)), (mn, cJ cI 34 (sn))]) (fun _ => rfl) ?_
  rintro ⟨⟩ hp_1
  refine r_iconst E 0 rfl dX7_restore_14 ?_
  refine r_istore_n E [(1, .int (iJ (0))), (0, .ref m0)] dX7_restore_15 rfl (by decide) rfl ?_
  have loop_16 : ∀ (N : Nat) (k : Int) (G : Int → Int), (0 ≤ k ∧ k ≤ 34) → (∀ j : Int, G j = if 0 ≤ j ∧ j < k then sn j else s j) → (34 - k).toNat < N → GG p_ l e_ rm_X7_restore s_ m_ ar_ bw_ mt_ cd_ D vwCl B_ B_ s_.heap 2 0 0 Q_ [(m0, .inr (6, [.ref ms, .ref mh, .int (iJ (rcK kp)), .ref mn, .int (iJ (sv)), .ref mp, .int (iJ (pn)), .int (iJ (rf)), .ref ml, .ref mm, .ref md, .ref mw, .ref mt, .int (iJ (tl)), .ref mb, .ref mi, .ref mg])), (ms, cJ cI 34 (G)), (mh, cJ cI 136 (rcH s h kp)), (mn, cJ cI 34 (sn))] [(0, .ref m0), (1, .int (iJ (k)))] 16 [] := by
    intro N; induction N with
    | zero => intro k G hk hG hN; exact absurd hN (Nat.not_lt_zero _)
    | succ N ih16 =>
      intro k G hk hG hN
      refine r_iload_n E 1 dX7_restore_16 rfl rfl ?_
      refine r_bipush E 34 rfl dX7_restore_17 ?_
      refine r_icmp_ge E 40 dX7_restore_19 (by decide) ⟨by omega, by omega⟩ ⟨by omega, by omega⟩ (fun c_19 => ?_) (fun c_19 => ?_)
      · refine r_aload_n E 0 dX7_restore_40 rfl rfl ?_
        refine r_get E 6 0 0 dX7_restore_41 in_X7_restore_X7 lk_X7_restore_7 rfl rfl (by decide) rfl ?_
        refine r_iconst E 0 rfl dX7_restore_44 ?_
        refine r_iald E (i := 0) 1 0 dX7_restore_45 rfl rfl (by decide) ⟨by omega, by omega⟩ ?_
        exact r_retM E () hr dX7_restore_46 (by rw [hG, if_pos (by omega)]) trivial (by
              have ek : k = 34 := by omega
              have e : G = cpS s sn := by funext j; rw [hG, ek]; rfl
              rw [e]) hQ
      · refine r_aload_n E 0 dX7_restore_22 rfl rfl ?_
        refine r_get E 6 0 0 dX7_restore_23 in_X7_restore_X7 lk_X7_restore_7 rfl rfl (by decide) rfl ?_
        refine r_iload_n E 1 dX7_restore_26 rfl rfl ?_
        refine r_aload_n E 0 dX7_restore_27 rfl rfl ?_
        refine r_get E 6 0 3 dX7_restore_28 in_X7_restore_X7 lk_X7_restore_16 rfl rfl (by decide) rfl ?_
        refine r_iload_n E 1 dX7_restore_31 rfl rfl ?_
        refine r_iald E (i := k) 3 0 dX7_restore_32 rfl rfl (by decide) ⟨by omega, by omega⟩ ?_
        refine r_iast E (i := k) 1 0 dX7_restore_33 rfl rfl (by decide) ⟨by omega, by omega⟩ [(m0, .inr (6, [.ref ms, .ref mh, .int (iJ (rcK kp)), .ref mn, .int (iJ (sv)), .ref mp, .int (iJ (pn)), .int (iJ (rf)), .ref ml, .ref mm, .ref md, .ref mw, .ref mt, .int (iJ (tl)), .ref mb, .ref mi, .ref mg])), (ms, cJ cI 34 (uJ G k (sn k))), (mh, cJ cI 136 (rcH s h kp)), (mn, cJ cI 34 (sn))] rfl ?_
        refine r_iinc E (k := 1) [(1, .int (iJ ((k + 1)))), (0, .ref m0)] dX7_restore_34 rfl (by decide) rfl ?_
        refine r_goto E 16 dX7_restore_37 (by decide) ?_
        refine r_lv [1, 0] [(0, .ref m0), (1, .int (iJ ((k + 1))))] rfl ?_
        exact ih16 (k + 1) (uJ G k (sn k)) ⟨by omega, by omega⟩ (fun j => by
              by_cases q0 : j = k
              · subst q0; rw [uJ_s, if_pos (by omega)]
              · rw [uJ_n q0, hG]; by_cases q2 : 0 ≤ j ∧ j < k
                · rw [if_pos q2, if_pos (by omega)]
                · rw [if_neg q2, if_neg (by omega)]) (by omega)
  refine r_lv [1, 0] [(0, .ref m0), (1, .int (iJ (0)))] rfl ?_
  exact loop_16 _ 0 s ⟨by omega, by omega⟩ (fun j => by rw [if_neg (by omega)]) (Nat.lt_succ_self _)
