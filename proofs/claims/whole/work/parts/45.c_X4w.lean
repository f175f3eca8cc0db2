theorem kf_X4_open : KF yX4_open 3 wsX4_open cX4_open 4 none := ⟨rfl, by decide +kernel, by decide +kernel, by decide +kernel⟩
def rm_X4_open : Room := { frames := 0, cells := 0, slots := 0, locals := 0 }
set_option maxRecDepth 20000 in
theorem in_X4_open_X4 : ∀ w ∈ u_ws RX4 TX4 2, w ∈ wsX4_open := by decide +kernel
set_option maxRecDepth 20000 in
theorem lk_X4_open_9 : Cond.fieldLink RX4 9 (TX4 0).1 (TX4 0).2.1 (TX4 0).2.2.1 ∈ wsX4_open := by decide +kernel
set_option maxRecDepth 20000 in
theorem lk_X4_open_15 : Cond.fieldLink RX4 15 (TX4 1).1 (TX4 1).2.1 (TX4 1).2.2.1 ∈ wsX4_open := by decide +kernel
set_option maxHeartbeats 1000000 in
set_option maxRecDepth 100000 in
theorem c_X4_open (l : Launch) (D : va_G) (r0 : Nat) (r1 : Nat) (r2 : Nat) (S : Int → Int) (X : Int → Int) (cI : ClassId) (d : Int) (a : Int) (t : Int) (hd : 0 ≤ d ∧ d < 60) : MV (S := Unit) l yX4_open wsX4_open rm_X4_open D vwCl [.ref r0, .int (iJ (d)), .int (iJ (a)), .int (iJ (t))] [(r0, .inr (4, [.ref r1, .ref r2])), (r1, cJ cI 60 (S)), (r2, cJ cI 60 (X))] [(cI, .int)] (fun (_ : Unit) => True) (fun (_ : Unit) => [(r0, .inr (4, [.ref r1, .ref r2])), (r1, cJ cI 60 (uJ S d a)), (r2, cJ cI 60 (uJ X d t))]) := by
  refine MV.mk (cc := cX4_open) (maxL := 4) (ret := none) (by decide) rfl (Nat.le_of_ble_eq_true rfl) rfl RX4 rfl ?_
  intro p_ e_ s_ m_ ar_ bw_ mt_ cd_ B_ Q_ hA E hr hQ
  refine r_iload_n E 1 dX4_open_0 rfl rfl ?_
  refine r_if_lt E 36 dX4_open_1 (by decide) ⟨by omega, by omega⟩ (fun c_1 => absurd c_1 (by omega)) (fun c_1 => ?_)
  refine r_iload_n E 1 dX4_open_4 rfl rfl ?_
  refine r_aload_n E 0 dX4_open_5 rfl rfl ?_
  refine r_get E 4 0 0 dX4_open_6 in_X4_open_X4 lk_X4_open_9 rfl rfl (by decide) rfl ?_
  refine r_alen E 1 0 60 dX4_open_9 rfl rfl rfl ?_
  refine r_top (b := 60) (by rfl) ?_
  refine r_icmp_ge E 36 dX4_open_10 (by decide) ⟨by omega, by omega⟩ ⟨by omega, by omega⟩ (fun c_10 => absurd c_10 (by omega)) (fun c_10 => ?_)
  refine r_iload_n E 1 dX4_open_13 rfl rfl ?_
  refine r_aload_n E 0 dX4_open_14 rfl rfl ?_
  refine r_get E 4 0 1 dX4_open_15 in_X4_open_X4 lk_X4_open_15 rfl rfl (by decide) rfl ?_
  refine r_alen E 2 0 60 dX4_open_18 rfl rfl rfl ?_
  refine r_top (b := 60) (by rfl) ?_
  refine r_icmp_ge E 36 dX4_open_19 (by decide) ⟨by omega, by omega⟩ ⟨by omega, by omega⟩ (fun c_19 => absurd c_19 (by omega)) (fun c_19 => ?_)
  refine r_aload_n E 0 dX4_open_22 rfl rfl ?_
  refine r_get E 4 0 0 dX4_open_23 in_X4_open_X4 lk_X4_open_9 rfl rfl (by decide) rfl ?_
  refine r_iload_n E 1 dX4_open_26 rfl rfl ?_
  refine r_iload_n E 2 dX4_open_27 rfl rfl ?_
  refine r_iast E (i := d) 1 0 dX4_open_28 rfl rfl (by decide) ⟨by omega, by omega⟩ [(r0, .inr (4, [.ref r1, .ref r2])), (r1, cJ cI 60 (uJ S d a)), (r2, cJ cI 60 (X))] rfl ?_
  refine r_aload_n E 0 dX4_open_29 rfl rfl ?_
  refine r_get E 4 0 1 dX4_open_30 in_X4_open_X4 lk_X4_open_15 rfl rfl (by decide) rfl ?_
  refine r_iload_n E 1 dX4_open_33 rfl rfl ?_
  refine r_iload_n E 3 dX4_open_34 rfl rfl ?_
  refine r_iast E (i := d) 2 0 dX4_open_35 rfl rfl (by decide) ⟨by omega, by omega⟩ [(r0, .inr (4, [.ref r1, .ref r2])), (r1, cJ cI 60 (uJ S d a)), (r2, cJ cI 60 (uJ X d t))] rfl ?_
  exact r_retMV E () hr dX4_open_36 trivial rfl hQ
theorem kf_X4_makeLastDouble : KF yX4_makeLastDouble 1 wsX4_makeLastDouble cX4_makeLastDouble 2 none := ⟨rfl, by decide +kernel, by decide +kernel, by decide +kernel⟩
def rm_X4_makeLastDouble : Room := { frames := 2, cells := 0, slots := 0, locals := 44 }
set_option maxRecDepth 20000 in
theorem in_X4_makeLastDouble_X2 : ∀ w ∈ u_ws RX2 TX2 3, w ∈ wsX4_makeLastDouble := by decide +kernel
set_option maxHeartbeats 1000000 in
set_option maxRecDepth 100000 in
theorem c_X4_makeLastDouble (l : Launch) (D : va_G) (h0 : Nat) (h1 : Nat) (cI : ClassId) (g : Int → Int) (n : Int) (q : Int) (hn : 0 ≤ n ∧ n ≤ 32) (hg : ∀ j : Int, 0 ≤ j → j < n → 0 ≤ g j ∧ g j < 64) (h1n : 1 ≤ n) : MV (S := Unit) l yX4_makeLastDouble wsX4_makeLastDouble rm_X4_makeLastDouble D vwCl [.ref h0] [(h0, .inr (2, [.ref h1, .int (iJ (n)), .int (iJ (q))])), (h1, cJ cI 32 (g))] [(cI, .int)] (fun (_ : Unit) => True) (fun (_ : Unit) => [(h0, .inr (2, [.ref h1, .int (iJ (n)), .int (iJ (q))])), (h1, cJ cI 32 (uJ g (n - 1) (wOr (g (n - 1)))))]) := by
  refine MV.mk (cc := cX4_makeLastDouble) (maxL := 2) (ret := none) (by decide) rfl (Nat.le_of_ble_eq_true rfl) rfl RX4 rfl ?_
  intro p_ e_ s_ m_ ar_ bw_ mt_ cd_ B_ Q_ hA E hr hQ
  refine r_aload_n E 0 dX4_makeLastDouble_0 rfl rfl ?_
  refine r_getN E 2 0 1 dX4_makeLastDouble_1 in_X4_makeLastDouble_X2 (by decide) rfl rfl rfl (by decide) rfl ?_
  refine r_iconst E 1 rfl dX4_makeLastDouble_4 ?_
  refine r_isub E dX4_makeLastDouble_5 ?_
  refine r_istore_n E [(1, .int (iJ ((n - 1)))), (0, .ref h0)] dX4_makeLastDouble_6 rfl (by decide) rfl ?_
  refine r_aload_n E 1 dX4_makeLastDouble_7 rfl rfl ?_
  refine r_iload_n E 0 dX4_makeLastDouble_8 rfl rfl ?_
  refine r_aload_n E 1 dX4_makeLastDouble_9 rfl rfl ?_
  refine r_iload_n E 0 dX4_makeLastDouble_10 rfl rfl ?_
  refine r_vP E (st := [.int (iJ ((n - 1))), .ref h0]) (c_X2_at l D h0 h1 cI g n q (n - 1) (by first | assumption | omega | exact ⟨by omega, by omega⟩) (by first | assumption | omega | exact ⟨by omega, by omega⟩)) gX4_makeLastDouble_X2_at 1 kf_X2_at ⟨rfl, rfl⟩ ⟨by decide, by decide⟩ dX4_makeLastDouble_11 rfl 0 rfl rfl rfl rfl ⟨Nat.zero_le _, Nat.zero_le _⟩ [0, 1] rfl (by decide) [0] rfl (Nat.le_of_ble_eq_true rfl) ?_
  refine r_top (b := (g (n - 1))) (pAt_t ⟨by omega, by omega⟩) ?_
  refine r_iconst E 3 rfl dX4_makeLastDouble_14 ?_
  refine r_sP E (st := [.int (iJ ((n - 1))), .ref h0]) (c_X5_withOrnament l D (g (n - 1)) 3 (hg (n - 1) (by omega) (by omega)) ⟨by omega, by omega⟩) gX4_makeLastDouble_X5_withOrnament 2 kf_X5_withOrnament ⟨rfl, rfl⟩ ⟨by decide, by decide⟩ dX4_makeLastDouble_15 rfl rfl ⟨Nat.zero_le _, Nat.zero_le _⟩ [] rfl (by decide) [] rfl (Nat.le_of_ble_eq_true rfl) ?_
  refine r_top (b := wOr (g (n - 1))) rfl ?_
  refine r_vV E (st := []) (c_X2_change l D h0 h1 cI g n q (n - 1) (wOr (g (n - 1))) (by first | assumption | omega | exact ⟨by omega, by omega⟩) (by first | assumption | omega | exact ⟨by omega, by omega⟩)) gX4_makeLastDouble_X2_change 2 kf_X2_change ⟨rfl, rfl⟩ ⟨by decide, by decide⟩ dX4_makeLastDouble_18 rfl 0 rfl rfl rfl rfl ⟨Nat.zero_le _, Nat.zero_le _⟩ [0, 1] rfl (by decide) [0] rfl (Nat.le_of_ble_eq_true rfl) [] [] rfl (by decide) (by decide) hA [0, 1] (by decide) (fun (_ : Unit) => [(h0, .inr (2, [.ref h1, .int (iJ (n)), .int (iJ (q))])), (h1, cJ cI 32 (uJ g (n - 1) (wOr (g (n - 1)))))]) (fun _ => rfl) ?_
  rintro ⟨⟩ hp_1
  exact r_retMV E () hr dX4_makeLastDouble_21 trivial rfl hQ
theorem kf_X4_repeat : KF yX4_repeat 2 wsX4_repeat cX4_repeat 6 (some .boolean) := ⟨rfl, by decide +kernel, by decide +kernel, by decide +kernel⟩
def rm_X4_repeat : Room := { frames := 2, cells := 0, slots := 0, locals := 42 }
set_option maxRecDepth 20000 in
theorem in_X4_repeat_X4 : ∀ w ∈ u_ws RX4 TX4 2, w ∈ wsX4_repeat := by decide +kernel
set_option maxRecDepth 20000 in
theorem lk_X4_repeat_9 : Cond.fieldLink RX4 9 (TX4 0).1 (TX4 0).2.1 (TX4 0).2.2.1 ∈ wsX4_repeat := by decide +kernel
set_option maxRecDepth 20000 in
theorem lk_X4_repeat_15 : Cond.fieldLink RX4 15 (TX4 1).1 (TX4 1).2.1 (TX4 1).2.2.1 ∈ wsX4_repeat := by decide +kernel
set_option maxRecDepth 20000 in
theorem in_X4_repeat_X2 : ∀ w ∈ u_ws RX2 TX2 3, w ∈ wsX4_repeat := by decide +kernel
set_option maxHeartbeats 1000000 in
set_option maxRecDepth 100000 in
theorem c_X4_repeat (l : Launch) (D : va_G) (r0 : Nat) (r1 : Nat) (r2 : Nat) (S : Int → Int) (X : Int → Int) (h0 : Nat) (h1 : Nat) (cI : ClassId) (g : Int → Int) (n : Int) (q : Int) (d : Int) (hci : cIn (g, n)) (hd : 0 ≤ d ∧ d < 60) (hS : 0 ≤ S d ∧ S d ≤ 32) (hX : 2 ≤ X d ∧ X d ≤ 9) : MM (S := Unit) l yX4_repeat wsX4_repeat rm_X4_repeat D vwCl [.ref r0, .int (iJ (d)), .ref h0] [(r0, .inr (4, [.ref r1, .ref r2])), (r1, cJ cI 60 (S)), (r2, cJ cI 60 (X)), (h0, .inr (2, [.ref h1, .int (iJ (n)), .int (iJ (q))])), (h1, cJ cI 32 (g))] [(cI, .int)] (fun (_ : Unit) => (rcO (S d) n (X d - 1).toNat (g, n)).1) (fun (_ : Unit) => True) (fun (_ : Unit) => [(r0, .inr (4, [.ref r1, .ref r2])), (r1, cJ cI 60 (S)), (r2, cJ cI 60 (X)), (h0, .inr (2, [.ref h1, .int (iJ ((rcO (S d) n (X d - 1).toNat (g, n)).2.2)), .int (iJ (q))])), (h1, cJ cI 32 ((rcO (S d) n (X d - 1).toNat (g, n)).2.1))]) := by
  refine MM.mk (cc := cX4_repeat) (maxL := 6) (ret := (some .boolean)) (by decide) rfl (Nat.le_of_ble_eq_true rfl) rfl RX4 rfl ?_
  intro p_ e_ s_ m_ ar_ bw_ mt_ cd_ B_ Q_ hA E hr hQ
  have hn : 0 ≤ n ∧ n ≤ 32 := hci.1
  refine r_iload_n E 1 dX4_repeat_0 rfl rfl ?_
  refine r_if_lt E 22 dX4_repeat_1 (by decide) ⟨by omega, by omega⟩ (fun c_1 => absurd c_1 (by omega)) (fun c_1 => ?_)
  refine r_iload_n E 1 dX4_repeat_4 rfl rfl ?_
  refine r_aload_n E 0 dX4_repeat_5 rfl rfl ?_
  refine r_get E 4 0 0 dX4_repeat_6 in_X4_repeat_X4 lk_X4_repeat_9 rfl rfl (by decide) rfl ?_
  refine r_alen E 1 0 60 dX4_repeat_9 rfl rfl rfl ?_
  refine r_top (b := 60) (by rfl) ?_
  refine r_icmp_ge E 22 dX4_repeat_10 (by decide) ⟨by omega, by omega⟩ ⟨by omega, by omega⟩ (fun c_10 => absurd c_10 (by omega)) (fun c_10 => ?_)
  refine r_iload_n E 1 dX4_repeat_13 rfl rfl ?_
  refine r_aload_n E 0 dX4_repeat_14 rfl rfl ?_
  refine r_get E 4 0 1 dX4_repeat_15 in_X4_repeat_X4 lk_X4_repeat_15 rfl rfl (by decide) rfl ?_
  refine r_alen E 2 0 60 dX4_repeat_18 rfl rfl rfl ?_
  refine r_top (b := 60) (by rfl) ?_
  refine r_icmp_lt E 24 dX4_repeat_19 (by decide) ⟨by omega, by omega⟩ ⟨by omega, by omega⟩ (fun c_19 => ?_) (fun c_19 => absurd c_19 (by omega))
  refine r_aload_n E 2 dX4_repeat_24 rfl rfl ?_
  refine r_getN E 2 3 1 dX4_repeat_25 in_X4_repeat_X2 (by decide) rfl rfl rfl (by decide) rfl ?_
  refine r_istore_n E [(3, .int (iJ (n))), (0, .ref r0), (1, .int (iJ (d))), (2, .ref h0)] dX4_repeat_28 rfl (by decide) rfl ?_
  refine r_iconst E 1 rfl dX4_repeat_29 ?_
  refine r_istore E [(4, .int (iJ (1))), (3, .int (iJ (n))), (0, .ref r0), (1, .int (iJ (d))), (2, .ref h0)] dX4_repeat_30 (by decide) rfl ?_
  have loop_32 : ∀ (N : Nat) (j : Int) (G : Int → Int) (N1 : Int), (1 ≤ j ∧ j ≤ X d) → (0 ≤ N1 ∧ N1 ≤ 32) → (cIn (G, N1)) → (rcO (S d) n (X d - j).toNat (G, N1) = rcO (S d) n (X d - 1).toNat (g, n)) → (X d - j).toNat < N → GG p_ l e_ rm_X4_repeat s_ m_ ar_ bw_ mt_ cd_ D vwCl B_ B_ s_.heap 6 0 0 Q_ [(r0, .inr (4, [.ref r1, .ref r2])), (r1, cJ cI 60 (S)), (r2, cJ cI 60 (X)), (h0, .inr (2, [.ref h1, .int (iJ (N1)), .int (iJ (q))])), (h1, cJ cI 32 (G))] [(0, .ref r0), (1, .int (iJ (d))), (2, .ref h0), (3, .int (iJ (n))), (4, .int (iJ (j)))] 32 [] := by
    intro N; induction N with
    | zero => intro j G N1 hj hN1 hc1 hU hN; exact absurd hN (Nat.not_lt_zero _)
    | succ N ih32 =>
      intro j G N1 hj hN1 hc1 hU hN
      refine r_iload E 4 dX4_repeat_32 rfl ?_
      refine r_aload_n E 0 dX4_repeat_34 rfl rfl ?_
      refine r_get E 4 0 1 dX4_repeat_35 in_X4_repeat_X4 lk_X4_repeat_15 rfl rfl (by decide) rfl ?_
      refine r_iload_n E 1 dX4_repeat_38 rfl rfl ?_
      refine r_iald E (i := d) 2 0 dX4_repeat_39 rfl rfl (by decide) ⟨by omega, by omega⟩ ?_
      refine r_icmp_ge E 84 dX4_repeat_40 (by decide) ⟨by omega, by omega⟩ ⟨by omega, by omega⟩ (fun c_40 => ?_) (fun c_40 => ?_)
      · refine r_iconst E 1 rfl dX4_repeat_84 ?_
        exact r_retMZ E () hr dX4_repeat_85 (by omega) (by
              have e2 : rcO (S d) n (X d - 1).toNat (g, n) = (1, (G, N1)) := by rw [← hU, show (X d - j).toNat = 0 by omega]; rfl
              rw [e2]) trivial (by
              have e2 : rcO (S d) n (X d - 1).toNat (g, n) = (1, (G, N1)) := by rw [← hU, show (X d - j).toNat = 0 by omega]; rfl
              rw [e2]) hQ
      · refine r_aload_n E 0 dX4_repeat_43 rfl rfl ?_
        refine r_get E 4 0 0 dX4_repeat_44 in_X4_repeat_X4 lk_X4_repeat_9 rfl rfl (by decide) rfl ?_
        refine r_iload_n E 1 dX4_repeat_47 rfl rfl ?_
        refine r_iald E (i := d) 1 0 dX4_repeat_48 rfl rfl (by decide) ⟨by omega, by omega⟩ ?_
        refine r_istore E [(5, .int (iJ (S d))), (0, .ref r0), (1, .int (iJ (d))), (2, .ref h0), (3, .int (iJ (n))), (4, .int (iJ (j)))] dX4_repeat_49 (by decide) rfl ?_
        have loop_51 : ∀ (N : Nat) (k : Int) (G2 : Int → Int) (N2 : Int), (S d ≤ k ∧ (k ≤ n ∨ k = S d)) → (0 ≤ N2 ∧ N2 ≤ 32) → (cIn (G2, N2)) → (rcI (n - k).toNat k (G2, N2) = rcI (n - S d).toNat (S d) (G, N1)) → (n - k).toNat < N → GG p_ l e_ rm_X4_repeat s_ m_ ar_ bw_ mt_ cd_ D vwCl B_ B_ s_.heap 6 0 0 Q_ [(r0, .inr (4, [.ref r1, .ref r2])), (r1, cJ cI 60 (S)), (r2, cJ cI 60 (X)), (h0, .inr (2, [.ref h1, .int (iJ (N2)), .int (iJ (q))])), (h1, cJ cI 32 (G2))] [(0, .ref r0), (1, .int (iJ (d))), (2, .ref h0), (3, .int (iJ (n))), (4, .int (iJ (j))), (5, .int (iJ (k)))] 51 [] := by
          intro N; induction N with
          | zero => intro k G2 N2 hk hN2 hc2 hI hN; exact absurd hN (Nat.not_lt_zero _)
          | succ N ih51 =>
            intro k G2 N2 hk hN2 hc2 hI hN
            refine r_iload E 5 dX4_repeat_51 rfl ?_
            refine r_iload_n E 3 dX4_repeat_53 rfl rfl ?_
            refine r_icmp_ge E 78 dX4_repeat_54 (by decide) ⟨by omega, by omega⟩ ⟨by omega, by omega⟩ (fun c_54 => ?_) (fun c_54 => ?_)
            · refine r_iinc E (k := 4) [(4, .int (iJ ((j + 1)))), (0, .ref r0), (1, .int (iJ (d))), (2, .ref h0), (3, .int (iJ (n))), (5, .int (iJ (k)))] dX4_repeat_78 rfl (by decide) rfl ?_
              refine r_goto E 32 dX4_repeat_81 (by decide) ?_
              refine r_lv [1, 2, 3, 4, 0] [(0, .ref r0), (1, .int (iJ (d))), (2, .ref h0), (3, .int (iJ (n))), (4, .int (iJ ((j + 1))))] rfl ?_
              exact ih32 (j + 1) G2 N2 ⟨by omega, by omega⟩ hN2 hc2 (by
                    have e : rcI (n - S d).toNat (S d) (G, N1) = (1, (G2, N2)) := by rw [← hI, show (n - k).toNat = 0 by omega]; rfl
                    rw [← hU]; refine Eq.trans ?_ (rcO_s _ (by omega)).symm; rw [e, if_pos rfl]) (by omega)
            · refine r_aload_n E 2 dX4_repeat_57 rfl rfl ?_
              refine r_aload_n E 2 dX4_repeat_58 rfl rfl ?_
              refine r_iload E 5 dX4_repeat_59 rfl ?_
              refine r_vP E (st := [.ref h0]) (c_X2_at l D h0 h1 cI G2 N2 q k (by first | assumption | omega | exact ⟨by omega, by omega⟩) (by first | assumption | omega | exact ⟨by omega, by omega⟩)) gX4_repeat_X2_at 1 kf_X2_at ⟨rfl, rfl⟩ ⟨by decide, by decide⟩ dX4_repeat_61 rfl 3 rfl rfl rfl rfl ⟨Nat.zero_le _, Nat.zero_le _⟩ [3, 4] rfl (by decide) [0] rfl (Nat.le_of_ble_eq_true rfl) ?_
              by_cases hn32 : N2 < 32
              · refine r_vM E (st := []) (c_X2_add l D h0 h1 cI G2 N2 q (pAt G2 N2 k) (by first | assumption | omega | exact ⟨by omega, by omega⟩) (by first | assumption | omega | exact ⟨by omega, by omega⟩)) gX4_repeat_X2_add 1 kf_X2_add ⟨rfl, rfl⟩ ⟨by decide, by decide⟩ dX4_repeat_64 rfl 3 rfl rfl rfl rfl ⟨Nat.zero_le _, Nat.zero_le _⟩ [3, 4] rfl (by decide) [0] rfl (Nat.le_of_ble_eq_true rfl) [(r0, .inr (4, [.ref r1, .ref r2])), (r1, cJ cI 60 (S)), (r2, cJ cI 60 (X))] [0, 1, 2] rfl (by decide) (by decide) hA [0, 1, 2, 3, 4] (by decide) (fun (_ : Unit) => [(r0, .inr (4, [.ref r1, .ref r2])), (r1, cJ cI 60 (S)), (r2, cJ cI 60 (X)), (h0, .inr (2, [.ref h1, .int (iJ ((N2 + 1))), .int (iJ (q))])), (h1, cJ cI 32 (uJ G2 N2 (pAt G2 N2 k)))]) (fun _ => rfl) ?_
                rintro ⟨⟩ hp_1
                refine r_if_ne E 72 dX4_repeat_67 (by decide) ⟨by omega, by omega⟩ (fun c_67 => ?_) (fun c_67 => absurd c_67 (by omega))
                refine r_iinc E (k := 5) [(5, .int (iJ ((k + 1)))), (0, .ref r0), (1, .int (iJ (d))), (2, .ref h0), (3, .int (iJ (n))), (4, .int (iJ (j)))] dX4_repeat_72 rfl (by decide) rfl ?_
                refine r_goto E 51 dX4_repeat_75 (by decide) ?_
                refine r_lv [1, 2, 3, 4, 5, 0] [(0, .ref r0), (1, .int (iJ (d))), (2, .ref h0), (3, .int (iJ (n))), (4, .int (iJ (j))), (5, .int (iJ ((k + 1))))] rfl ?_
                exact ih51 (k + 1) (uJ G2 N2 (pAt G2 N2 k)) (N2 + 1) ⟨by omega, by omega⟩ ⟨by omega, by omega⟩ (cIn_ad hc2 (show N2 < 32 by omega) (pAt_in2 hc2 k)) (by rw [← hI]; exact ((rcI_s _ (by omega)).trans (if_pos (show N2 < 32 by omega))).symm) (by omega)
              refine r_vM E (st := []) (c_X2_addNo l D h0 h1 cI G2 N2 q (pAt G2 N2 k) (by first | assumption | omega | exact ⟨by omega, by omega⟩) (by first | assumption | omega | exact ⟨by omega, by omega⟩)) gX4_repeat_X2_add 1 kf_X2_add ⟨rfl, rfl⟩ ⟨by decide, by decide⟩ dX4_repeat_64 rfl 3 rfl rfl rfl rfl ⟨Nat.zero_le _, Nat.zero_le _⟩ [3, 4] rfl (by decide) [0] rfl (Nat.le_of_ble_eq_true rfl) [(r0, .inr (4, [.ref r1, .ref r2])), (r1, cJ cI 60 (S)), (r2, cJ cI 60 (X))] [0, 1, 2] rfl (by decide) (by decide) hA [0, 1, 2, 3, 4] (by decide) (fun (_ : Unit) => [(r0, .inr (4, [.ref r1, .ref r2])), (r1, cJ cI 60 (S)), (r2, cJ cI 60 (X)), (h0, .inr (2, [.ref h1, .int (iJ (N2)), .int (iJ (q))])), (h1, cJ cI 32 (G2))]) (fun _ => rfl) ?_
              rintro ⟨⟩ hp_2
              refine r_if_ne E 72 dX4_repeat_67 (by decide) ⟨by omega, by omega⟩ (fun c_67 => absurd c_67 (by omega)) (fun c_67 => ?_)
              refine r_iconst E 0 rfl dX4_repeat_70 ?_
              exact r_retMZ E () hr dX4_repeat_71 (by omega) (by
                    have e : rcI (n - S d).toNat (S d) (G, N1) = (0, (G2, N2)) := by rw [← hI]; exact (rcI_s _ (by omega)).trans (if_neg (show ¬ N2 < 32 by omega))
                    have e2 : rcO (S d) n (X d - 1).toNat (g, n) = (0, (G2, N2)) := by rw [← hU, rcO_s _ (by omega), e]; exact if_neg (by show ¬ (0 : Int) = 1; decide)
                    rw [e2]) trivial (by
                    have e : rcI (n - S d).toNat (S d) (G, N1) = (0, (G2, N2)) := by rw [← hI]; exact (rcI_s _ (by omega)).trans (if_neg (show ¬ N2 < 32 by omega))
                    have e2 : rcO (S d) n (X d - 1).toNat (g, n) = (0, (G2, N2)) := by rw [← hU, rcO_s _ (by omega), e]; exact if_neg (by show ¬ (0 : Int) = 1; decide)
                    rw [e2]) hQ
        refine r_lv [1, 2, 3, 4, 5, 0] [(0, .ref r0), (1, .int (iJ (d))), (2, .ref h0), (3, .int (iJ (n))), (4, .int (iJ (j))), (5, .int (iJ (S d)))] rfl ?_
        exact loop_51 _ (S d) G N1 ⟨by omega, by omega⟩ hN1 hc1 rfl (Nat.lt_succ_self _)
  refine r_lv [2, 3, 4, 1, 0] [(0, .ref r0), (1, .int (iJ (d))), (2, .ref h0), (3, .int (iJ (n))), (4, .int (iJ (1)))] rfl ?_
  exact loop_32 _ 1 g n ⟨by omega, by omega⟩ hn hci rfl (Nat.lt_succ_self _)
theorem kf_X4_write : KF yX4_write 2 wsX4_write cX4_write 9 (some .boolean) := ⟨rfl, by decide +kernel, by decide +kernel, by decide +kernel⟩
def rm_X4_write : Room := { frames := 3, cells := 0, slots := 0, locals := 67 }
set_option maxRecDepth 20000 in
theorem in_X4_write_X1 : ∀ w ∈ u_ws RX1 TX1 2, w ∈ wsX4_write := by decide +kernel
set_option maxRecDepth 20000 in
theorem in_X4_write_X2 : ∀ w ∈ u_ws RX2 TX2 3, w ∈ wsX4_write := by decide +kernel
set_option maxHeartbeats 1000000 in
set_option maxRecDepth 100000 in
theorem c_X4_write (l : Launch) (D : va_G) (r0 : Nat) (r1 : Nat) (r2 : Nat) (S : Int → Int) (X : Int → Int) (h0 : Nat) (h1 : Nat) (cI : ClassId) (g : Int → Int) (n : Int) (q : Int) (y0 : Nat) (y1 : Nat) (gp : Int → Int) (np : Int) (hci : cIn (g, n)) (hnp : 0 ≤ np ∧ np ≤ 60) (hgp : ∀ j : Int, 0 ≤ j → j < np → 33 ≤ gp j ∧ gp j ≤ 126) (hrf : rfN gp np.toNat 0 0 0 = -4) : MM (S := (Int → Int) × (Int → Int)) l yX4_write wsX4_write rm_X4_write D vwCl [.ref r0, .ref y0, .ref h0] [(r0, .inr (4, [.ref r1, .ref r2])), (r1, cJ cI 60 (S)), (r2, cJ cI 60 (X)), (h0, .inr (2, [.ref h1, .int (iJ (n)), .int (iJ (q))])), (h1, cJ cI 32 (g)), (y0, .inr (1, [.ref y1, .int (iJ (np))])), (y1, cJ cI 60 (gp))] [(cI, .int)] (fun (u : (Int → Int) × (Int → Int)) => (wrC gp np.toNat 0 0 0 0 (g, n) S X).1) (fun (u : (Int → Int) × (Int → Int)) => (cIn (wrC gp np.toNat 0 0 0 0 (g, n) S X).2)) (fun (u : (Int → Int) × (Int → Int)) => [(r0, .inr (4, [.ref r1, .ref r2])), (r1, cJ cI 60 (u.1)), (r2, cJ cI 60 (u.2)), (h0, .inr (2, [.ref h1, .int (iJ ((wrC gp np.toNat 0 0 0 0 (g, n) S X).2.2)), .int (iJ (q))])), (h1, cJ cI 32 ((wrC gp np.toNat 0 0 0 0 (g, n) S X).2.1)), (y0, .inr (1, [.ref y1, .int (iJ (np))])), (y1, cJ cI 60 (gp))]) := by
  refine MM.mk (cc := cX4_write) (maxL := 9) (ret := (some .boolean)) (by decide) rfl (Nat.le_of_ble_eq_true rfl) rfl RX4 rfl ?_
  intro p_ e_ s_ m_ ar_ bw_ mt_ cd_ B_ Q_ hA E hr hQ
  refine r_iconst E 0 rfl dX4_write_0 ?_
  refine r_istore_n E [(3, .int (iJ (0))), (0, .ref r0), (1, .ref y0), (2, .ref h0)] dX4_write_1 rfl (by decide) rfl ?_
  refine r_iconst E 0 rfl dX4_write_2 ?_
  refine r_istore E [(4, .int (iJ (0))), (3, .int (iJ (0))), (0, .ref r0), (1, .ref y0), (2, .ref h0)] dX4_write_3 (by decide) rfl ?_
  refine r_iconst E 0 rfl dX4_write_5 ?_
  refine r_istore E [(5, .int (iJ (0))), (4, .int (iJ (0))), (3, .int (iJ (0))), (0, .ref r0), (1, .ref y0), (2, .ref h0)] dX4_write_6 (by decide) rfl ?_
  refine r_iconst E 1 rfl dX4_write_8 ?_
  refine r_istore E [(6, .int (iJ (1))), (5, .int (iJ (0))), (4, .int (iJ (0))), (3, .int (iJ (0))), (0, .ref r0), (1, .ref y0), (2, .ref h0)] dX4_write_9 (by decide) rfl ?_
  refine r_iconst E 0 rfl dX4_write_11 ?_
  refine r_istore E [(7, .int (iJ (0))), (6, .int (iJ (1))), (5, .int (iJ (0))), (4, .int (iJ (0))), (3, .int (iJ (0))), (0, .ref r0), (1, .ref y0), (2, .ref h0)] dX4_write_12 (by decide) rfl ?_
  have loop_14 : ∀ (N : Nat) (k : Int) (ac : Int) (o : Int) (d : Int) (x : Int) (G : Int → Int) (N1 : Int) (S1 : Int → Int) (X1 : Int → Int) (st : Int), (0 ≤ k ∧ k ≤ np) → (wrQ gp np (wrC gp np.toNat 0 0 0 0 (g, n) S X) k st d ac o x (G, N1) S1 X1) → (np - k).toNat < N → GG p_ l e_ rm_X4_write s_ m_ ar_ bw_ mt_ cd_ D vwCl B_ B_ s_.heap 9 0 0 Q_ [(r0, .inr (4, [.ref r1, .ref r2])), (r1, cJ cI 60 (S1)), (r2, cJ cI 60 (X1)), (h0, .inr (2, [.ref h1, .int (iJ (N1)), .int (iJ (q))])), (h1, cJ cI 32 (G)), (y0, .inr (1, [.ref y1, .int (iJ (np))])), (y1, cJ cI 60 (gp))] [(0, .ref r0), (1, .ref y0), (2, .ref h0), (3, .int (iJ (ac))), (4, .int (iJ (o))), (5, .int (iJ (d))), (6, .int (iJ (x))), (7, .int (iJ (k)))] 14 [] := by
    intro N; induction N with
    | zero => intro k ac o d x G N1 S1 X1 st hk hQ_ hN; exact absurd hN (Nat.not_lt_zero _)
    | succ N ih14 =>
      intro k ac o d x G N1 S1 X1 st hk hQ_ hN
      refine r_iload E 7 dX4_write_14 rfl ?_
      refine r_aload_n E 1 dX4_write_16 rfl rfl ?_
      refine r_getN E 1 5 1 dX4_write_17 in_X4_write_X1 (by decide) rfl rfl rfl (by decide) rfl ?_
      refine r_icmp_ge E 202 dX4_write_20 (by decide) ⟨by omega, by omega⟩ ⟨by omega, by omega⟩ (fun c_20 => ?_) (fun c_20 => ?_)
      · refine r_iload E 6 dX4_write_202 rfl ?_
        exact r_retMZ E (S1, X1) hr dX4_write_204 (wrQ_01 hQ_) (by rw [wrQ_end hQ_ (by omega)]) (by rw [wrQ_end hQ_ (by omega)]; exact hQ_.2.2.1) (by rw [wrQ_end hQ_ (by omega)]) hQ
      · have hN1 : 0 ≤ N1 ∧ N1 ≤ 32 := hQ_.2.2.1.1
        have hG1 : ∀ j : Int, 0 ≤ j → j < N1 → vK (G j) := hQ_.2.2.1.2
        have hx01 := wrQ_01 hQ_
        refine r_iload E 6 dX4_write_23 rfl ?_
        refine r_if_eq E 202 dX4_write_25 (by decide) ⟨by omega, by omega⟩ (fun c_25 => ?_) (fun c_25 => ?_)
        · refine r_iload E 6 dX4_write_202 rfl ?_
          exact r_retMZ E (S1, X1) hr dX4_write_204 (wrQ_01 hQ_) (by rw [wrQ_end hQ_ (by omega)]) (by rw [wrQ_end hQ_ (by omega)]; exact hQ_.2.2.1) (by rw [wrQ_end hQ_ (by omega)]) hQ
        · have hQz := wrQ_f0 hQ_ c_25
          have f_p := hgp k (by omega) (by omega)
          refine r_aload_n E 1 dX4_write_28 rfl rfl ?_
          refine r_iload E 7 dX4_write_29 rfl ?_
          refine r_vP E (st := []) (c_X1_at l D y0 y1 cI gp np k (by first | assumption | omega | exact ⟨by omega, by omega⟩) (by first | assumption | omega | exact ⟨by omega, by omega⟩)) gX4_write_X1_at 1 kf_X1_at ⟨rfl, rfl⟩ ⟨by decide, by decide⟩ dX4_write_31 rfl 5 rfl rfl rfl rfl ⟨Nat.zero_le _, Nat.zero_le _⟩ [5, 6] rfl (by decide) [0] rfl (Nat.le_of_ble_eq_true rfl) ?_
          refine r_top (b := (gp k)) (pAt_t ⟨by omega, by omega⟩) ?_
          refine r_istore E [(8, .int (iJ ((gp k)))), (0, .ref r0), (1, .ref y0), (2, .ref h0), (3, .int (iJ (ac))), (4, .int (iJ (o))), (5, .int (iJ (d))), (6, .int (iJ (x))), (7, .int (iJ (k)))] dX4_write_34 (by decide) rfl ?_
          refine r_iload E 0 dX4_write_36 rfl ?_
          refine r_bipush E 62 rfl dX4_write_38 ?_
          refine r_icmp_ne E 48 dX4_write_40 (by decide) ⟨by omega, by omega⟩ ⟨by omega, by omega⟩ (fun c_40 => ?_) (fun c_40 => ?_)
          · refine r_iload E 0 dX4_write_48 rfl ?_
            refine r_bipush E 102 rfl dX4_write_50 ?_
            refine r_icmp_eq E 62 dX4_write_52 (by decide) ⟨by omega, by omega⟩ ⟨by omega, by omega⟩ (fun c_52 => ?_) (fun c_52 => ?_)
            · refine r_iload E 0 dX4_write_62 rfl ?_
              refine r_bipush E 102 rfl dX4_write_64 ?_
              refine r_icmp_ne E 73 dX4_write_66 (by decide) ⟨by omega, by omega⟩ ⟨by omega, by omega⟩ (fun c_66 => ?_) (fun c_66 => ?_)
              · refine r_iconst E 2 rfl dX4_write_73 ?_
                refine r_istore E [(4, .int (iJ (2))), (8, .int (iJ ((gp k)))), (0, .ref r0), (1, .ref y0), (2, .ref h0), (3, .int (iJ (ac))), (5, .int (iJ (d))), (6, .int (iJ (x))), (7, .int (iJ (k)))] dX4_write_74 (by decide) rfl ?_
                refine r_goto E 196 dX4_write_76 (by decide) ?_
                refine r_iinc E (k := 8) [(7, .int (iJ ((k + 1)))), (4, .int (iJ (2))), (8, .int (iJ ((gp k)))), (0, .ref r0), (1, .ref y0), (2, .ref h0), (3, .int (iJ (ac))), (5, .int (iJ (d))), (6, .int (iJ (x)))] dX4_write_196 rfl (by decide) rfl ?_
                refine r_goto E 14 dX4_write_199 (by decide) ?_
                refine r_lv [3, 4, 5, 6, 1, 7, 8, 0] [(0, .ref r0), (1, .ref y0), (2, .ref h0), (3, .int (iJ (ac))), (4, .int (iJ (2))), (5, .int (iJ (d))), (6, .int (iJ (x))), (7, .int (iJ ((k + 1))))] rfl ?_
                exact ih14 (k + 1) ac 2 d x G N1 S1 X1 (stB st (gp k) d) ⟨by omega, by omega⟩ (wrQ_fd _ hQ_ c_25 (by omega) (by omega) (by first | (rw [if_pos (by omega)]; done) | (rw [if_neg (by omega)]; done))) (by omega)
              · refine r_iconst E 1 rfl dX4_write_69 ?_
                refine r_goto E 74 dX4_write_70 (by decide) ?_
                refine r_istore E [(4, .int (iJ (1))), (8, .int (iJ ((gp k)))), (0, .ref r0), (1, .ref y0), (2, .ref h0), (3, .int (iJ (ac))), (5, .int (iJ (d))), (6, .int (iJ (x))), (7, .int (iJ (k)))] dX4_write_74 (by decide) rfl ?_
                refine r_goto E 196 dX4_write_76 (by decide) ?_
                refine r_iinc E (k := 8) [(7, .int (iJ ((k + 1)))), (4, .int (iJ (1))), (8, .int (iJ ((gp k)))), (0, .ref r0), (1, .ref y0), (2, .ref h0), (3, .int (iJ (ac))), (5, .int (iJ (d))), (6, .int (iJ (x)))] dX4_write_196 rfl (by decide) rfl ?_
                refine r_goto E 14 dX4_write_199 (by decide) ?_
                refine r_lv [3, 4, 5, 6, 1, 7, 8, 0] [(0, .ref r0), (1, .ref y0), (2, .ref h0), (3, .int (iJ (ac))), (4, .int (iJ (1))), (5, .int (iJ (d))), (6, .int (iJ (x))), (7, .int (iJ ((k + 1))))] rfl ?_
                exact ih14 (k + 1) ac 1 d x G N1 S1 X1 (stB st (gp k) d) ⟨by omega, by omega⟩ (wrQ_fd _ hQ_ c_25 (by omega) (by omega) (by first | (rw [if_pos (by omega)]; done) | (rw [if_neg (by omega)]; done))) (by omega)
            · refine r_iload E 0 dX4_write_55 rfl ?_
              refine r_bipush E 100 rfl dX4_write_57 ?_
              refine r_icmp_ne E 79 dX4_write_59 (by decide) ⟨by omega, by omega⟩ ⟨by omega, by omega⟩ (fun c_59 => ?_) (fun c_59 => ?_)
              · refine r_iload E 0 dX4_write_79 rfl ?_
                refine r_sP E (st := []) (c_X4_isHandSign l D (gp k) (by first | assumption | omega | exact ⟨by omega, by omega⟩)) gX4_write_X4_isHandSign 1 kf_X4_isHandSign ⟨rfl, rfl⟩ ⟨by decide, by decide⟩ dX4_write_81 rfl rfl ⟨Nat.zero_le _, Nat.zero_le _⟩ [] rfl (by decide) [] rfl (Nat.le_of_ble_eq_true rfl) ?_
                refine r_ifeq_b E 112 dX4_write_84 (by decide) (fun c_84 => ?_) (fun c_84 => ?_)
                · refine r_iload E 0 dX4_write_112 rfl ?_
                  refine r_bipush E 42 rfl dX4_write_114 ?_
                  refine r_icmp_ne E 126 dX4_write_116 (by decide) ⟨by omega, by omega⟩ ⟨by omega, by omega⟩ (fun c_116 => ?_) (fun c_116 => ?_)
                  · refine r_iload E 0 dX4_write_126 rfl ?_
                    refine r_bipush E 46 rfl dX4_write_128 ?_
                    refine r_icmp_ne E 143 dX4_write_130 (by decide) ⟨by omega, by omega⟩ ⟨by omega, by omega⟩ (fun c_130 => ?_) (fun c_130 => ?_)
                    · refine r_iload E 0 dX4_write_143 rfl ?_
                      refine r_bipush E 40 rfl dX4_write_145 ?_
                      refine r_icmp_ne E 177 dX4_write_147 (by decide) ⟨by omega, by omega⟩ ⟨by omega, by omega⟩ (fun c_147 => ?_) (fun c_147 => ?_)
                      · refine r_iload E 0 dX4_write_177 rfl ?_
                        refine r_bipush E 41 rfl dX4_write_179 ?_
                        refine r_icmp_ne E 196 dX4_write_181 (by decide) ⟨by omega, by omega⟩ ⟨by omega, by omega⟩ (fun c_181 => ?_) (fun c_181 => ?_)
                        · refine r_iinc E (k := 8) [(7, .int (iJ ((k + 1)))), (8, .int (iJ ((gp k)))), (0, .ref r0), (1, .ref y0), (2, .ref h0), (3, .int (iJ (ac))), (4, .int (iJ (o))), (5, .int (iJ (d))), (6, .int (iJ (x)))] dX4_write_196 rfl (by decide) rfl ?_
                          refine r_goto E 14 dX4_write_199 (by decide) ?_
                          refine r_lv [2, 3, 4, 5, 6, 7, 8, 0] [(0, .ref r0), (1, .ref y0), (2, .ref h0), (3, .int (iJ (ac))), (4, .int (iJ (o))), (5, .int (iJ (d))), (6, .int (iJ (x))), (7, .int (iJ ((k + 1))))] rfl ?_
                          exact ih14 (k + 1) ac o d x G N1 S1 X1 (stB st (gp k) d) ⟨by omega, by omega⟩ (wrQ_x hQ_ c_25 (by omega) (by omega) (by omega) c_84 (by omega) (by omega) (by omega) (by omega)) (by omega)
                        · have f_4 := wrQ_f41 hQ_ c_25 (by omega) (by omega)
                          refine r_iinc E (k := 6) [(5, .int (iJ ((d + (-1))))), (8, .int (iJ ((gp k)))), (0, .ref r0), (1, .ref y0), (2, .ref h0), (3, .int (iJ (ac))), (4, .int (iJ (o))), (6, .int (iJ (x))), (7, .int (iJ (k)))] dX4_write_184 rfl (by decide) rfl ?_
                          refine r_aload_n E 2 dX4_write_187 rfl rfl ?_
                          refine r_iload E 0 dX4_write_188 rfl ?_
                          refine r_aload_n E 4 dX4_write_190 rfl rfl ?_
                          refine r_vM E (st := []) (c_X4_repeat l D r0 r1 r2 S1 X1 h0 h1 cI G N1 q (d + (-1)) hQ_.2.2.1 (by first | assumption | omega | exact ⟨by omega, by omega⟩) f_4.2.1 f_4.2.2) gX4_write_X4_repeat 2 kf_X4_repeat ⟨rfl, rfl⟩ ⟨by decide, by decide⟩ dX4_write_191 rfl 0 rfl rfl rfl rfl ⟨Nat.zero_le _, Nat.zero_le _⟩ [0, 1, 2, 3, 4] rfl (by decide) [0] rfl (Nat.le_of_ble_eq_true rfl) [(y0, .inr (1, [.ref y1, .int (iJ (np))])), (y1, cJ cI 60 (gp))] [5, 6] rfl (by decide) (by decide) hA [2, 3, 4, 5, 6, 0, 1] (by decide) (fun (_ : Unit) => [(r0, .inr (4, [.ref r1, .ref r2])), (r1, cJ cI 60 (S1)), (r2, cJ cI 60 (X1)), (h0, .inr (2, [.ref h1, .int (iJ ((rcO (S1 (d + (-1))) N1 (X1 (d + (-1)) - 1).toNat (G, N1)).2.2)), .int (iJ (q))])), (h1, cJ cI 32 ((rcO (S1 (d + (-1))) N1 (X1 (d + (-1)) - 1).toNat (G, N1)).2.1)), (y0, .inr (1, [.ref y1, .int (iJ (np))])), (y1, cJ cI 60 (gp))]) (fun _ => rfl) ?_
                          rintro ⟨⟩ hp_1
                          refine r_istore E [(6, .int (iJ ((rcO (S1 (d + (-1))) N1 (X1 (d + (-1)) - 1).toNat (G, N1)).1))), (5, .int (iJ ((d + (-1))))), (8, .int (iJ ((gp k)))), (0, .ref r0), (1, .ref y0), (2, .ref h0), (3, .int (iJ (ac))), (4, .int (iJ (o))), (7, .int (iJ (k)))] dX4_write_194 (by decide) rfl ?_
                          refine r_iinc E (k := 8) [(7, .int (iJ ((k + 1)))), (6, .int (iJ ((rcO (S1 (d + (-1))) N1 (X1 (d + (-1)) - 1).toNat (G, N1)).1))), (5, .int (iJ ((d + (-1))))), (8, .int (iJ ((gp k)))), (0, .ref r0), (1, .ref y0), (2, .ref h0), (3, .int (iJ (ac))), (4, .int (iJ (o)))] dX4_write_196 rfl (by decide) rfl ?_
                          refine r_goto E 14 dX4_write_199 (by decide) ?_
                          refine r_lv [4, 5, 6, 7, 8, 2, 1, 0] [(0, .ref r0), (1, .ref y0), (2, .ref h0), (3, .int (iJ (ac))), (4, .int (iJ (o))), (5, .int (iJ ((d + (-1))))), (6, .int (iJ ((rcO (S1 (d + (-1))) N1 (X1 (d + (-1)) - 1).toNat (G, N1)).1))), (7, .int (iJ ((k + 1))))] rfl ?_
                          exact ih14 (k + 1) ac o (d + (-1)) ((rcO (S1 (d + (-1))) N1 (X1 (d + (-1)) - 1).toNat (G, N1)).1) ((rcO (S1 (d + (-1))) N1 (X1 (d + (-1)) - 1).toNat (G, N1)).2.1) ((rcO (S1 (d + (-1))) N1 (X1 (d + (-1)) - 1).toNat (G, N1)).2.2) S1 X1 (stB st (gp k) d) ⟨by omega, by omega⟩ (wrQ_41 hQ_ c_25 (by omega) (by omega)) (by omega)
                      · have f_6 := wrQ_f40 hQ_ c_25 (by omega) (by omega)
                        refine r_aload_n E 1 dX4_write_150 rfl rfl ?_
                        refine r_iload E 6 dX4_write_151 rfl ?_
                        refine r_aload_n E 3 dX4_write_153 rfl rfl ?_
                        refine r_getN E 2 3 1 dX4_write_154 in_X4_write_X2 (by decide) rfl rfl rfl (by decide) rfl ?_
                        refine r_aload_n E 2 dX4_write_157 rfl rfl ?_
                        refine r_iload E 8 dX4_write_158 rfl ?_
                        refine r_iconst E 1 rfl dX4_write_160 ?_
                        refine r_isub E dX4_write_161 ?_
                        refine r_vP E (st := [.int (iJ (N1)), .int (iJ (d)), .ref r0]) (c_X1_at l D y0 y1 cI gp np (k - 1) (by first | assumption | omega | exact ⟨by omega, by omega⟩) (by first | assumption | omega | exact ⟨by omega, by omega⟩)) gX4_write_X1_at 1 kf_X1_at ⟨rfl, rfl⟩ ⟨by decide, by decide⟩ dX4_write_162 rfl 5 rfl rfl rfl rfl ⟨Nat.zero_le _, Nat.zero_le _⟩ [5, 6] rfl (by decide) [0] rfl (Nat.le_of_ble_eq_true rfl) ?_
                        refine r_top (b := (gp (k - 1))) (pAt_t ⟨by omega, by omega⟩) ?_
                        refine r_bipush E 48 rfl dX4_write_165 ?_
                        refine r_isub E dX4_write_167 ?_
                        refine r_vV E (st := []) (c_X4_open l D r0 r1 r2 S1 X1 cI d N1 ((gp (k - 1)) - 48) (by first | assumption | omega | exact ⟨by omega, by omega⟩)) gX4_write_X4_open 3 kf_X4_open ⟨rfl, rfl⟩ ⟨by decide, by decide⟩ dX4_write_168 rfl 0 rfl rfl rfl rfl ⟨Nat.zero_le _, Nat.zero_le _⟩ [0, 1, 2] rfl (by decide) [0] rfl (Nat.le_of_ble_eq_true rfl) [(h0, .inr (2, [.ref h1, .int (iJ (N1)), .int (iJ (q))])), (h1, cJ cI 32 (G)), (y0, .inr (1, [.ref y1, .int (iJ (np))])), (y1, cJ cI 60 (gp))] [3, 4, 5, 6] rfl (by decide) (by decide) hA [4, 5, 6, 0, 1, 2, 3] (by decide) (fun (_ : Unit) => [(r0, .inr (4, [.ref r1, .ref r2])), (r1, cJ cI 60 (uJ S1 d N1)), (r2, cJ cI 60 (uJ X1 d ((gp (k - 1)) - 48))), (h0, .inr (2, [.ref h1, .int (iJ (N1)), .int (iJ (q))])), (h1, cJ cI 32 (G)), (y0, .inr (1, [.ref y1, .int (iJ (np))])), (y1, cJ cI 60 (gp))]) (fun _ => rfl) ?_
                        rintro ⟨⟩ hp_2
                        refine r_iinc E (k := 6) [(5, .int (iJ ((d + 1)))), (8, .int (iJ ((gp k)))), (0, .ref r0), (1, .ref y0), (2, .ref h0), (3, .int (iJ (ac))), (4, .int (iJ (o))), (6, .int (iJ (x))), (7, .int (iJ (k)))] dX4_write_171 rfl (by decide) rfl ?_
                        refine r_goto E 196 dX4_write_174 (by decide) ?_
                        refine r_iinc E (k := 8) [(7, .int (iJ ((k + 1)))), (5, .int (iJ ((d + 1)))), (8, .int (iJ ((gp k)))), (0, .ref r0), (1, .ref y0), (2, .ref h0), (3, .int (iJ (ac))), (4, .int (iJ (o))), (6, .int (iJ (x)))] dX4_write_196 rfl (by decide) rfl ?_
                        refine r_goto E 14 dX4_write_199 (by decide) ?_
                        refine r_lv [3, 4, 5, 6, 7, 1, 8, 0] [(0, .ref r0), (1, .ref y0), (2, .ref h0), (3, .int (iJ (ac))), (4, .int (iJ (o))), (5, .int (iJ ((d + 1)))), (6, .int (iJ (x))), (7, .int (iJ ((k + 1))))] rfl ?_
                        exact ih14 (k + 1) ac o (d + 1) x G N1 (uJ S1 d N1) (uJ X1 d ((gp (k - 1)) - 48)) (stB st (gp k) d) ⟨by omega, by omega⟩ (wrQ_40 hQ_ c_25 (by omega) (by omega)) (by omega)
                    · refine r_aload_n E 3 dX4_write_133 rfl rfl ?_
                      refine r_iconst E 0 rfl dX4_write_134 ?_
                      by_cases hn32 : N1 < 32
                      · refine r_vM E (st := []) (c_X2_add l D h0 h1 cI G N1 q 0 (by first | assumption | omega | exact ⟨by omega, by omega⟩) (by first | assumption | omega | exact ⟨by omega, by omega⟩)) gX4_write_X2_add 1 kf_X2_add ⟨rfl, rfl⟩ ⟨by decide, by decide⟩ dX4_write_135 rfl 3 rfl rfl rfl rfl ⟨Nat.zero_le _, Nat.zero_le _⟩ [3, 4] rfl (by decide) [0] rfl (Nat.le_of_ble_eq_true rfl) [(r0, .inr (4, [.ref r1, .ref r2])), (r1, cJ cI 60 (S1)), (r2, cJ cI 60 (X1)), (y0, .inr (1, [.ref y1, .int (iJ (np))])), (y1, cJ cI 60 (gp))] [0, 1, 2, 5, 6] rfl (by decide) (by decide) hA [0, 1, 2, 5, 6, 3, 4] (by decide) (fun (_ : Unit) => [(r0, .inr (4, [.ref r1, .ref r2])), (r1, cJ cI 60 (S1)), (r2, cJ cI 60 (X1)), (h0, .inr (2, [.ref h1, .int (iJ ((N1 + 1))), .int (iJ (q))])), (h1, cJ cI 32 (uJ G N1 0)), (y0, .inr (1, [.ref y1, .int (iJ (np))])), (y1, cJ cI 60 (gp))]) (fun _ => rfl) ?_
                        rintro ⟨⟩ hp_3
                        refine r_istore E [(6, .int (iJ (1))), (8, .int (iJ ((gp k)))), (0, .ref r0), (1, .ref y0), (2, .ref h0), (3, .int (iJ (ac))), (4, .int (iJ (o))), (5, .int (iJ (d))), (7, .int (iJ (k)))] dX4_write_138 (by decide) rfl ?_
                        refine r_goto E 196 dX4_write_140 (by decide) ?_
                        refine r_iinc E (k := 8) [(7, .int (iJ ((k + 1)))), (6, .int (iJ (1))), (8, .int (iJ ((gp k)))), (0, .ref r0), (1, .ref y0), (2, .ref h0), (3, .int (iJ (ac))), (4, .int (iJ (o))), (5, .int (iJ (d)))] dX4_write_196 rfl (by decide) rfl ?_
                        refine r_goto E 14 dX4_write_199 (by decide) ?_
                        refine r_lv [3, 4, 5, 6, 7, 8, 1, 0] [(0, .ref r0), (1, .ref y0), (2, .ref h0), (3, .int (iJ (ac))), (4, .int (iJ (o))), (5, .int (iJ (d))), (6, .int (iJ (1))), (7, .int (iJ ((k + 1))))] rfl ?_
                        exact ih14 (k + 1) ac o d 1 (uJ G N1 0) (N1 + 1) S1 X1 (stB st (gp k) d) ⟨by omega, by omega⟩ (wrQ_46 hQ_ c_25 (by omega) (by omega) (show N1 < 32 by omega)) (by omega)
                      refine r_vM E (st := []) (c_X2_addNo l D h0 h1 cI G N1 q 0 (by first | assumption | omega | exact ⟨by omega, by omega⟩) (by first | assumption | omega | exact ⟨by omega, by omega⟩)) gX4_write_X2_add 1 kf_X2_add ⟨rfl, rfl⟩ ⟨by decide, by decide⟩ dX4_write_135 rfl 3 rfl rfl rfl rfl ⟨Nat.zero_le _, Nat.zero_le _⟩ [3, 4] rfl (by decide) [0] rfl (Nat.le_of_ble_eq_true rfl) [(r0, .inr (4, [.ref r1, .ref r2])), (r1, cJ cI 60 (S1)), (r2, cJ cI 60 (X1)), (y0, .inr (1, [.ref y1, .int (iJ (np))])), (y1, cJ cI 60 (gp))] [0, 1, 2, 5, 6] rfl (by decide) (by decide) hA [0, 1, 2, 5, 6, 3, 4] (by decide) (fun (_ : Unit) => [(r0, .inr (4, [.ref r1, .ref r2])), (r1, cJ cI 60 (S1)), (r2, cJ cI 60 (X1)), (h0, .inr (2, [.ref h1, .int (iJ (N1)), .int (iJ (q))])), (h1, cJ cI 32 (G)), (y0, .inr (1, [.ref y1, .int (iJ (np))])), (y1, cJ cI 60 (gp))]) (fun _ => rfl) ?_
                      rintro ⟨⟩ hp_4
                      refine r_istore E [(6, .int (iJ (0))), (8, .int (iJ ((gp k)))), (0, .ref r0), (1, .ref y0), (2, .ref h0), (3, .int (iJ (ac))), (4, .int (iJ (o))), (5, .int (iJ (d))), (7, .int (iJ (k)))] dX4_write_138 (by decide) rfl ?_
                      refine r_goto E 196 dX4_write_140 (by decide) ?_
                      refine r_iinc E (k := 8) [(7, .int (iJ ((k + 1)))), (6, .int (iJ (0))), (8, .int (iJ ((gp k)))), (0, .ref r0), (1, .ref y0), (2, .ref h0), (3, .int (iJ (ac))), (4, .int (iJ (o))), (5, .int (iJ (d)))] dX4_write_196 rfl (by decide) rfl ?_
                      refine r_goto E 14 dX4_write_199 (by decide) ?_
                      refine r_lv [3, 4, 5, 6, 7, 8, 1, 0] [(0, .ref r0), (1, .ref y0), (2, .ref h0), (3, .int (iJ (ac))), (4, .int (iJ (o))), (5, .int (iJ (d))), (6, .int (iJ (0))), (7, .int (iJ ((k + 1))))] rfl ?_
                      exact ih14 (k + 1) ac o d 0 G N1 S1 X1 (stB st (gp k) d) ⟨by omega, by omega⟩ (wrQ_460 hQ_ c_25 (by omega) (by omega) (show ¬ N1 < 32 by omega)) (by omega)
                  · have f_2 : 1 ≤ N1 := wrQ_f42 hQ_ c_25 (by omega) (by omega)
                    refine r_aload_n E 3 dX4_write_119 rfl rfl ?_
                    refine r_sV E (st := []) (c_X4_makeLastDouble l D h0 h1 cI G N1 q (by first | assumption | omega | exact ⟨by omega, by omega⟩) (fun j h0 h1 => (hG1 j h0 h1).1) (by first | assumption | omega | exact ⟨by omega, by omega⟩)) gX4_write_X4_makeLastDouble 1 kf_X4_makeLastDouble ⟨rfl, rfl⟩ ⟨by decide, by decide⟩ dX4_write_120 rfl rfl ⟨Nat.zero_le _, Nat.zero_le _⟩ [3, 4] rfl (by decide) [0] rfl (Nat.le_of_ble_eq_true rfl) [(r0, .inr (4, [.ref r1, .ref r2])), (r1, cJ cI 60 (S1)), (r2, cJ cI 60 (X1)), (y0, .inr (1, [.ref y1, .int (iJ (np))])), (y1, cJ cI 60 (gp))] [0, 1, 2, 5, 6] rfl (by decide) (by decide) hA [0, 1, 2, 5, 6, 3, 4] (by decide) (fun (_ : Unit) => [(r0, .inr (4, [.ref r1, .ref r2])), (r1, cJ cI 60 (S1)), (r2, cJ cI 60 (X1)), (h0, .inr (2, [.ref h1, .int (iJ (N1)), .int (iJ (q))])), (h1, cJ cI 32 (uJ G (N1 - 1) (wOr (G (N1 - 1))))), (y0, .inr (1, [.ref y1, .int (iJ (np))])), (y1, cJ cI 60 (gp))]) (fun _ => rfl) ?_
                    rintro ⟨⟩ hp_5
                    refine r_goto E 196 dX4_write_123 (by decide) ?_
                    refine r_iinc E (k := 8) [(7, .int (iJ ((k + 1)))), (8, .int (iJ ((gp k)))), (0, .ref r0), (1, .ref y0), (2, .ref h0), (3, .int (iJ (ac))), (4, .int (iJ (o))), (5, .int (iJ (d))), (6, .int (iJ (x)))] dX4_write_196 rfl (by decide) rfl ?_
                    refine r_goto E 14 dX4_write_199 (by decide) ?_
                    refine r_lv [2, 3, 4, 5, 6, 7, 8, 0] [(0, .ref r0), (1, .ref y0), (2, .ref h0), (3, .int (iJ (ac))), (4, .int (iJ (o))), (5, .int (iJ (d))), (6, .int (iJ (x))), (7, .int (iJ ((k + 1))))] rfl ?_
                    exact ih14 (k + 1) ac o d x (uJ G (N1 - 1) (wOr (G (N1 - 1)))) N1 S1 X1 (stB st (gp k) d) ⟨by omega, by omega⟩ (wrQ_42 hQ_ c_25 (by omega) (by omega)) (by omega)
                · refine r_aload_n E 3 dX4_write_87 rfl rfl ?_
                  refine r_iload E 0 dX4_write_88 rfl ?_
                  refine r_sP E (st := [.ref h0]) (c_X4_handOf l D (gp k) (by first | assumption | omega | exact ⟨by omega, by omega⟩)) gX4_write_X4_handOf 1 kf_X4_handOf ⟨rfl, rfl⟩ ⟨by decide, by decide⟩ dX4_write_90 rfl rfl ⟨Nat.zero_le _, Nat.zero_le _⟩ [] rfl (by decide) [] rfl (Nat.le_of_ble_eq_true rfl) ?_
                  refine r_iload_n E 4 dX4_write_93 rfl rfl ?_
                  refine r_iload E 5 dX4_write_94 rfl ?_
                  refine r_sP E (st := [.ref h0]) (c_X5_of l D (rHd (gp k)) ac o (by have := rHd_in (c := gp k); exact ⟨by omega, by omega⟩) hQz.2.1 ⟨by omega, by omega⟩) gX4_write_X5_of 3 kf_X5_of ⟨rfl, rfl⟩ ⟨by decide, by decide⟩ dX4_write_96 rfl rfl ⟨Nat.zero_le _, Nat.zero_le _⟩ [] rfl (by decide) [] rfl (Nat.le_of_ble_eq_true rfl) ?_
                  by_cases hn32 : N1 < 32
                  · refine r_vM E (st := []) (c_X2_add l D h0 h1 cI G N1 q (sOf (rHd (gp k)) ac o) (by first | assumption | omega | exact ⟨by omega, by omega⟩) (by first | assumption | omega | exact ⟨by omega, by omega⟩)) gX4_write_X2_add 1 kf_X2_add ⟨rfl, rfl⟩ ⟨by decide, by decide⟩ dX4_write_99 rfl 3 rfl rfl rfl rfl ⟨Nat.zero_le _, Nat.zero_le _⟩ [3, 4] rfl (by decide) [0] rfl (Nat.le_of_ble_eq_true rfl) [(r0, .inr (4, [.ref r1, .ref r2])), (r1, cJ cI 60 (S1)), (r2, cJ cI 60 (X1)), (y0, .inr (1, [.ref y1, .int (iJ (np))])), (y1, cJ cI 60 (gp))] [0, 1, 2, 5, 6] rfl (by decide) (by decide) hA [0, 1, 2, 5, 6, 3, 4] (by decide) (fun (_ : Unit) => [(r0, .inr (4, [.ref r1, .ref r2])), (r1, cJ cI 60 (S1)), (r2, cJ cI 60 (X1)), (h0, .inr (2, [.ref h1, .int (iJ ((N1 + 1))), .int (iJ (q))])), (h1, cJ cI 32 (uJ G N1 (sOf (rHd (gp k)) ac o))), (y0, .inr (1, [.ref y1, .int (iJ (np))])), (y1, cJ cI 60 (gp))]) (fun _ => rfl) ?_
                    rintro ⟨⟩ hp_6
                    refine r_istore E [(6, .int (iJ (1))), (8, .int (iJ ((gp k)))), (0, .ref r0), (1, .ref y0), (2, .ref h0), (3, .int (iJ (ac))), (4, .int (iJ (o))), (5, .int (iJ (d))), (7, .int (iJ (k)))] dX4_write_102 (by decide) rfl ?_
                    refine r_iconst E 0 rfl dX4_write_104 ?_
                    refine r_istore_n E [(3, .int (iJ (0))), (6, .int (iJ (1))), (8, .int (iJ ((gp k)))), (0, .ref r0), (1, .ref y0), (2, .ref h0), (4, .int (iJ (o))), (5, .int (iJ (d))), (7, .int (iJ (k)))] dX4_write_105 rfl (by decide) rfl ?_
                    refine r_iconst E 0 rfl dX4_write_106 ?_
                    refine r_istore E [(4, .int (iJ (0))), (3, .int (iJ (0))), (6, .int (iJ (1))), (8, .int (iJ ((gp k)))), (0, .ref r0), (1, .ref y0), (2, .ref h0), (5, .int (iJ (d))), (7, .int (iJ (k)))] dX4_write_107 (by decide) rfl ?_
                    refine r_goto E 196 dX4_write_109 (by decide) ?_
                    refine r_iinc E (k := 8) [(7, .int (iJ ((k + 1)))), (4, .int (iJ (0))), (3, .int (iJ (0))), (6, .int (iJ (1))), (8, .int (iJ ((gp k)))), (0, .ref r0), (1, .ref y0), (2, .ref h0), (5, .int (iJ (d)))] dX4_write_196 rfl (by decide) rfl ?_
                    refine r_goto E 14 dX4_write_199 (by decide) ?_
                    refine r_lv [5, 6, 7, 2, 1, 8, 3, 0] [(0, .ref r0), (1, .ref y0), (2, .ref h0), (3, .int (iJ (0))), (4, .int (iJ (0))), (5, .int (iJ (d))), (6, .int (iJ (1))), (7, .int (iJ ((k + 1))))] rfl ?_
                    exact ih14 (k + 1) 0 0 d 1 (uJ G N1 (sOf (rHd (gp k)) ac o)) (N1 + 1) S1 X1 (stB st (gp k) d) ⟨by omega, by omega⟩ (wrQ_hs hQ_ c_25 (by omega) c_84 (show N1 < 32 by omega)) (by omega)
                  refine r_vM E (st := []) (c_X2_addNo l D h0 h1 cI G N1 q (sOf (rHd (gp k)) ac o) (by first | assumption | omega | exact ⟨by omega, by omega⟩) (by first | assumption | omega | exact ⟨by omega, by omega⟩)) gX4_write_X2_add 1 kf_X2_add ⟨rfl, rfl⟩ ⟨by decide, by decide⟩ dX4_write_99 rfl 3 rfl rfl rfl rfl ⟨Nat.zero_le _, Nat.zero_le _⟩ [3, 4] rfl (by decide) [0] rfl (Nat.le_of_ble_eq_true rfl) [(r0, .inr (4, [.ref r1, .ref r2])), (r1, cJ cI 60 (S1)), (r2, cJ cI 60 (X1)), (y0, .inr (1, [.ref y1, .int (iJ (np))])), (y1, cJ cI 60 (gp))] [0, 1, 2, 5, 6] rfl (by decide) (by decide) hA [0, 1, 2, 5, 6, 3, 4] (by decide) (fun (_ : Unit) => [(r0, .inr (4, [.ref r1, .ref r2])), (r1, cJ cI 60 (S1)), (r2, cJ cI 60 (X1)), (h0, .inr (2, [.ref h1, .int (iJ (N1)), .int (iJ (q))])), (h1, cJ cI 32 (G)), (y0, .inr (1, [.ref y1, .int (iJ (np))])), (y1, cJ cI 60 (gp))]) (fun _ => rfl) ?_
                  rintro ⟨⟩ hp_7
                  refine r_istore E [(6, .int (iJ (0))), (8, .int (iJ ((gp k)))), (0, .ref r0), (1, .ref y0), (2, .ref h0), (3, .int (iJ (ac))), (4, .int (iJ (o))), (5, .int (iJ (d))), (7, .int (iJ (k)))] dX4_write_102 (by decide) rfl ?_
                  refine r_iconst E 0 rfl dX4_write_104 ?_
                  refine r_istore_n E [(3, .int (iJ (0))), (6, .int (iJ (0))), (8, .int (iJ ((gp k)))), (0, .ref r0), (1, .ref y0), (2, .ref h0), (4, .int (iJ (o))), (5, .int (iJ (d))), (7, .int (iJ (k)))] dX4_write_105 rfl (by decide) rfl ?_
                  refine r_iconst E 0 rfl dX4_write_106 ?_
                  refine r_istore E [(4, .int (iJ (0))), (3, .int (iJ (0))), (6, .int (iJ (0))), (8, .int (iJ ((gp k)))), (0, .ref r0), (1, .ref y0), (2, .ref h0), (5, .int (iJ (d))), (7, .int (iJ (k)))] dX4_write_107 (by decide) rfl ?_
                  refine r_goto E 196 dX4_write_109 (by decide) ?_
                  refine r_iinc E (k := 8) [(7, .int (iJ ((k + 1)))), (4, .int (iJ (0))), (3, .int (iJ (0))), (6, .int (iJ (0))), (8, .int (iJ ((gp k)))), (0, .ref r0), (1, .ref y0), (2, .ref h0), (5, .int (iJ (d)))] dX4_write_196 rfl (by decide) rfl ?_
                  refine r_goto E 14 dX4_write_199 (by decide) ?_
                  refine r_lv [5, 6, 7, 2, 1, 8, 3, 0] [(0, .ref r0), (1, .ref y0), (2, .ref h0), (3, .int (iJ (0))), (4, .int (iJ (0))), (5, .int (iJ (d))), (6, .int (iJ (0))), (7, .int (iJ ((k + 1))))] rfl ?_
                  exact ih14 (k + 1) 0 0 d 0 G N1 S1 X1 (stB st (gp k) d) ⟨by omega, by omega⟩ (wrQ_hs0 hQ_ c_25 (by omega) c_84 (show ¬ N1 < 32 by omega)) (by omega)
              · refine r_iload E 0 dX4_write_62 rfl ?_
                refine r_bipush E 102 rfl dX4_write_64 ?_
                refine r_icmp_ne E 73 dX4_write_66 (by decide) ⟨by omega, by omega⟩ ⟨by omega, by omega⟩ (fun c_66 => ?_) (fun c_66 => ?_)
                · refine r_iconst E 2 rfl dX4_write_73 ?_
                  refine r_istore E [(4, .int (iJ (2))), (8, .int (iJ ((gp k)))), (0, .ref r0), (1, .ref y0), (2, .ref h0), (3, .int (iJ (ac))), (5, .int (iJ (d))), (6, .int (iJ (x))), (7, .int (iJ (k)))] dX4_write_74 (by decide) rfl ?_
                  refine r_goto E 196 dX4_write_76 (by decide) ?_
                  refine r_iinc E (k := 8) [(7, .int (iJ ((k + 1)))), (4, .int (iJ (2))), (8, .int (iJ ((gp k)))), (0, .ref r0), (1, .ref y0), (2, .ref h0), (3, .int (iJ (ac))), (5, .int (iJ (d))), (6, .int (iJ (x)))] dX4_write_196 rfl (by decide) rfl ?_
                  refine r_goto E 14 dX4_write_199 (by decide) ?_
                  refine r_lv [3, 4, 5, 6, 1, 7, 8, 0] [(0, .ref r0), (1, .ref y0), (2, .ref h0), (3, .int (iJ (ac))), (4, .int (iJ (2))), (5, .int (iJ (d))), (6, .int (iJ (x))), (7, .int (iJ ((k + 1))))] rfl ?_
                  exact ih14 (k + 1) ac 2 d x G N1 S1 X1 (stB st (gp k) d) ⟨by omega, by omega⟩ (wrQ_fd _ hQ_ c_25 (by omega) (by omega) (by first | (rw [if_pos (by omega)]; done) | (rw [if_neg (by omega)]; done))) (by omega)
                · refine r_iconst E 1 rfl dX4_write_69 ?_
                  refine r_goto E 74 dX4_write_70 (by decide) ?_
                  refine r_istore E [(4, .int (iJ (1))), (8, .int (iJ ((gp k)))), (0, .ref r0), (1, .ref y0), (2, .ref h0), (3, .int (iJ (ac))), (5, .int (iJ (d))), (6, .int (iJ (x))), (7, .int (iJ (k)))] dX4_write_74 (by decide) rfl ?_
                  refine r_goto E 196 dX4_write_76 (by decide) ?_
                  refine r_iinc E (k := 8) [(7, .int (iJ ((k + 1)))), (4, .int (iJ (1))), (8, .int (iJ ((gp k)))), (0, .ref r0), (1, .ref y0), (2, .ref h0), (3, .int (iJ (ac))), (5, .int (iJ (d))), (6, .int (iJ (x)))] dX4_write_196 rfl (by decide) rfl ?_
                  refine r_goto E 14 dX4_write_199 (by decide) ?_
                  refine r_lv [3, 4, 5, 6, 1, 7, 8, 0] [(0, .ref r0), (1, .ref y0), (2, .ref h0), (3, .int (iJ (ac))), (4, .int (iJ (1))), (5, .int (iJ (d))), (6, .int (iJ (x))), (7, .int (iJ ((k + 1))))] rfl ?_
                  exact ih14 (k + 1) ac 1 d x G N1 S1 X1 (stB st (gp k) d) ⟨by omega, by omega⟩ (wrQ_fd _ hQ_ c_25 (by omega) (by omega) (by first | (rw [if_pos (by omega)]; done) | (rw [if_neg (by omega)]; done))) (by omega)
          · refine r_iconst E 1 rfl dX4_write_43 ?_
            refine r_istore_n E [(3, .int (iJ (1))), (8, .int (iJ ((gp k)))), (0, .ref r0), (1, .ref y0), (2, .ref h0), (4, .int (iJ (o))), (5, .int (iJ (d))), (6, .int (iJ (x))), (7, .int (iJ (k)))] dX4_write_44 rfl (by decide) rfl ?_
            refine r_goto E 196 dX4_write_45 (by decide) ?_
            refine r_iinc E (k := 8) [(7, .int (iJ ((k + 1)))), (3, .int (iJ (1))), (8, .int (iJ ((gp k)))), (0, .ref r0), (1, .ref y0), (2, .ref h0), (4, .int (iJ (o))), (5, .int (iJ (d))), (6, .int (iJ (x)))] dX4_write_196 rfl (by decide) rfl ?_
            refine r_goto E 14 dX4_write_199 (by decide) ?_
            refine r_lv [3, 4, 5, 1, 6, 7, 8, 0] [(0, .ref r0), (1, .ref y0), (2, .ref h0), (3, .int (iJ (1))), (4, .int (iJ (o))), (5, .int (iJ (d))), (6, .int (iJ (x))), (7, .int (iJ ((k + 1))))] rfl ?_
            exact ih14 (k + 1) 1 o d x G N1 S1 X1 (stB st (gp k) d) ⟨by omega, by omega⟩ (wrQ_62 hQ_ c_25 (by omega) (by omega)) (by omega)
  refine r_lv [5, 6, 7, 4, 3, 2, 1, 0] [(0, .ref r0), (1, .ref y0), (2, .ref h0), (3, .int (iJ (0))), (4, .int (iJ (0))), (5, .int (iJ (0))), (6, .int (iJ (1))), (7, .int (iJ (0)))] rfl ?_
  exact loop_14 _ 0 0 0 0 1 g n S X 0 ⟨by omega, by omega⟩ ⟨⟨by omega, by omega⟩, ⟨by omega, by omega⟩, hci, Or.inl ⟨rfl, ⟨by rw [Int.sub_zero]; exact hrf, ⟨by omega, by omega⟩, fun z => absurd z (by decide), fun j h1 h2 => absurd h2 (by omega), fun z => absurd z (by decide), Or.inl rfl, ⟨by omega, by omega⟩, hci⟩, by rw [Int.sub_zero]⟩⟩ (Nat.lt_succ_self _)
