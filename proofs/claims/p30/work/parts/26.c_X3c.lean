theorem kf_X3_canChoose : KF yX3_canChoose 2 wsX3_canChoose cX3_canChoose 7 (some .boolean) := ⟨rfl, by decide +kernel, by decide +kernel, by decide +kernel⟩
def rm_X3_canChoose : Room := { frames := 4, cells := 0, slots := 0, locals := 96 }
set_option maxRecDepth 20000 in
theorem in_X3_canChoose_X3 : ∀ w ∈ u_ws RX3 TX3 7, w ∈ wsX3_canChoose := by decide +kernel
set_option maxRecDepth 20000 in
theorem lk_X3_canChoose_31 : Cond.fieldLink RX3 31 (TX3 6).1 (TX3 6).2.1 (TX3 6).2.2.1 ∈ wsX3_canChoose := by decide +kernel
set_option maxRecDepth 20000 in
theorem lk_X3_canChoose_15 : Cond.fieldLink RX3 15 (TX3 1).1 (TX3 1).2.1 (TX3 1).2.2.1 ∈ wsX3_canChoose := by decide +kernel
set_option maxRecDepth 20000 in
theorem lk_X3_canChoose_25 : Cond.fieldLink RX3 25 (TX3 4).1 (TX3 4).2.1 (TX3 4).2.2.1 ∈ wsX3_canChoose := by decide +kernel
set_option maxHeartbeats 1000000 in
set_option maxRecDepth 100000 in
theorem c_X3_canChoose (l : Launch) (D : va_G) (p0 : Nat) (p1 : Nat) (p2 : Nat) (p3 : Nat) (p4 : Nat) (p5 : Nat) (p6 : Nat) (cI : ClassId) (cZ : ClassId) (L : Int) (ow : Int → Int) (cA : Int → Int) (cU : Int → Int) (hd : Int → Int) (fw : Int → Int) (h0 : Nat) (h1 : Nat) (g : Int → Int) (n : Int) (q : Int) (pr : Int) (hn : 0 ≤ n ∧ n ≤ 32) (hg : ∀ j : Int, 0 ≤ j → j < n → 0 ≤ g j ∧ g j < 64) (hq : 1 ≤ q ∧ q ≤ 4) (hpr : pr = 0 ∨ pr = 1) : MM (S := (Int → Int) × (Int → Int)) l yX3_canChoose wsX3_canChoose rm_X3_canChoose D vwCl [.ref p0, .ref h0, .int (iJ (pr))] [(p0, .inr (3, [.ref p1, .ref p2, .ref p3, .ref p4, .ref p5, .ref p6, .int (iJ (L))])), (p1, cJ cI 32 (nrA)), (p2, cJ cI 32 (ow)), (p3, cJ cZ 32 (cA)), (p4, cJ cZ 32 (cU)), (p5, cJ cI 32 (hd)), (p6, cJ cI 132 (fw)), (h0, .inr (2, [.ref h1, .int (iJ (n)), .int (iJ (q))])), (h1, cJ cI 32 (g))] [(cI, .int), (cZ, .boolean)] (fun (u : (Int → Int) × (Int → Int)) => b2 (ffS n (ldO g ow n) (ldC g q 0 1 cA n) (ldC g q 0 0 cU n) pr 0 3 < 1000)) (fun (u : (Int → Int) × (Int → Int)) => (∀ a b : Int, 0 ≤ a → a ≤ n → 0 ≤ b → b ≤ 3 → u.2 (a * 4 + b) = ffS n (ldO g ow n) (ldC g q 0 1 cA n) (ldC g q 0 0 cU n) pr a b) ∧ (ffS n (ldO g ow n) (ldC g q 0 1 cA n) (ldC g q 0 0 cU n) pr 0 3 < 1000 → ∀ k : Int, 0 ≤ k → k < n → ¬ ldO g ow n k = 3 → u.1 k = chB n (ldO g ow n) (ldC g q 0 1 cA n) (ldC g q 0 0 cU n) pr (k + 1))) (fun (u : (Int → Int) × (Int → Int)) => [(p0, .inr (3, [.ref p1, .ref p2, .ref p3, .ref p4, .ref p5, .ref p6, .int (iJ (n))])), (p1, cJ cI 32 (nrA)), (p2, cJ cI 32 (ldO g ow n)), (p3, cJ cZ 32 (ldC g q 0 1 cA n)), (p4, cJ cZ 32 (ldC g q 0 0 cU n)), (p5, cJ cI 32 (u.1)), (p6, cJ cI 132 (u.2)), (h0, .inr (2, [.ref h1, .int (iJ (n)), .int (iJ (q))])), (h1, cJ cI 32 (g))]) := by
  refine MM.mk (cc := cX3_canChoose) (maxL := 7) (ret := (some .boolean)) (by decide) rfl (Nat.le_of_ble_eq_true rfl) rfl RX3 rfl ?_
  intro p_ e_ s_ m_ ar_ bw_ mt_ cd_ B_ Q_ hA E hr hQ
  have wO : ∀ j : Int, 0 ≤ j → j < n → 0 ≤ ldO g ow n j ∧ ldO g ow n j ≤ 3 := fun j h1 h2 => by
        unfold ldO; rw [if_pos ⟨h1, h2⟩]; split <;> omega
  have wA : ∀ j : Int, 0 ≤ j → j < n → ldC g q 0 1 cA n j = 0 ∨ ldC g q 0 1 cA n j = 1 := fun j h1 h2 => by
        unfold ldC; rw [if_pos ⟨h1, h2⟩]; exact b2_01 _
  have wU : ∀ j : Int, 0 ≤ j → j < n → ldC g q 0 0 cU n j = 0 ∨ ldC g q 0 0 cU n j = 1 := fun j h1 h2 => by
        unfold ldC; rw [if_pos ⟨h1, h2⟩]; exact b2_01 _
  refine r_aload_n E 0 dX3_canChoose_0 rfl rfl ?_
  refine r_aload_n E 1 dX3_canChoose_1 rfl rfl ?_
  refine r_iconst E 0 rfl dX3_canChoose_2 ?_
  refine r_vV E (st := []) (c_X3_load l D p0 p1 p2 p3 p4 p5 p6 cI cZ L ow cA cU hd fw h0 h1 g n q 0 (by first | assumption | omega | exact ⟨by omega, by omega⟩) (by first | assumption | omega | exact ⟨by omega, by omega⟩) (by first | assumption | omega | exact ⟨by omega, by omega⟩) (Or.inl rfl)) gX3_canChoose_X3_load 2 kf_X3_load ⟨rfl, rfl⟩ ⟨by decide, by decide⟩ dX3_canChoose_3 rfl 0 rfl rfl rfl rfl ⟨Nat.zero_le _, Nat.zero_le _⟩ [0, 1, 2, 3, 4, 5, 6, 7, 8] rfl (by decide) [0, 1] rfl (Nat.le_of_ble_eq_true rfl) [] [] rfl (by decide) (by decide) hA [0, 1, 2, 3, 4, 5, 6, 7, 8] (by decide) (fun (_ : Unit) => [(p0, .inr (3, [.ref p1, .ref p2, .ref p3, .ref p4, .ref p5, .ref p6, .int (iJ (n))])), (p1, cJ cI 32 (nrA)), (p2, cJ cI 32 (ldO g ow n)), (p3, cJ cZ 32 (ldC g q (if 0 = 0 then 0 else pAt g n (n - 1)) 1 cA n)), (p4, cJ cZ 32 (ldC g q (if 0 = 0 then 0 else pAt g n (n - 1)) 0 cU n)), (p5, cJ cI 32 (hd)), (p6, cJ cI 132 (fw)), (h0, .inr (2, [.ref h1, .int (iJ (n)), .int (iJ (q))])), (h1, cJ cI 32 (g))]) (fun _ => rfl) ?_
  rintro ⟨⟩ hp_1
  refine r_cv (ws2 := [(p0, .inr (3, [.ref p1, .ref p2, .ref p3, .ref p4, .ref p5, .ref p6, .int (iJ (n))])), (p1, cJ cI 32 (nrA)), (p2, cJ cI 32 (ldO g ow n)), (p3, cJ cZ 32 (ldC g q 0 1 cA n)), (p4, cJ cZ 32 (ldC g q (if 0 = 0 then 0 else pAt g n (n - 1)) 0 cU n)), (p5, cJ cI 32 (hd)), (p6, cJ cI 132 (fw)), (h0, .inr (2, [.ref h1, .int (iJ (n)), .int (iJ (q))])), (h1, cJ cI 32 (g))]) (by rw [if_pos rfl] <;> rfl) rfl rfl ?_
  refine r_cv (ws2 := [(p0, .inr (3, [.ref p1, .ref p2, .ref p3, .ref p4, .ref p5, .ref p6, .int (iJ (n))])), (p1, cJ cI 32 (nrA)), (p2, cJ cI 32 (ldO g ow n)), (p3, cJ cZ 32 (ldC g q 0 1 cA n)), (p4, cJ cZ 32 (ldC g q 0 0 cU n)), (p5, cJ cI 32 (hd)), (p6, cJ cI 132 (fw)), (h0, .inr (2, [.ref h1, .int (iJ (n)), .int (iJ (q))])), (h1, cJ cI 32 (g))]) (by rw [if_pos rfl] <;> rfl) rfl rfl ?_
  have K_16 : ∀ (v : Int), (v = pr) → GG p_ l e_ rm_X3_canChoose s_ m_ ar_ bw_ mt_ cd_ D vwCl B_ B_ s_.heap 7 0 0 Q_ [(p0, .inr (3, [.ref p1, .ref p2, .ref p3, .ref p4, .ref p5, .ref p6, .int (iJ (n))])), (p1, cJ cI 32 (nrA)), (p2, cJ cI 32 (ldO g ow n)), (p3, cJ cZ 32 (ldC g q 0 1 cA n)), (p4, cJ cZ 32 (ldC g q 0 0 cU n)), (p5, cJ cI 32 (hd)), (p6, cJ cI 132 (fw)), (h0, .inr (2, [.ref h1, .int (iJ (n)), .int (iJ (q))])), (h1, cJ cI 32 (g))] [(0, .ref p0), (1, .ref h0), (2, .int (iJ (pr))), (3, .int (iJ (v)))] 16 [] := by
    intro v hv
    refine r_cv rfl (lv2 := [(0, .ref p0), (1, .ref h0), (2, .int (iJ (pr))), (3, .int (iJ (pr)))]) (by rw [hv]) rfl ?_
    refine r_aload_n E 0 dX3_canChoose_16 rfl rfl ?_
    refine r_iload_n E 3 dX3_canChoose_17 rfl rfl ?_
    refine r_vV E (st := []) (c_X3_fillFewest l D p0 p1 p2 p3 p4 p5 p6 cI cZ n (ldO g ow n) (ldC g q 0 1 cA n) (ldC g q 0 0 cU n) hd fw pr (by first | assumption | omega | exact ⟨by omega, by omega⟩) wA wU wO (by first | assumption | omega | exact ⟨by omega, by omega⟩)) gX3_canChoose_X3_fillFewest 1 kf_X3_fillFewest ⟨rfl, rfl⟩ ⟨by decide, by decide⟩ dX3_canChoose_18 rfl 0 rfl rfl rfl rfl ⟨Nat.zero_le _, Nat.zero_le _⟩ [0, 1, 2, 3, 4, 5, 6] rfl (by decide) [0, 1] rfl (Nat.le_of_ble_eq_true rfl) [(h0, .inr (2, [.ref h1, .int (iJ (n)), .int (iJ (q))])), (h1, cJ cI 32 (g))] [7, 8] rfl (by decide) (by decide) hA [2, 3, 4, 5, 6, 7, 8, 0, 1] (by decide) (fun (F1 : Int → Int) => [(p0, .inr (3, [.ref p1, .ref p2, .ref p3, .ref p4, .ref p5, .ref p6, .int (iJ (n))])), (p1, cJ cI 32 (nrA)), (p2, cJ cI 32 (ldO g ow n)), (p3, cJ cZ 32 (ldC g q 0 1 cA n)), (p4, cJ cZ 32 (ldC g q 0 0 cU n)), (p5, cJ cI 32 (hd)), (p6, cJ cI 132 (F1)), (h0, .inr (2, [.ref h1, .int (iJ (n)), .int (iJ (q))])), (h1, cJ cI 32 (g))]) (fun _ => rfl) ?_
    intro F1 hp_2
    refine r_cv (ws2 := [(p0, .inr (3, [.ref p1, .ref p2, .ref p3, .ref p4, .ref p5, .ref p6, .int (iJ (n))])), (p1, cJ cI 32 (nrA)), (p2, cJ cI 32 (ldO g ow n)), (p3, cJ cZ 32 (ldC g q 0 1 cA n)), (p4, cJ cZ 32 (ldC g q 0 0 cU n)), (p5, cJ cI 32 (hd)), (p6, cJ cI 132 (F1)), (h0, .inr (2, [.ref h1, .int (iJ (n)), .int (iJ (q))])), (h1, cJ cI 32 (g))]) (st2 := []) rfl rfl rfl ?_
    have hF1 := hp_2
    try dsimp only at hF1
    refine r_aload_n E 0 dX3_canChoose_21 rfl rfl ?_
    refine r_iconst E 0 rfl dX3_canChoose_22 ?_
    refine r_iconst E 3 rfl dX3_canChoose_23 ?_
    refine r_vP E (st := []) (c_X3_fewestFrom l D p0 p1 p2 p3 p4 p5 p6 cI cZ n (ldO g ow n) (ldC g q 0 1 cA n) (ldC g q 0 0 cU n) hd F1 0 3 (by first | assumption | omega | exact ⟨by omega, by omega⟩) (by first | assumption | omega | exact ⟨by omega, by omega⟩)) gX3_canChoose_X3_fewestFrom 2 kf_X3_fewestFrom ⟨rfl, rfl⟩ ⟨by decide, by decide⟩ dX3_canChoose_24 rfl 0 rfl rfl rfl rfl ⟨Nat.zero_le _, Nat.zero_le _⟩ [0, 1, 2, 3, 4, 5, 6] rfl (by decide) [0, 1] rfl (Nat.le_of_ble_eq_true rfl) ?_
    have f_s := ffS_in (L := n) (ow := ldO g ow n) (cA := ldC g q 0 1 cA n) (cU := ldC g q 0 0 cU n) (a := 0) (b := 3) hpr
    refine r_top (b := ffS n (ldO g ow n) (ldC g q 0 1 cA n) (ldC g q 0 0 cU n) pr 0 3) (hF1 0 3 (by omega) (by omega) (by omega) (by omega)) ?_
    refine r_sipush E 1000 rfl dX3_canChoose_27 ?_
    refine r_icmp_lt E 35 dX3_canChoose_30 (by decide) ⟨by omega, by omega⟩ ⟨by omega, by omega⟩ (fun c_30 => ?_) (fun c_30 => ?_)
    · refine r_iconst E 3 rfl dX3_canChoose_35 ?_
      refine r_istore E [(4, .int (iJ (3))), (0, .ref p0), (1, .ref h0), (2, .int (iJ (pr))), (3, .int (iJ (pr)))] dX3_canChoose_36 (by decide) rfl ?_
      refine r_iconst E 0 rfl dX3_canChoose_38 ?_
      refine r_istore E [(5, .int (iJ (0))), (4, .int (iJ (3))), (0, .ref p0), (1, .ref h0), (2, .int (iJ (pr))), (3, .int (iJ (pr)))] dX3_canChoose_39 (by decide) rfl ?_
      have loop_41 : ∀ (N : Nat) (k : Int) (bf : Int) (G : Int → Int), (0 ≤ k ∧ k ≤ n) → (bf = chB n (ldO g ow n) (ldC g q 0 1 cA n) (ldC g q 0 0 cU n) pr k ∧ 0 ≤ bf ∧ bf ≤ 3) → (∀ j : Int, 0 ≤ j → j < k → ¬ ldO g ow n j = 3 → G j = chB n (ldO g ow n) (ldC g q 0 1 cA n) (ldC g q 0 0 cU n) pr (j + 1)) → (n - k).toNat < N → GG p_ l e_ rm_X3_canChoose s_ m_ ar_ bw_ mt_ cd_ D vwCl B_ B_ s_.heap 7 0 0 Q_ [(p0, .inr (3, [.ref p1, .ref p2, .ref p3, .ref p4, .ref p5, .ref p6, .int (iJ (n))])), (p1, cJ cI 32 (nrA)), (p2, cJ cI 32 (ldO g ow n)), (p3, cJ cZ 32 (ldC g q 0 1 cA n)), (p4, cJ cZ 32 (ldC g q 0 0 cU n)), (p5, cJ cI 32 (G)), (p6, cJ cI 132 (F1)), (h0, .inr (2, [.ref h1, .int (iJ (n)), .int (iJ (q))])), (h1, cJ cI 32 (g))] [(0, .ref p0), (1, .ref h0), (2, .int (iJ (pr))), (3, .int (iJ (pr))), (4, .int (iJ (bf))), (5, .int (iJ (k)))] 41 [] := by
        intro N; induction N with
        | zero => intro k bf G hk hbf hG hN; exact absurd hN (Nat.not_lt_zero _)
        | succ N ih41 =>
          intro k bf G hk hbf hG hN
          refine r_iload E 5 dX3_canChoose_41 rfl ?_
          refine r_aload_n E 0 dX3_canChoose_43 rfl rfl ?_
          refine r_get E 3 0 6 dX3_canChoose_44 in_X3_canChoose_X3 lk_X3_canChoose_31 rfl rfl (by decide) rfl ?_
          refine r_icmp_ge E 110 dX3_canChoose_47 (by decide) ⟨by omega, by omega⟩ ⟨by omega, by omega⟩ (fun c_47 => ?_) (fun c_47 => ?_)
          · refine r_iconst E 1 rfl dX3_canChoose_110 ?_
            exact r_retMZ E (G, F1) hr dX3_canChoose_111 (by omega) (by first | rfl | exact (b2_t (by first | omega | assumption)).symm | exact (b2_f (by first | omega | assumption)).symm | omega | assumption) ⟨hF1, fun _ j h1 h2 h3 => hG j h1 (by omega) h3⟩ rfl hQ
          · refine r_aload_n E 0 dX3_canChoose_50 rfl rfl ?_
            refine r_get E 3 0 1 dX3_canChoose_51 in_X3_canChoose_X3 lk_X3_canChoose_15 rfl rfl (by decide) rfl ?_
            refine r_iload E 5 dX3_canChoose_54 rfl ?_
            refine r_iald E (i := k) 2 0 dX3_canChoose_56 rfl rfl (by decide) ⟨by omega, by omega⟩ ?_
            have f_3 := wO k (by omega) (by omega)
            refine r_iconst E 3 rfl dX3_canChoose_57 ?_
            refine r_icmp_eq E 104 dX3_canChoose_58 (by decide) ⟨by omega, by omega⟩ ⟨by omega, by omega⟩ (fun c_58 => ?_) (fun c_58 => ?_)
            · refine r_iinc E (k := 5) [(5, .int (iJ ((k + 1)))), (0, .ref p0), (1, .ref h0), (2, .int (iJ (pr))), (3, .int (iJ (pr))), (4, .int (iJ (bf)))] dX3_canChoose_104 rfl (by decide) rfl ?_
              refine r_goto E 41 dX3_canChoose_107 (by decide) ?_
              refine r_lv [1, 2, 3, 4, 5, 0] [(0, .ref p0), (1, .ref h0), (2, .int (iJ (pr))), (3, .int (iJ (pr))), (4, .int (iJ (bf))), (5, .int (iJ ((k + 1))))] rfl ?_
              exact ih41 (k + 1) bf G ⟨by omega, by omega⟩ ⟨by
                    rw [chB_s _ _ _ _ _ (by omega), ← hbf.1]; first | (rw [if_pos c_58]; done) | (rw [if_neg c_58, if_pos (by omega)]; done) | (rw [if_neg c_58, if_neg (by omega)]; done), by omega, by omega⟩ (fun j h1 h2 h3 => by
                    by_cases q0 : j = k
                    · subst q0; first | exact absurd (by assumption) h3 | (rw [uJ_s, chB_s _ _ _ _ _ (by omega), ← hbf.1]; first | (rw [if_neg c_58, if_pos (by omega)]; done) | (rw [if_neg c_58, if_neg (by omega)]; done))
                    · first | (rw [uJ_n q0]; exact hG j h1 (by omega) h3) | exact hG j h1 (by omega) h3) (by omega)
            · refine r_aload_n E 0 dX3_canChoose_61 rfl rfl ?_
              refine r_iload E 5 dX3_canChoose_62 rfl ?_
              refine r_iload E 4 dX3_canChoose_64 rfl ?_
              refine r_iconst E 0 rfl dX3_canChoose_66 ?_
              refine r_iload_n E 3 dX3_canChoose_67 rfl rfl ?_
              refine r_vP E (st := []) (c_X3_fewestWith l D p0 p1 p2 p3 p4 p5 p6 cI cZ n (ldO g ow n) (ldC g q 0 1 cA n) (ldC g q 0 0 cU n) G F1 k bf 0 pr (by first | assumption | omega | exact ⟨by omega, by omega⟩) wA wU wO (by first | assumption | omega | exact ⟨by omega, by omega⟩) (by first | assumption | omega | exact ⟨by omega, by omega⟩) (by first | assumption | omega | exact ⟨by omega, by omega⟩) (by first | assumption | omega | exact ⟨by omega, by omega⟩) (by rw [hF1 (k + 1) 0 (by omega) (by omega) (by omega) (by omega)]; exact ffS_in hpr)) gX3_canChoose_X3_fewestWith 4 kf_X3_fewestWith ⟨rfl, rfl⟩ ⟨by decide, by decide⟩ dX3_canChoose_68 rfl 0 rfl rfl rfl rfl ⟨Nat.zero_le _, Nat.zero_le _⟩ [0, 1, 2, 3, 4, 5, 6] rfl (by decide) [0, 1] rfl (Nat.le_of_ble_eq_true rfl) ?_
              refine r_top (b := ffV n (ldO g ow n) (ldC g q 0 1 cA n) (ldC g q 0 0 cU n) pr k bf 0) (by
                    unfold ffV ffX; rw [← hF1 (k + 1) 0 (by omega) (by omega) (by omega) (by omega)]) ?_
              refine r_istore E [(6, .int (iJ (ffV n (ldO g ow n) (ldC g q 0 1 cA n) (ldC g q 0 0 cU n) pr k bf 0))), (0, .ref p0), (1, .ref h0), (2, .int (iJ (pr))), (3, .int (iJ (pr))), (4, .int (iJ (bf))), (5, .int (iJ (k)))] dX3_canChoose_71 (by decide) rfl ?_
              refine r_iload E 0 dX3_canChoose_73 rfl ?_
              refine r_aload_n E 1 dX3_canChoose_75 rfl rfl ?_
              refine r_iload E 6 dX3_canChoose_76 rfl ?_
              refine r_iload E 5 dX3_canChoose_78 rfl ?_
              refine r_iconst E 1 rfl dX3_canChoose_80 ?_
              refine r_iload_n E 4 dX3_canChoose_81 rfl rfl ?_
              refine r_vP E (st := [.int (iJ (ffV n (ldO g ow n) (ldC g q 0 1 cA n) (ldC g q 0 0 cU n) pr k bf 0))]) (c_X3_fewestWith l D p0 p1 p2 p3 p4 p5 p6 cI cZ n (ldO g ow n) (ldC g q 0 1 cA n) (ldC g q 0 0 cU n) G F1 k bf 1 pr (by first | assumption | omega | exact ⟨by omega, by omega⟩) wA wU wO (by first | assumption | omega | exact ⟨by omega, by omega⟩) (by first | assumption | omega | exact ⟨by omega, by omega⟩) (by first | assumption | omega | exact ⟨by omega, by omega⟩) (by first | assumption | omega | exact ⟨by omega, by omega⟩) (by rw [hF1 (k + 1) 1 (by omega) (by omega) (by omega) (by omega)]; exact ffS_in hpr)) gX3_canChoose_X3_fewestWith 4 kf_X3_fewestWith ⟨rfl, rfl⟩ ⟨by decide, by decide⟩ dX3_canChoose_82 rfl 0 rfl rfl rfl rfl ⟨Nat.zero_le _, Nat.zero_le _⟩ [0, 1, 2, 3, 4, 5, 6] rfl (by decide) [0, 1] rfl (Nat.le_of_ble_eq_true rfl) ?_
              have f_0 := ffV_in (L := n) (ow := ldO g ow n) (cA := ldC g q 0 1 cA n) (cU := ldC g q 0 0 cU n) (a := k) (b := bf) (h := 0) hpr
              have f_1 := ffV_in (L := n) (ow := ldO g ow n) (cA := ldC g q 0 1 cA n) (cU := ldC g q 0 0 cU n) (a := k) (b := bf) (h := 1) hpr
              refine r_top (b := ffV n (ldO g ow n) (ldC g q 0 1 cA n) (ldC g q 0 0 cU n) pr k bf 1) (by
                    unfold ffV ffX; rw [← hF1 (k + 1) 1 (by omega) (by omega) (by omega) (by omega)]) ?_
              refine r_icmp_gt E 92 dX3_canChoose_85 (by decide) ⟨by omega, by omega⟩ ⟨by omega, by omega⟩ (fun c_85 => ?_) (fun c_85 => ?_)
              · refine r_iconst E 1 rfl dX3_canChoose_92 ?_
                refine r_istore E [(4, .int (iJ (1))), (6, .int (iJ (ffV n (ldO g ow n) (ldC g q 0 1 cA n) (ldC g q 0 0 cU n) pr k bf 0))), (0, .ref p0), (1, .ref h0), (2, .int (iJ (pr))), (3, .int (iJ (pr))), (5, .int (iJ (k)))] dX3_canChoose_93 (by decide) rfl ?_
                refine r_aload_n E 2 dX3_canChoose_95 rfl rfl ?_
                refine r_get E 3 0 4 dX3_canChoose_96 in_X3_canChoose_X3 lk_X3_canChoose_25 rfl rfl (by decide) rfl ?_
                refine r_iload E 6 dX3_canChoose_99 rfl ?_
                refine r_iload E 0 dX3_canChoose_101 rfl ?_
                refine r_iast E (i := k) 5 0 dX3_canChoose_103 rfl rfl (by decide) ⟨by omega, by omega⟩ [(p0, .inr (3, [.ref p1, .ref p2, .ref p3, .ref p4, .ref p5, .ref p6, .int (iJ (n))])), (p1, cJ cI 32 (nrA)), (p2, cJ cI 32 (ldO g ow n)), (p3, cJ cZ 32 (ldC g q 0 1 cA n)), (p4, cJ cZ 32 (ldC g q 0 0 cU n)), (p5, cJ cI 32 (uJ G k 1)), (p6, cJ cI 132 (F1)), (h0, .inr (2, [.ref h1, .int (iJ (n)), .int (iJ (q))])), (h1, cJ cI 32 (g))] rfl ?_
                refine r_iinc E (k := 6) [(5, .int (iJ ((k + 1)))), (4, .int (iJ (1))), (6, .int (iJ (ffV n (ldO g ow n) (ldC g q 0 1 cA n) (ldC g q 0 0 cU n) pr k bf 0))), (0, .ref p0), (1, .ref h0), (2, .int (iJ (pr))), (3, .int (iJ (pr)))] dX3_canChoose_104 rfl (by decide) rfl ?_
                refine r_goto E 41 dX3_canChoose_107 (by decide) ?_
                refine r_lv [3, 4, 5, 6, 1, 0] [(0, .ref p0), (1, .ref h0), (2, .int (iJ (pr))), (3, .int (iJ (pr))), (4, .int (iJ (1))), (5, .int (iJ ((k + 1))))] rfl ?_
                exact ih41 (k + 1) 1 (uJ G k 1) ⟨by omega, by omega⟩ ⟨by
                      rw [chB_s _ _ _ _ _ (by omega), ← hbf.1]; first | (rw [if_pos c_58]; done) | (rw [if_neg c_58, if_pos (by omega)]; done) | (rw [if_neg c_58, if_neg (by omega)]; done), by omega, by omega⟩ (fun j h1 h2 h3 => by
                      by_cases q0 : j = k
                      · subst q0; first | exact absurd (by assumption) h3 | (rw [uJ_s, chB_s _ _ _ _ _ (by omega), ← hbf.1]; first | (rw [if_neg c_58, if_pos (by omega)]; done) | (rw [if_neg c_58, if_neg (by omega)]; done))
                      · first | (rw [uJ_n q0]; exact hG j h1 (by omega) h3) | exact hG j h1 (by omega) h3) (by omega)
              · refine r_iconst E 0 rfl dX3_canChoose_88 ?_
                refine r_goto E 93 dX3_canChoose_89 (by decide) ?_
                refine r_istore E [(4, .int (iJ (0))), (6, .int (iJ (ffV n (ldO g ow n) (ldC g q 0 1 cA n) (ldC g q 0 0 cU n) pr k bf 0))), (0, .ref p0), (1, .ref h0), (2, .int (iJ (pr))), (3, .int (iJ (pr))), (5, .int (iJ (k)))] dX3_canChoose_93 (by decide) rfl ?_
                refine r_aload_n E 2 dX3_canChoose_95 rfl rfl ?_
                refine r_get E 3 0 4 dX3_canChoose_96 in_X3_canChoose_X3 lk_X3_canChoose_25 rfl rfl (by decide) rfl ?_
                refine r_iload E 6 dX3_canChoose_99 rfl ?_
                refine r_iload E 0 dX3_canChoose_101 rfl ?_
                refine r_iast E (i := k) 5 0 dX3_canChoose_103 rfl rfl (by decide) ⟨by omega, by omega⟩ [(p0, .inr (3, [.ref p1, .ref p2, .ref p3, .ref p4, .ref p5, .ref p6, .int (iJ (n))])), (p1, cJ cI 32 (nrA)), (p2, cJ cI 32 (ldO g ow n)), (p3, cJ cZ 32 (ldC g q 0 1 cA n)), (p4, cJ cZ 32 (ldC g q 0 0 cU n)), (p5, cJ cI 32 (uJ G k 0)), (p6, cJ cI 132 (F1)), (h0, .inr (2, [.ref h1, .int (iJ (n)), .int (iJ (q))])), (h1, cJ cI 32 (g))] rfl ?_
                refine r_iinc E (k := 6) [(5, .int (iJ ((k + 1)))), (4, .int (iJ (0))), (6, .int (iJ (ffV n (ldO g ow n) (ldC g q 0 1 cA n) (ldC g q 0 0 cU n) pr k bf 0))), (0, .ref p0), (1, .ref h0), (2, .int (iJ (pr))), (3, .int (iJ (pr)))] dX3_canChoose_104 rfl (by decide) rfl ?_
                refine r_goto E 41 dX3_canChoose_107 (by decide) ?_
                refine r_lv [3, 4, 5, 6, 1, 0] [(0, .ref p0), (1, .ref h0), (2, .int (iJ (pr))), (3, .int (iJ (pr))), (4, .int (iJ (0))), (5, .int (iJ ((k + 1))))] rfl ?_
                exact ih41 (k + 1) 0 (uJ G k 0) ⟨by omega, by omega⟩ ⟨by
                      rw [chB_s _ _ _ _ _ (by omega), ← hbf.1]; first | (rw [if_pos c_58]; done) | (rw [if_neg c_58, if_pos (by omega)]; done) | (rw [if_neg c_58, if_neg (by omega)]; done), by omega, by omega⟩ (fun j h1 h2 h3 => by
                      by_cases q0 : j = k
                      · subst q0; first | exact absurd (by assumption) h3 | (rw [uJ_s, chB_s _ _ _ _ _ (by omega), ← hbf.1]; first | (rw [if_neg c_58, if_pos (by omega)]; done) | (rw [if_neg c_58, if_neg (by omega)]; done))
                      · first | (rw [uJ_n q0]; exact hG j h1 (by omega) h3) | exact hG j h1 (by omega) h3) (by omega)
      refine r_lv [2, 3, 4, 5, 1, 0] [(0, .ref p0), (1, .ref h0), (2, .int (iJ (pr))), (3, .int (iJ (pr))), (4, .int (iJ (3))), (5, .int (iJ (0)))] rfl ?_
      exact loop_41 _ 0 3 hd ⟨by omega, by omega⟩ ⟨rfl, by omega, by omega⟩ (fun j h1 h2 => absurd h2 (by omega)) (Nat.lt_succ_self _)
    · refine r_iconst E 0 rfl dX3_canChoose_33 ?_
      exact r_retMZ E (hd, F1) hr dX3_canChoose_34 (by omega) (by first | rfl | exact (b2_t (by first | omega | assumption)).symm | exact (b2_f (by first | omega | assumption)).symm | omega | assumption) ⟨hF1, fun z => absurd z (by omega)⟩ rfl hQ
  refine r_iload_n E 2 dX3_canChoose_6 rfl rfl ?_
  refine r_if_eq E 14 dX3_canChoose_7 (by decide) ⟨by omega, by omega⟩ (fun c_7 => ?_) (fun c_7 => ?_)
  · refine r_iconst E 0 rfl dX3_canChoose_14 ?_
    refine r_istore_n E [(3, .int (iJ (0))), (0, .ref p0), (1, .ref h0), (2, .int (iJ (pr)))] dX3_canChoose_15 rfl (by decide) rfl ?_
    refine r_lv [1, 2, 3, 0] [(0, .ref p0), (1, .ref h0), (2, .int (iJ (pr))), (3, .int (iJ (0)))] rfl ?_
    exact K_16 0 (by omega)
  · refine r_iconst E 1 rfl dX3_canChoose_10 ?_
    refine r_goto E 15 dX3_canChoose_11 (by decide) ?_
    refine r_istore_n E [(3, .int (iJ (1))), (0, .ref p0), (1, .ref h0), (2, .int (iJ (pr)))] dX3_canChoose_15 rfl (by decide) rfl ?_
    refine r_lv [1, 2, 3, 0] [(0, .ref p0), (1, .ref h0), (2, .int (iJ (pr))), (3, .int (iJ (1)))] rfl ?_
    exact K_16 1 (by omega)
theorem kf_X3_repeatedHands : KF yX3_repeatedHands 0 wsX3_repeatedHands cX3_repeatedHands 1 (some .int) := ⟨rfl, by decide +kernel, by decide +kernel, by decide +kernel⟩
def rm_X3_repeatedHands : Room := { frames := 1, cells := 0, slots := 0, locals := 23 }
set_option maxHeartbeats 1000000 in
set_option maxRecDepth 100000 in
theorem c_X3_repeatedHands (l : Launch) (D : va_G) (p0 : Nat) (p1 : Nat) (p2 : Nat) (p3 : Nat) (p4 : Nat) (p5 : Nat) (p6 : Nat) (cI : ClassId) (cZ : ClassId) (L : Int) (ow : Int → Int) (cA : Int → Int) (cU : Int → Int) (hd : Int → Int) (fw : Int → Int)  : MP l yX3_repeatedHands wsX3_repeatedHands rm_X3_repeatedHands D vwCl [.ref p0] [(p0, .inr (3, [.ref p1, .ref p2, .ref p3, .ref p4, .ref p5, .ref p6, .int (iJ (L))])), (p1, cJ cI 32 (nrA)), (p2, cJ cI 32 (ow)), (p3, cJ cZ 32 (cA)), (p4, cJ cZ 32 (cU)), (p5, cJ cI 32 (hd)), (p6, cJ cI 132 (fw))] [(cI, .int), (cZ, .boolean)] (fw (0 * 4 + 3)) := by
  refine MP.mk (cc := cX3_repeatedHands) (maxL := 1) (ret := (some .int)) (by decide) rfl (Nat.le_of_ble_eq_true rfl) rfl RX3 rfl ?_
  intro p_ e_ s_ m_ ar_ bw_ mt_ cd_ Q_ E hr hQ
  refine r_aload_n E 0 dX3_repeatedHands_0 rfl rfl ?_
  refine r_iconst E 0 rfl dX3_repeatedHands_1 ?_
  refine r_iconst E 3 rfl dX3_repeatedHands_2 ?_
  refine r_vP E (st := []) (c_X3_fewestFrom l D p0 p1 p2 p3 p4 p5 p6 cI cZ L ow cA cU hd fw 0 3 (by first | assumption | omega | exact ⟨by omega, by omega⟩) (by first | assumption | omega | exact ⟨by omega, by omega⟩)) gX3_repeatedHands_X3_fewestFrom 2 kf_X3_fewestFrom ⟨rfl, rfl⟩ ⟨by decide, by decide⟩ dX3_repeatedHands_3 rfl 0 rfl rfl rfl rfl ⟨Nat.zero_le _, Nat.zero_le _⟩ [0, 1, 2, 3, 4, 5, 6] rfl (by decide) [0, 1] rfl (Nat.le_of_ble_eq_true rfl) ?_
  exact r_retP E hr dX3_repeatedHands_6 rfl hQ
theorem kf_X3_tell : KF yX3_tell 2 wsX3_tell cX3_tell 5 (some .int) := ⟨rfl, by decide +kernel, by decide +kernel, by decide +kernel⟩
def rm_X3_tell : Room := { frames := 4, cells := 0, slots := 0, locals := 101 }
set_option maxRecDepth 20000 in
theorem ck_X3_tell_97 : Cond.constantLong RX3 97 (lJ 1000000000) ∈ wsX3_tell := by decide +kernel
set_option maxRecDepth 20000 in
theorem mk_X3_tell_99 : Cond.methodLink RX3 99 Lib.MathLoose.min_long.x ∈ wsX3_tell ∧ Cond.static Lib.MathLoose.min_long.x ∈ wsX3_tell ∧ Cond.initialized "java/lang/Math" ∈ wsX3_tell ∧ Cond.code Lib.MathLoose.min_long.x Lib.MathLoose.min_long.code 4 (some .long) ∈ wsX3_tell := by decide +kernel
set_option maxHeartbeats 1000000 in
set_option maxRecDepth 100000 in
theorem c_X3_tell (l : Launch) (D : va_G) (p0 : Nat) (p1 : Nat) (p2 : Nat) (p3 : Nat) (p4 : Nat) (p5 : Nat) (p6 : Nat) (cI : ClassId) (cZ : ClassId) (L : Int) (ow : Int → Int) (cA : Int → Int) (cU : Int → Int) (hd : Int → Int) (fw : Int → Int) (h0 : Nat) (h1 : Nat) (g : Int → Int) (n : Int) (q : Int) (ov : Int) (hn : 0 ≤ n ∧ n ≤ 32) (hg : ∀ j : Int, 0 ≤ j → j < n → 0 ≤ g j ∧ g j < 64) (hq : 1 ≤ q ∧ q ≤ 4) (hov : ov = 0 ∨ ov = 1) : MM (S := (Int → Int) × (Int → Int) × (Int → Int) × Int) l yX3_tell wsX3_tell rm_X3_tell D vwCl [.ref p0, .ref h0, .int (iJ (ov))] [(p0, .inr (3, [.ref p1, .ref p2, .ref p3, .ref p4, .ref p5, .ref p6, .int (iJ (L))])), (p1, cJ cI 32 (nrA)), (p2, cJ cI 32 (ow)), (p3, cJ cZ 32 (cA)), (p4, cJ cZ 32 (cU)), (p5, cJ cI 32 (hd)), (p6, cJ cI 132 (fw)), (h0, .inr (2, [.ref h1, .int (iJ (n)), .int (iJ (q))])), (h1, cJ cI 32 (g))] [(cI, .int), (cZ, .boolean)] (fun (u : (Int → Int) × (Int → Int) × (Int → Int) × Int) => (if sm (fun j => b2 (¬ g j = 0)) n = 0 then 1 else (if 1000000000 < tlA n q ov g ow cA cU then 1000000000 else tlA n q ov g ow cA cU))) (fun (u : (Int → Int) × (Int → Int) × (Int → Int) × Int) => True) (fun (u : (Int → Int) × (Int → Int) × (Int → Int) × Int) => [(p0, .inr (3, [.ref p1, .ref p2, .ref p3, .ref p4, .ref p5, .ref p6, .int (iJ (u.2.2.2))])), (p1, cJ cI 32 (nrA)), (p2, cJ cI 32 (u.1)), (p3, cJ cZ 32 (u.2.1)), (p4, cJ cZ 32 (u.2.2.1)), (p5, cJ cI 32 (hd)), (p6, cJ cI 132 (fw)), (h0, .inr (2, [.ref h1, .int (iJ (n)), .int (iJ (q))])), (h1, cJ cI 32 (g))]) := by
  refine MM.mk (cc := cX3_tell) (maxL := 5) (ret := (some .int)) (by decide) rfl (Nat.le_of_ble_eq_true rfl) rfl RX3 rfl ?_
  intro p_ e_ s_ m_ ar_ bw_ mt_ cd_ B_ Q_ hA E hr hQ
  have wO : ∀ j : Int, 0 ≤ j → j < n → 0 ≤ ldO g ow n j ∧ ldO g ow n j ≤ 3 := fun j h1 h2 => by
        unfold ldO; rw [if_pos ⟨h1, h2⟩]; split <;> omega
  have wA : ∀ j : Int, 0 ≤ j → j < n → ldC g q (if ov = 0 then 0 else pAt g n (n - 1)) 1 cA n j = 0 ∨ ldC g q (if ov = 0 then 0 else pAt g n (n - 1)) 1 cA n j = 1 := fun j h1 h2 => by
        unfold ldC; rw [if_pos ⟨h1, h2⟩]; exact b2_01 _
  have wU : ∀ j : Int, 0 ≤ j → j < n → ldC g q (if ov = 0 then 0 else pAt g n (n - 1)) 0 cU n j = 0 ∨ ldC g q (if ov = 0 then 0 else pAt g n (n - 1)) 0 cU n j = 1 := fun j h1 h2 => by
        unfold ldC; rw [if_pos ⟨h1, h2⟩]; exact b2_01 _
  have f_S := sm_le (f := fun j => b2 (¬ g j = 0)) (c := 1) (k := n) (by omega) (fun j _ _ => by rcases b2_01 (¬ g j = 0) with z | z <;> (rw [z]; omega))
  refine r_aload_n E 1 dX3_tell_0 rfl rfl ?_
  refine r_vP E (st := []) (c_X2_strokes l D h0 h1 cI g n q (by first | assumption | omega | exact ⟨by omega, by omega⟩) (by first | assumption | omega | exact ⟨by omega, by omega⟩)) gX3_tell_X2_strokes 0 kf_X2_strokes ⟨rfl, rfl⟩ ⟨by decide, by decide⟩ dX3_tell_1 rfl 7 rfl rfl rfl rfl ⟨Nat.zero_le _, Nat.zero_le _⟩ [7, 8] rfl (by decide) [0] rfl (Nat.le_of_ble_eq_true rfl) ?_
  refine r_if_ne E 9 dX3_tell_4 (by decide) ⟨by omega, by omega⟩ (fun c_4 => ?_) (fun c_4 => ?_)
  · refine r_aload_n E 0 dX3_tell_9 rfl rfl ?_
    refine r_aload_n E 1 dX3_tell_10 rfl rfl ?_
    refine r_iload_n E 2 dX3_tell_11 rfl rfl ?_
    refine r_vV E (st := []) (c_X3_load l D p0 p1 p2 p3 p4 p5 p6 cI cZ L ow cA cU hd fw h0 h1 g n q ov (by first | assumption | omega | exact ⟨by omega, by omega⟩) (by first | assumption | omega | exact ⟨by omega, by omega⟩) (by first | assumption | omega | exact ⟨by omega, by omega⟩) (by first | assumption | omega | exact ⟨by omega, by omega⟩)) gX3_tell_X3_load 2 kf_X3_load ⟨rfl, rfl⟩ ⟨by decide, by decide⟩ dX3_tell_12 rfl 0 rfl rfl rfl rfl ⟨Nat.zero_le _, Nat.zero_le _⟩ [0, 1, 2, 3, 4, 5, 6, 7, 8] rfl (by decide) [0, 1] rfl (Nat.le_of_ble_eq_true rfl) [] [] rfl (by decide) (by decide) hA [0, 1, 2, 3, 4, 5, 6, 7, 8] (by decide) (fun (_ : Unit) => [(p0, .inr (3, [.ref p1, .ref p2, .ref p3, .ref p4, .ref p5, .ref p6, .int (iJ (n))])), (p1, cJ cI 32 (nrA)), (p2, cJ cI 32 (ldO g ow n)), (p3, cJ cZ 32 (ldC g q (if ov = 0 then 0 else pAt g n (n - 1)) 1 cA n)), (p4, cJ cZ 32 (ldC g q (if ov = 0 then 0 else pAt g n (n - 1)) 0 cU n)), (p5, cJ cI 32 (hd)), (p6, cJ cI 132 (fw)), (h0, .inr (2, [.ref h1, .int (iJ (n)), .int (iJ (q))])), (h1, cJ cI 32 (g))]) (fun _ => rfl) ?_
    rintro ⟨⟩ hp_1
    refine r_aload_n E 0 dX3_tell_15 rfl rfl ?_
    refine r_iconst E 0 rfl dX3_tell_16 ?_
    refine r_iconst E 0 rfl dX3_tell_17 ?_
    refine r_vL E (st := []) (c_X3_tellBetween l D p0 p1 p2 p3 p4 p5 p6 cI cZ n (ldO g ow n) (ldC g q (if ov = 0 then 0 else pAt g n (n - 1)) 1 cA n) (ldC g q (if ov = 0 then 0 else pAt g n (n - 1)) 0 cU n) hd fw 0 0 (by first | assumption | omega | exact ⟨by omega, by omega⟩) wA wU wO (by first | assumption | omega | exact ⟨by omega, by omega⟩) (by first | assumption | omega | exact ⟨by omega, by omega⟩)) gX3_tell_X3_tellBetween 2 kf_X3_tellBetween ⟨rfl, rfl⟩ ⟨by decide, by decide⟩ dX3_tell_18 rfl 0 rfl rfl rfl rfl ⟨Nat.zero_le _, Nat.zero_le _⟩ [0, 1, 2, 3, 4, 5, 6] rfl (by decide) [0, 1] rfl (Nat.le_of_ble_eq_true rfl) ?_
    refine r_iload_n E 2 dX3_tell_21 rfl rfl ?_
    refine r_if_eq E 34 dX3_tell_22 (by decide) ⟨by omega, by omega⟩ (fun c_22 => ?_) (fun c_22 => ?_)
    · refine r_aload_n E 0 dX3_tell_34 rfl rfl ?_
      refine r_iconst E 0 rfl dX3_tell_35 ?_
      refine r_iconst E 1 rfl dX3_tell_36 ?_
      refine r_vL E (st := [.long (lJ ((if 0 = 0 then tbR n (ldO g ow n) (ldC g q (if ov = 0 then 0 else pAt g n (n - 1)) 1 cA n) (ldC g q (if ov = 0 then 0 else pAt g n (n - 1)) 0 cU n) 0 n else tbL n (ldO g ow n) (ldC g q (if ov = 0 then 0 else pAt g n (n - 1)) 1 cA n) (ldC g q (if ov = 0 then 0 else pAt g n (n - 1)) 0 cU n) 0 n)))]) (c_X3_tellBetween l D p0 p1 p2 p3 p4 p5 p6 cI cZ n (ldO g ow n) (ldC g q (if ov = 0 then 0 else pAt g n (n - 1)) 1 cA n) (ldC g q (if ov = 0 then 0 else pAt g n (n - 1)) 0 cU n) hd fw 0 1 (by first | assumption | omega | exact ⟨by omega, by omega⟩) wA wU wO (by first | assumption | omega | exact ⟨by omega, by omega⟩) (by first | assumption | omega | exact ⟨by omega, by omega⟩)) gX3_tell_X3_tellBetween 2 kf_X3_tellBetween ⟨rfl, rfl⟩ ⟨by decide, by decide⟩ dX3_tell_37 rfl 0 rfl rfl rfl rfl ⟨Nat.zero_le _, Nat.zero_le _⟩ [0, 1, 2, 3, 4, 5, 6] rfl (by decide) [0, 1] rfl (Nat.le_of_ble_eq_true rfl) ?_
      refine r_ladd E dX3_tell_40 ?_
      refine r_lstore_n E [(3, .long (lJ (((if 0 = 0 then tbR n (ldO g ow n) (ldC g q (if ov = 0 then 0 else pAt g n (n - 1)) 1 cA n) (ldC g q (if ov = 0 then 0 else pAt g n (n - 1)) 0 cU n) 0 n else tbL n (ldO g ow n) (ldC g q (if ov = 0 then 0 else pAt g n (n - 1)) 1 cA n) (ldC g q (if ov = 0 then 0 else pAt g n (n - 1)) 0 cU n) 0 n) + (if 1 = 0 then tbR n (ldO g ow n) (ldC g q (if ov = 0 then 0 else pAt g n (n - 1)) 1 cA n) (ldC g q (if ov = 0 then 0 else pAt g n (n - 1)) 0 cU n) 0 n else tbL n (ldO g ow n) (ldC g q (if ov = 0 then 0 else pAt g n (n - 1)) 1 cA n) (ldC g q (if ov = 0 then 0 else pAt g n (n - 1)) 0 cU n) 0 n))))), (0, .ref p0), (1, .ref h0), (2, .int (iJ (ov)))] dX3_tell_41 rfl (by decide) rfl ?_
      have f_t := tlA_in (n := n) (q := q) (ov := ov) (g := g) (ow := ow) (cA := cA) (cU := cU) (by omega)
      refine r_cv rfl (lv2 := [(3, .long (lJ (tlA n q ov g ow cA cU))), (0, .ref p0), (1, .ref h0), (2, .int (iJ (ov)))]) (by
            have e : tlA n q ov g ow cA cU = tbR n (ldO g ow n) (ldC g q (if ov = 0 then 0 else pAt g n (n - 1)) 1 cA n) (ldC g q (if ov = 0 then 0 else pAt g n (n - 1)) 0 cU n) 0 n + (if ov = 0 then tbL n (ldO g ow n) (ldC g q (if ov = 0 then 0 else pAt g n (n - 1)) 1 cA n) (ldC g q (if ov = 0 then 0 else pAt g n (n - 1)) 0 cU n) 0 n else tbL n (ldO g ow n) (ldC g q (if ov = 0 then 0 else pAt g n (n - 1)) 1 cA n) (ldC g q (if ov = 0 then 0 else pAt g n (n - 1)) 0 cU n) 1 n) := rfl
            rw [e]; simp [c_22]) rfl ?_
      refine r_lload_n E 0 dX3_tell_42 rfl rfl ?_
      refine r_ldc2l E 1000000000 dX3_tell_43 ck_X3_tell_97 ?_
      refine r_lmin E (if 1000000000 < tlA n q ov g ow cA cU then 1000000000 else tlA n q ov g ow cA cU) dX3_tell_46 ⟨⟨by omega, by omega⟩, ⟨by omega, by omega⟩, rfl⟩ mk_X3_tell_99 ⟨by decide, by decide⟩ (Nat.le_of_ble_eq_true rfl) ⟨Nat.zero_le _, Nat.zero_le _⟩ ?_
      refine r_l2i E dX3_tell_49 ?_
      exact r_retM E (ldO g ow n, ldC g q (if ov = 0 then 0 else pAt g n (n - 1)) 1 cA n, ldC g q (if ov = 0 then 0 else pAt g n (n - 1)) 0 cU n, n) hr dX3_tell_50 (by rw [if_neg c_4]) trivial rfl hQ
    · refine r_aload_n E 0 dX3_tell_25 rfl rfl ?_
      refine r_iconst E 1 rfl dX3_tell_26 ?_
      refine r_iconst E 1 rfl dX3_tell_27 ?_
      refine r_vL E (st := [.long (lJ ((if 0 = 0 then tbR n (ldO g ow n) (ldC g q (if ov = 0 then 0 else pAt g n (n - 1)) 1 cA n) (ldC g q (if ov = 0 then 0 else pAt g n (n - 1)) 0 cU n) 0 n else tbL n (ldO g ow n) (ldC g q (if ov = 0 then 0 else pAt g n (n - 1)) 1 cA n) (ldC g q (if ov = 0 then 0 else pAt g n (n - 1)) 0 cU n) 0 n)))]) (c_X3_tellBetween l D p0 p1 p2 p3 p4 p5 p6 cI cZ n (ldO g ow n) (ldC g q (if ov = 0 then 0 else pAt g n (n - 1)) 1 cA n) (ldC g q (if ov = 0 then 0 else pAt g n (n - 1)) 0 cU n) hd fw 1 1 (by first | assumption | omega | exact ⟨by omega, by omega⟩) wA wU wO (by first | assumption | omega | exact ⟨by omega, by omega⟩) (by first | assumption | omega | exact ⟨by omega, by omega⟩)) gX3_tell_X3_tellBetween 2 kf_X3_tellBetween ⟨rfl, rfl⟩ ⟨by decide, by decide⟩ dX3_tell_28 rfl 0 rfl rfl rfl rfl ⟨Nat.zero_le _, Nat.zero_le _⟩ [0, 1, 2, 3, 4, 5, 6] rfl (by decide) [0, 1] rfl (Nat.le_of_ble_eq_true rfl) ?_
      refine r_goto E 40 dX3_tell_31 (by decide) ?_
      refine r_ladd E dX3_tell_40 ?_
      refine r_lstore_n E [(3, .long (lJ (((if 0 = 0 then tbR n (ldO g ow n) (ldC g q (if ov = 0 then 0 else pAt g n (n - 1)) 1 cA n) (ldC g q (if ov = 0 then 0 else pAt g n (n - 1)) 0 cU n) 0 n else tbL n (ldO g ow n) (ldC g q (if ov = 0 then 0 else pAt g n (n - 1)) 1 cA n) (ldC g q (if ov = 0 then 0 else pAt g n (n - 1)) 0 cU n) 0 n) + (if 1 = 0 then tbR n (ldO g ow n) (ldC g q (if ov = 0 then 0 else pAt g n (n - 1)) 1 cA n) (ldC g q (if ov = 0 then 0 else pAt g n (n - 1)) 0 cU n) 1 n else tbL n (ldO g ow n) (ldC g q (if ov = 0 then 0 else pAt g n (n - 1)) 1 cA n) (ldC g q (if ov = 0 then 0 else pAt g n (n - 1)) 0 cU n) 1 n))))), (0, .ref p0), (1, .ref h0), (2, .int (iJ (ov)))] dX3_tell_41 rfl (by decide) rfl ?_
      have f_t := tlA_in (n := n) (q := q) (ov := ov) (g := g) (ow := ow) (cA := cA) (cU := cU) (by omega)
      refine r_cv rfl (lv2 := [(3, .long (lJ (tlA n q ov g ow cA cU))), (0, .ref p0), (1, .ref h0), (2, .int (iJ (ov)))]) (by
            have e : tlA n q ov g ow cA cU = tbR n (ldO g ow n) (ldC g q (if ov = 0 then 0 else pAt g n (n - 1)) 1 cA n) (ldC g q (if ov = 0 then 0 else pAt g n (n - 1)) 0 cU n) 0 n + (if ov = 0 then tbL n (ldO g ow n) (ldC g q (if ov = 0 then 0 else pAt g n (n - 1)) 1 cA n) (ldC g q (if ov = 0 then 0 else pAt g n (n - 1)) 0 cU n) 0 n else tbL n (ldO g ow n) (ldC g q (if ov = 0 then 0 else pAt g n (n - 1)) 1 cA n) (ldC g q (if ov = 0 then 0 else pAt g n (n - 1)) 0 cU n) 1 n) := rfl
            rw [e]; simp [c_22]) rfl ?_
      refine r_lload_n E 0 dX3_tell_42 rfl rfl ?_
      refine r_ldc2l E 1000000000 dX3_tell_43 ck_X3_tell_97 ?_
      refine r_lmin E (if 1000000000 < tlA n q ov g ow cA cU then 1000000000 else tlA n q ov g ow cA cU) dX3_tell_46 ⟨⟨by omega, by omega⟩, ⟨by omega, by omega⟩, rfl⟩ mk_X3_tell_99 ⟨by decide, by decide⟩ (Nat.le_of_ble_eq_true rfl) ⟨Nat.zero_le _, Nat.zero_le _⟩ ?_
      refine r_l2i E dX3_tell_49 ?_
      exact r_retM E (ldO g ow n, ldC g q (if ov = 0 then 0 else pAt g n (n - 1)) 1 cA n, ldC g q (if ov = 0 then 0 else pAt g n (n - 1)) 0 cU n, n) hr dX3_tell_50 (by rw [if_neg c_4]) trivial rfl hQ
  · refine r_iconst E 1 rfl dX3_tell_7 ?_
    exact r_retM E (ow, cA, cU, L) hr dX3_tell_8 (by rw [if_pos c_4]) trivial rfl hQ
theorem kf_X3_clashOfOnly : KF yX3_clashOfOnly 1 wsX3_clashOfOnly cX3_clashOfOnly 2 (some .int) := ⟨rfl, by decide +kernel, by decide +kernel, by decide +kernel⟩
def rm_X3_clashOfOnly : Room := { frames := 3, cells := 0, slots := 0, locals := 70 }
set_option maxHeartbeats 1000000 in
set_option maxRecDepth 100000 in
theorem c_X3_clashOfOnly (l : Launch) (D : va_G) (p0 : Nat) (p1 : Nat) (p2 : Nat) (p3 : Nat) (p4 : Nat) (p5 : Nat) (p6 : Nat) (cI : ClassId) (cZ : ClassId) (L : Int) (ow : Int → Int) (cA : Int → Int) (cU : Int → Int) (hd : Int → Int) (fw : Int → Int) (h0 : Nat) (h1 : Nat) (g : Int → Int) (n : Int) (q : Int) (hn : 0 ≤ n ∧ n ≤ 32) (hg : ∀ j : Int, 0 ≤ j → j < n → 0 ≤ g j ∧ g j < 64) (hq : 1 ≤ q ∧ q ≤ 4) : MM (S := (Int → Int) × (Int → Int) × (Int → Int) × (Int → Int) × Int) l yX3_clashOfOnly wsX3_clashOfOnly rm_X3_clashOfOnly D vwCl [.ref p0, .ref h0] [(p0, .inr (3, [.ref p1, .ref p2, .ref p3, .ref p4, .ref p5, .ref p6, .int (iJ (L))])), (p1, cJ cI 32 (nrA)), (p2, cJ cI 32 (ow)), (p3, cJ cZ 32 (cA)), (p4, cJ cZ 32 (cU)), (p5, cJ cI 32 (hd)), (p6, cJ cI 132 (fw)), (h0, .inr (2, [.ref h1, .int (iJ (n)), .int (iJ (q))])), (h1, cJ cI 32 (g))] [(cI, .int), (cZ, .boolean)] (fun (u : (Int → Int) × (Int → Int) × (Int → Int) × (Int → Int) × Int) => fcV n (ldC g q 0 1 cA n) (ldC g q 0 0 cU n) (tkH n (ldO g ow n) hd 0)) (fun (u : (Int → Int) × (Int → Int) × (Int → Int) × (Int → Int) × Int) => True) (fun (u : (Int → Int) × (Int → Int) × (Int → Int) × (Int → Int) × Int) => [(p0, .inr (3, [.ref p1, .ref p2, .ref p3, .ref p4, .ref p5, .ref p6, .int (iJ (u.2.2.2.2))])), (p1, cJ cI 32 (nrA)), (p2, cJ cI 32 (u.1)), (p3, cJ cZ 32 (u.2.1)), (p4, cJ cZ 32 (u.2.2.1)), (p5, cJ cI 32 (u.2.2.2.1)), (p6, cJ cI 132 (fw)), (h0, .inr (2, [.ref h1, .int (iJ (n)), .int (iJ (q))])), (h1, cJ cI 32 (g))]) := by
  refine MM.mk (cc := cX3_clashOfOnly) (maxL := 2) (ret := (some .int)) (by decide) rfl (Nat.le_of_ble_eq_true rfl) rfl RX3 rfl ?_
  intro p_ e_ s_ m_ ar_ bw_ mt_ cd_ B_ Q_ hA E hr hQ
  have wO : ∀ j : Int, 0 ≤ j → j < n → 0 ≤ ldO g ow n j ∧ ldO g ow n j ≤ 3 := fun j h1 h2 => by
        unfold ldO; rw [if_pos ⟨h1, h2⟩]; split <;> omega
  have wA : ∀ j : Int, 0 ≤ j → j < n → ldC g q 0 1 cA n j = 0 ∨ ldC g q 0 1 cA n j = 1 := fun j h1 h2 => by
        unfold ldC; rw [if_pos ⟨h1, h2⟩]; exact b2_01 _
  have wU : ∀ j : Int, 0 ≤ j → j < n → ldC g q 0 0 cU n j = 0 ∨ ldC g q 0 0 cU n j = 1 := fun j h1 h2 => by
        unfold ldC; rw [if_pos ⟨h1, h2⟩]; exact b2_01 _
  have wH : ∀ x j : Int, 0 ≤ j → j < n → 0 ≤ tkH n (ldO g ow n) hd x j ∧ tkH n (ldO g ow n) hd x j ≤ 3 := fun x j h1 h2 => by
        have := wO j h1 h2
        unfold tkH; rw [if_pos ⟨h1, h2⟩]; split <;> omega
  refine r_aload_n E 0 dX3_clashOfOnly_0 rfl rfl ?_
  refine r_aload_n E 1 dX3_clashOfOnly_1 rfl rfl ?_
  refine r_iconst E 0 rfl dX3_clashOfOnly_2 ?_
  refine r_vV E (st := []) (c_X3_load l D p0 p1 p2 p3 p4 p5 p6 cI cZ L ow cA cU hd fw h0 h1 g n q 0 (by first | assumption | omega | exact ⟨by omega, by omega⟩) (by first | assumption | omega | exact ⟨by omega, by omega⟩) (by first | assumption | omega | exact ⟨by omega, by omega⟩) (Or.inl rfl)) gX3_clashOfOnly_X3_load 2 kf_X3_load ⟨rfl, rfl⟩ ⟨by decide, by decide⟩ dX3_clashOfOnly_3 rfl 0 rfl rfl rfl rfl ⟨Nat.zero_le _, Nat.zero_le _⟩ [0, 1, 2, 3, 4, 5, 6, 7, 8] rfl (by decide) [0, 1] rfl (Nat.le_of_ble_eq_true rfl) [] [] rfl (by decide) (by decide) hA [0, 1, 2, 3, 4, 5, 6, 7, 8] (by decide) (fun (_ : Unit) => [(p0, .inr (3, [.ref p1, .ref p2, .ref p3, .ref p4, .ref p5, .ref p6, .int (iJ (n))])), (p1, cJ cI 32 (nrA)), (p2, cJ cI 32 (ldO g ow n)), (p3, cJ cZ 32 (ldC g q (if 0 = 0 then 0 else pAt g n (n - 1)) 1 cA n)), (p4, cJ cZ 32 (ldC g q (if 0 = 0 then 0 else pAt g n (n - 1)) 0 cU n)), (p5, cJ cI 32 (hd)), (p6, cJ cI 132 (fw)), (h0, .inr (2, [.ref h1, .int (iJ (n)), .int (iJ (q))])), (h1, cJ cI 32 (g))]) (fun _ => rfl) ?_
  rintro ⟨⟩ hp_1
  refine r_cv (ws2 := [(p0, .inr (3, [.ref p1, .ref p2, .ref p3, .ref p4, .ref p5, .ref p6, .int (iJ (n))])), (p1, cJ cI 32 (nrA)), (p2, cJ cI 32 (ldO g ow n)), (p3, cJ cZ 32 (ldC g q 0 1 cA n)), (p4, cJ cZ 32 (ldC g q (if 0 = 0 then 0 else pAt g n (n - 1)) 0 cU n)), (p5, cJ cI 32 (hd)), (p6, cJ cI 132 (fw)), (h0, .inr (2, [.ref h1, .int (iJ (n)), .int (iJ (q))])), (h1, cJ cI 32 (g))]) (by rw [if_pos rfl] <;> rfl) rfl rfl ?_
  refine r_cv (ws2 := [(p0, .inr (3, [.ref p1, .ref p2, .ref p3, .ref p4, .ref p5, .ref p6, .int (iJ (n))])), (p1, cJ cI 32 (nrA)), (p2, cJ cI 32 (ldO g ow n)), (p3, cJ cZ 32 (ldC g q 0 1 cA n)), (p4, cJ cZ 32 (ldC g q 0 0 cU n)), (p5, cJ cI 32 (hd)), (p6, cJ cI 132 (fw)), (h0, .inr (2, [.ref h1, .int (iJ (n)), .int (iJ (q))])), (h1, cJ cI 32 (g))]) (by rw [if_pos rfl] <;> rfl) rfl rfl ?_
  refine r_aload_n E 0 dX3_clashOfOnly_6 rfl rfl ?_
  refine r_iconst E 0 rfl dX3_clashOfOnly_7 ?_
  refine r_vV E (st := []) (c_X3_take l D p0 p1 p2 p3 p4 p5 p6 cI cZ n (ldO g ow n) (ldC g q 0 1 cA n) (ldC g q 0 0 cU n) hd fw 0 (by first | assumption | omega | exact ⟨by omega, by omega⟩) wO (by first | assumption | omega | exact ⟨by omega, by omega⟩)) gX3_clashOfOnly_X3_take 1 kf_X3_take ⟨rfl, rfl⟩ ⟨by decide, by decide⟩ dX3_clashOfOnly_8 rfl 0 rfl rfl rfl rfl ⟨Nat.zero_le _, Nat.zero_le _⟩ [0, 1, 2, 3, 4, 5, 6] rfl (by decide) [0, 1] rfl (Nat.le_of_ble_eq_true rfl) [(h0, .inr (2, [.ref h1, .int (iJ (n)), .int (iJ (q))])), (h1, cJ cI 32 (g))] [7, 8] rfl (by decide) (by decide) hA [2, 3, 4, 5, 6, 7, 8, 0, 1] (by decide) (fun (_ : Unit) => [(p0, .inr (3, [.ref p1, .ref p2, .ref p3, .ref p4, .ref p5, .ref p6, .int (iJ (n))])), (p1, cJ cI 32 (nrA)), (p2, cJ cI 32 (ldO g ow n)), (p3, cJ cZ 32 (ldC g q 0 1 cA n)), (p4, cJ cZ 32 (ldC g q 0 0 cU n)), (p5, cJ cI 32 (tkH n (ldO g ow n) hd 0)), (p6, cJ cI 132 (fw)), (h0, .inr (2, [.ref h1, .int (iJ (n)), .int (iJ (q))])), (h1, cJ cI 32 (g))]) (fun _ => rfl) ?_
  rintro ⟨⟩ hp_2
  refine r_aload_n E 0 dX3_clashOfOnly_11 rfl rfl ?_
  refine r_vP E (st := []) (c_X3_firstClash l D p0 p1 p2 p3 p4 p5 p6 cI cZ n (ldO g ow n) (ldC g q 0 1 cA n) (ldC g q 0 0 cU n) (tkH n (ldO g ow n) hd 0) fw (by first | assumption | omega | exact ⟨by omega, by omega⟩) wA wU (wH 0)) gX3_clashOfOnly_X3_firstClash 0 kf_X3_firstClash ⟨rfl, rfl⟩ ⟨by decide, by decide⟩ dX3_clashOfOnly_12 rfl 0 rfl rfl rfl rfl ⟨Nat.zero_le _, Nat.zero_le _⟩ [0, 1, 2, 3, 4, 5, 6] rfl (by decide) [0, 1] rfl (Nat.le_of_ble_eq_true rfl) ?_
  exact r_retM E (ldO g ow n, ldC g q 0 1 cA n, ldC g q 0 0 cU n, tkH n (ldO g ow n) hd 0, n) hr dX3_clashOfOnly_15 (by first | rfl | exact (b2_t (by first | omega | assumption)).symm | exact (b2_f (by first | omega | assumption)).symm | omega | assumption) trivial rfl hQ
theorem kf_X3_tellEach : KF yX3_tellEach 2 wsX3_tellEach cX3_tellEach 6 (some .int) := ⟨rfl, by decide +kernel, by decide +kernel, by decide +kernel⟩
def rm_X3_tellEach : Room := { frames := 3, cells := 0, slots := 0, locals := 70 }
set_option maxRecDepth 20000 in
theorem mk_X3_tellEach_53 : Cond.methodLink RX3 53 Lib.Math.min.name ∈ wsX3_tellEach ∧ Cond.static Lib.Math.min.name ∈ wsX3_tellEach ∧ Cond.initialized "java/lang/Math" ∈ wsX3_tellEach ∧ Cond.code Lib.Math.min.name Lib.Math.min.code 2 (some .int) ∈ wsX3_tellEach := by decide +kernel
set_option maxHeartbeats 1000000 in
set_option maxRecDepth 100000 in
theorem c_X3_tellEach (l : Launch) (D : va_G) (p0 : Nat) (p1 : Nat) (p2 : Nat) (p3 : Nat) (p4 : Nat) (p5 : Nat) (p6 : Nat) (cI : ClassId) (cZ : ClassId) (L : Int) (ow : Int → Int) (cA : Int → Int) (cU : Int → Int) (hd : Int → Int) (fw : Int → Int) (h0 : Nat) (h1 : Nat) (g : Int → Int) (n : Int) (q : Int) (ov : Int) (hn : 0 ≤ n ∧ n ≤ 32) (hg : ∀ j : Int, 0 ≤ j → j < n → 0 ≤ g j ∧ g j < 64) (hq : 1 ≤ q ∧ q ≤ 4) (hov : ov = 0 ∨ ov = 1) (h8 : sm (fun j => b2 (¬ g j = 0 ∧ g j / 2 % 4 = 2)) n ≤ 8) : MM (S := (Int → Int) × (Int → Int) × (Int → Int) × (Int → Int) × Int) l yX3_tellEach wsX3_tellEach rm_X3_tellEach D vwCl [.ref p0, .ref h0, .int (iJ (ov))] [(p0, .inr (3, [.ref p1, .ref p2, .ref p3, .ref p4, .ref p5, .ref p6, .int (iJ (L))])), (p1, cJ cI 32 (nrA)), (p2, cJ cI 32 (ow)), (p3, cJ cZ 32 (cA)), (p4, cJ cZ 32 (cU)), (p5, cJ cI 32 (hd)), (p6, cJ cI 132 (fw)), (h0, .inr (2, [.ref h1, .int (iJ (n)), .int (iJ (q))])), (h1, cJ cI 32 (g))] [(cI, .int), (cZ, .boolean)] (fun (u : (Int → Int) × (Int → Int) × (Int → Int) × (Int → Int) × Int) => teN n (ldO g ow n) (ldC g q (if ov = 0 then 0 else pAt g n (n - 1)) 1 cA n) (ldC g q (if ov = 0 then 0 else pAt g n (n - 1)) 0 cU n) (2 ^ (sm (fun j => b2 (¬ g j = 0 ∧ g j / 2 % 4 = 2)) n).toNat)) (fun (u : (Int → Int) × (Int → Int) × (Int → Int) × (Int → Int) × Int) => True) (fun (u : (Int → Int) × (Int → Int) × (Int → Int) × (Int → Int) × Int) => [(p0, .inr (3, [.ref p1, .ref p2, .ref p3, .ref p4, .ref p5, .ref p6, .int (iJ (u.2.2.2.2))])), (p1, cJ cI 32 (nrA)), (p2, cJ cI 32 (u.1)), (p3, cJ cZ 32 (u.2.1)), (p4, cJ cZ 32 (u.2.2.1)), (p5, cJ cI 32 (u.2.2.2.1)), (p6, cJ cI 132 (fw)), (h0, .inr (2, [.ref h1, .int (iJ (n)), .int (iJ (q))])), (h1, cJ cI 32 (g))]) := by
  refine MM.mk (cc := cX3_tellEach) (maxL := 6) (ret := (some .int)) (by decide) rfl (Nat.le_of_ble_eq_true rfl) rfl RX3 rfl ?_
  intro p_ e_ s_ m_ ar_ bw_ mt_ cd_ B_ Q_ hA E hr hQ
  have wO : ∀ j : Int, 0 ≤ j → j < n → 0 ≤ ldO g ow n j ∧ ldO g ow n j ≤ 3 := fun j h1 h2 => by
        unfold ldO; rw [if_pos ⟨h1, h2⟩]; split <;> omega
  have wA : ∀ j : Int, 0 ≤ j → j < n → ldC g q (if ov = 0 then 0 else pAt g n (n - 1)) 1 cA n j = 0 ∨ ldC g q (if ov = 0 then 0 else pAt g n (n - 1)) 1 cA n j = 1 := fun j h1 h2 => by
        unfold ldC; rw [if_pos ⟨h1, h2⟩]; exact b2_01 _
  have wU : ∀ j : Int, 0 ≤ j → j < n → ldC g q (if ov = 0 then 0 else pAt g n (n - 1)) 0 cU n j = 0 ∨ ldC g q (if ov = 0 then 0 else pAt g n (n - 1)) 0 cU n j = 1 := fun j h1 h2 => by
        unfold ldC; rw [if_pos ⟨h1, h2⟩]; exact b2_01 _
  have f_S := sm_le (f := fun j => b2 (¬ g j = 0 ∧ g j / 2 % 4 = 2)) (c := 1) (k := n) (by omega) (fun j _ _ => by rcases b2_01 (¬ g j = 0 ∧ g j / 2 % 4 = 2) with z | z <;> (rw [z]; omega))
  obtain ⟨e, he⟩ : ∃ e, e = sm (fun j => b2 (¬ g j = 0 ∧ g j / 2 % 4 = 2)) n := ⟨_, rfl⟩
  rw [← he] at h8 f_S
  refine r_aload_n E 0 dX3_tellEach_0 rfl rfl ?_
  refine r_aload_n E 1 dX3_tellEach_1 rfl rfl ?_
  refine r_iload_n E 2 dX3_tellEach_2 rfl rfl ?_
  refine r_vV E (st := []) (c_X3_load l D p0 p1 p2 p3 p4 p5 p6 cI cZ L ow cA cU hd fw h0 h1 g n q ov (by first | assumption | omega | exact ⟨by omega, by omega⟩) (by first | assumption | omega | exact ⟨by omega, by omega⟩) (by first | assumption | omega | exact ⟨by omega, by omega⟩) (by first | assumption | omega | exact ⟨by omega, by omega⟩)) gX3_tellEach_X3_load 2 kf_X3_load ⟨rfl, rfl⟩ ⟨by decide, by decide⟩ dX3_tellEach_3 rfl 0 rfl rfl rfl rfl ⟨Nat.zero_le _, Nat.zero_le _⟩ [0, 1, 2, 3, 4, 5, 6, 7, 8] rfl (by decide) [0, 1] rfl (Nat.le_of_ble_eq_true rfl) [] [] rfl (by decide) (by decide) hA [0, 1, 2, 3, 4, 5, 6, 7, 8] (by decide) (fun (_ : Unit) => [(p0, .inr (3, [.ref p1, .ref p2, .ref p3, .ref p4, .ref p5, .ref p6, .int (iJ (n))])), (p1, cJ cI 32 (nrA)), (p2, cJ cI 32 (ldO g ow n)), (p3, cJ cZ 32 (ldC g q (if ov = 0 then 0 else pAt g n (n - 1)) 1 cA n)), (p4, cJ cZ 32 (ldC g q (if ov = 0 then 0 else pAt g n (n - 1)) 0 cU n)), (p5, cJ cI 32 (hd)), (p6, cJ cI 132 (fw)), (h0, .inr (2, [.ref h1, .int (iJ (n)), .int (iJ (q))])), (h1, cJ cI 32 (g))]) (fun _ => rfl) ?_
  rintro ⟨⟩ hp_1
  refine r_aload_n E 1 dX3_tellEach_6 rfl rfl ?_
  refine r_iconst E 2 rfl dX3_tellEach_7 ?_
  refine r_vP E (st := []) (c_X2_strokesOf l D h0 h1 cI g n q 2 (by first | assumption | omega | exact ⟨by omega, by omega⟩) (by first | assumption | omega | exact ⟨by omega, by omega⟩) (by first | assumption | omega | exact ⟨by omega, by omega⟩)) gX3_tellEach_X2_strokesOf 1 kf_X2_strokesOf ⟨rfl, rfl⟩ ⟨by decide, by decide⟩ dX3_tellEach_8 rfl 7 rfl rfl rfl rfl ⟨Nat.zero_le _, Nat.zero_le _⟩ [7, 8] rfl (by decide) [0] rfl (Nat.le_of_ble_eq_true rfl) ?_
  refine r_top (b := e) he.symm ?_
  refine r_bipush E 8 rfl dX3_tellEach_11 ?_
  refine r_imin E e dX3_tellEach_13 ⟨⟨by omega, by omega⟩, ⟨by omega, by omega⟩, by rw [if_neg (by omega)]⟩ mk_X3_tellEach_53 ⟨by decide, by decide⟩ (Nat.le_of_ble_eq_true rfl) ⟨Nat.zero_le _, Nat.zero_le _⟩ ?_
  refine r_istore_n E [(3, .int (iJ (e))), (0, .ref p0), (1, .ref h0), (2, .int (iJ (ov)))] dX3_tellEach_16 rfl (by decide) rfl ?_
  refine r_iconst E 0 rfl dX3_tellEach_17 ?_
  refine r_istore E [(4, .int (iJ (0))), (3, .int (iJ (e))), (0, .ref p0), (1, .ref h0), (2, .int (iJ (ov)))] dX3_tellEach_18 (by decide) rfl ?_
  refine r_iconst E 0 rfl dX3_tellEach_20 ?_
  refine r_istore E [(5, .int (iJ (0))), (4, .int (iJ (0))), (3, .int (iJ (e))), (0, .ref p0), (1, .ref h0), (2, .int (iJ (ov)))] dX3_tellEach_21 (by decide) rfl ?_
  have loop_23 : ∀ (N : Nat) (k : Int) (x : Int) (G : Int → Int), (0 ≤ k ∧ k ≤ ((2 ^ e.toNat : Nat) : Int)) → (x = teN n (ldO g ow n) (ldC g q (if ov = 0 then 0 else pAt g n (n - 1)) 1 cA n) (ldC g q (if ov = 0 then 0 else pAt g n (n - 1)) 0 cU n) k.toNat) → (((2 ^ e.toNat : Nat) : Int) - k).toNat < N → GG p_ l e_ rm_X3_tellEach s_ m_ ar_ bw_ mt_ cd_ D vwCl B_ B_ s_.heap 6 0 0 Q_ [(p0, .inr (3, [.ref p1, .ref p2, .ref p3, .ref p4, .ref p5, .ref p6, .int (iJ (n))])), (p1, cJ cI 32 (nrA)), (p2, cJ cI 32 (ldO g ow n)), (p3, cJ cZ 32 (ldC g q (if ov = 0 then 0 else pAt g n (n - 1)) 1 cA n)), (p4, cJ cZ 32 (ldC g q (if ov = 0 then 0 else pAt g n (n - 1)) 0 cU n)), (p5, cJ cI 32 (G)), (p6, cJ cI 132 (fw)), (h0, .inr (2, [.ref h1, .int (iJ (n)), .int (iJ (q))])), (h1, cJ cI 32 (g))] [(0, .ref p0), (1, .ref h0), (2, .int (iJ (ov))), (3, .int (iJ (e))), (4, .int (iJ (x))), (5, .int (iJ (k)))] 23 [] := by
    intro N; induction N with
    | zero => intro k x G hk hx hN; exact absurd hN (Nat.not_lt_zero _)
    | succ N ih23 =>
      intro k x G hk hx hN
      refine r_iload E 5 dX3_tellEach_23 rfl ?_
      have f_p : (2 ^ e.toNat : Nat) ≤ 2 ^ 8 := Nat.pow_le_pow_right (by decide) (by omega)
      refine r_iconst E 1 rfl dX3_tellEach_25 ?_
      refine r_iload_n E 3 dX3_tellEach_26 rfl rfl ?_
      refine r_ishl E ((2 ^ e.toNat : Nat) : Int) (bit_pow ⟨by omega, by omega⟩) dX3_tellEach_27 ?_
      refine r_icmp_ge E 55 dX3_tellEach_28 (by decide) ⟨by omega, by omega⟩ ⟨by omega, by omega⟩ (fun c_28 => ?_) (fun c_28 => ?_)
      · refine r_iload E 4 dX3_tellEach_55 rfl ?_
        exact r_retM E (ldO g ow n, ldC g q (if ov = 0 then 0 else pAt g n (n - 1)) 1 cA n, ldC g q (if ov = 0 then 0 else pAt g n (n - 1)) 0 cU n, G, n) hr dX3_tellEach_57 (by
              have ek : k.toNat = 2 ^ e.toNat := by omega
              rw [hx, ek, he]) trivial rfl hQ
      · refine r_aload_n E 0 dX3_tellEach_31 rfl rfl ?_
        refine r_iload E 5 dX3_tellEach_32 rfl ?_
        refine r_vV E (st := []) (c_X3_take l D p0 p1 p2 p3 p4 p5 p6 cI cZ n (ldO g ow n) (ldC g q (if ov = 0 then 0 else pAt g n (n - 1)) 1 cA n) (ldC g q (if ov = 0 then 0 else pAt g n (n - 1)) 0 cU n) G fw k (by first | assumption | omega | exact ⟨by omega, by omega⟩) wO (by first | assumption | omega | exact ⟨by omega, by omega⟩)) gX3_tellEach_X3_take 1 kf_X3_take ⟨rfl, rfl⟩ ⟨by decide, by decide⟩ dX3_tellEach_34 rfl 0 rfl rfl rfl rfl ⟨Nat.zero_le _, Nat.zero_le _⟩ [0, 1, 2, 3, 4, 5, 6] rfl (by decide) [0, 1] rfl (Nat.le_of_ble_eq_true rfl) [(h0, .inr (2, [.ref h1, .int (iJ (n)), .int (iJ (q))])), (h1, cJ cI 32 (g))] [7, 8] rfl (by decide) (by decide) hA [2, 3, 4, 5, 6, 7, 8, 0, 1] (by decide) (fun (_ : Unit) => [(p0, .inr (3, [.ref p1, .ref p2, .ref p3, .ref p4, .ref p5, .ref p6, .int (iJ (n))])), (p1, cJ cI 32 (nrA)), (p2, cJ cI 32 (ldO g ow n)), (p3, cJ cZ 32 (ldC g q (if ov = 0 then 0 else pAt g n (n - 1)) 1 cA n)), (p4, cJ cZ 32 (ldC g q (if ov = 0 then 0 else pAt g n (n - 1)) 0 cU n)), (p5, cJ cI 32 (tkH n (ldO g ow n) G k)), (p6, cJ cI 132 (fw)), (h0, .inr (2, [.ref h1, .int (iJ (n)), .int (iJ (q))])), (h1, cJ cI 32 (g))]) (fun _ => rfl) ?_
        rintro ⟨⟩ hp_2
        refine r_aload_n E 0 dX3_tellEach_37 rfl rfl ?_
        refine r_vP E (st := []) (c_X3_firstClash l D p0 p1 p2 p3 p4 p5 p6 cI cZ n (ldO g ow n) (ldC g q (if ov = 0 then 0 else pAt g n (n - 1)) 1 cA n) (ldC g q (if ov = 0 then 0 else pAt g n (n - 1)) 0 cU n) (tkH n (ldO g ow n) G k) fw (by first | assumption | omega | exact ⟨by omega, by omega⟩) wA wU (fun j h1 h2 => by
              have := wO j h1 h2
              unfold tkH; rw [if_pos ⟨h1, h2⟩]; split <;> omega)) gX3_tellEach_X3_firstClash 0 kf_X3_firstClash ⟨rfl, rfl⟩ ⟨by decide, by decide⟩ dX3_tellEach_38 rfl 0 rfl rfl rfl rfl ⟨Nat.zero_le _, Nat.zero_le _⟩ [0, 1, 2, 3, 4, 5, 6] rfl (by decide) [0, 1] rfl (Nat.le_of_ble_eq_true rfl) ?_
        have hfc : fcV n (ldC g q (if ov = 0 then 0 else pAt g n (n - 1)) 1 cA n) (ldC g q (if ov = 0 then 0 else pAt g n (n - 1)) 0 cU n) (tkH n (ldO g ow n) G k) = fcV n (ldC g q (if ov = 0 then 0 else pAt g n (n - 1)) 1 cA n) (ldC g q (if ov = 0 then 0 else pAt g n (n - 1)) 0 cU n) (tkH n (ldO g ow n) (fun _ => 0) k) := fcV_cg (fun j h1 h2 => tkH_cg h1 h2)
        refine r_bipush E (-4) rfl dX3_tellEach_41 ?_
        refine r_icmp_ne E 49 dX3_tellEach_43 (by decide) (by have := fcV_in (L := n) (cA := ldC g q (if ov = 0 then 0 else pAt g n (n - 1)) 1 cA n) (cU := ldC g q (if ov = 0 then 0 else pAt g n (n - 1)) 0 cU n) (hd := tkH n (ldO g ow n) G k) (by omega); exact ⟨by omega, by omega⟩) ⟨by omega, by omega⟩ (fun c_43 => ?_) (fun c_43 => ?_)
        · refine r_iinc E (k := 5) [(5, .int (iJ ((k + 1)))), (0, .ref p0), (1, .ref h0), (2, .int (iJ (ov))), (3, .int (iJ (e))), (4, .int (iJ (x)))] dX3_tellEach_49 rfl (by decide) rfl ?_
          refine r_goto E 23 dX3_tellEach_52 (by decide) ?_
          refine r_lv [1, 2, 3, 4, 5, 0] [(0, .ref p0), (1, .ref h0), (2, .int (iJ (ov))), (3, .int (iJ (e))), (4, .int (iJ (x))), (5, .int (iJ ((k + 1))))] rfl ?_
          exact ih23 (k + 1) x (tkH n (ldO g ow n) G k) ⟨by omega, by omega⟩ (by
                rw [teN_s _ _ _ _ (by omega), ← hx, ← hfc]; first | (rw [if_pos c_43]; done) | (rw [if_neg c_43]; omega)) (by omega)
        · refine r_iinc E (k := 4) [(4, .int (iJ ((x + 1)))), (0, .ref p0), (1, .ref h0), (2, .int (iJ (ov))), (3, .int (iJ (e))), (5, .int (iJ (k)))] dX3_tellEach_46 rfl (by decide) rfl ?_
          refine r_iinc E (k := 5) [(5, .int (iJ ((k + 1)))), (4, .int (iJ ((x + 1)))), (0, .ref p0), (1, .ref h0), (2, .int (iJ (ov))), (3, .int (iJ (e)))] dX3_tellEach_49 rfl (by decide) rfl ?_
          refine r_goto E 23 dX3_tellEach_52 (by decide) ?_
          refine r_lv [2, 3, 4, 5, 1, 0] [(0, .ref p0), (1, .ref h0), (2, .int (iJ (ov))), (3, .int (iJ (e))), (4, .int (iJ ((x + 1)))), (5, .int (iJ ((k + 1))))] rfl ?_
          exact ih23 (k + 1) (x + 1) (tkH n (ldO g ow n) G k) ⟨by omega, by omega⟩ (by
                rw [teN_s _ _ _ _ (by omega), ← hx, ← hfc]; first | (rw [if_pos c_43]; done) | (rw [if_neg c_43]; omega)) (by omega)
  refine r_lv [3, 4, 5, 2, 1, 0] [(0, .ref p0), (1, .ref h0), (2, .int (iJ (ov))), (3, .int (iJ (e))), (4, .int (iJ (0))), (5, .int (iJ (0)))] rfl ?_
  exact loop_23 _ 0 0 hd ⟨by omega, Int.natCast_nonneg _⟩ rfl (Nat.lt_succ_self _)
