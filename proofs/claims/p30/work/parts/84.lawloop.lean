set_option maxHeartbeats 4000000 in
set_option maxRecDepth 100000 in
theorem law_loop {p_ : Program} {l : Launch} {e_ : Env} {s_ : State} {m_ : MethodId} {ar_ : Array Value} {bw_ : List Frame} {mt_ : Method} {cd_ : Code} {D : va_G} {Q_ : State → Prop} {b_ : Nat} {x0 h0 t0 n0 i0 d0 r0 p0 h1 t1 i1 d1 pl1 pl2 pl3 pl4 pl5 pl6 : Nat} {cI cP cZ : ClassId} (E : EE p_ s_ m_ ar_ mt_ cd_ D vwCl [(cI, .int), (cP, .object "LeanSticks$Piece"), (cZ, .boolean)] 8 cL_law RL wsL_law) {Ln : Nat} {xs : Nat → Int32} (hX : va_X b_ Ln xs s_ s_.heap) (hbl : b_ < s_.heap.size) (hL : Ln ≤ 260) (ke : ∀ (ws : va_W) (lv : List (Nat × Value)), GG p_ l e_ room_1 s_ m_ ar_ bw_ mt_ cd_ D vwCl (fun q => s_.heap.size ≤ q) (fun q => s_.heap.size ≤ q) s_.heap 8 29 743 Q_ ws lv 208 [.int (iJ 1)]) {T : Int} (hT : 0 ≤ T ∧ T ≤ 30) : ∀ (N : Nat) (k : Int) (n : Int) (q : Int) (g : Int → Int) (gp : Int → Int) (xa : Nat → Nat) (ya : Nat → Nat) (kN : Nat → Int) (kQ : Nat → Int) (kG : Nat → Int → Int) (m : Int) (L : Int) (ow : Int → Int) (cA : Int → Int) (cU : Int → Int) (hd : Int → Int) (fw : Int → Int) (gt : Int → Int) (nt : Int) (qt : Int), 0 ≤ k ∧ k ≤ T → (T - k).toNat < N → (0 ≤ n ∧ n ≤ 9) → (1 ≤ q ∧ q ≤ 4) → (∀ j : Int, 0 ≤ j → j < n → vK (g j)) → (0 ≤ m ∧ m ≤ 4) → (∀ i : Nat, 0 ≤ kN i ∧ kN i ≤ 32) → (0 ≤ nt ∧ nt ≤ 32) → GG p_ l e_ room_1 s_ m_ ar_ bw_ mt_ cd_ D vwCl (fun q => s_.heap.size ≤ q) (fun q => s_.heap.size ≤ q) s_.heap 8 29 743 Q_ [(x0, .inr (5, [.ref h0, .ref t0, .ref n0, .ref i0, .ref d0, .ref r0, .ref p0, .int (iJ (0)), .int (iJ (0))])), (h0, .inr (2, [.ref h1, .int (iJ (n)), .int (iJ (q))])), (h1, cJ cI 32 (g)), (d0, .inr (1, [.ref d1, .int (iJ (0))])), (d1, cJ cI 60 (gp)), (i0, .inr (0, [.ref i1, .int (iJ (m))])), (i1, cR cP 4 (hF xa)), ((xa 0), .inr (2, [.ref (ya 0), .int (iJ (kN 0)), .int (iJ (kQ 0))])), ((ya 0), cJ cI 32 (kG 0)), ((xa 1), .inr (2, [.ref (ya 1), .int (iJ (kN 1)), .int (iJ (kQ 1))])), ((ya 1), cJ cI 32 (kG 1)), ((xa 2), .inr (2, [.ref (ya 2), .int (iJ (kN 2)), .int (iJ (kQ 2))])), ((ya 2), cJ cI 32 (kG 2)), ((xa 3), .inr (2, [.ref (ya 3), .int (iJ (kN 3)), .int (iJ (kQ 3))])), ((ya 3), cJ cI 32 (kG 3)), (p0, .inr (3, [.ref pl1, .ref pl2, .ref pl3, .ref pl4, .ref pl5, .ref pl6, .int (iJ (L))])), (pl1, cJ cI 32 (nrA)), (pl2, cJ cI 32 (ow)), (pl3, cJ cZ 32 (cA)), (pl4, cJ cZ 32 (cU)), (pl5, cJ cI 32 (hd)), (pl6, cJ cI 132 (fw)), (t0, .inr (2, [.ref t1, .int (iJ (nt)), .int (iJ (qt))])), (t1, cJ cI 32 (gt))] [(0, .ref b_), (1, .ref x0), (2, .int (iJ (1))), (3, .int (iJ (T))), (4, .int (iJ (k)))] 59 [] := by
  have hA : ∀ q : Nat, s_.heap.size ≤ q → (fun q : Nat => s_.heap.size ≤ q) q := fun _ t => t
  intro N; induction N with
  | zero => intro k n q g gp xa ya kN kQ kG m L ow cA cU hd fw gt nt qt _ hN; exact absurd hN (Nat.not_lt_zero _)
  | succ N ih =>
    intro k n q g gp xa ya kN kQ kG m L ow cA cU hd fw gt nt qt hk hN hn hq hv hm hhN hnt
    have hg : ∀ j : Int, 0 ≤ j → j < n → 0 ≤ g j ∧ g j < 64 := fun j a b => (hv j a b).1
    refine r_iload E 4 dL_law_59 rfl ?_
    refine r_iload_n E 3 dL_law_61 rfl rfl ?_
    refine r_icmp_ge E 207 dL_law_62 (by decide) ⟨by omega, by omega⟩ ⟨by omega, by omega⟩ (fun _ => ?_) (fun c_62 => ?_)
    · refine r_iload_n E 2 dL_law_207 rfl rfl ?_
      exact ke _ _
    refine r_iload_n E 2 dL_law_65 rfl rfl ?_
    refine r_if_eq E 207 dL_law_66 (by decide) ⟨by omega, by omega⟩ (fun c_66 => absurd c_66 (by omega)) (fun c_66 => ?_)
    refine r_aload_n E 1 dL_law_69 rfl rfl ?_
    refine r_bipush E 15 rfl dL_law_70 ?_
    refine r_vP E (st := []) (c_X6_count l D x0 h0 t0 n0 i0 d0 r0 p0 0 0 h1 cI g n q d1 gp 0 i1 m 15 (by first | assumption | omega | exact ⟨by omega, by omega⟩) (by first | assumption | omega | exact ⟨by omega, by omega⟩) (by first | assumption | omega | exact ⟨by omega, by omega⟩)) gL_law_X6_count 1 kf_X6_count ⟨rfl, rfl⟩ ⟨Nat.le_of_ble_eq_true rfl, Nat.le_of_ble_eq_true rfl⟩ dL_law_72 rfl 0 rfl rfl rfl rfl ⟨Nat.le_of_ble_eq_true rfl, Nat.le_of_ble_eq_true rfl⟩ [0, 1, 2, 3, 4, 5] rfl (by decide) [0] rfl (Nat.le_of_ble_eq_true rfl) ?_
    refine r_top (b := m) rfl ?_
    refine r_istore E [(5, .int (iJ (m))), (0, .ref b_), (1, .ref x0), (2, .int (iJ (1))), (3, .int (iJ (T))), (4, .int (iJ (k)))] dL_law_75 (by decide) rfl ?_
    refine r_aload_n E 1 dL_law_77 rfl rfl ?_
    refine r_iconst E 3 rfl dL_law_78 ?_
    refine r_iload E 5 dL_law_79 rfl ?_
    refine r_imul E dL_law_81 ?_
    refine r_sX E hX hbl (Nat.not_le.mpr hbl) (st := []) (c_L_cell l D b_ Ln xs (3 * k) hL ⟨by omega, by omega⟩) gL_law_L_cell 2 kf_L_cell ⟨rfl, rfl⟩ ⟨Nat.le_of_ble_eq_true rfl, Nat.le_of_ble_eq_true rfl⟩ dL_law_82 rfl rfl ⟨Nat.le_of_ble_eq_true rfl, Nat.le_of_ble_eq_true rfl⟩ (Nat.le_of_ble_eq_true rfl) (fun H locs h => Nat.lt_of_lt_of_le hbl h.1) ?_
    refine r_bipush E 12 rfl dL_law_85 ?_
    refine r_sP E (st := []) (c_L_low l D (ceV Ln xs (3 * k)) 12 (ceV_jb ⟨by omega, by omega⟩) ⟨by omega, by omega⟩) gL_law_L_low 2 kf_L_low ⟨rfl, rfl⟩ ⟨Nat.le_of_ble_eq_true rfl, Nat.le_of_ble_eq_true rfl⟩ dL_law_87 rfl rfl ⟨Nat.le_of_ble_eq_true rfl, Nat.le_of_ble_eq_true rfl⟩ [] rfl (by decide) [] rfl (Nat.le_of_ble_eq_true rfl) ?_
    have f_l_1 := lowV_in (v := (ceV Ln xs (3 * k))) (n := 12) (by omega)
    refine r_istore E [(6, .int (iJ (lowV (ceV Ln xs (3 * k)) 12))), (5, .int (iJ (m))), (0, .ref b_), (1, .ref x0), (2, .int (iJ (1))), (3, .int (iJ (T))), (4, .int (iJ (k)))] dL_law_90 (by decide) rfl ?_
    refine r_aload_n E 3 dL_law_92 rfl rfl ?_
    refine r_iload E 0 dL_law_93 rfl ?_
    refine r_aload_n E 2 dL_law_95 rfl rfl ?_
    refine r_iconst E 3 rfl dL_law_96 ?_
    refine r_iload E 6 dL_law_97 rfl ?_
    refine r_imul E dL_law_99 ?_
    refine r_iconst E 1 rfl dL_law_100 ?_
    refine r_iadd E dL_law_101 ?_
    refine r_sX E hX hbl (Nat.not_le.mpr hbl) (st := [.int (iJ (lowV (ceV Ln xs (3 * k)) 12)), .ref x0]) (c_L_cell l D b_ Ln xs ((3 * k) + 1) hL ⟨by omega, by omega⟩) gL_law_L_cell 2 kf_L_cell ⟨rfl, rfl⟩ ⟨Nat.le_of_ble_eq_true rfl, Nat.le_of_ble_eq_true rfl⟩ dL_law_102 rfl rfl ⟨Nat.le_of_ble_eq_true rfl, Nat.le_of_ble_eq_true rfl⟩ (Nat.le_of_ble_eq_true rfl) (fun H locs h => Nat.lt_of_lt_of_le hbl h.1) ?_
    refine r_aload_n E 2 dL_law_105 rfl rfl ?_
    refine r_iconst E 3 rfl dL_law_106 ?_
    refine r_iload E 6 dL_law_107 rfl ?_
    refine r_imul E dL_law_109 ?_
    refine r_iconst E 2 rfl dL_law_110 ?_
    refine r_iadd E dL_law_111 ?_
    refine r_sX E hX hbl (Nat.not_le.mpr hbl) (st := [.int (iJ ((ceV Ln xs ((3 * k) + 1)))), .int (iJ (lowV (ceV Ln xs (3 * k)) 12)), .ref x0]) (c_L_cell l D b_ Ln xs ((3 * k) + 2) hL ⟨by omega, by omega⟩) gL_law_L_cell 2 kf_L_cell ⟨rfl, rfl⟩ ⟨Nat.le_of_ble_eq_true rfl, Nat.le_of_ble_eq_true rfl⟩ dL_law_112 rfl rfl ⟨Nat.le_of_ble_eq_true rfl, Nat.le_of_ble_eq_true rfl⟩ (Nat.le_of_ble_eq_true rfl) (fun H locs h => Nat.lt_of_lt_of_le hbl h.1) ?_
    refine r_sM E (st := []) (c_L_change l D x0 h0 t0 n0 i0 d0 r0 p0 0 0 h1 cI g n q d1 gp 0 i1 cP xa ya kN kQ kG m pl1 pl2 pl3 pl4 pl5 pl6 cZ L ow cA cU hd fw t1 gt nt qt (lowV (ceV Ln xs (3 * k)) 12) (ceV Ln xs ((3 * k) + 1)) (ceV Ln xs ((3 * k) + 2)) (by first | assumption | omega | exact ⟨by omega, by omega⟩) (by first | assumption | omega | exact ⟨by omega, by omega⟩) (by first | assumption | omega | exact ⟨by omega, by omega⟩) (by first | assumption | omega | exact ⟨by omega, by omega⟩) (by first | assumption | omega | exact ⟨by omega, by omega⟩) (by first | assumption | omega | exact ⟨by omega, by omega⟩) ⟨by omega, by omega⟩ (ceV_jb ⟨by omega, by omega⟩) (ceV_jb ⟨by omega, by omega⟩)) gL_law_L_change 4 kf_L_change ⟨rfl, rfl⟩ ⟨Nat.le_of_ble_eq_true rfl, Nat.le_of_ble_eq_true rfl⟩ dL_law_115 rfl rfl ⟨Nat.le_of_ble_eq_true rfl, Nat.le_of_ble_eq_true rfl⟩ [0, 1, 2, 3, 4, 5, 6, 7, 8, 9, 10, 11, 12, 13, 14, 15, 16, 17, 18, 19, 20, 21, 22, 23] rfl (by decide) [0, 1, 2] rfl (Nat.le_of_ble_eq_true rfl) [] [] rfl (by decide) (by decide) hA [0, 1, 2, 3, 4, 5, 6, 7, 8, 9, 10, 11, 12, 13, 14, 15, 16, 17, 18, 19, 20, 21, 22, 23] (by decide) (fun u : Int × Int × Int × (Int → Int) × (Nat → Nat) × (Nat → Nat) × (Nat → Int) × (Nat → Int) × (Nat → Int → Int) × Int × Int × (Int → Int) × (Int → Int) × (Int → Int) × (Int → Int) × (Int → Int) × (Int → Int) × Int × Int => [(x0, .inr (5, [.ref h0, .ref t0, .ref n0, .ref i0, .ref d0, .ref r0, .ref p0, .int (iJ (0)), .int (iJ (0))])), (h0, .inr (2, [.ref h1, .int (iJ (u.2.1)), .int (iJ (u.2.2.1))])), (h1, cJ cI 32 (u.2.2.2.1)), (d0, .inr (1, [.ref d1, .int (iJ (0))])), (d1, cJ cI 60 (gp)), (i0, .inr (0, [.ref i1, .int (iJ (u.2.2.2.2.2.2.2.2.2.1))])), (i1, cR cP 4 (hF u.2.2.2.2.1)), ((u.2.2.2.2.1 0), .inr (2, [.ref (u.2.2.2.2.2.1 0), .int (iJ (u.2.2.2.2.2.2.1 0)), .int (iJ (u.2.2.2.2.2.2.2.1 0))])), ((u.2.2.2.2.2.1 0), cJ cI 32 (u.2.2.2.2.2.2.2.2.1 0)), ((u.2.2.2.2.1 1), .inr (2, [.ref (u.2.2.2.2.2.1 1), .int (iJ (u.2.2.2.2.2.2.1 1)), .int (iJ (u.2.2.2.2.2.2.2.1 1))])), ((u.2.2.2.2.2.1 1), cJ cI 32 (u.2.2.2.2.2.2.2.2.1 1)), ((u.2.2.2.2.1 2), .inr (2, [.ref (u.2.2.2.2.2.1 2), .int (iJ (u.2.2.2.2.2.2.1 2)), .int (iJ (u.2.2.2.2.2.2.2.1 2))])), ((u.2.2.2.2.2.1 2), cJ cI 32 (u.2.2.2.2.2.2.2.2.1 2)), ((u.2.2.2.2.1 3), .inr (2, [.ref (u.2.2.2.2.2.1 3), .int (iJ (u.2.2.2.2.2.2.1 3)), .int (iJ (u.2.2.2.2.2.2.2.1 3))])), ((u.2.2.2.2.2.1 3), cJ cI 32 (u.2.2.2.2.2.2.2.2.1 3)), (p0, .inr (3, [.ref pl1, .ref pl2, .ref pl3, .ref pl4, .ref pl5, .ref pl6, .int (iJ (u.2.2.2.2.2.2.2.2.2.2.1))])), (pl1, cJ cI 32 (nrA)), (pl2, cJ cI 32 (u.2.2.2.2.2.2.2.2.2.2.2.1)), (pl3, cJ cZ 32 (u.2.2.2.2.2.2.2.2.2.2.2.2.1)), (pl4, cJ cZ 32 (u.2.2.2.2.2.2.2.2.2.2.2.2.2.1)), (pl5, cJ cI 32 (u.2.2.2.2.2.2.2.2.2.2.2.2.2.2.1)), (pl6, cJ cI 132 (u.2.2.2.2.2.2.2.2.2.2.2.2.2.2.2.1)), (t0, .inr (2, [.ref t1, .int (iJ (u.2.2.2.2.2.2.2.2.2.2.2.2.2.2.2.2.2.1)), .int (iJ (u.2.2.2.2.2.2.2.2.2.2.2.2.2.2.2.2.2.2))])), (t1, cJ cI 32 (u.2.2.2.2.2.2.2.2.2.2.2.2.2.2.2.2.1))]) (fun _ => rfl) ?_
    rintro ⟨T1, n_1, q_1, g_1, xa_1, ya_1, kN_1, kQ_1, kG_1, m_1, L2_2, O2_3, A2_4, U2_5, H2_6, F2_7, G2_8, N2_9, Q2_10⟩ hp_11
    refine r_cv (ws2 := [(x0, .inr (5, [.ref h0, .ref t0, .ref n0, .ref i0, .ref d0, .ref r0, .ref p0, .int (iJ (0)), .int (iJ (0))])), (h0, .inr (2, [.ref h1, .int (iJ (n_1)), .int (iJ (q_1))])), (h1, cJ cI 32 (g_1)), (d0, .inr (1, [.ref d1, .int (iJ (0))])), (d1, cJ cI 60 (gp)), (i0, .inr (0, [.ref i1, .int (iJ (m_1))])), (i1, cR cP 4 (hF xa_1)), ((xa_1 0), .inr (2, [.ref (ya_1 0), .int (iJ (kN_1 0)), .int (iJ (kQ_1 0))])), ((ya_1 0), cJ cI 32 (kG_1 0)), ((xa_1 1), .inr (2, [.ref (ya_1 1), .int (iJ (kN_1 1)), .int (iJ (kQ_1 1))])), ((ya_1 1), cJ cI 32 (kG_1 1)), ((xa_1 2), .inr (2, [.ref (ya_1 2), .int (iJ (kN_1 2)), .int (iJ (kQ_1 2))])), ((ya_1 2), cJ cI 32 (kG_1 2)), ((xa_1 3), .inr (2, [.ref (ya_1 3), .int (iJ (kN_1 3)), .int (iJ (kQ_1 3))])), ((ya_1 3), cJ cI 32 (kG_1 3)), (p0, .inr (3, [.ref pl1, .ref pl2, .ref pl3, .ref pl4, .ref pl5, .ref pl6, .int (iJ (L2_2))])), (pl1, cJ cI 32 (nrA)), (pl2, cJ cI 32 (O2_3)), (pl3, cJ cZ 32 (A2_4)), (pl4, cJ cZ 32 (U2_5)), (pl5, cJ cI 32 (H2_6)), (pl6, cJ cI 132 (F2_7)), (t0, .inr (2, [.ref t1, .int (iJ (N2_9)), .int (iJ (Q2_10))])), (t1, cJ cI 32 (G2_8))]) (st2 := [.int (iJ (T1))]) rfl rfl rfl ?_
    obtain ⟨hT_1, hn_1, hq_1, hv_1, hm_1, hk_1, hN_1, hnt_1⟩ := hp_11
    try dsimp only at hT_1 hn_1 hq_1 hv_1 hm_1 hk_1 hN_1 hnt_1
    refine r_istore E [(7, .int (iJ (T1))), (6, .int (iJ (lowV (ceV Ln xs (3 * k)) 12))), (5, .int (iJ (m))), (0, .ref b_), (1, .ref x0), (2, .int (iJ (1))), (3, .int (iJ (T))), (4, .int (iJ (k)))] dL_law_118 (by decide) rfl ?_
    have hg_1 : ∀ j : Int, 0 ≤ j → j < n_1 → 0 ≤ g_1 j ∧ g_1 j < 64 := fun j a b => (hv_1 j a b).1
    have hJ : -2147483648 ≤ T1 ∧ T1 < 2147483648 := hT_1
    refine r_aload_n E 4 dL_law_120 rfl rfl ?_
    refine r_bipush E 15 rfl dL_law_121 ?_
    refine r_vP E (st := []) (c_X6_count l D x0 h0 t0 n0 i0 d0 r0 p0 0 0 h1 cI g_1 n_1 q_1 d1 gp 0 i1 m_1 15 (by first | assumption | omega | exact ⟨by omega, by omega⟩) (by first | assumption | omega | exact ⟨by omega, by omega⟩) (by first | assumption | omega | exact ⟨by omega, by omega⟩)) gL_law_X6_count 1 kf_X6_count ⟨rfl, rfl⟩ ⟨Nat.le_of_ble_eq_true rfl, Nat.le_of_ble_eq_true rfl⟩ dL_law_123 rfl 0 rfl rfl rfl rfl ⟨Nat.le_of_ble_eq_true rfl, Nat.le_of_ble_eq_true rfl⟩ [0, 1, 2, 3, 4, 5] rfl (by decide) [0] rfl (Nat.le_of_ble_eq_true rfl) ?_
    refine r_top (b := m_1) rfl ?_
    have K_150 : ∀ (v : Int), (v = m_1) → GG p_ l e_ room_1 s_ m_ ar_ bw_ mt_ cd_ D vwCl (fun q => s_.heap.size ≤ q) (fun q => s_.heap.size ≤ q) s_.heap 8 29 743 Q_ [(x0, .inr (5, [.ref h0, .ref t0, .ref n0, .ref i0, .ref d0, .ref r0, .ref p0, .int (iJ (0)), .int (iJ (0))])), (h0, .inr (2, [.ref h1, .int (iJ (n_1)), .int (iJ (q_1))])), (h1, cJ cI 32 (g_1)), (d0, .inr (1, [.ref d1, .int (iJ (0))])), (d1, cJ cI 60 (gp)), (i0, .inr (0, [.ref i1, .int (iJ (m_1))])), (i1, cR cP 4 (hF xa_1)), ((xa_1 0), .inr (2, [.ref (ya_1 0), .int (iJ (kN_1 0)), .int (iJ (kQ_1 0))])), ((ya_1 0), cJ cI 32 (kG_1 0)), ((xa_1 1), .inr (2, [.ref (ya_1 1), .int (iJ (kN_1 1)), .int (iJ (kQ_1 1))])), ((ya_1 1), cJ cI 32 (kG_1 1)), ((xa_1 2), .inr (2, [.ref (ya_1 2), .int (iJ (kN_1 2)), .int (iJ (kQ_1 2))])), ((ya_1 2), cJ cI 32 (kG_1 2)), ((xa_1 3), .inr (2, [.ref (ya_1 3), .int (iJ (kN_1 3)), .int (iJ (kQ_1 3))])), ((ya_1 3), cJ cI 32 (kG_1 3)), (p0, .inr (3, [.ref pl1, .ref pl2, .ref pl3, .ref pl4, .ref pl5, .ref pl6, .int (iJ (L2_2))])), (pl1, cJ cI 32 (nrA)), (pl2, cJ cI 32 (O2_3)), (pl3, cJ cZ 32 (A2_4)), (pl4, cJ cZ 32 (U2_5)), (pl5, cJ cI 32 (H2_6)), (pl6, cJ cI 132 (F2_7)), (t0, .inr (2, [.ref t1, .int (iJ (N2_9)), .int (iJ (Q2_10))])), (t1, cJ cI 32 (G2_8))] [(0, .ref b_), (1, .ref x0), (2, .int (iJ (1))), (3, .int (iJ (T))), (4, .int (iJ (k))), (5, .int (iJ (m))), (6, .int (iJ (lowV (ceV Ln xs (3 * k)) 12))), (7, .int (iJ (T1)))] 150 [.int (iJ (v)), .int (iJ (m_1))] := by
      intro v hw
      refine r_icmp_ne E 199 dL_law_150 (by decide) ⟨by omega, by omega⟩ ⟨by omega, by omega⟩ (fun c_150 => absurd c_150 (by omega)) (fun c_150 => ?_)
      refine r_aload_n E 1 dL_law_153 rfl rfl ?_
      refine r_iconst E 0 rfl dL_law_154 ?_
      refine r_vP E (st := []) (c_X6_count l D x0 h0 t0 n0 i0 d0 r0 p0 0 0 h1 cI g_1 n_1 q_1 d1 gp 0 i1 m_1 0 (by first | assumption | omega | exact ⟨by omega, by omega⟩) (by first | assumption | omega | exact ⟨by omega, by omega⟩) (by first | assumption | omega | exact ⟨by omega, by omega⟩)) gL_law_X6_count 1 kf_X6_count ⟨rfl, rfl⟩ ⟨Nat.le_of_ble_eq_true rfl, Nat.le_of_ble_eq_true rfl⟩ dL_law_155 rfl 0 rfl rfl rfl rfl ⟨Nat.le_of_ble_eq_true rfl, Nat.le_of_ble_eq_true rfl⟩ [0, 1, 2, 3, 4, 5] rfl (by decide) [0] rfl (Nat.le_of_ble_eq_true rfl) ?_
      refine r_top (b := n_1) rfl ?_
      refine r_bipush E 10 rfl dL_law_158 ?_
      refine r_icmp_gt E 199 dL_law_160 (by decide) ⟨by omega, by omega⟩ ⟨by omega, by omega⟩ (fun c_160 => absurd c_160 (by omega)) (fun c_160 => ?_)
      refine r_aload_n E 1 dL_law_163 rfl rfl ?_
      refine r_sM E (st := []) (c_L_holds l D x0 h0 t0 n0 i0 d0 r0 p0 0 0 h1 cI g_1 n_1 q_1 d1 gp 0 i1 m_1 pl1 pl2 pl3 pl4 pl5 pl6 cZ L2_2 O2_3 A2_4 U2_5 H2_6 F2_7 t1 G2_8 N2_9 Q2_10 hn_1 hq_1 hv_1 hnt_1) gL_law_L_holds 1 kf_L_holds ⟨rfl, rfl⟩ ⟨Nat.le_of_ble_eq_true rfl, Nat.le_of_ble_eq_true rfl⟩ dL_law_164 rfl rfl ⟨Nat.le_of_ble_eq_true rfl, Nat.le_of_ble_eq_true rfl⟩ [0, 1, 2, 3, 4, 5, 15, 16, 17, 18, 19, 20, 21, 22, 23] rfl (by decide) [0, 2] rfl (Nat.le_of_ble_eq_true rfl) [(i1, cR cP 4 (hF xa_1)), ((xa_1 0), .inr (2, [.ref (ya_1 0), .int (iJ (kN_1 0)), .int (iJ (kQ_1 0))])), ((ya_1 0), cJ cI 32 (kG_1 0)), ((xa_1 1), .inr (2, [.ref (ya_1 1), .int (iJ (kN_1 1)), .int (iJ (kQ_1 1))])), ((ya_1 1), cJ cI 32 (kG_1 1)), ((xa_1 2), .inr (2, [.ref (ya_1 2), .int (iJ (kN_1 2)), .int (iJ (kQ_1 2))])), ((ya_1 2), cJ cI 32 (kG_1 2)), ((xa_1 3), .inr (2, [.ref (ya_1 3), .int (iJ (kN_1 3)), .int (iJ (kQ_1 3))])), ((ya_1 3), cJ cI 32 (kG_1 3))] [6, 7, 8, 9, 10, 11, 12, 13, 14] rfl (by decide) (by decide) hA [9, 10, 11, 12, 13, 14, 0, 1, 2, 3, 4, 5, 6, 7, 8, 15, 16, 17, 18, 19, 20, 21, 22, 23] (by decide) (fun u : Int × (Int → Int) × (Int → Int) × (Int → Int) × (Int → Int) × (Int → Int) × (Int → Int) × Int => [(x0, .inr (5, [.ref h0, .ref t0, .ref n0, .ref i0, .ref d0, .ref r0, .ref p0, .int (iJ (0)), .int (iJ (0))])), (h0, .inr (2, [.ref h1, .int (iJ (n_1)), .int (iJ (q_1))])), (h1, cJ cI 32 (g_1)), (d0, .inr (1, [.ref d1, .int (iJ (0))])), (d1, cJ cI 60 (gp)), (i0, .inr (0, [.ref i1, .int (iJ (m_1))])), (i1, cR cP 4 (hF xa_1)), ((xa_1 0), .inr (2, [.ref (ya_1 0), .int (iJ (kN_1 0)), .int (iJ (kQ_1 0))])), ((ya_1 0), cJ cI 32 (kG_1 0)), ((xa_1 1), .inr (2, [.ref (ya_1 1), .int (iJ (kN_1 1)), .int (iJ (kQ_1 1))])), ((ya_1 1), cJ cI 32 (kG_1 1)), ((xa_1 2), .inr (2, [.ref (ya_1 2), .int (iJ (kN_1 2)), .int (iJ (kQ_1 2))])), ((ya_1 2), cJ cI 32 (kG_1 2)), ((xa_1 3), .inr (2, [.ref (ya_1 3), .int (iJ (kN_1 3)), .int (iJ (kQ_1 3))])), ((ya_1 3), cJ cI 32 (kG_1 3)), (p0, .inr (3, [.ref pl1, .ref pl2, .ref pl3, .ref pl4, .ref pl5, .ref pl6, .int (iJ (u.1))])), (pl1, cJ cI 32 (nrA)), (pl2, cJ cI 32 (u.2.1)), (pl3, cJ cZ 32 (u.2.2.1)), (pl4, cJ cZ 32 (u.2.2.2.1)), (pl5, cJ cI 32 (u.2.2.2.2.1)), (pl6, cJ cI 132 (u.2.2.2.2.2.1)), (t0, .inr (2, [.ref t1, .int (iJ (n_1)), .int (iJ (u.2.2.2.2.2.2.2))])), (t1, cJ cI 32 (u.2.2.2.2.2.2.1))]) (fun _ => rfl) ?_
      rintro ⟨L2_12, O2_13, A2_14, U2_15, H2_16, F2_17, G2_18, Q2_19⟩ hp_20
      refine r_cv (ws2 := [(x0, .inr (5, [.ref h0, .ref t0, .ref n0, .ref i0, .ref d0, .ref r0, .ref p0, .int (iJ (0)), .int (iJ (0))])), (h0, .inr (2, [.ref h1, .int (iJ (n_1)), .int (iJ (q_1))])), (h1, cJ cI 32 (g_1)), (d0, .inr (1, [.ref d1, .int (iJ (0))])), (d1, cJ cI 60 (gp)), (i0, .inr (0, [.ref i1, .int (iJ (m_1))])), (i1, cR cP 4 (hF xa_1)), ((xa_1 0), .inr (2, [.ref (ya_1 0), .int (iJ (kN_1 0)), .int (iJ (kQ_1 0))])), ((ya_1 0), cJ cI 32 (kG_1 0)), ((xa_1 1), .inr (2, [.ref (ya_1 1), .int (iJ (kN_1 1)), .int (iJ (kQ_1 1))])), ((ya_1 1), cJ cI 32 (kG_1 1)), ((xa_1 2), .inr (2, [.ref (ya_1 2), .int (iJ (kN_1 2)), .int (iJ (kQ_1 2))])), ((ya_1 2), cJ cI 32 (kG_1 2)), ((xa_1 3), .inr (2, [.ref (ya_1 3), .int (iJ (kN_1 3)), .int (iJ (kQ_1 3))])), ((ya_1 3), cJ cI 32 (kG_1 3)), (p0, .inr (3, [.ref pl1, .ref pl2, .ref pl3, .ref pl4, .ref pl5, .ref pl6, .int (iJ (L2_12))])), (pl1, cJ cI 32 (nrA)), (pl2, cJ cI 32 (O2_13)), (pl3, cJ cZ 32 (A2_14)), (pl4, cJ cZ 32 (U2_15)), (pl5, cJ cI 32 (H2_16)), (pl6, cJ cI 132 (F2_17)), (t0, .inr (2, [.ref t1, .int (iJ (n_1)), .int (iJ (Q2_19))])), (t1, cJ cI 32 (G2_18))]) (st2 := [.int (iJ (1))]) rfl rfl rfl ?_
      refine r_if_eq E 199 dL_law_167 (by decide) ⟨by omega, by omega⟩ (fun c_167 => absurd c_167 (by omega)) (fun c_167 => ?_)
      refine r_iload E 4 dL_law_170 rfl ?_
      refine r_iconst E 4 rfl dL_law_172 ?_
      refine r_irem E ⟨by omega, by omega⟩ ⟨by omega, by omega⟩ dL_law_173 ?_
      refine r_iconst E 3 rfl dL_law_174 ?_
      refine r_icmp_ne E 195 dL_law_175 (by decide) ⟨by omega, by omega⟩ ⟨by omega, by omega⟩ (fun c_175 => ?_) (fun c_175 => ?_)
      · refine r_iconst E 1 rfl dL_law_195 ?_
        refine r_goto E 200 dL_law_196 (by decide) ?_
        refine r_istore_n E [(2, .int (iJ (1))), (0, .ref b_), (1, .ref x0), (3, .int (iJ (T))), (4, .int (iJ (k))), (5, .int (iJ (m))), (6, .int (iJ (lowV (ceV Ln xs (3 * k)) 12))), (7, .int (iJ (T1)))] dL_law_200 rfl (by decide) rfl ?_
        refine r_iinc E (k := 4) [(4, .int (iJ ((k + 1)))), (2, .int (iJ (1))), (0, .ref b_), (1, .ref x0), (3, .int (iJ (T))), (5, .int (iJ (m))), (6, .int (iJ (lowV (ceV Ln xs (3 * k)) 12))), (7, .int (iJ (T1)))] dL_law_201 rfl (by decide) rfl ?_
        refine r_goto E 59 dL_law_204 (by decide) ?_
        refine r_lv [2, 3, 1, 4, 0] [(0, .ref b_), (1, .ref x0), (2, .int (iJ (1))), (3, .int (iJ (T))), (4, .int (iJ ((k + 1))))] rfl ?_
        exact ih (k + 1) n_1 q_1 g_1 gp xa_1 ya_1 kN_1 kQ_1 kG_1 m_1 L2_12 O2_13 A2_14 U2_15 H2_16 F2_17 G2_18 n_1 Q2_19 ⟨by omega, by omega⟩ (by omega) hn_1 hq_1 hv_1 hk_1 hN_1 ⟨hn_1.1, by omega⟩
      · refine r_aload_n E 1 dL_law_178 rfl rfl ?_
        refine r_aload_n E 0 dL_law_179 rfl rfl ?_
        refine r_iconst E 3 rfl dL_law_180 ?_
        refine r_iload E 4 dL_law_181 rfl ?_
        refine r_imul E dL_law_183 ?_
        refine r_iconst E 2 rfl dL_law_184 ?_
        refine r_iadd E dL_law_185 ?_
        refine r_sX E hX hbl (Nat.not_le.mpr hbl) (st := [.ref x0]) (c_L_cell l D b_ Ln xs ((3 * k) + 2) hL ⟨by omega, by omega⟩) gL_law_L_cell 2 kf_L_cell ⟨rfl, rfl⟩ ⟨Nat.le_of_ble_eq_true rfl, Nat.le_of_ble_eq_true rfl⟩ dL_law_186 rfl rfl ⟨Nat.le_of_ble_eq_true rfl, Nat.le_of_ble_eq_true rfl⟩ (Nat.le_of_ble_eq_true rfl) (fun H locs h => Nat.lt_of_lt_of_le hbl h.1) ?_
        refine r_sM E (st := []) (c_L_tries l D x0 h0 t0 n0 i0 d0 r0 p0 0 0 h1 cI g_1 n_1 q_1 d1 gp 0 i1 cP xa_1 ya_1 kN_1 kQ_1 kG_1 m_1 pl1 pl2 pl3 pl4 pl5 pl6 cZ L2_12 O2_13 A2_14 U2_15 H2_16 F2_17 t1 G2_18 n_1 Q2_19 (ceV Ln xs ((3 * k) + 2)) hn_1 hq_1 hv_1 hk_1 hN_1 ⟨hn_1.1, by omega⟩ (ceV_jb ⟨by omega, by omega⟩)) gL_law_L_tries 2 kf_L_tries ⟨rfl, rfl⟩ ⟨Nat.le_of_ble_eq_true rfl, Nat.le_of_ble_eq_true rfl⟩ dL_law_189 rfl rfl ⟨Nat.le_of_ble_eq_true rfl, Nat.le_of_ble_eq_true rfl⟩ [0, 1, 2, 3, 4, 5, 6, 7, 8, 9, 10, 11, 12, 13, 14, 15, 16, 17, 18, 19, 20, 21, 22, 23] rfl (by decide) [0, 1, 2] rfl (Nat.le_of_ble_eq_true rfl) [] [] rfl (by decide) (by decide) hA [0, 1, 2, 3, 4, 5, 6, 7, 8, 9, 10, 11, 12, 13, 14, 15, 16, 17, 18, 19, 20, 21, 22, 23] (by decide) (fun u : (Int → Int) × (Nat → Nat) × (Nat → Nat) × (Nat → Int) × (Nat → Int) × (Nat → Int → Int) × Int × Int × (Int → Int) × (Int → Int) × (Int → Int) × (Int → Int) × (Int → Int) × (Int → Int) × Int × Int => [(x0, .inr (5, [.ref h0, .ref t0, .ref n0, .ref i0, .ref d0, .ref r0, .ref p0, .int (iJ (0)), .int (iJ (0))])), (h0, .inr (2, [.ref h1, .int (iJ (n_1)), .int (iJ (q_1))])), (h1, cJ cI 32 (u.1)), (d0, .inr (1, [.ref d1, .int (iJ (0))])), (d1, cJ cI 60 (gp)), (i0, .inr (0, [.ref i1, .int (iJ (u.2.2.2.2.2.2.1))])), (i1, cR cP 4 (hF u.2.1)), ((u.2.1 0), .inr (2, [.ref (u.2.2.1 0), .int (iJ (u.2.2.2.1 0)), .int (iJ (u.2.2.2.2.1 0))])), ((u.2.2.1 0), cJ cI 32 (u.2.2.2.2.2.1 0)), ((u.2.1 1), .inr (2, [.ref (u.2.2.1 1), .int (iJ (u.2.2.2.1 1)), .int (iJ (u.2.2.2.2.1 1))])), ((u.2.2.1 1), cJ cI 32 (u.2.2.2.2.2.1 1)), ((u.2.1 2), .inr (2, [.ref (u.2.2.1 2), .int (iJ (u.2.2.2.1 2)), .int (iJ (u.2.2.2.2.1 2))])), ((u.2.2.1 2), cJ cI 32 (u.2.2.2.2.2.1 2)), ((u.2.1 3), .inr (2, [.ref (u.2.2.1 3), .int (iJ (u.2.2.2.1 3)), .int (iJ (u.2.2.2.2.1 3))])), ((u.2.2.1 3), cJ cI 32 (u.2.2.2.2.2.1 3)), (p0, .inr (3, [.ref pl1, .ref pl2, .ref pl3, .ref pl4, .ref pl5, .ref pl6, .int (iJ (u.2.2.2.2.2.2.2.1))])), (pl1, cJ cI 32 (nrA)), (pl2, cJ cI 32 (u.2.2.2.2.2.2.2.2.1)), (pl3, cJ cZ 32 (u.2.2.2.2.2.2.2.2.2.1)), (pl4, cJ cZ 32 (u.2.2.2.2.2.2.2.2.2.2.1)), (pl5, cJ cI 32 (u.2.2.2.2.2.2.2.2.2.2.2.1)), (pl6, cJ cI 132 (u.2.2.2.2.2.2.2.2.2.2.2.2.1)), (t0, .inr (2, [.ref t1, .int (iJ (u.2.2.2.2.2.2.2.2.2.2.2.2.2.2.1)), .int (iJ (u.2.2.2.2.2.2.2.2.2.2.2.2.2.2.2))])), (t1, cJ cI 32 (u.2.2.2.2.2.2.2.2.2.2.2.2.2.1))]) (fun _ => rfl) ?_
        rintro ⟨g_2, xa_2, ya_2, kN_2, kQ_2, kG_2, m_2, L2_21, O2_22, A2_23, U2_24, H2_25, F2_26, G2_27, N2_28, Q2_29⟩ hp_30
        refine r_cv (ws2 := [(x0, .inr (5, [.ref h0, .ref t0, .ref n0, .ref i0, .ref d0, .ref r0, .ref p0, .int (iJ (0)), .int (iJ (0))])), (h0, .inr (2, [.ref h1, .int (iJ (n_1)), .int (iJ (q_1))])), (h1, cJ cI 32 (g_2)), (d0, .inr (1, [.ref d1, .int (iJ (0))])), (d1, cJ cI 60 (gp)), (i0, .inr (0, [.ref i1, .int (iJ (m_2))])), (i1, cR cP 4 (hF xa_2)), ((xa_2 0), .inr (2, [.ref (ya_2 0), .int (iJ (kN_2 0)), .int (iJ (kQ_2 0))])), ((ya_2 0), cJ cI 32 (kG_2 0)), ((xa_2 1), .inr (2, [.ref (ya_2 1), .int (iJ (kN_2 1)), .int (iJ (kQ_2 1))])), ((ya_2 1), cJ cI 32 (kG_2 1)), ((xa_2 2), .inr (2, [.ref (ya_2 2), .int (iJ (kN_2 2)), .int (iJ (kQ_2 2))])), ((ya_2 2), cJ cI 32 (kG_2 2)), ((xa_2 3), .inr (2, [.ref (ya_2 3), .int (iJ (kN_2 3)), .int (iJ (kQ_2 3))])), ((ya_2 3), cJ cI 32 (kG_2 3)), (p0, .inr (3, [.ref pl1, .ref pl2, .ref pl3, .ref pl4, .ref pl5, .ref pl6, .int (iJ (L2_21))])), (pl1, cJ cI 32 (nrA)), (pl2, cJ cI 32 (O2_22)), (pl3, cJ cZ 32 (A2_23)), (pl4, cJ cZ 32 (U2_24)), (pl5, cJ cI 32 (H2_25)), (pl6, cJ cI 132 (F2_26)), (t0, .inr (2, [.ref t1, .int (iJ (N2_28)), .int (iJ (Q2_29))])), (t1, cJ cI 32 (G2_27))]) (st2 := [.int (iJ (1))]) rfl rfl rfl ?_
        obtain ⟨hv_2, hk_2, hN_2, hnt_2⟩ := hp_30
        try dsimp only at hv_2 hk_2 hN_2 hnt_2
        refine r_if_eq E 199 dL_law_192 (by decide) ⟨by omega, by omega⟩ (fun c_192 => absurd c_192 (by omega)) (fun c_192 => ?_)
        refine r_iconst E 1 rfl dL_law_195 ?_
        refine r_goto E 200 dL_law_196 (by decide) ?_
        refine r_istore_n E [(2, .int (iJ (1))), (0, .ref b_), (1, .ref x0), (3, .int (iJ (T))), (4, .int (iJ (k))), (5, .int (iJ (m))), (6, .int (iJ (lowV (ceV Ln xs (3 * k)) 12))), (7, .int (iJ (T1)))] dL_law_200 rfl (by decide) rfl ?_
        refine r_iinc E (k := 4) [(4, .int (iJ ((k + 1)))), (2, .int (iJ (1))), (0, .ref b_), (1, .ref x0), (3, .int (iJ (T))), (5, .int (iJ (m))), (6, .int (iJ (lowV (ceV Ln xs (3 * k)) 12))), (7, .int (iJ (T1)))] dL_law_201 rfl (by decide) rfl ?_
        refine r_goto E 59 dL_law_204 (by decide) ?_
        refine r_lv [2, 3, 1, 4, 0] [(0, .ref b_), (1, .ref x0), (2, .int (iJ (1))), (3, .int (iJ (T))), (4, .int (iJ ((k + 1))))] rfl ?_
        exact ih (k + 1) n_1 q_1 g_2 gp xa_2 ya_2 kN_2 kQ_2 kG_2 m_2 L2_21 O2_22 A2_23 U2_24 H2_25 F2_26 G2_27 N2_28 Q2_29 ⟨by omega, by omega⟩ (by omega) hn_1 hq_1 hv_2 hk_2 hN_2 hnt_2
    refine r_iload E 0 dL_law_126 rfl ?_
    refine r_if_ge E 136 dL_law_128 (by decide) ⟨by omega, by omega⟩ (fun c_128 => ?_) (fun c_128 => ?_)
    · refine r_iload E 2 dL_law_136 rfl ?_
      refine r_iconst E 4 rfl dL_law_138 ?_
      refine r_icmp_ne E 146 dL_law_139 (by decide) ⟨by omega, by omega⟩ ⟨by omega, by omega⟩ (fun c_139 => ?_) (fun c_139 => ?_)
      · refine r_iload E 2 dL_law_146 rfl ?_
        refine r_iconst E 1 rfl dL_law_148 ?_
        refine r_iadd E dL_law_149 ?_
        refine r_lv [3, 4, 5, 6, 7, 2, 1, 0] [(0, .ref b_), (1, .ref x0), (2, .int (iJ (1))), (3, .int (iJ (T))), (4, .int (iJ (k))), (5, .int (iJ (m))), (6, .int (iJ (lowV (ceV Ln xs (3 * k)) 12))), (7, .int (iJ (T1)))] rfl ?_
        exact K_150 (m + 1) (by
              rcases hm_1 with t | t
              · omega
              · by_cases z : m = 4
                · rw [if_pos z] at t; omega
                · rw [if_neg z] at t; omega)
      · refine r_iconst E 4 rfl dL_law_142 ?_
        refine r_goto E 150 dL_law_143 (by decide) ?_
        refine r_lv [3, 4, 5, 6, 7, 2, 1, 0] [(0, .ref b_), (1, .ref x0), (2, .int (iJ (1))), (3, .int (iJ (T))), (4, .int (iJ (k))), (5, .int (iJ (m))), (6, .int (iJ (lowV (ceV Ln xs (3 * k)) 12))), (7, .int (iJ (T1)))] rfl ?_
        exact K_150 4 (by
              rcases hm_1 with t | t
              · omega
              · by_cases z : m = 4
                · rw [if_pos z] at t; omega
                · rw [if_neg z] at t; omega)
    · refine r_iload E 2 dL_law_131 rfl ?_
      refine r_goto E 150 dL_law_133 (by decide) ?_
      refine r_lv [3, 4, 5, 6, 7, 2, 1, 0] [(0, .ref b_), (1, .ref x0), (2, .int (iJ (1))), (3, .int (iJ (T))), (4, .int (iJ (k))), (5, .int (iJ (m))), (6, .int (iJ (lowV (ceV Ln xs (3 * k)) 12))), (7, .int (iJ (T1)))] rfl ?_
      exact K_150 m (by
            rcases hm_1 with t | t
            · omega
            · by_cases z : m = 4
              · rw [if_pos z] at t; omega
              · rw [if_neg z] at t; omega)
