set_option maxHeartbeats 1000000 in
set_option maxRecDepth 100000 in
theorem c_L6_stick (l : Launch) (D : va_G) (x0 : Nat) (h0 : Nat) (t0 : Nat) (n0 : Nat) (i0 : Nat) (d0 : Nat) (r0 : Nat) (p0 : Nat) (hs : Int) (rf : Int) (h1 : Nat) (cI : ClassId) (g : Int → Int) (n : Int) (q : Int) (pl1 : Nat) (pl2 : Nat) (pl3 : Nat) (pl4 : Nat) (pl5 : Nat) (pl6 : Nat) (cZ : ClassId) (L : Int) (ow : Int → Int) (cA : Int → Int) (cU : Int → Int) (hd : Int → Int) (fw : Int → Int) (ov : Int) (w : Int) (hn : 0 ≤ n ∧ n ≤ 32) (hq : 1 ≤ q ∧ q ≤ 4) (hv : ∀ j : Int, 0 ≤ j → j < n → vK (g j)) (hov : ov = 0 ∨ ov = 1) (hw : w = 0 ∨ w = 1) : MM (S := Int × (Int → Int) × (Int → Int) × (Int → Int) × (Int → Int) × (Int → Int)) l yX6_stickings wsX6_stickings rm_X6_stickings D vwCl [.ref x0, .int (iJ (ov)), .int (iJ (w))] [(x0, .inr (5, [.ref h0, .ref t0, .ref n0, .ref i0, .ref d0, .ref r0, .ref p0, .int (iJ (hs)), .int (iJ (rf))])), (h0, .inr (2, [.ref h1, .int (iJ (n)), .int (iJ (q))])), (h1, cJ cI 32 (g)), (p0, .inr (3, [.ref pl1, .ref pl2, .ref pl3, .ref pl4, .ref pl5, .ref pl6, .int (iJ (L))])), (pl1, cJ cI 32 (nrA)), (pl2, cJ cI 32 (ow)), (pl3, cJ cZ 32 (cA)), (pl4, cJ cZ 32 (cU)), (pl5, cJ cI 32 (hd)), (pl6, cJ cI 132 (fw))] [(cI, .int), (cZ, .boolean)] (fun (u : Int × (Int → Int) × (Int → Int) × (Int → Int) × (Int → Int) × (Int → Int)) => SV g n q ov) (fun (u : Int × (Int → Int) × (Int → Int) × (Int → Int) × (Int → Int) × (Int → Int)) => True) (fun (u : Int × (Int → Int) × (Int → Int) × (Int → Int) × (Int → Int) × (Int → Int)) => [(x0, .inr (5, [.ref h0, .ref t0, .ref n0, .ref i0, .ref d0, .ref r0, .ref p0, .int (iJ (hs)), .int (iJ (rf))])), (h0, .inr (2, [.ref h1, .int (iJ (n)), .int (iJ (q))])), (h1, cJ cI 32 (g)), (p0, .inr (3, [.ref pl1, .ref pl2, .ref pl3, .ref pl4, .ref pl5, .ref pl6, .int (iJ (u.1))])), (pl1, cJ cI 32 (nrA)), (pl2, cJ cI 32 (u.2.1)), (pl3, cJ cZ 32 (u.2.2.1)), (pl4, cJ cZ 32 (u.2.2.2.1)), (pl5, cJ cI 32 (u.2.2.2.2.1)), (pl6, cJ cI 132 (u.2.2.2.2.2))]) := by
  have hg : ∀ j : Int, 0 ≤ j → j < n → 0 ≤ g j ∧ g j < 64 := fun j a b => (hv j a b).1
  by_cases h8 : w = 1 ∧ sm (fun j => b2 (¬ g j = 0 ∧ g j / 2 % 4 = 2)) n ≤ 8
  · exact (c_X6_stickEach l D x0 h0 t0 n0 i0 d0 r0 p0 hs rf h1 cI g n q pl1 pl2 pl3 pl4 pl5 pl6 cZ L ow cA cU hd fw ov w hn hg hq hov h8).weak (fun u _ => ⟨u, [0, 1, 2, 3, 4, 5, 6, 7, 8, 9], ⟨sv_each hn hq hv hov h8.2, trivial⟩, by decide, rfl⟩)
  · exact (c_X6_stickings l D x0 h0 t0 n0 i0 d0 r0 p0 hs rf h1 cI g n q pl1 pl2 pl3 pl4 pl5 pl6 cZ L ow cA cU hd fw ov w hn hg hq hov (by omega)).weak (fun u _ => ⟨u, [0, 1, 2, 3, 4, 5, 6, 7, 8, 9], ⟨rfl, trivial⟩, by decide, rfl⟩)
theorem kf_L_areStickings : KF yL_areStickings 1 wsL_areStickings cL_areStickings 13 (some .boolean) := ⟨rfl, by decide +kernel, by decide +kernel, by decide +kernel⟩
def rm_L_areStickings : Room := { frames := 10, cells := 0, slots := 0, locals := 247 }
set_option maxRecDepth 20000 in
theorem ck_L_areStickings_81 : Cond.constantDouble RL 81 13830554455654793216 ∈ wsL_areStickings := by decide +kernel
set_option maxHeartbeats 4000000 in
set_option maxRecDepth 100000 in
theorem c_L_areStickings (l : Launch) (D : va_G) (x0 : Nat) (h0 : Nat) (t0 : Nat) (n0 : Nat) (i0 : Nat) (d0 : Nat) (r0 : Nat) (p0 : Nat) (hs : Int) (rf : Int) (h1 : Nat) (cI : ClassId) (g : Int → Int) (n : Int) (q : Int) (d1 : Nat) (gp : Int → Int) (np : Int) (i1 : Nat) (m : Int) (pl1 : Nat) (pl2 : Nat) (pl3 : Nat) (pl4 : Nat) (pl5 : Nat) (pl6 : Nat) (cZ : ClassId) (L : Int) (ow : Int → Int) (cA : Int → Int) (cU : Int → Int) (hd : Int → Int) (fw : Int → Int) (t1 : Nat) (gt : Int → Int) (nt : Int) (qt : Int) (hn : 0 ≤ n ∧ n ≤ 9) (hq : 1 ≤ q ∧ q ≤ 4) (hv : ∀ j : Int, 0 ≤ j → j < n → vK (g j)) (hnt : 0 ≤ nt ∧ nt ≤ 32) : MM (S := Int × (Int → Int) × (Int → Int) × (Int → Int) × (Int → Int) × (Int → Int) × (Int → Int) × Int) l yL_areStickings wsL_areStickings rm_L_areStickings D vwCl [.ref x0] [(x0, .inr (5, [.ref h0, .ref t0, .ref n0, .ref i0, .ref d0, .ref r0, .ref p0, .int (iJ (hs)), .int (iJ (rf))])), (h0, .inr (2, [.ref h1, .int (iJ (n)), .int (iJ (q))])), (h1, cJ cI 32 (g)), (d0, .inr (1, [.ref d1, .int (iJ (np))])), (d1, cJ cI 60 (gp)), (i0, .inr (0, [.ref i1, .int (iJ (m))])), (p0, .inr (3, [.ref pl1, .ref pl2, .ref pl3, .ref pl4, .ref pl5, .ref pl6, .int (iJ (L))])), (pl1, cJ cI 32 (nrA)), (pl2, cJ cI 32 (ow)), (pl3, cJ cZ 32 (cA)), (pl4, cJ cZ 32 (cU)), (pl5, cJ cI 32 (hd)), (pl6, cJ cI 132 (fw)), (t0, .inr (2, [.ref t1, .int (iJ (nt)), .int (iJ (qt))])), (t1, cJ cI 32 (gt))] [(cI, .int), (cZ, .boolean)] (fun (u : Int × (Int → Int) × (Int → Int) × (Int → Int) × (Int → Int) × (Int → Int) × (Int → Int) × Int) => 1) (fun (u : Int × (Int → Int) × (Int → Int) × (Int → Int) × (Int → Int) × (Int → Int) × (Int → Int) × Int) => True) (fun (u : Int × (Int → Int) × (Int → Int) × (Int → Int) × (Int → Int) × (Int → Int) × (Int → Int) × Int) => [(x0, .inr (5, [.ref h0, .ref t0, .ref n0, .ref i0, .ref d0, .ref r0, .ref p0, .int (iJ (hs)), .int (iJ (rf))])), (h0, .inr (2, [.ref h1, .int (iJ (n)), .int (iJ (q))])), (h1, cJ cI 32 (g)), (d0, .inr (1, [.ref d1, .int (iJ (np))])), (d1, cJ cI 60 (gp)), (i0, .inr (0, [.ref i1, .int (iJ (m))])), (p0, .inr (3, [.ref pl1, .ref pl2, .ref pl3, .ref pl4, .ref pl5, .ref pl6, .int (iJ (u.1))])), (pl1, cJ cI 32 (nrA)), (pl2, cJ cI 32 (u.2.1)), (pl3, cJ cZ 32 (u.2.2.1)), (pl4, cJ cZ 32 (u.2.2.2.1)), (pl5, cJ cI 32 (u.2.2.2.2.1)), (pl6, cJ cI 132 (u.2.2.2.2.2.1)), (t0, .inr (2, [.ref t1, .int (iJ (n)), .int (iJ (u.2.2.2.2.2.2.2))])), (t1, cJ cI 32 (u.2.2.2.2.2.2.1))]) := by
  refine MM.mk (cc := cL_areStickings) (maxL := 13) (ret := (some .boolean)) (by decide) rfl (Nat.le_of_ble_eq_true rfl) rfl RL rfl ?_
  intro p_ e_ s_ m_ ar_ bw_ mt_ cd_ B_ Q_ hA E hr hQ
  have hn32 : 0 ≤ n ∧ n ≤ 32 := ⟨hn.1, by omega⟩
  have hg : ∀ j : Int, 0 ≤ j → j < n → 0 ≤ g j ∧ g j < 64 := fun j a b => (hv j a b).1
  have hg3 : ∀ j : Int, 0 ≤ j → j < n → ¬ g j / 2 % 4 = 3 := fun j a b => (hv j a b).2.1
  refine r_aload_n E 0 dL_areStickings_0 rfl rfl ?_
  refine r_iconst E 0 rfl dL_areStickings_1 ?_
  refine r_vP E (st := []) (c_X6_count l D x0 h0 t0 n0 i0 d0 r0 p0 hs rf h1 cI g n q d1 gp np i1 m 0 (by first | assumption | omega | exact ⟨by omega, by omega⟩) (by first | assumption | omega | exact ⟨by omega, by omega⟩) (by first | assumption | omega | exact ⟨by omega, by omega⟩)) gL_areStickings_X6_count 1 kf_X6_count ⟨rfl, rfl⟩ ⟨by decide, by decide⟩ dL_areStickings_2 rfl 0 rfl rfl rfl rfl ⟨Nat.zero_le _, Nat.zero_le _⟩ [0, 1, 2, 3, 4, 5] rfl (by decide) [0] rfl (Nat.le_of_ble_eq_true rfl) ?_
  refine r_top (b := n) rfl ?_
  refine r_istore_n E [(1, .int (iJ (n))), (0, .ref x0)] dL_areStickings_5 rfl (by decide) rfl ?_
  refine r_iconst E 0 rfl dL_areStickings_6 ?_
  refine r_istore_n E [(2, .int (iJ (0))), (1, .int (iJ (n))), (0, .ref x0)] dL_areStickings_7 rfl (by decide) rfl ?_
  refine r_iconst E 0 rfl dL_areStickings_8 ?_
  refine r_istore_n E [(3, .int (iJ (0))), (2, .int (iJ (0))), (1, .int (iJ (n))), (0, .ref x0)] dL_areStickings_9 rfl (by decide) rfl ?_
  refine r_iconst E (-1) rfl dL_areStickings_10 ?_
  refine r_istore E [(4, .int (iJ ((-1)))), (3, .int (iJ (0))), (2, .int (iJ (0))), (1, .int (iJ (n))), (0, .ref x0)] dL_areStickings_11 (by decide) rfl ?_
  refine r_iconst E (-1) rfl dL_areStickings_13 ?_
  refine r_istore E [(5, .int (iJ ((-1)))), (4, .int (iJ ((-1)))), (3, .int (iJ (0))), (2, .int (iJ (0))), (1, .int (iJ (n))), (0, .ref x0)] dL_areStickings_14 (by decide) rfl ?_
  refine r_iconst E 0 rfl dL_areStickings_16 ?_
  refine r_istore E [(6, .int (iJ (0))), (5, .int (iJ ((-1)))), (4, .int (iJ ((-1)))), (3, .int (iJ (0))), (2, .int (iJ (0))), (1, .int (iJ (n))), (0, .ref x0)] dL_areStickings_17 (by decide) rfl ?_
  refine r_iconst E 0 rfl dL_areStickings_19 ?_
  refine r_istore E [(7, .int (iJ (0))), (6, .int (iJ (0))), (5, .int (iJ ((-1)))), (4, .int (iJ ((-1)))), (3, .int (iJ (0))), (2, .int (iJ (0))), (1, .int (iJ (n))), (0, .ref x0)] dL_areStickings_20 (by decide) rfl ?_
  have f_p9 := p2_9 (j := n) hn.2
  have f_p1 := p2_pos n
  have loop_22 : ∀ (N : Nat) (k : Int) (m2 : Int) (m3 : Int) (m4 : Int) (m5 : Int) (m6 : Int), (0 ≤ k ∧ k ≤ p2 n) → ((m2, m3, m4, m5, m6) = arN g n q k.toNat) → (p2 n - k).toNat < N → GG p_ l e_ rm_L_areStickings s_ m_ ar_ bw_ mt_ cd_ D vwCl B_ B_ s_.heap 13 0 0 Q_ [(x0, .inr (5, [.ref h0, .ref t0, .ref n0, .ref i0, .ref d0, .ref r0, .ref p0, .int (iJ (hs)), .int (iJ (rf))])), (h0, .inr (2, [.ref h1, .int (iJ (n)), .int (iJ (q))])), (h1, cJ cI 32 (g)), (d0, .inr (1, [.ref d1, .int (iJ (np))])), (d1, cJ cI 60 (gp)), (i0, .inr (0, [.ref i1, .int (iJ (m))])), (p0, .inr (3, [.ref pl1, .ref pl2, .ref pl3, .ref pl4, .ref pl5, .ref pl6, .int (iJ (L))])), (pl1, cJ cI 32 (nrA)), (pl2, cJ cI 32 (ow)), (pl3, cJ cZ 32 (cA)), (pl4, cJ cZ 32 (cU)), (pl5, cJ cI 32 (hd)), (pl6, cJ cI 132 (fw)), (t0, .inr (2, [.ref t1, .int (iJ (nt)), .int (iJ (qt))])), (t1, cJ cI 32 (gt))] [(0, .ref x0), (1, .int (iJ (n))), (2, .int (iJ (m2))), (3, .int (iJ (m3))), (4, .int (iJ (m4))), (5, .int (iJ (m5))), (6, .int (iJ (m6))), (7, .int (iJ (k)))] 22 [] := by
    intro N; induction N with
    | zero => intro k m2 m3 m4 m5 m6 hk hAr hN; exact absurd hN (Nat.not_lt_zero _)
    | succ N ih22 =>
      intro k m2 m3 m4 m5 m6 hk hAr hN
      have f_p9 := p2_9 (j := n) hn.2
      have f_p1 := p2_pos n
      refine r_iload E 7 dL_areStickings_22 rfl ?_
      have f_b := ar_in (g := g) (q := q) hn k.toNat
      rw [← hAr] at f_b
      dsimp only at f_b
      refine r_iconst E 1 rfl dL_areStickings_24 ?_
      refine r_iload_n E 1 dL_areStickings_25 rfl rfl ?_
      refine r_ishl E (p2 n) (by have t := sh_1 (b := 1) (k := n) (Or.inr rfl) ⟨by omega, by omega⟩; rwa [Int.one_mul] at t) dL_areStickings_26 ?_
      refine r_icmp_ge E 207 dL_areStickings_27 (by decide) ⟨by omega, by omega⟩ ⟨by omega, by omega⟩ (fun c_27 => ?_) (fun c_27 => ?_)
      · have f_b := ar_in (g := g) (q := q) hn k.toNat
        have e_k : k = p2 n := by omega
        rw [← hAr] at f_b
        dsimp only at f_b
        rw [e_k] at hAr
        obtain ⟨z1, z2, z3, z4, z5, z6, z7, z8, z9⟩ := ar_all hn hq hv hAr
        have f_sv := sv_pos hn hq hv
        refine r_aload_n E 0 dL_areStickings_207 rfl rfl ?_
        refine r_iconst E 0 rfl dL_areStickings_208 ?_
        refine r_iconst E 0 rfl dL_areStickings_209 ?_
        refine r_vM E (st := []) (c_L6_stick l D x0 h0 t0 n0 i0 d0 r0 p0 hs rf h1 cI g n q pl1 pl2 pl3 pl4 pl5 pl6 cZ L ow cA cU hd fw 0 0 hn32 (by first | assumption | omega | exact ⟨by omega, by omega⟩) hv (by decide) (by decide)) gL_areStickings_X6_stickings 2 kf_X6_stickings ⟨rfl, rfl⟩ ⟨by decide, by decide⟩ dL_areStickings_210 rfl 0 rfl rfl rfl rfl ⟨Nat.zero_le _, Nat.zero_le _⟩ [0, 1, 2, 6, 7, 8, 9, 10, 11, 12] rfl (by decide) [0, 1] rfl (Nat.le_of_ble_eq_true rfl) [(d0, .inr (1, [.ref d1, .int (iJ (np))])), (d1, cJ cI 60 (gp)), (i0, .inr (0, [.ref i1, .int (iJ (m))])), (t0, .inr (2, [.ref t1, .int (iJ (nt)), .int (iJ (qt))])), (t1, cJ cI 32 (gt))] [3, 4, 5, 13, 14] rfl (by decide) (by decide) hA [5, 6, 7, 0, 1, 2, 8, 9, 10, 11, 12, 13, 14, 3, 4] (by decide) (fun u : Int × (Int → Int) × (Int → Int) × (Int → Int) × (Int → Int) × (Int → Int) => [(x0, .inr (5, [.ref h0, .ref t0, .ref n0, .ref i0, .ref d0, .ref r0, .ref p0, .int (iJ (hs)), .int (iJ (rf))])), (h0, .inr (2, [.ref h1, .int (iJ (n)), .int (iJ (q))])), (h1, cJ cI 32 (g)), (d0, .inr (1, [.ref d1, .int (iJ (np))])), (d1, cJ cI 60 (gp)), (i0, .inr (0, [.ref i1, .int (iJ (m))])), (p0, .inr (3, [.ref pl1, .ref pl2, .ref pl3, .ref pl4, .ref pl5, .ref pl6, .int (iJ (u.1))])), (pl1, cJ cI 32 (nrA)), (pl2, cJ cI 32 (u.2.1)), (pl3, cJ cZ 32 (u.2.2.1)), (pl4, cJ cZ 32 (u.2.2.2.1)), (pl5, cJ cI 32 (u.2.2.2.2.1)), (pl6, cJ cI 132 (u.2.2.2.2.2)), (t0, .inr (2, [.ref t1, .int (iJ (nt)), .int (iJ (qt))])), (t1, cJ cI 32 (gt))]) (fun _ => rfl) ?_
        rintro ⟨L2_1, O2_2, A2_3, U2_4, H2_5, F2_6⟩ hp_7
        refine r_cv (ws2 := [(x0, .inr (5, [.ref h0, .ref t0, .ref n0, .ref i0, .ref d0, .ref r0, .ref p0, .int (iJ (hs)), .int (iJ (rf))])), (h0, .inr (2, [.ref h1, .int (iJ (n)), .int (iJ (q))])), (h1, cJ cI 32 (g)), (d0, .inr (1, [.ref d1, .int (iJ (np))])), (d1, cJ cI 60 (gp)), (i0, .inr (0, [.ref i1, .int (iJ (m))])), (p0, .inr (3, [.ref pl1, .ref pl2, .ref pl3, .ref pl4, .ref pl5, .ref pl6, .int (iJ (L2_1))])), (pl1, cJ cI 32 (nrA)), (pl2, cJ cI 32 (O2_2)), (pl3, cJ cZ 32 (A2_3)), (pl4, cJ cZ 32 (U2_4)), (pl5, cJ cI 32 (H2_5)), (pl6, cJ cI 132 (F2_6)), (t0, .inr (2, [.ref t1, .int (iJ (nt)), .int (iJ (qt))])), (t1, cJ cI 32 (gt))]) (st2 := [.int (iJ (SV g n q 0))]) rfl rfl rfl ?_
        refine r_top (b := SV g n q 0) rfl ?_
        refine r_iload_n E 2 dL_areStickings_213 rfl rfl ?_
        refine r_icmp_ne E 251 dL_areStickings_214 (by decide) ⟨by omega, by omega⟩ ⟨by omega, by omega⟩ (fun c_214 => absurd c_214 (by omega)) (fun c_214 => ?_)
        refine r_aload_n E 0 dL_areStickings_217 rfl rfl ?_
        refine r_iconst E 0 rfl dL_areStickings_218 ?_
        refine r_iconst E 1 rfl dL_areStickings_219 ?_
        refine r_vM E (st := []) (c_L6_stick l D x0 h0 t0 n0 i0 d0 r0 p0 hs rf h1 cI g n q pl1 pl2 pl3 pl4 pl5 pl6 cZ L2_1 O2_2 A2_3 U2_4 H2_5 F2_6 0 1 hn32 (by first | assumption | omega | exact ⟨by omega, by omega⟩) hv (by decide) (by decide)) gL_areStickings_X6_stickings 2 kf_X6_stickings ⟨rfl, rfl⟩ ⟨by decide, by decide⟩ dL_areStickings_220 rfl 0 rfl rfl rfl rfl ⟨Nat.zero_le _, Nat.zero_le _⟩ [0, 1, 2, 6, 7, 8, 9, 10, 11, 12] rfl (by decide) [0, 1] rfl (Nat.le_of_ble_eq_true rfl) [(d0, .inr (1, [.ref d1, .int (iJ (np))])), (d1, cJ cI 60 (gp)), (i0, .inr (0, [.ref i1, .int (iJ (m))])), (t0, .inr (2, [.ref t1, .int (iJ (nt)), .int (iJ (qt))])), (t1, cJ cI 32 (gt))] [3, 4, 5, 13, 14] rfl (by decide) (by decide) hA [5, 6, 7, 0, 1, 2, 8, 9, 10, 11, 12, 13, 14, 3, 4] (by decide) (fun u : Int × (Int → Int) × (Int → Int) × (Int → Int) × (Int → Int) × (Int → Int) => [(x0, .inr (5, [.ref h0, .ref t0, .ref n0, .ref i0, .ref d0, .ref r0, .ref p0, .int (iJ (hs)), .int (iJ (rf))])), (h0, .inr (2, [.ref h1, .int (iJ (n)), .int (iJ (q))])), (h1, cJ cI 32 (g)), (d0, .inr (1, [.ref d1, .int (iJ (np))])), (d1, cJ cI 60 (gp)), (i0, .inr (0, [.ref i1, .int (iJ (m))])), (p0, .inr (3, [.ref pl1, .ref pl2, .ref pl3, .ref pl4, .ref pl5, .ref pl6, .int (iJ (u.1))])), (pl1, cJ cI 32 (nrA)), (pl2, cJ cI 32 (u.2.1)), (pl3, cJ cZ 32 (u.2.2.1)), (pl4, cJ cZ 32 (u.2.2.2.1)), (pl5, cJ cI 32 (u.2.2.2.2.1)), (pl6, cJ cI 132 (u.2.2.2.2.2)), (t0, .inr (2, [.ref t1, .int (iJ (nt)), .int (iJ (qt))])), (t1, cJ cI 32 (gt))]) (fun _ => rfl) ?_
        rintro ⟨L2_8, O2_9, A2_10, U2_11, H2_12, F2_13⟩ hp_14
        refine r_cv (ws2 := [(x0, .inr (5, [.ref h0, .ref t0, .ref n0, .ref i0, .ref d0, .ref r0, .ref p0, .int (iJ (hs)), .int (iJ (rf))])), (h0, .inr (2, [.ref h1, .int (iJ (n)), .int (iJ (q))])), (h1, cJ cI 32 (g)), (d0, .inr (1, [.ref d1, .int (iJ (np))])), (d1, cJ cI 60 (gp)), (i0, .inr (0, [.ref i1, .int (iJ (m))])), (p0, .inr (3, [.ref pl1, .ref pl2, .ref pl3, .ref pl4, .ref pl5, .ref pl6, .int (iJ (L2_8))])), (pl1, cJ cI 32 (nrA)), (pl2, cJ cI 32 (O2_9)), (pl3, cJ cZ 32 (A2_10)), (pl4, cJ cZ 32 (U2_11)), (pl5, cJ cI 32 (H2_12)), (pl6, cJ cI 132 (F2_13)), (t0, .inr (2, [.ref t1, .int (iJ (nt)), .int (iJ (qt))])), (t1, cJ cI 32 (gt))]) (st2 := [.int (iJ (SV g n q 0))]) rfl rfl rfl ?_
        refine r_top (b := SV g n q 0) rfl ?_
        refine r_iload_n E 2 dL_areStickings_223 rfl rfl ?_
        refine r_icmp_ne E 251 dL_areStickings_224 (by decide) ⟨by omega, by omega⟩ ⟨by omega, by omega⟩ (fun c_224 => absurd c_224 (by omega)) (fun c_224 => ?_)
        refine r_aload_n E 0 dL_areStickings_227 rfl rfl ?_
        refine r_iconst E 1 rfl dL_areStickings_228 ?_
        refine r_iconst E 0 rfl dL_areStickings_229 ?_
        refine r_vM E (st := []) (c_L6_stick l D x0 h0 t0 n0 i0 d0 r0 p0 hs rf h1 cI g n q pl1 pl2 pl3 pl4 pl5 pl6 cZ L2_8 O2_9 A2_10 U2_11 H2_12 F2_13 1 0 hn32 (by first | assumption | omega | exact ⟨by omega, by omega⟩) hv (by decide) (by decide)) gL_areStickings_X6_stickings 2 kf_X6_stickings ⟨rfl, rfl⟩ ⟨by decide, by decide⟩ dL_areStickings_230 rfl 0 rfl rfl rfl rfl ⟨Nat.zero_le _, Nat.zero_le _⟩ [0, 1, 2, 6, 7, 8, 9, 10, 11, 12] rfl (by decide) [0, 1] rfl (Nat.le_of_ble_eq_true rfl) [(d0, .inr (1, [.ref d1, .int (iJ (np))])), (d1, cJ cI 60 (gp)), (i0, .inr (0, [.ref i1, .int (iJ (m))])), (t0, .inr (2, [.ref t1, .int (iJ (nt)), .int (iJ (qt))])), (t1, cJ cI 32 (gt))] [3, 4, 5, 13, 14] rfl (by decide) (by decide) hA [5, 6, 7, 0, 1, 2, 8, 9, 10, 11, 12, 13, 14, 3, 4] (by decide) (fun u : Int × (Int → Int) × (Int → Int) × (Int → Int) × (Int → Int) × (Int → Int) => [(x0, .inr (5, [.ref h0, .ref t0, .ref n0, .ref i0, .ref d0, .ref r0, .ref p0, .int (iJ (hs)), .int (iJ (rf))])), (h0, .inr (2, [.ref h1, .int (iJ (n)), .int (iJ (q))])), (h1, cJ cI 32 (g)), (d0, .inr (1, [.ref d1, .int (iJ (np))])), (d1, cJ cI 60 (gp)), (i0, .inr (0, [.ref i1, .int (iJ (m))])), (p0, .inr (3, [.ref pl1, .ref pl2, .ref pl3, .ref pl4, .ref pl5, .ref pl6, .int (iJ (u.1))])), (pl1, cJ cI 32 (nrA)), (pl2, cJ cI 32 (u.2.1)), (pl3, cJ cZ 32 (u.2.2.1)), (pl4, cJ cZ 32 (u.2.2.2.1)), (pl5, cJ cI 32 (u.2.2.2.2.1)), (pl6, cJ cI 132 (u.2.2.2.2.2)), (t0, .inr (2, [.ref t1, .int (iJ (nt)), .int (iJ (qt))])), (t1, cJ cI 32 (gt))]) (fun _ => rfl) ?_
        rintro ⟨L2_15, O2_16, A2_17, U2_18, H2_19, F2_20⟩ hp_21
        refine r_cv (ws2 := [(x0, .inr (5, [.ref h0, .ref t0, .ref n0, .ref i0, .ref d0, .ref r0, .ref p0, .int (iJ (hs)), .int (iJ (rf))])), (h0, .inr (2, [.ref h1, .int (iJ (n)), .int (iJ (q))])), (h1, cJ cI 32 (g)), (d0, .inr (1, [.ref d1, .int (iJ (np))])), (d1, cJ cI 60 (gp)), (i0, .inr (0, [.ref i1, .int (iJ (m))])), (p0, .inr (3, [.ref pl1, .ref pl2, .ref pl3, .ref pl4, .ref pl5, .ref pl6, .int (iJ (L2_15))])), (pl1, cJ cI 32 (nrA)), (pl2, cJ cI 32 (O2_16)), (pl3, cJ cZ 32 (A2_17)), (pl4, cJ cZ 32 (U2_18)), (pl5, cJ cI 32 (H2_19)), (pl6, cJ cI 132 (F2_20)), (t0, .inr (2, [.ref t1, .int (iJ (nt)), .int (iJ (qt))])), (t1, cJ cI 32 (gt))]) (st2 := [.int (iJ (SV g n q 1))]) rfl rfl rfl ?_
        refine r_top (b := SV g n q 1) rfl ?_
        refine r_iload_n E 3 dL_areStickings_233 rfl rfl ?_
        refine r_icmp_ne E 251 dL_areStickings_234 (by decide) ⟨by omega, by omega⟩ ⟨by omega, by omega⟩ (fun c_234 => absurd c_234 (by omega)) (fun c_234 => ?_)
        refine r_aload_n E 0 dL_areStickings_237 rfl rfl ?_
        refine r_iconst E 1 rfl dL_areStickings_238 ?_
        refine r_iconst E 1 rfl dL_areStickings_239 ?_
        refine r_vM E (st := []) (c_L6_stick l D x0 h0 t0 n0 i0 d0 r0 p0 hs rf h1 cI g n q pl1 pl2 pl3 pl4 pl5 pl6 cZ L2_15 O2_16 A2_17 U2_18 H2_19 F2_20 1 1 hn32 (by first | assumption | omega | exact ⟨by omega, by omega⟩) hv (by decide) (by decide)) gL_areStickings_X6_stickings 2 kf_X6_stickings ⟨rfl, rfl⟩ ⟨by decide, by decide⟩ dL_areStickings_240 rfl 0 rfl rfl rfl rfl ⟨Nat.zero_le _, Nat.zero_le _⟩ [0, 1, 2, 6, 7, 8, 9, 10, 11, 12] rfl (by decide) [0, 1] rfl (Nat.le_of_ble_eq_true rfl) [(d0, .inr (1, [.ref d1, .int (iJ (np))])), (d1, cJ cI 60 (gp)), (i0, .inr (0, [.ref i1, .int (iJ (m))])), (t0, .inr (2, [.ref t1, .int (iJ (nt)), .int (iJ (qt))])), (t1, cJ cI 32 (gt))] [3, 4, 5, 13, 14] rfl (by decide) (by decide) hA [5, 6, 7, 0, 1, 2, 8, 9, 10, 11, 12, 13, 14, 3, 4] (by decide) (fun u : Int × (Int → Int) × (Int → Int) × (Int → Int) × (Int → Int) × (Int → Int) => [(x0, .inr (5, [.ref h0, .ref t0, .ref n0, .ref i0, .ref d0, .ref r0, .ref p0, .int (iJ (hs)), .int (iJ (rf))])), (h0, .inr (2, [.ref h1, .int (iJ (n)), .int (iJ (q))])), (h1, cJ cI 32 (g)), (d0, .inr (1, [.ref d1, .int (iJ (np))])), (d1, cJ cI 60 (gp)), (i0, .inr (0, [.ref i1, .int (iJ (m))])), (p0, .inr (3, [.ref pl1, .ref pl2, .ref pl3, .ref pl4, .ref pl5, .ref pl6, .int (iJ (u.1))])), (pl1, cJ cI 32 (nrA)), (pl2, cJ cI 32 (u.2.1)), (pl3, cJ cZ 32 (u.2.2.1)), (pl4, cJ cZ 32 (u.2.2.2.1)), (pl5, cJ cI 32 (u.2.2.2.2.1)), (pl6, cJ cI 132 (u.2.2.2.2.2)), (t0, .inr (2, [.ref t1, .int (iJ (nt)), .int (iJ (qt))])), (t1, cJ cI 32 (gt))]) (fun _ => rfl) ?_
        rintro ⟨L2_22, O2_23, A2_24, U2_25, H2_26, F2_27⟩ hp_28
        refine r_cv (ws2 := [(x0, .inr (5, [.ref h0, .ref t0, .ref n0, .ref i0, .ref d0, .ref r0, .ref p0, .int (iJ (hs)), .int (iJ (rf))])), (h0, .inr (2, [.ref h1, .int (iJ (n)), .int (iJ (q))])), (h1, cJ cI 32 (g)), (d0, .inr (1, [.ref d1, .int (iJ (np))])), (d1, cJ cI 60 (gp)), (i0, .inr (0, [.ref i1, .int (iJ (m))])), (p0, .inr (3, [.ref pl1, .ref pl2, .ref pl3, .ref pl4, .ref pl5, .ref pl6, .int (iJ (L2_22))])), (pl1, cJ cI 32 (nrA)), (pl2, cJ cI 32 (O2_23)), (pl3, cJ cZ 32 (A2_24)), (pl4, cJ cZ 32 (U2_25)), (pl5, cJ cI 32 (H2_26)), (pl6, cJ cI 132 (F2_27)), (t0, .inr (2, [.ref t1, .int (iJ (nt)), .int (iJ (qt))])), (t1, cJ cI 32 (gt))]) (st2 := [.int (iJ (SV g n q 1))]) rfl rfl rfl ?_
        refine r_top (b := SV g n q 1) rfl ?_
        refine r_iload_n E 3 dL_areStickings_243 rfl rfl ?_
        refine r_icmp_ne E 251 dL_areStickings_244 (by decide) ⟨by omega, by omega⟩ ⟨by omega, by omega⟩ (fun c_244 => absurd c_244 (by omega)) (fun c_244 => ?_)
        refine r_iconst E 1 rfl dL_areStickings_247 ?_
        refine r_goto E 252 dL_areStickings_248 (by decide) ?_
        refine r_istore E [(7, .int (iJ (1))), (0, .ref x0), (1, .int (iJ (n))), (2, .int (iJ (m2))), (3, .int (iJ (m3))), (4, .int (iJ (m4))), (5, .int (iJ (m5))), (6, .int (iJ (m6)))] dL_areStickings_252 (by decide) rfl ?_
        refine r_iconst E 0 rfl dL_areStickings_254 ?_
        refine r_istore E [(8, .int (iJ (0))), (7, .int (iJ (1))), (0, .ref x0), (1, .int (iJ (n))), (2, .int (iJ (m2))), (3, .int (iJ (m3))), (4, .int (iJ (m4))), (5, .int (iJ (m5))), (6, .int (iJ (m6)))] dL_areStickings_255 (by decide) rfl ?_
        have loop_257 : ∀ (N : Nat) (k : Int) (L3 : Int) (O3 : Int → Int) (A3 : Int → Int) (U3 : Int → Int) (D3 : Int → Int) (F3 : Int → Int), (0 ≤ k ∧ k ≤ n) → (n - k).toNat < N → GG p_ l e_ rm_L_areStickings s_ m_ ar_ bw_ mt_ cd_ D vwCl B_ B_ s_.heap 13 0 0 Q_ [(x0, .inr (5, [.ref h0, .ref t0, .ref n0, .ref i0, .ref d0, .ref r0, .ref p0, .int (iJ (hs)), .int (iJ (rf))])), (h0, .inr (2, [.ref h1, .int (iJ (n)), .int (iJ (q))])), (h1, cJ cI 32 (g)), (d0, .inr (1, [.ref d1, .int (iJ (np))])), (d1, cJ cI 60 (gp)), (i0, .inr (0, [.ref i1, .int (iJ (m))])), (p0, .inr (3, [.ref pl1, .ref pl2, .ref pl3, .ref pl4, .ref pl5, .ref pl6, .int (iJ (L3))])), (pl1, cJ cI 32 (nrA)), (pl2, cJ cI 32 (O3)), (pl3, cJ cZ 32 (A3)), (pl4, cJ cZ 32 (U3)), (pl5, cJ cI 32 (D3)), (pl6, cJ cI 132 (F3)), (t0, .inr (2, [.ref t1, .int (iJ (nt)), .int (iJ (qt))])), (t1, cJ cI 32 (gt))] [(0, .ref x0), (1, .int (iJ (n))), (2, .int (iJ (m2))), (3, .int (iJ (m3))), (4, .int (iJ (m4))), (5, .int (iJ (m5))), (7, .int (iJ (1))), (8, .int (iJ (k)))] 257 [] := by
          intro N; induction N with
          | zero => intro k L3 O3 A3 U3 D3 F3 hk hN; exact absurd hN (Nat.not_lt_zero _)
          | succ N ih257 =>
            intro k L3 O3 A3 U3 D3 F3 hk hN
            refine r_iload E 7 dL_areStickings_257 rfl ?_
            refine r_iload_n E 1 dL_areStickings_259 rfl rfl ?_
            refine r_icmp_ge E 365 dL_areStickings_260 (by decide) ⟨by omega, by omega⟩ ⟨by omega, by omega⟩ (fun c_260 => ?_) (fun c_260 => ?_)
            · refine r_iconst E 0 rfl dL_areStickings_365 ?_
              refine r_istore E [(8, .int (iJ (0))), (0, .ref x0), (1, .int (iJ (n))), (2, .int (iJ (m2))), (3, .int (iJ (m3))), (4, .int (iJ (m4))), (5, .int (iJ (m5))), (7, .int (iJ (1)))] dL_areStickings_366 (by decide) rfl ?_
              refine r_iconst E 0 rfl dL_areStickings_368 ?_
              refine r_istore E [(9, .int (iJ (0))), (8, .int (iJ (0))), (0, .ref x0), (1, .int (iJ (n))), (2, .int (iJ (m2))), (3, .int (iJ (m3))), (4, .int (iJ (m4))), (5, .int (iJ (m5))), (7, .int (iJ (1)))] dL_areStickings_369 (by decide) rfl ?_
              have loop_371 : ∀ (N : Nat) (k : Int) (x : Int), (0 ≤ k ∧ k ≤ n) → (x = sm (fun j => rtV (g j) (btV m5 j)) k) → (n - k).toNat < N → GG p_ l e_ rm_L_areStickings s_ m_ ar_ bw_ mt_ cd_ D vwCl B_ B_ s_.heap 13 0 0 Q_ [(x0, .inr (5, [.ref h0, .ref t0, .ref n0, .ref i0, .ref d0, .ref r0, .ref p0, .int (iJ (hs)), .int (iJ (rf))])), (h0, .inr (2, [.ref h1, .int (iJ (n)), .int (iJ (q))])), (h1, cJ cI 32 (g)), (d0, .inr (1, [.ref d1, .int (iJ (np))])), (d1, cJ cI 60 (gp)), (i0, .inr (0, [.ref i1, .int (iJ (m))])), (p0, .inr (3, [.ref pl1, .ref pl2, .ref pl3, .ref pl4, .ref pl5, .ref pl6, .int (iJ (L3))])), (pl1, cJ cI 32 (nrA)), (pl2, cJ cI 32 (O3)), (pl3, cJ cZ 32 (A3)), (pl4, cJ cZ 32 (U3)), (pl5, cJ cI 32 (D3)), (pl6, cJ cI 132 (F3)), (t0, .inr (2, [.ref t1, .int (iJ (nt)), .int (iJ (qt))])), (t1, cJ cI 32 (gt))] [(0, .ref x0), (1, .int (iJ (n))), (2, .int (iJ (m2))), (3, .int (iJ (m3))), (4, .int (iJ (m4))), (5, .int (iJ (m5))), (7, .int (iJ (1))), (8, .int (iJ (x))), (9, .int (iJ (k)))] 371 [] := by
                intro N; induction N with
                | zero => intro k x hk hx hN; exact absurd hN (Nat.not_lt_zero _)
                | succ N ih371 =>
                  intro k x hk hx hN
                  refine r_iload E 8 dL_areStickings_371 rfl ?_
                  refine r_iload_n E 1 dL_areStickings_373 rfl rfl ?_
                  refine r_icmp_ge E 497 dL_areStickings_374 (by decide) ⟨by omega, by omega⟩ ⟨by omega, by omega⟩ (fun c_374 => ?_) (fun c_374 => ?_)
                  · have w_x : 0 ≤ m5 → x = rgR g n q 1 n := fun t => by
                          have e_k : k = n := by omega
                          rw [hx, e_k]; exact rt_sum hv (z9 (z8.mp t))
                    have f_R := rgR_in (g := g) (n := n) (q := q) (pr := 1) (k := n) hn32
                    have f_L := rgR_le (g := g) (n := n) (q := q) (pr := 1)
                    have f_S := smS_160 (g := g) hn32
                    refine r_iload E 6 dL_areStickings_497 rfl ?_
                    refine r_if_eq E 585 dL_areStickings_499 (by decide) ⟨by omega, by omega⟩ (fun c_499 => absurd c_499 (by omega)) (fun c_499 => ?_)
                    refine r_aload_n E 0 dL_areStickings_502 rfl rfl ?_
                    refine r_vM E (st := []) (c_X6_quickest l D x0 h0 t0 n0 i0 d0 r0 p0 hs rf h1 cI g n q pl1 pl2 pl3 pl4 pl5 pl6 cZ L3 O3 A3 U3 D3 F3 t1 gt nt qt (by first | assumption | omega | exact ⟨by omega, by omega⟩) (by first | assumption | omega | exact ⟨by omega, by omega⟩) (by first | assumption | omega | exact ⟨by omega, by omega⟩) (by first | assumption | omega | exact ⟨by omega, by omega⟩) (by first | assumption | omega | exact ⟨by omega, by omega⟩)) gL_areStickings_X6_quickest 0 kf_X6_quickest ⟨rfl, rfl⟩ ⟨by decide, by decide⟩ dL_areStickings_503 rfl 0 rfl rfl rfl rfl ⟨Nat.zero_le _, Nat.zero_le _⟩ [0, 1, 2, 6, 7, 8, 9, 10, 11, 12, 13, 14] rfl (by decide) [0, 1] rfl (Nat.le_of_ble_eq_true rfl) [(d0, .inr (1, [.ref d1, .int (iJ (np))])), (d1, cJ cI 60 (gp)), (i0, .inr (0, [.ref i1, .int (iJ (m))]))] [3, 4, 5] rfl (by decide) (by decide) hA [3, 4, 5, 0, 1, 2, 6, 7, 8, 9, 10, 11, 12, 13, 14] (by decide) (fun u : Int × (Int → Int) × (Int → Int) × (Int → Int) × (Int → Int) × (Int → Int) × (Int → Int) × Int => [(x0, .inr (5, [.ref h0, .ref t0, .ref n0, .ref i0, .ref d0, .ref r0, .ref p0, .int (iJ (hs)), .int (iJ (rf))])), (h0, .inr (2, [.ref h1, .int (iJ (n)), .int (iJ (q))])), (h1, cJ cI 32 (g)), (d0, .inr (1, [.ref d1, .int (iJ (np))])), (d1, cJ cI 60 (gp)), (i0, .inr (0, [.ref i1, .int (iJ (m))])), (p0, .inr (3, [.ref pl1, .ref pl2, .ref pl3, .ref pl4, .ref pl5, .ref pl6, .int (iJ (u.1))])), (pl1, cJ cI 32 (nrA)), (pl2, cJ cI 32 (u.2.1)), (pl3, cJ cZ 32 (u.2.2.1)), (pl4, cJ cZ 32 (u.2.2.2.1)), (pl5, cJ cI 32 (u.2.2.2.2.1)), (pl6, cJ cI 132 (u.2.2.2.2.2.1)), (t0, .inr (2, [.ref t1, .int (iJ (n)), .int (iJ (u.2.2.2.2.2.2.2))])), (t1, cJ cI 32 (u.2.2.2.2.2.2.1))]) (fun _ => rfl) ?_
                    rintro ⟨L2_29, O2_30, A2_31, U2_32, H2_33, F2_34, G2_35, Q2_36⟩ hp_37
                    refine r_cv (ws2 := [(x0, .inr (5, [.ref h0, .ref t0, .ref n0, .ref i0, .ref d0, .ref r0, .ref p0, .int (iJ (hs)), .int (iJ (rf))])), (h0, .inr (2, [.ref h1, .int (iJ (n)), .int (iJ (q))])), (h1, cJ cI 32 (g)), (d0, .inr (1, [.ref d1, .int (iJ (np))])), (d1, cJ cI 60 (gp)), (i0, .inr (0, [.ref i1, .int (iJ (m))])), (p0, .inr (3, [.ref pl1, .ref pl2, .ref pl3, .ref pl4, .ref pl5, .ref pl6, .int (iJ (L2_29))])), (pl1, cJ cI 32 (nrA)), (pl2, cJ cI 32 (O2_30)), (pl3, cJ cZ 32 (A2_31)), (pl4, cJ cZ 32 (U2_32)), (pl5, cJ cI 32 (H2_33)), (pl6, cJ cI 132 (F2_34)), (t0, .inr (2, [.ref t1, .int (iJ (n)), .int (iJ (Q2_36))])), (t1, cJ cI 32 (G2_35))]) (st2 := [.int (iJ ((if fcB g n 4 0 < 1000 then 4 else if fcB g n 3 0 < 1000 then 3 else if fcB g n 2 0 < 1000 then 2 else if fcB g n 1 0 < 1000 then 1 else -4)))]) rfl rfl rfl ?_
                    have hq2_38 := hp_37
                    try dsimp only at hq2_38
                    refine r_top (b := quV g n) rfl ?_
                    refine r_aload_n E 0 dL_areStickings_506 rfl rfl ?_
                    refine r_bipush E 11 rfl dL_areStickings_507 ?_
                    refine r_vP E (st := [.int (iJ (quV g n))]) (c_X6_count l D x0 h0 t0 n0 i0 d0 r0 p0 hs rf h1 cI g n q d1 gp np i1 m 11 (by first | assumption | omega | exact ⟨by omega, by omega⟩) (by first | assumption | omega | exact ⟨by omega, by omega⟩) (by first | assumption | omega | exact ⟨by omega, by omega⟩)) gL_areStickings_X6_count 1 kf_X6_count ⟨rfl, rfl⟩ ⟨by decide, by decide⟩ dL_areStickings_509 rfl 0 rfl rfl rfl rfl ⟨Nat.zero_le _, Nat.zero_le _⟩ [0, 1, 2, 3, 4, 5] rfl (by decide) [0] rfl (Nat.le_of_ble_eq_true rfl) ?_
                    refine r_top (b := q) rfl ?_
                    have f_q : -4 ≤ quV g n ∧ quV g n ≤ 4 := by unfold quV; (repeat' split) <;> omega
                    refine r_dm_ilt E dL_areStickings_512 dL_areStickings_515 dL_areStickings_516 dL_areStickings_519 ⟨by omega, by omega⟩ ⟨by omega, by omega⟩ ?_
                    refine r_iload_n E 2 dL_areStickings_520 rfl rfl ?_
                    refine r_dm_le E dL_areStickings_521 dL_areStickings_524 dL_areStickings_525 dL_areStickings_528 ⟨by omega, by omega⟩ ?_
                    refine r_icmp_ne E 585 dL_areStickings_529 (by decide) (jb_b2 _) (jb_b2 _) (fun c_529 => absurd c_529 (by exact (fun t => t (b2_c ((qu_i hn32 hq hv).trans z3.symm))))) (fun c_529 => ?_)
                    refine r_iload E 5 dL_areStickings_532 rfl ?_
                    refine r_if_lt E 546 dL_areStickings_534 (by decide) ⟨by omega, by omega⟩ (fun c_534 => ?_) (fun c_534 => ?_)
                    · refine r_aload_n E 0 dL_areStickings_546 rfl rfl ?_
                      refine r_iconst E 1 rfl dL_areStickings_547 ?_
                      refine r_vD E (st := []) (c_X6_right l D x0 h0 t0 n0 i0 d0 r0 p0 hs rf h1 cI g n q pl1 pl2 pl3 pl4 pl5 pl6 cZ L2_29 O2_30 A2_31 U2_32 H2_33 F2_34 1 (by first | assumption | omega | exact ⟨by omega, by omega⟩) (by first | assumption | omega | exact ⟨by omega, by omega⟩) (by first | assumption | omega | exact ⟨by omega, by omega⟩) (by first | assumption | omega | exact ⟨by omega, by omega⟩) (Or.inr rfl)) gL_areStickings_X6_right 1 kf_X6_right ⟨rfl, rfl⟩ ⟨by decide, by decide⟩ dL_areStickings_548 rfl 0 rfl rfl rfl rfl ⟨Nat.zero_le _, Nat.zero_le _⟩ [0, 1, 2, 6, 7, 8, 9, 10, 11, 12] rfl (by decide) [0, 1] rfl (Nat.le_of_ble_eq_true rfl) [(d0, .inr (1, [.ref d1, .int (iJ (np))])), (d1, cJ cI 60 (gp)), (i0, .inr (0, [.ref i1, .int (iJ (m))])), (t0, .inr (2, [.ref t1, .int (iJ (n)), .int (iJ (Q2_36))])), (t1, cJ cI 32 (G2_35))] [3, 4, 5, 13, 14] rfl (by decide) (by decide) hA [5, 6, 7, 0, 1, 2, 8, 9, 10, 11, 12, 13, 14, 3, 4] (by decide) (fun u : Int × (Int → Int) × (Int → Int) × (Int → Int) × (Int → Int) × (Int → Int) => [(x0, .inr (5, [.ref h0, .ref t0, .ref n0, .ref i0, .ref d0, .ref r0, .ref p0, .int (iJ (hs)), .int (iJ (rf))])), (h0, .inr (2, [.ref h1, .int (iJ (n)), .int (iJ (q))])), (h1, cJ cI 32 (g)), (d0, .inr (1, [.ref d1, .int (iJ (np))])), (d1, cJ cI 60 (gp)), (i0, .inr (0, [.ref i1, .int (iJ (m))])), (p0, .inr (3, [.ref pl1, .ref pl2, .ref pl3, .ref pl4, .ref pl5, .ref pl6, .int (iJ (u.1))])), (pl1, cJ cI 32 (nrA)), (pl2, cJ cI 32 (u.2.1)), (pl3, cJ cZ 32 (u.2.2.1)), (pl4, cJ cZ 32 (u.2.2.2.1)), (pl5, cJ cI 32 (u.2.2.2.2.1)), (pl6, cJ cI 132 (u.2.2.2.2.2)), (t0, .inr (2, [.ref t1, .int (iJ (n)), .int (iJ (Q2_36))])), (t1, cJ cI 32 (G2_35))]) (fun _ => rfl) ?_
                      rintro ⟨L2_39, O2_40, A2_41, U2_42, H2_43, F2_44⟩ hp_45
                      refine r_cv (ws2 := [(x0, .inr (5, [.ref h0, .ref t0, .ref n0, .ref i0, .ref d0, .ref r0, .ref p0, .int (iJ (hs)), .int (iJ (rf))])), (h0, .inr (2, [.ref h1, .int (iJ (n)), .int (iJ (q))])), (h1, cJ cI 32 (g)), (d0, .inr (1, [.ref d1, .int (iJ (np))])), (d1, cJ cI 60 (gp)), (i0, .inr (0, [.ref i1, .int (iJ (m))])), (p0, .inr (3, [.ref pl1, .ref pl2, .ref pl3, .ref pl4, .ref pl5, .ref pl6, .int (iJ (L2_39))])), (pl1, cJ cI 32 (nrA)), (pl2, cJ cI 32 (O2_40)), (pl3, cJ cZ 32 (A2_41)), (pl4, cJ cZ 32 (U2_42)), (pl5, cJ cI 32 (H2_43)), (pl6, cJ cI 132 (F2_44)), (t0, .inr (2, [.ref t1, .int (iJ (n)), .int (iJ (Q2_36))])), (t1, cJ cI 32 (G2_35))]) (st2 := [.double (rgC g n q 1)]) rfl rfl rfl ?_
                      refine r_topD (b := 13830554455654793216) (by unfold rgC; exact if_pos (by first | exact Or.inl (by omega) | exact Or.inr (fun t => absurd (z8.mpr t) (by omega)))) ?_
                      refine r_ldc2d E 13830554455654793216 dL_areStickings_551 ck_L_areStickings_81 ?_
                      refine r_deq E (by decide +kernel) dL_areStickings_554 ?_
                      refine r_if_ne E 585 dL_areStickings_555 (by decide) ⟨by omega, by omega⟩ (fun c_555 => absurd c_555 (by omega)) (fun c_555 => ?_)
                      refine r_goto E 581 dL_areStickings_558 (by decide) ?_
                      refine r_iconst E 1 rfl dL_areStickings_581 ?_
                      refine r_goto E 586 dL_areStickings_582 (by decide) ?_
                      exact r_retMZ E (L2_39, O2_40, A2_41, U2_42, H2_43, F2_44, G2_35, Q2_36) hr dL_areStickings_586 (by omega) rfl trivial rfl hQ
                    · refine r_aload_n E 0 dL_areStickings_537 rfl rfl ?_
                      refine r_bipush E 10 rfl dL_areStickings_538 ?_
                      refine r_vP E (st := []) (c_X6_count l D x0 h0 t0 n0 i0 d0 r0 p0 hs rf h1 cI g n q d1 gp np i1 m 10 (by first | assumption | omega | exact ⟨by omega, by omega⟩) (by first | assumption | omega | exact ⟨by omega, by omega⟩) (by first | assumption | omega | exact ⟨by omega, by omega⟩)) gL_areStickings_X6_count 1 kf_X6_count ⟨rfl, rfl⟩ ⟨by decide, by decide⟩ dL_areStickings_540 rfl 0 rfl rfl rfl rfl ⟨Nat.zero_le _, Nat.zero_le _⟩ [0, 1, 2, 3, 4, 5] rfl (by decide) [0] rfl (Nat.le_of_ble_eq_true rfl) ?_
                      refine r_top (b := sm (fun j => sFs (g j)) n) rfl ?_
                      refine r_if_ne E 561 dL_areStickings_543 (by decide) ⟨by omega, by omega⟩ (fun c_543 => ?_) (fun c_543 => ?_)
                      · refine r_aload_n E 0 dL_areStickings_561 rfl rfl ?_
                        refine r_iconst E 1 rfl dL_areStickings_562 ?_
                        refine r_vD E (st := []) (c_X6_right l D x0 h0 t0 n0 i0 d0 r0 p0 hs rf h1 cI g n q pl1 pl2 pl3 pl4 pl5 pl6 cZ L2_29 O2_30 A2_31 U2_32 H2_33 F2_34 1 (by first | assumption | omega | exact ⟨by omega, by omega⟩) (by first | assumption | omega | exact ⟨by omega, by omega⟩) (by first | assumption | omega | exact ⟨by omega, by omega⟩) (by first | assumption | omega | exact ⟨by omega, by omega⟩) (Or.inr rfl)) gL_areStickings_X6_right 1 kf_X6_right ⟨rfl, rfl⟩ ⟨by decide, by decide⟩ dL_areStickings_563 rfl 0 rfl rfl rfl rfl ⟨Nat.zero_le _, Nat.zero_le _⟩ [0, 1, 2, 6, 7, 8, 9, 10, 11, 12] rfl (by decide) [0, 1] rfl (Nat.le_of_ble_eq_true rfl) [(d0, .inr (1, [.ref d1, .int (iJ (np))])), (d1, cJ cI 60 (gp)), (i0, .inr (0, [.ref i1, .int (iJ (m))])), (t0, .inr (2, [.ref t1, .int (iJ (n)), .int (iJ (Q2_36))])), (t1, cJ cI 32 (G2_35))] [3, 4, 5, 13, 14] rfl (by decide) (by decide) hA [5, 6, 7, 0, 1, 2, 8, 9, 10, 11, 12, 13, 14, 3, 4] (by decide) (fun u : Int × (Int → Int) × (Int → Int) × (Int → Int) × (Int → Int) × (Int → Int) => [(x0, .inr (5, [.ref h0, .ref t0, .ref n0, .ref i0, .ref d0, .ref r0, .ref p0, .int (iJ (hs)), .int (iJ (rf))])), (h0, .inr (2, [.ref h1, .int (iJ (n)), .int (iJ (q))])), (h1, cJ cI 32 (g)), (d0, .inr (1, [.ref d1, .int (iJ (np))])), (d1, cJ cI 60 (gp)), (i0, .inr (0, [.ref i1, .int (iJ (m))])), (p0, .inr (3, [.ref pl1, .ref pl2, .ref pl3, .ref pl4, .ref pl5, .ref pl6, .int (iJ (u.1))])), (pl1, cJ cI 32 (nrA)), (pl2, cJ cI 32 (u.2.1)), (pl3, cJ cZ 32 (u.2.2.1)), (pl4, cJ cZ 32 (u.2.2.2.1)), (pl5, cJ cI 32 (u.2.2.2.2.1)), (pl6, cJ cI 132 (u.2.2.2.2.2)), (t0, .inr (2, [.ref t1, .int (iJ (n)), .int (iJ (Q2_36))])), (t1, cJ cI 32 (G2_35))]) (fun _ => rfl) ?_
                        rintro ⟨L2_46, O2_47, A2_48, U2_49, H2_50, F2_51⟩ hp_52
                        refine r_cv (ws2 := [(x0, .inr (5, [.ref h0, .ref t0, .ref n0, .ref i0, .ref d0, .ref r0, .ref p0, .int (iJ (hs)), .int (iJ (rf))])), (h0, .inr (2, [.ref h1, .int (iJ (n)), .int (iJ (q))])), (h1, cJ cI 32 (g)), (d0, .inr (1, [.ref d1, .int (iJ (np))])), (d1, cJ cI 60 (gp)), (i0, .inr (0, [.ref i1, .int (iJ (m))])), (p0, .inr (3, [.ref pl1, .ref pl2, .ref pl3, .ref pl4, .ref pl5, .ref pl6, .int (iJ (L2_46))])), (pl1, cJ cI 32 (nrA)), (pl2, cJ cI 32 (O2_47)), (pl3, cJ cZ 32 (A2_48)), (pl4, cJ cZ 32 (U2_49)), (pl5, cJ cI 32 (H2_50)), (pl6, cJ cI 132 (F2_51)), (t0, .inr (2, [.ref t1, .int (iJ (n)), .int (iJ (Q2_36))])), (t1, cJ cI 32 (G2_35))]) (st2 := [.double (rgC g n q 1)]) rfl rfl rfl ?_
                        refine r_topD (b := FP.ddiv (FP.i2d (iJ x)) (FP.i2d (iJ (sm (fun j => sFs (g j)) n)))) (by rw [w_x (by omega)]; unfold rgC; exact if_neg (fun t => t.elim c_543 (fun y => y (z8.mp (by omega))))) ?_
                        refine r_iload E 7 dL_areStickings_566 rfl ?_
                        refine r_i2d E dL_areStickings_568 ?_
                        refine r_aload_n E 0 dL_areStickings_569 rfl rfl ?_
                        refine r_bipush E 10 rfl dL_areStickings_570 ?_
                        refine r_vP E (st := [.double (FP.i2d (iJ x)), .double (FP.ddiv (FP.i2d (iJ x)) (FP.i2d (iJ (sm (fun j => sFs (g j)) n))))]) (c_X6_count l D x0 h0 t0 n0 i0 d0 r0 p0 hs rf h1 cI g n q d1 gp np i1 m 10 (by first | assumption | omega | exact ⟨by omega, by omega⟩) (by first | assumption | omega | exact ⟨by omega, by omega⟩) (by first | assumption | omega | exact ⟨by omega, by omega⟩)) gL_areStickings_X6_count 1 kf_X6_count ⟨rfl, rfl⟩ ⟨by decide, by decide⟩ dL_areStickings_572 rfl 0 rfl rfl rfl rfl ⟨Nat.zero_le _, Nat.zero_le _⟩ [0, 1, 2, 3, 4, 5] rfl (by decide) [0] rfl (Nat.le_of_ble_eq_true rfl) ?_
                        refine r_top (b := sm (fun j => sFs (g j)) n) rfl ?_
                        refine r_i2d E dL_areStickings_575 ?_
                        refine r_ddiv E (ddv_n ⟨by rw [w_x (by omega)]; exact f_R.1, by rw [w_x (by omega)]; exact f_L⟩ ⟨by omega, f_S.2⟩) dL_areStickings_576 ?_
                        refine r_deq E (ddv_e ⟨by rw [w_x (by omega)]; exact f_R.1, by rw [w_x (by omega)]; exact f_L⟩ ⟨by omega, f_S.2⟩) dL_areStickings_577 ?_
                        refine r_if_ne E 585 dL_areStickings_578 (by decide) ⟨by omega, by omega⟩ (fun c_578 => absurd c_578 (by omega)) (fun c_578 => ?_)
                        refine r_iconst E 1 rfl dL_areStickings_581 ?_
                        refine r_goto E 586 dL_areStickings_582 (by decide) ?_
                        exact r_retMZ E (L2_46, O2_47, A2_48, U2_49, H2_50, F2_51, G2_35, Q2_36) hr dL_areStickings_586 (by omega) rfl trivial rfl hQ
                      · refine r_aload_n E 0 dL_areStickings_546 rfl rfl ?_
                        refine r_iconst E 1 rfl dL_areStickings_547 ?_
                        refine r_vD E (st := []) (c_X6_right l D x0 h0 t0 n0 i0 d0 r0 p0 hs rf h1 cI g n q pl1 pl2 pl3 pl4 pl5 pl6 cZ L2_29 O2_30 A2_31 U2_32 H2_33 F2_34 1 (by first | assumption | omega | exact ⟨by omega, by omega⟩) (by first | assumption | omega | exact ⟨by omega, by omega⟩) (by first | assumption | omega | exact ⟨by omega, by omega⟩) (by first | assumption | omega | exact ⟨by omega, by omega⟩) (Or.inr rfl)) gL_areStickings_X6_right 1 kf_X6_right ⟨rfl, rfl⟩ ⟨by decide, by decide⟩ dL_areStickings_548 rfl 0 rfl rfl rfl rfl ⟨Nat.zero_le _, Nat.zero_le _⟩ [0, 1, 2, 6, 7, 8, 9, 10, 11, 12] rfl (by decide) [0, 1] rfl (Nat.le_of_ble_eq_true rfl) [(d0, .inr (1, [.ref d1, .int (iJ (np))])), (d1, cJ cI 60 (gp)), (i0, .inr (0, [.ref i1, .int (iJ (m))])), (t0, .inr (2, [.ref t1, .int (iJ (n)), .int (iJ (Q2_36))])), (t1, cJ cI 32 (G2_35))] [3, 4, 5, 13, 14] rfl (by decide) (by decide) hA [5, 6, 7, 0, 1, 2, 8, 9, 10, 11, 12, 13, 14, 3, 4] (by decide) (fun u : Int × (Int → Int) × (Int → Int) × (Int → Int) × (Int → Int) × (Int → Int) => [(x0, .inr (5, [.ref h0, .ref t0, .ref n0, .ref i0, .ref d0, .ref r0, .ref p0, .int (iJ (hs)), .int (iJ (rf))])), (h0, .inr (2, [.ref h1, .int (iJ (n)), .int (iJ (q))])), (h1, cJ cI 32 (g)), (d0, .inr (1, [.ref d1, .int (iJ (np))])), (d1, cJ cI 60 (gp)), (i0, .inr (0, [.ref i1, .int (iJ (m))])), (p0, .inr (3, [.ref pl1, .ref pl2, .ref pl3, .ref pl4, .ref pl5, .ref pl6, .int (iJ (u.1))])), (pl1, cJ cI 32 (nrA)), (pl2, cJ cI 32 (u.2.1)), (pl3, cJ cZ 32 (u.2.2.1)), (pl4, cJ cZ 32 (u.2.2.2.1)), (pl5, cJ cI 32 (u.2.2.2.2.1)), (pl6, cJ cI 132 (u.2.2.2.2.2)), (t0, .inr (2, [.ref t1, .int (iJ (n)), .int (iJ (Q2_36))])), (t1, cJ cI 32 (G2_35))]) (fun _ => rfl) ?_
                        rintro ⟨L2_53, O2_54, A2_55, U2_56, H2_57, F2_58⟩ hp_59
                        refine r_cv (ws2 := [(x0, .inr (5, [.ref h0, .ref t0, .ref n0, .ref i0, .ref d0, .ref r0, .ref p0, .int (iJ (hs)), .int (iJ (rf))])), (h0, .inr (2, [.ref h1, .int (iJ (n)), .int (iJ (q))])), (h1, cJ cI 32 (g)), (d0, .inr (1, [.ref d1, .int (iJ (np))])), (d1, cJ cI 60 (gp)), (i0, .inr (0, [.ref i1, .int (iJ (m))])), (p0, .inr (3, [.ref pl1, .ref pl2, .ref pl3, .ref pl4, .ref pl5, .ref pl6, .int (iJ (L2_53))])), (pl1, cJ cI 32 (nrA)), (pl2, cJ cI 32 (O2_54)), (pl3, cJ cZ 32 (A2_55)), (pl4, cJ cZ 32 (U2_56)), (pl5, cJ cI 32 (H2_57)), (pl6, cJ cI 132 (F2_58)), (t0, .inr (2, [.ref t1, .int (iJ (n)), .int (iJ (Q2_36))])), (t1, cJ cI 32 (G2_35))]) (st2 := [.double (rgC g n q 1)]) rfl rfl rfl ?_
                        refine r_topD (b := 13830554455654793216) (by unfold rgC; exact if_pos (by first | exact Or.inl (by omega) | exact Or.inr (fun t => absurd (z8.mpr t) (by omega)))) ?_
                        refine r_ldc2d E 13830554455654793216 dL_areStickings_551 ck_L_areStickings_81 ?_
                        refine r_deq E (by decide +kernel) dL_areStickings_554 ?_
                        refine r_if_ne E 585 dL_areStickings_555 (by decide) ⟨by omega, by omega⟩ (fun c_555 => absurd c_555 (by omega)) (fun c_555 => ?_)
                        refine r_goto E 581 dL_areStickings_558 (by decide) ?_
                        refine r_iconst E 1 rfl dL_areStickings_581 ?_
                        refine r_goto E 586 dL_areStickings_582 (by decide) ?_
                        exact r_retMZ E (L2_53, O2_54, A2_55, U2_56, H2_57, F2_58, G2_35, Q2_36) hr dL_areStickings_586 (by omega) rfl trivial rfl hQ
                  · refine r_iload E 5 dL_areStickings_377 rfl ?_
                    refine r_if_lt E 497 dL_areStickings_379 (by decide) ⟨by omega, by omega⟩ (fun c_379 => ?_) (fun c_379 => ?_)
                    · have w_x : 0 ≤ m5 → x = rgR g n q 1 n := fun t => by
                            have e_k : k = n := by omega
                            rw [hx, e_k]; exact rt_sum hv (z9 (z8.mp t))
                      have f_R := rgR_in (g := g) (n := n) (q := q) (pr := 1) (k := n) hn32
                      have f_L := rgR_le (g := g) (n := n) (q := q) (pr := 1)
                      have f_S := smS_160 (g := g) hn32
                      refine r_iload E 6 dL_areStickings_497 rfl ?_
                      refine r_if_eq E 585 dL_areStickings_499 (by decide) ⟨by omega, by omega⟩ (fun c_499 => absurd c_499 (by omega)) (fun c_499 => ?_)
                      refine r_aload_n E 0 dL_areStickings_502 rfl rfl ?_
                      refine r_vM E (st := []) (c_X6_quickest l D x0 h0 t0 n0 i0 d0 r0 p0 hs rf h1 cI g n q pl1 pl2 pl3 pl4 pl5 pl6 cZ L3 O3 A3 U3 D3 F3 t1 gt nt qt (by first | assumption | omega | exact ⟨by omega, by omega⟩) (by first | assumption | omega | exact ⟨by omega, by omega⟩) (by first | assumption | omega | exact ⟨by omega, by omega⟩) (by first | assumption | omega | exact ⟨by omega, by omega⟩) (by first | assumption | omega | exact ⟨by omega, by omega⟩)) gL_areStickings_X6_quickest 0 kf_X6_quickest ⟨rfl, rfl⟩ ⟨by decide, by decide⟩ dL_areStickings_503 rfl 0 rfl rfl rfl rfl ⟨Nat.zero_le _, Nat.zero_le _⟩ [0, 1, 2, 6, 7, 8, 9, 10, 11, 12, 13, 14] rfl (by decide) [0, 1] rfl (Nat.le_of_ble_eq_true rfl) [(d0, .inr (1, [.ref d1, .int (iJ (np))])), (d1, cJ cI 60 (gp)), (i0, .inr (0, [.ref i1, .int (iJ (m))]))] [3, 4, 5] rfl (by decide) (by decide) hA [3, 4, 5, 0, 1, 2, 6, 7, 8, 9, 10, 11, 12, 13, 14] (by decide) (fun u : Int × (Int → Int) × (Int → Int) × (Int → Int) × (Int → Int) × (Int → Int) × (Int → Int) × Int => [(x0, .inr (5, [.ref h0, .ref t0, .ref n0, .ref i0, .ref d0, .ref r0, .ref p0, .int (iJ (hs)), .int (iJ (rf))])), (h0, .inr (2, [.ref h1, .int (iJ (n)), .int (iJ (q))])), (h1, cJ cI 32 (g)), (d0, .inr (1, [.ref d1, .int (iJ (np))])), (d1, cJ cI 60 (gp)), (i0, .inr (0, [.ref i1, .int (iJ (m))])), (p0, .inr (3, [.ref pl1, .ref pl2, .ref pl3, .ref pl4, .ref pl5, .ref pl6, .int (iJ (u.1))])), (pl1, cJ cI 32 (nrA)), (pl2, cJ cI 32 (u.2.1)), (pl3, cJ cZ 32 (u.2.2.1)), (pl4, cJ cZ 32 (u.2.2.2.1)), (pl5, cJ cI 32 (u.2.2.2.2.1)), (pl6, cJ cI 132 (u.2.2.2.2.2.1)), (t0, .inr (2, [.ref t1, .int (iJ (n)), .int (iJ (u.2.2.2.2.2.2.2))])), (t1, cJ cI 32 (u.2.2.2.2.2.2.1))]) (fun _ => rfl) ?_
                      rintro ⟨L2_60, O2_61, A2_62, U2_63, H2_64, F2_65, G2_66, Q2_67⟩ hp_68
                      refine r_cv (ws2 := [(x0, .inr (5, [.ref h0, .ref t0, .ref n0, .ref i0, .ref d0, .ref r0, .ref p0, .int (iJ (hs)), .int (iJ (rf))])), (h0, .inr (2, [.ref h1, .int (iJ (n)), .int (iJ (q))])), (h1, cJ cI 32 (g)), (d0, .inr (1, [.ref d1, .int (iJ (np))])), (d1, cJ cI 60 (gp)), (i0, .inr (0, [.ref i1, .int (iJ (m))])), (p0, .inr (3, [.ref pl1, .ref pl2, .ref pl3, .ref pl4, .ref pl5, .ref pl6, .int (iJ (L2_60))])), (pl1, cJ cI 32 (nrA)), (pl2, cJ cI 32 (O2_61)), (pl3, cJ cZ 32 (A2_62)), (pl4, cJ cZ 32 (U2_63)), (pl5, cJ cI 32 (H2_64)), (pl6, cJ cI 132 (F2_65)), (t0, .inr (2, [.ref t1, .int (iJ (n)), .int (iJ (Q2_67))])), (t1, cJ cI 32 (G2_66))]) (st2 := [.int (iJ ((if fcB g n 4 0 < 1000 then 4 else if fcB g n 3 0 < 1000 then 3 else if fcB g n 2 0 < 1000 then 2 else if fcB g n 1 0 < 1000 then 1 else -4)))]) rfl rfl rfl ?_
                      have hq2_69 := hp_68
                      try dsimp only at hq2_69
                      refine r_top (b := quV g n) rfl ?_
                      refine r_aload_n E 0 dL_areStickings_506 rfl rfl ?_
                      refine r_bipush E 11 rfl dL_areStickings_507 ?_
                      refine r_vP E (st := [.int (iJ (quV g n))]) (c_X6_count l D x0 h0 t0 n0 i0 d0 r0 p0 hs rf h1 cI g n q d1 gp np i1 m 11 (by first | assumption | omega | exact ⟨by omega, by omega⟩) (by first | assumption | omega | exact ⟨by omega, by omega⟩) (by first | assumption | omega | exact ⟨by omega, by omega⟩)) gL_areStickings_X6_count 1 kf_X6_count ⟨rfl, rfl⟩ ⟨by decide, by decide⟩ dL_areStickings_509 rfl 0 rfl rfl rfl rfl ⟨Nat.zero_le _, Nat.zero_le _⟩ [0, 1, 2, 3, 4, 5] rfl (by decide) [0] rfl (Nat.le_of_ble_eq_true rfl) ?_
                      refine r_top (b := q) rfl ?_
                      have f_q : -4 ≤ quV g n ∧ quV g n ≤ 4 := by unfold quV; (repeat' split) <;> omega
                      refine r_dm_ilt E dL_areStickings_512 dL_areStickings_515 dL_areStickings_516 dL_areStickings_519 ⟨by omega, by omega⟩ ⟨by omega, by omega⟩ ?_
                      refine r_iload_n E 2 dL_areStickings_520 rfl rfl ?_
                      refine r_dm_le E dL_areStickings_521 dL_areStickings_524 dL_areStickings_525 dL_areStickings_528 ⟨by omega, by omega⟩ ?_
                      refine r_icmp_ne E 585 dL_areStickings_529 (by decide) (jb_b2 _) (jb_b2 _) (fun c_529 => absurd c_529 (by exact (fun t => t (b2_c ((qu_i hn32 hq hv).trans z3.symm))))) (fun c_529 => ?_)
                      refine r_iload E 5 dL_areStickings_532 rfl ?_
                      refine r_if_lt E 546 dL_areStickings_534 (by decide) ⟨by omega, by omega⟩ (fun c_534 => ?_) (fun c_534 => ?_)
                      · refine r_aload_n E 0 dL_areStickings_546 rfl rfl ?_
                        refine r_iconst E 1 rfl dL_areStickings_547 ?_
                        refine r_vD E (st := []) (c_X6_right l D x0 h0 t0 n0 i0 d0 r0 p0 hs rf h1 cI g n q pl1 pl2 pl3 pl4 pl5 pl6 cZ L2_60 O2_61 A2_62 U2_63 H2_64 F2_65 1 (by first | assumption | omega | exact ⟨by omega, by omega⟩) (by first | assumption | omega | exact ⟨by omega, by omega⟩) (by first | assumption | omega | exact ⟨by omega, by omega⟩) (by first | assumption | omega | exact ⟨by omega, by omega⟩) (Or.inr rfl)) gL_areStickings_X6_right 1 kf_X6_right ⟨rfl, rfl⟩ ⟨by decide, by decide⟩ dL_areStickings_548 rfl 0 rfl rfl rfl rfl ⟨Nat.zero_le _, Nat.zero_le _⟩ [0, 1, 2, 6, 7, 8, 9, 10, 11, 12] rfl (by decide) [0, 1] rfl (Nat.le_of_ble_eq_true rfl) [(d0, .inr (1, [.ref d1, .int (iJ (np))])), (d1, cJ cI 60 (gp)), (i0, .inr (0, [.ref i1, .int (iJ (m))])), (t0, .inr (2, [.ref t1, .int (iJ (n)), .int (iJ (Q2_67))])), (t1, cJ cI 32 (G2_66))] [3, 4, 5, 13, 14] rfl (by decide) (by decide) hA [5, 6, 7, 0, 1, 2, 8, 9, 10, 11, 12, 13, 14, 3, 4] (by decide) (fun u : Int × (Int → Int) × (Int → Int) × (Int → Int) × (Int → Int) × (Int → Int) => [(x0, .inr (5, [.ref h0, .ref t0, .ref n0, .ref i0, .ref d0, .ref r0, .ref p0, .int (iJ (hs)), .int (iJ (rf))])), (h0, .inr (2, [.ref h1, .int (iJ (n)), .int (iJ (q))])), (h1, cJ cI 32 (g)), (d0, .inr (1, [.ref d1, .int (iJ (np))])), (d1, cJ cI 60 (gp)), (i0, .inr (0, [.ref i1, .int (iJ (m))])), (p0, .inr (3, [.ref pl1, .ref pl2, .ref pl3, .ref pl4, .ref pl5, .ref pl6, .int (iJ (u.1))])), (pl1, cJ cI 32 (nrA)), (pl2, cJ cI 32 (u.2.1)), (pl3, cJ cZ 32 (u.2.2.1)), (pl4, cJ cZ 32 (u.2.2.2.1)), (pl5, cJ cI 32 (u.2.2.2.2.1)), (pl6, cJ cI 132 (u.2.2.2.2.2)), (t0, .inr (2, [.ref t1, .int (iJ (n)), .int (iJ (Q2_67))])), (t1, cJ cI 32 (G2_66))]) (fun _ => rfl) ?_
                        rintro ⟨L2_70, O2_71, A2_72, U2_73, H2_74, F2_75⟩ hp_76
                        refine r_cv (ws2 := [(x0, .inr (5, [.ref h0, .ref t0, .ref n0, .ref i0, .ref d0, .ref r0, .ref p0, .int (iJ (hs)), .int (iJ (rf))])), (h0, .inr (2, [.ref h1, .int (iJ (n)), .int (iJ (q))])), (h1, cJ cI 32 (g)), (d0, .inr (1, [.ref d1, .int (iJ (np))])), (d1, cJ cI 60 (gp)), (i0, .inr (0, [.ref i1, .int (iJ (m))])), (p0, .inr (3, [.ref pl1, .ref pl2, .ref pl3, .ref pl4, .ref pl5, .ref pl6, .int (iJ (L2_70))])), (pl1, cJ cI 32 (nrA)), (pl2, cJ cI 32 (O2_71)), (pl3, cJ cZ 32 (A2_72)), (pl4, cJ cZ 32 (U2_73)), (pl5, cJ cI 32 (H2_74)), (pl6, cJ cI 132 (F2_75)), (t0, .inr (2, [.ref t1, .int (iJ (n)), .int (iJ (Q2_67))])), (t1, cJ cI 32 (G2_66))]) (st2 := [.double (rgC g n q 1)]) rfl rfl rfl ?_
                        refine r_topD (b := 13830554455654793216) (by unfold rgC; exact if_pos (by first | exact Or.inl (by omega) | exact Or.inr (fun t => absurd (z8.mpr t) (by omega)))) ?_
                        refine r_ldc2d E 13830554455654793216 dL_areStickings_551 ck_L_areStickings_81 ?_
                        refine r_deq E (by decide +kernel) dL_areStickings_554 ?_
                        refine r_if_ne E 585 dL_areStickings_555 (by decide) ⟨by omega, by omega⟩ (fun c_555 => absurd c_555 (by omega)) (fun c_555 => ?_)
                        refine r_goto E 581 dL_areStickings_558 (by decide) ?_
                        refine r_iconst E 1 rfl dL_areStickings_581 ?_
                        refine r_goto E 586 dL_areStickings_582 (by decide) ?_
                        exact r_retMZ E (L2_70, O2_71, A2_72, U2_73, H2_74, F2_75, G2_66, Q2_67) hr dL_areStickings_586 (by omega) rfl trivial rfl hQ
                      · refine r_aload_n E 0 dL_areStickings_537 rfl rfl ?_
                        refine r_bipush E 10 rfl dL_areStickings_538 ?_
                        refine r_vP E (st := []) (c_X6_count l D x0 h0 t0 n0 i0 d0 r0 p0 hs rf h1 cI g n q d1 gp np i1 m 10 (by first | assumption | omega | exact ⟨by omega, by omega⟩) (by first | assumption | omega | exact ⟨by omega, by omega⟩) (by first | assumption | omega | exact ⟨by omega, by omega⟩)) gL_areStickings_X6_count 1 kf_X6_count ⟨rfl, rfl⟩ ⟨by decide, by decide⟩ dL_areStickings_540 rfl 0 rfl rfl rfl rfl ⟨Nat.zero_le _, Nat.zero_le _⟩ [0, 1, 2, 3, 4, 5] rfl (by decide) [0] rfl (Nat.le_of_ble_eq_true rfl) ?_
                        refine r_top (b := sm (fun j => sFs (g j)) n) rfl ?_
                        refine r_if_ne E 561 dL_areStickings_543 (by decide) ⟨by omega, by omega⟩ (fun c_543 => ?_) (fun c_543 => ?_)
                        · refine r_aload_n E 0 dL_areStickings_561 rfl rfl ?_
                          refine r_iconst E 1 rfl dL_areStickings_562 ?_
                          refine r_vD E (st := []) (c_X6_right l D x0 h0 t0 n0 i0 d0 r0 p0 hs rf h1 cI g n q pl1 pl2 pl3 pl4 pl5 pl6 cZ L2_60 O2_61 A2_62 U2_63 H2_64 F2_65 1 (by first | assumption | omega | exact ⟨by omega, by omega⟩) (by first | assumption | omega | exact ⟨by omega, by omega⟩) (by first | assumption | omega | exact ⟨by omega, by omega⟩) (by first | assumption | omega | exact ⟨by omega, by omega⟩) (Or.inr rfl)) gL_areStickings_X6_right 1 kf_X6_right ⟨rfl, rfl⟩ ⟨by decide, by decide⟩ dL_areStickings_563 rfl 0 rfl rfl rfl rfl ⟨Nat.zero_le _, Nat.zero_le _⟩ [0, 1, 2, 6, 7, 8, 9, 10, 11, 12] rfl (by decide) [0, 1] rfl (Nat.le_of_ble_eq_true rfl) [(d0, .inr (1, [.ref d1, .int (iJ (np))])), (d1, cJ cI 60 (gp)), (i0, .inr (0, [.ref i1, .int (iJ (m))])), (t0, .inr (2, [.ref t1, .int (iJ (n)), .int (iJ (Q2_67))])), (t1, cJ cI 32 (G2_66))] [3, 4, 5, 13, 14] rfl (by decide) (by decide) hA [5, 6, 7, 0, 1, 2, 8, 9, 10, 11, 12, 13, 14, 3, 4] (by decide) (fun u : Int × (Int → Int) × (Int → Int) × (Int → Int) × (Int → Int) × (Int → Int) => [(x0, .inr (5, [.ref h0, .ref t0, .ref n0, .ref i0, .ref d0, .ref r0, .ref p0, .int (iJ (hs)), .int (iJ (rf))])), (h0, .inr (2, [.ref h1, .int (iJ (n)), .int (iJ (q))])), (h1, cJ cI 32 (g)), (d0, .inr (1, [.ref d1, .int (iJ (np))])), (d1, cJ cI 60 (gp)), (i0, .inr (0, [.ref i1, .int (iJ (m))])), (p0, .inr (3, [.ref pl1, .ref pl2, .ref pl3, .ref pl4, .ref pl5, .ref pl6, .int (iJ (u.1))])), (pl1, cJ cI 32 (nrA)), (pl2, cJ cI 32 (u.2.1)), (pl3, cJ cZ 32 (u.2.2.1)), (pl4, cJ cZ 32 (u.2.2.2.1)), (pl5, cJ cI 32 (u.2.2.2.2.1)), (pl6, cJ cI 132 (u.2.2.2.2.2)), (t0, .inr (2, [.ref t1, .int (iJ (n)), .int (iJ (Q2_67))])), (t1, cJ cI 32 (G2_66))]) (fun _ => rfl) ?_
                          rintro ⟨L2_77, O2_78, A2_79, U2_80, H2_81, F2_82⟩ hp_83
                          refine r_cv (ws2 := [(x0, .inr (5, [.ref h0, .ref t0, .ref n0, .ref i0, .ref d0, .ref r0, .ref p0, .int (iJ (hs)), .int (iJ (rf))])), (h0, .inr (2, [.ref h1, .int (iJ (n)), .int (iJ (q))])), (h1, cJ cI 32 (g)), (d0, .inr (1, [.ref d1, .int (iJ (np))])), (d1, cJ cI 60 (gp)), (i0, .inr (0, [.ref i1, .int (iJ (m))])), (p0, .inr (3, [.ref pl1, .ref pl2, .ref pl3, .ref pl4, .ref pl5, .ref pl6, .int (iJ (L2_77))])), (pl1, cJ cI 32 (nrA)), (pl2, cJ cI 32 (O2_78)), (pl3, cJ cZ 32 (A2_79)), (pl4, cJ cZ 32 (U2_80)), (pl5, cJ cI 32 (H2_81)), (pl6, cJ cI 132 (F2_82)), (t0, .inr (2, [.ref t1, .int (iJ (n)), .int (iJ (Q2_67))])), (t1, cJ cI 32 (G2_66))]) (st2 := [.double (rgC g n q 1)]) rfl rfl rfl ?_
                          refine r_topD (b := FP.ddiv (FP.i2d (iJ x)) (FP.i2d (iJ (sm (fun j => sFs (g j)) n)))) (by rw [w_x (by omega)]; unfold rgC; exact if_neg (fun t => t.elim c_543 (fun y => y (z8.mp (by omega))))) ?_
                          refine r_iload E 7 dL_areStickings_566 rfl ?_
                          refine r_i2d E dL_areStickings_568 ?_
                          refine r_aload_n E 0 dL_areStickings_569 rfl rfl ?_
                          refine r_bipush E 10 rfl dL_areStickings_570 ?_
                          refine r_vP E (st := [.double (FP.i2d (iJ x)), .double (FP.ddiv (FP.i2d (iJ x)) (FP.i2d (iJ (sm (fun j => sFs (g j)) n))))]) (c_X6_count l D x0 h0 t0 n0 i0 d0 r0 p0 hs rf h1 cI g n q d1 gp np i1 m 10 (by first | assumption | omega | exact ⟨by omega, by omega⟩) (by first | assumption | omega | exact ⟨by omega, by omega⟩) (by first | assumption | omega | exact ⟨by omega, by omega⟩)) gL_areStickings_X6_count 1 kf_X6_count ⟨rfl, rfl⟩ ⟨by decide, by decide⟩ dL_areStickings_572 rfl 0 rfl rfl rfl rfl ⟨Nat.zero_le _, Nat.zero_le _⟩ [0, 1, 2, 3, 4, 5] rfl (by decide) [0] rfl (Nat.le_of_ble_eq_true rfl) ?_
                          refine r_top (b := sm (fun j => sFs (g j)) n) rfl ?_
                          refine r_i2d E dL_areStickings_575 ?_
                          refine r_ddiv E (ddv_n ⟨by rw [w_x (by omega)]; exact f_R.1, by rw [w_x (by omega)]; exact f_L⟩ ⟨by omega, f_S.2⟩) dL_areStickings_576 ?_
                          refine r_deq E (ddv_e ⟨by rw [w_x (by omega)]; exact f_R.1, by rw [w_x (by omega)]; exact f_L⟩ ⟨by omega, f_S.2⟩) dL_areStickings_577 ?_
                          refine r_if_ne E 585 dL_areStickings_578 (by decide) ⟨by omega, by omega⟩ (fun c_578 => absurd c_578 (by omega)) (fun c_578 => ?_)
                          refine r_iconst E 1 rfl dL_areStickings_581 ?_
                          refine r_goto E 586 dL_areStickings_582 (by decide) ?_
                          exact r_retMZ E (L2_77, O2_78, A2_79, U2_80, H2_81, F2_82, G2_66, Q2_67) hr dL_areStickings_586 (by omega) rfl trivial rfl hQ
                        · refine r_aload_n E 0 dL_areStickings_546 rfl rfl ?_
                          refine r_iconst E 1 rfl dL_areStickings_547 ?_
                          refine r_vD E (st := []) (c_X6_right l D x0 h0 t0 n0 i0 d0 r0 p0 hs rf h1 cI g n q pl1 pl2 pl3 pl4 pl5 pl6 cZ L2_60 O2_61 A2_62 U2_63 H2_64 F2_65 1 (by first | assumption | omega | exact ⟨by omega, by omega⟩) (by first | assumption | omega | exact ⟨by omega, by omega⟩) (by first | assumption | omega | exact ⟨by omega, by omega⟩) (by first | assumption | omega | exact ⟨by omega, by omega⟩) (Or.inr rfl)) gL_areStickings_X6_right 1 kf_X6_right ⟨rfl, rfl⟩ ⟨by decide, by decide⟩ dL_areStickings_548 rfl 0 rfl rfl rfl rfl ⟨Nat.zero_le _, Nat.zero_le _⟩ [0, 1, 2, 6, 7, 8, 9, 10, 11, 12] rfl (by decide) [0, 1] rfl (Nat.le_of_ble_eq_true rfl) [(d0, .inr (1, [.ref d1, .int (iJ (np))])), (d1, cJ cI 60 (gp)), (i0, .inr (0, [.ref i1, .int (iJ (m))])), (t0, .inr (2, [.ref t1, .int (iJ (n)), .int (iJ (Q2_67))])), (t1, cJ cI 32 (G2_66))] [3, 4, 5, 13, 14] rfl (by decide) (by decide) hA [5, 6, 7, 0, 1, 2, 8, 9, 10, 11, 12, 13, 14, 3, 4] (by decide) (fun u : Int × (Int → Int) × (Int → Int) × (Int → Int) × (Int → Int) × (Int → Int) => [(x0, .inr (5, [.ref h0, .ref t0, .ref n0, .ref i0, .ref d0, .ref r0, .ref p0, .int (iJ (hs)), .int (iJ (rf))])), (h0, .inr (2, [.ref h1, .int (iJ (n)), .int (iJ (q))])), (h1, cJ cI 32 (g)), (d0, .inr (1, [.ref d1, .int (iJ (np))])), (d1, cJ cI 60 (gp)), (i0, .inr (0, [.ref i1, .int (iJ (m))])), (p0, .inr (3, [.ref pl1, .ref pl2, .ref pl3, .ref pl4, .ref pl5, .ref pl6, .int (iJ (u.1))])), (pl1, cJ cI 32 (nrA)), (pl2, cJ cI 32 (u.2.1)), (pl3, cJ cZ 32 (u.2.2.1)), (pl4, cJ cZ 32 (u.2.2.2.1)), (pl5, cJ cI 32 (u.2.2.2.2.1)), (pl6, cJ cI 132 (u.2.2.2.2.2)), (t0, .inr (2, [.ref t1, .int (iJ (n)), .int (iJ (Q2_67))])), (t1, cJ cI 32 (G2_66))]) (fun _ => rfl) ?_
                          rintro ⟨L2_84, O2_85, A2_86, U2_87, H2_88, F2_89⟩ hp_90
                          refine r_cv (ws2 := [(x0, .inr (5, [.ref h0, .ref t0, .ref n0, .ref i0, .ref d0, .ref r0, .ref p0, .int (iJ (hs)), .int (iJ (rf))])), (h0, .inr (2, [.ref h1, .int (iJ (n)), .int (iJ (q))])), (h1, cJ cI 32 (g)), (d0, .inr (1, [.ref d1, .int (iJ (np))])), (d1, cJ cI 60 (gp)), (i0, .inr (0, [.ref i1, .int (iJ (m))])), (p0, .inr (3, [.ref pl1, .ref pl2, .ref pl3, .ref pl4, .ref pl5, .ref pl6, .int (iJ (L2_84))])), (pl1, cJ cI 32 (nrA)), (pl2, cJ cI 32 (O2_85)), (pl3, cJ cZ 32 (A2_86)), (pl4, cJ cZ 32 (U2_87)), (pl5, cJ cI 32 (H2_88)), (pl6, cJ cI 132 (F2_89)), (t0, .inr (2, [.ref t1, .int (iJ (n)), .int (iJ (Q2_67))])), (t1, cJ cI 32 (G2_66))]) (st2 := [.double (rgC g n q 1)]) rfl rfl rfl ?_
                          refine r_topD (b := 13830554455654793216) (by unfold rgC; exact if_pos (by first | exact Or.inl (by omega) | exact Or.inr (fun t => absurd (z8.mpr t) (by omega)))) ?_
                          refine r_ldc2d E 13830554455654793216 dL_areStickings_551 ck_L_areStickings_81 ?_
                          refine r_deq E (by decide +kernel) dL_areStickings_554 ?_
                          refine r_if_ne E 585 dL_areStickings_555 (by decide) ⟨by omega, by omega⟩ (fun c_555 => absurd c_555 (by omega)) (fun c_555 => ?_)
                          refine r_goto E 581 dL_areStickings_558 (by decide) ?_
                          refine r_iconst E 1 rfl dL_areStickings_581 ?_
                          refine r_goto E 586 dL_areStickings_582 (by decide) ?_
                          exact r_retMZ E (L2_84, O2_85, A2_86, U2_87, H2_88, F2_89, G2_66, Q2_67) hr dL_areStickings_586 (by omega) rfl trivial rfl hQ
                    · refine r_aload_n E 0 dL_areStickings_382 rfl rfl ?_
                      refine r_iload E 8 dL_areStickings_383 rfl ?_
                      refine r_iconst E 2 rfl dL_areStickings_385 ?_
                      refine r_vP E (st := []) (c_X6_stepR l D x0 h0 t0 n0 i0 d0 r0 p0 hs rf h1 cI g n q k 2 (by first | assumption | omega | exact ⟨by omega, by omega⟩) (by first | assumption | omega | exact ⟨by omega, by omega⟩) (by first | assumption | omega | exact ⟨by omega, by omega⟩) (by first | assumption | omega | exact ⟨by omega, by omega⟩) (by first | assumption | omega | exact ⟨by omega, by omega⟩)) gL_areStickings_X6_step 2 kf_X6_step ⟨rfl, rfl⟩ ⟨by decide, by decide⟩ dL_areStickings_386 rfl 0 rfl rfl rfl rfl ⟨Nat.zero_le _, Nat.zero_le _⟩ [0, 1, 2] rfl (by decide) [0] rfl (Nat.le_of_ble_eq_true rfl) ?_
                      refine r_top (b := g k / 16 % 4) rfl ?_
                      have f_o := ohV_in (g k)
                      have f_g := hg k (by omega) (by omega)
                      have f_s := smV_in (g k / 16 % 4)
                      refine r_istore E [(10, .int (iJ (g k / 16 % 4))), (0, .ref x0), (1, .int (iJ (n))), (2, .int (iJ (m2))), (3, .int (iJ (m3))), (4, .int (iJ (m4))), (5, .int (iJ (m5))), (7, .int (iJ (1))), (8, .int (iJ (x))), (9, .int (iJ (k)))] dL_areStickings_389 (by decide) rfl ?_
                      have K_411 : ∀ (v : Int), (v = smV (g k / 16 % 4)) → GG p_ l e_ rm_L_areStickings s_ m_ ar_ bw_ mt_ cd_ D vwCl B_ B_ s_.heap 13 0 0 Q_ [(x0, .inr (5, [.ref h0, .ref t0, .ref n0, .ref i0, .ref d0, .ref r0, .ref p0, .int (iJ (hs)), .int (iJ (rf))])), (h0, .inr (2, [.ref h1, .int (iJ (n)), .int (iJ (q))])), (h1, cJ cI 32 (g)), (d0, .inr (1, [.ref d1, .int (iJ (np))])), (d1, cJ cI 60 (gp)), (i0, .inr (0, [.ref i1, .int (iJ (m))])), (p0, .inr (3, [.ref pl1, .ref pl2, .ref pl3, .ref pl4, .ref pl5, .ref pl6, .int (iJ (L3))])), (pl1, cJ cI 32 (nrA)), (pl2, cJ cI 32 (O3)), (pl3, cJ cZ 32 (A3)), (pl4, cJ cZ 32 (U3)), (pl5, cJ cI 32 (D3)), (pl6, cJ cI 132 (F3)), (t0, .inr (2, [.ref t1, .int (iJ (nt)), .int (iJ (qt))])), (t1, cJ cI 32 (gt))] [(0, .ref x0), (1, .int (iJ (n))), (2, .int (iJ (m2))), (3, .int (iJ (m3))), (4, .int (iJ (m4))), (5, .int (iJ (m5))), (7, .int (iJ (1))), (8, .int (iJ (x))), (9, .int (iJ (k))), (10, .int (iJ (g k / 16 % 4)))] 411 [.int (iJ (v))] := by
                        intro v hw
                        refine r_istore E [(11, .int (iJ (v))), (0, .ref x0), (1, .int (iJ (n))), (2, .int (iJ (m2))), (3, .int (iJ (m3))), (4, .int (iJ (m4))), (5, .int (iJ (m5))), (7, .int (iJ (1))), (8, .int (iJ (x))), (9, .int (iJ (k))), (10, .int (iJ (g k / 16 % 4)))] dL_areStickings_411 (by decide) rfl ?_
                        refine r_iload E 6 dL_areStickings_413 rfl ?_
                        refine r_iload E 9 dL_areStickings_415 rfl ?_
                        refine r_ishr E (m5 / p2 k) (sh_r ⟨by omega, by omega⟩ ⟨by omega, by omega⟩) dL_areStickings_417 ?_
                        refine r_iconst E 1 rfl dL_areStickings_418 ?_
                        refine r_iand E (btV m5 k) (bt_1 ⟨by omega, by omega⟩) dL_areStickings_419 ?_
                        have f_bt := btV_01 m5 k
                        refine r_dm_ne E dL_areStickings_420 dL_areStickings_423 dL_areStickings_424 dL_areStickings_427 ⟨by omega, by omega⟩ ?_
                        refine r_istore E [(12, .int (iJ (b2 ((btV m5 k) = 0)))), (11, .int (iJ (v))), (0, .ref x0), (1, .int (iJ (n))), (2, .int (iJ (m2))), (3, .int (iJ (m3))), (4, .int (iJ (m4))), (5, .int (iJ (m5))), (7, .int (iJ (1))), (8, .int (iJ (x))), (9, .int (iJ (k))), (10, .int (iJ (g k / 16 % 4)))] dL_areStickings_428 (by decide) rfl ?_
                        refine r_iload E 9 dL_areStickings_430 rfl ?_
                        have K_488 : ∀ (t2 : Int), (t2 = rtV (g k) (btV m5 k)) → GG p_ l e_ rm_L_areStickings s_ m_ ar_ bw_ mt_ cd_ D vwCl B_ B_ s_.heap 13 0 0 Q_ [(x0, .inr (5, [.ref h0, .ref t0, .ref n0, .ref i0, .ref d0, .ref r0, .ref p0, .int (iJ (hs)), .int (iJ (rf))])), (h0, .inr (2, [.ref h1, .int (iJ (n)), .int (iJ (q))])), (h1, cJ cI 32 (g)), (d0, .inr (1, [.ref d1, .int (iJ (np))])), (d1, cJ cI 60 (gp)), (i0, .inr (0, [.ref i1, .int (iJ (m))])), (p0, .inr (3, [.ref pl1, .ref pl2, .ref pl3, .ref pl4, .ref pl5, .ref pl6, .int (iJ (L3))])), (pl1, cJ cI 32 (nrA)), (pl2, cJ cI 32 (O3)), (pl3, cJ cZ 32 (A3)), (pl4, cJ cZ 32 (U3)), (pl5, cJ cI 32 (D3)), (pl6, cJ cI 132 (F3)), (t0, .inr (2, [.ref t1, .int (iJ (nt)), .int (iJ (qt))])), (t1, cJ cI 32 (gt))] [(0, .ref x0), (1, .int (iJ (n))), (2, .int (iJ (m2))), (3, .int (iJ (m3))), (4, .int (iJ (m4))), (5, .int (iJ (m5))), (7, .int (iJ (1))), (8, .int (iJ (x))), (9, .int (iJ (k))), (10, .int (iJ (g k / 16 % 4))), (11, .int (iJ (v))), (12, .int (iJ (b2 ((btV m5 k) = 0))))] 488 [.int (iJ (t2)), .int (iJ (x))] := by
                          intro t2 ht2
                          refine r_iadd E dL_areStickings_488 ?_
                          refine r_istore E [(8, .int (iJ ((x + t2)))), (0, .ref x0), (1, .int (iJ (n))), (2, .int (iJ (m2))), (3, .int (iJ (m3))), (4, .int (iJ (m4))), (5, .int (iJ (m5))), (7, .int (iJ (1))), (9, .int (iJ (k))), (10, .int (iJ (g k / 16 % 4))), (11, .int (iJ (v))), (12, .int (iJ (b2 ((btV m5 k) = 0))))] dL_areStickings_489 (by decide) rfl ?_
                          refine r_iinc E (k := 8) [(9, .int (iJ ((k + 1)))), (8, .int (iJ ((x + t2)))), (0, .ref x0), (1, .int (iJ (n))), (2, .int (iJ (m2))), (3, .int (iJ (m3))), (4, .int (iJ (m4))), (5, .int (iJ (m5))), (7, .int (iJ (1))), (10, .int (iJ (g k / 16 % 4))), (11, .int (iJ (v))), (12, .int (iJ (b2 ((btV m5 k) = 0))))] dL_areStickings_491 rfl (by decide) rfl ?_
                          refine r_goto E 371 dL_areStickings_494 (by decide) ?_
                          refine r_lv [2, 3, 4, 5, 6, 7, 8, 1, 0] [(0, .ref x0), (1, .int (iJ (n))), (2, .int (iJ (m2))), (3, .int (iJ (m3))), (4, .int (iJ (m4))), (5, .int (iJ (m5))), (7, .int (iJ (1))), (8, .int (iJ ((x + t2)))), (9, .int (iJ ((k + 1))))] rfl ?_
                          exact ih371 (k + 1) (x + t2) ⟨by omega, by omega⟩ (by rw [sm_s _ (by omega), hx, ht2]) (by omega)
                        refine r_aload_n E 2 dL_areStickings_432 rfl rfl ?_
                        refine r_iload E 10 dL_areStickings_433 rfl ?_
                        refine r_iconst E 0 rfl dL_areStickings_435 ?_
                        refine r_vP E (st := [.int (iJ (x))]) (c_X6_stepR l D x0 h0 t0 n0 i0 d0 r0 p0 hs rf h1 cI g n q k 0 (by first | assumption | omega | exact ⟨by omega, by omega⟩) (by first | assumption | omega | exact ⟨by omega, by omega⟩) (by first | assumption | omega | exact ⟨by omega, by omega⟩) (by first | assumption | omega | exact ⟨by omega, by omega⟩) (by first | assumption | omega | exact ⟨by omega, by omega⟩)) gL_areStickings_X6_step 2 kf_X6_step ⟨rfl, rfl⟩ ⟨by decide, by decide⟩ dL_areStickings_436 rfl 0 rfl rfl rfl rfl ⟨Nat.zero_le _, Nat.zero_le _⟩ [0, 1, 2] rfl (by decide) [0] rfl (Nat.le_of_ble_eq_true rfl) ?_
                        refine r_top (b := ohV (g k)) rfl ?_
                        have f_o := ohV_in (g k)
                        refine r_bipush E (-4) rfl dL_areStickings_439 ?_
                        refine r_icmp_ne E 448 dL_areStickings_441 (by decide) ⟨by omega, by omega⟩ ⟨by omega, by omega⟩ (fun c_441 => ?_) (fun c_441 => ?_)
                        · refine r_iload E 0 dL_areStickings_448 rfl ?_
                          refine r_ifeq_b E 476 dL_areStickings_450 (by decide) (fun c_450 => ?_) (fun c_450 => ?_)
                          · refine r_iload E 11 dL_areStickings_476 rfl ?_
                            refine r_iconst E 3 rfl dL_areStickings_478 ?_
                            refine r_icmp_ge E 487 dL_areStickings_479 (by decide) ⟨by omega, by omega⟩ ⟨by omega, by omega⟩ (fun c_479 => ?_) (fun c_479 => ?_)
                            · refine r_iconst E 0 rfl dL_areStickings_487 ?_
                              refine r_lv [2, 3, 4, 5, 6, 7, 8, 9, 10, 11, 1, 0] [(0, .ref x0), (1, .int (iJ (n))), (2, .int (iJ (m2))), (3, .int (iJ (m3))), (4, .int (iJ (m4))), (5, .int (iJ (m5))), (7, .int (iJ (1))), (8, .int (iJ (x))), (9, .int (iJ (k))), (10, .int (iJ (g k / 16 % 4))), (11, .int (iJ (v))), (12, .int (iJ (b2 ((btV m5 k) = 0))))] rfl ?_
                              exact K_488 0 (by
                                    unfold rtV; rw [← hw]
                                    first
                                    | (rw [if_pos (show g k = 0 by omega)]; done)
                                    | (rw [if_neg (show ¬ g k = 0 by omega), if_pos (show btV m5 k = 0 by omega), if_pos (show g k / 16 % 4 < 3 by omega)]; done)
                                    | (rw [if_neg (show ¬ g k = 0 by omega), if_pos (show btV m5 k = 0 by omega), if_neg (show ¬ g k / 16 % 4 < 3 by omega)]; done)
                                    | (rw [if_neg (show ¬ g k = 0 by omega), if_neg (show ¬ btV m5 k = 0 by omega), if_pos (show g k / 16 % 4 < 3 by omega)]; done)
                                    | (rw [if_neg (show ¬ g k = 0 by omega), if_neg (show ¬ btV m5 k = 0 by omega), if_neg (show ¬ g k / 16 % 4 < 3 by omega)]; done))
                            · refine r_iload E 1 dL_areStickings_482 rfl ?_
                              refine r_goto E 488 dL_areStickings_484 (by decide) ?_
                              refine r_lv [2, 3, 4, 5, 6, 7, 8, 9, 10, 11, 1, 0] [(0, .ref x0), (1, .int (iJ (n))), (2, .int (iJ (m2))), (3, .int (iJ (m3))), (4, .int (iJ (m4))), (5, .int (iJ (m5))), (7, .int (iJ (1))), (8, .int (iJ (x))), (9, .int (iJ (k))), (10, .int (iJ (g k / 16 % 4))), (11, .int (iJ (v))), (12, .int (iJ (b2 ((btV m5 k) = 0))))] rfl ?_
                              exact K_488 v (by
                                    unfold rtV; rw [← hw]
                                    first
                                    | (rw [if_pos (show g k = 0 by omega)]; done)
                                    | (rw [if_neg (show ¬ g k = 0 by omega), if_pos (show btV m5 k = 0 by omega), if_pos (show g k / 16 % 4 < 3 by omega)]; done)
                                    | (rw [if_neg (show ¬ g k = 0 by omega), if_pos (show btV m5 k = 0 by omega), if_neg (show ¬ g k / 16 % 4 < 3 by omega)]; done)
                                    | (rw [if_neg (show ¬ g k = 0 by omega), if_neg (show ¬ btV m5 k = 0 by omega), if_pos (show g k / 16 % 4 < 3 by omega)]; done)
                                    | (rw [if_neg (show ¬ g k = 0 by omega), if_neg (show ¬ btV m5 k = 0 by omega), if_neg (show ¬ g k / 16 % 4 < 3 by omega)]; done))
                          · refine r_aload_n E 2 dL_areStickings_453 rfl rfl ?_
                            refine r_iload E 10 dL_areStickings_454 rfl ?_
                            refine r_iconst E 4 rfl dL_areStickings_456 ?_
                            refine r_vP E (st := [.int (iJ (x))]) (c_X6_stepR l D x0 h0 t0 n0 i0 d0 r0 p0 hs rf h1 cI g n q k 4 (by first | assumption | omega | exact ⟨by omega, by omega⟩) (by first | assumption | omega | exact ⟨by omega, by omega⟩) (by first | assumption | omega | exact ⟨by omega, by omega⟩) (by first | assumption | omega | exact ⟨by omega, by omega⟩) (by first | assumption | omega | exact ⟨by omega, by omega⟩)) gL_areStickings_X6_step 2 kf_X6_step ⟨rfl, rfl⟩ ⟨by decide, by decide⟩ dL_areStickings_457 rfl 0 rfl rfl rfl rfl ⟨Nat.zero_le _, Nat.zero_le _⟩ [0, 1, 2] rfl (by decide) [0] rfl (Nat.le_of_ble_eq_true rfl) ?_
                            refine r_top (b := sFs (g k)) rfl ?_
                            refine r_iload E 11 dL_areStickings_460 rfl ?_
                            refine r_iconst E 3 rfl dL_areStickings_462 ?_
                            refine r_icmp_ge E 471 dL_areStickings_463 (by decide) ⟨by omega, by omega⟩ ⟨by omega, by omega⟩ (fun c_463 => ?_) (fun c_463 => ?_)
                            · refine r_iconst E 0 rfl dL_areStickings_471 ?_
                              refine r_isub E dL_areStickings_472 ?_
                              refine r_goto E 488 dL_areStickings_473 (by decide) ?_
                              refine r_lv [2, 3, 4, 5, 6, 7, 8, 9, 10, 11, 1, 0] [(0, .ref x0), (1, .int (iJ (n))), (2, .int (iJ (m2))), (3, .int (iJ (m3))), (4, .int (iJ (m4))), (5, .int (iJ (m5))), (7, .int (iJ (1))), (8, .int (iJ (x))), (9, .int (iJ (k))), (10, .int (iJ (g k / 16 % 4))), (11, .int (iJ (v))), (12, .int (iJ (b2 ((btV m5 k) = 0))))] rfl ?_
                              exact K_488 ((sFs (g k)) - 0) (by
                                    unfold rtV; rw [← hw]
                                    first
                                    | (rw [if_pos (show g k = 0 by omega)]; done)
                                    | (rw [if_neg (show ¬ g k = 0 by omega), if_pos (show btV m5 k = 0 by omega), if_pos (show g k / 16 % 4 < 3 by omega)]; done)
                                    | (rw [if_neg (show ¬ g k = 0 by omega), if_pos (show btV m5 k = 0 by omega), if_neg (show ¬ g k / 16 % 4 < 3 by omega)]; done)
                                    | (rw [if_neg (show ¬ g k = 0 by omega), if_neg (show ¬ btV m5 k = 0 by omega), if_pos (show g k / 16 % 4 < 3 by omega)]; done)
                                    | (rw [if_neg (show ¬ g k = 0 by omega), if_neg (show ¬ btV m5 k = 0 by omega), if_neg (show ¬ g k / 16 % 4 < 3 by omega)]; done))
                            · refine r_iload E 1 dL_areStickings_466 rfl ?_
                              refine r_goto E 472 dL_areStickings_468 (by decide) ?_
                              refine r_isub E dL_areStickings_472 ?_
                              refine r_goto E 488 dL_areStickings_473 (by decide) ?_
                              refine r_lv [2, 3, 4, 5, 6, 7, 8, 9, 10, 11, 1, 0] [(0, .ref x0), (1, .int (iJ (n))), (2, .int (iJ (m2))), (3, .int (iJ (m3))), (4, .int (iJ (m4))), (5, .int (iJ (m5))), (7, .int (iJ (1))), (8, .int (iJ (x))), (9, .int (iJ (k))), (10, .int (iJ (g k / 16 % 4))), (11, .int (iJ (v))), (12, .int (iJ (b2 ((btV m5 k) = 0))))] rfl ?_
                              exact K_488 ((sFs (g k)) - v) (by
                                    unfold rtV; rw [← hw]
                                    first
                                    | (rw [if_pos (show g k = 0 by omega)]; done)
                                    | (rw [if_neg (show ¬ g k = 0 by omega), if_pos (show btV m5 k = 0 by omega), if_pos (show g k / 16 % 4 < 3 by omega)]; done)
                                    | (rw [if_neg (show ¬ g k = 0 by omega), if_pos (show btV m5 k = 0 by omega), if_neg (show ¬ g k / 16 % 4 < 3 by omega)]; done)
                                    | (rw [if_neg (show ¬ g k = 0 by omega), if_neg (show ¬ btV m5 k = 0 by omega), if_pos (show g k / 16 % 4 < 3 by omega)]; done)
                                    | (rw [if_neg (show ¬ g k = 0 by omega), if_neg (show ¬ btV m5 k = 0 by omega), if_neg (show ¬ g k / 16 % 4 < 3 by omega)]; done))
                        · refine r_iconst E 0 rfl dL_areStickings_444 ?_
                          refine r_goto E 488 dL_areStickings_445 (by decide) ?_
                          refine r_lv [2, 3, 4, 5, 6, 7, 8, 9, 10, 11, 1, 0] [(0, .ref x0), (1, .int (iJ (n))), (2, .int (iJ (m2))), (3, .int (iJ (m3))), (4, .int (iJ (m4))), (5, .int (iJ (m5))), (7, .int (iJ (1))), (8, .int (iJ (x))), (9, .int (iJ (k))), (10, .int (iJ (g k / 16 % 4))), (11, .int (iJ (v))), (12, .int (iJ (b2 ((btV m5 k) = 0))))] rfl ?_
                          exact K_488 0 (by
                                unfold rtV; rw [← hw]
                                first
                                | (rw [if_pos (show g k = 0 by omega)]; done)
                                | (rw [if_neg (show ¬ g k = 0 by omega), if_pos (show btV m5 k = 0 by omega), if_pos (show g k / 16 % 4 < 3 by omega)]; done)
                                | (rw [if_neg (show ¬ g k = 0 by omega), if_pos (show btV m5 k = 0 by omega), if_neg (show ¬ g k / 16 % 4 < 3 by omega)]; done)
                                | (rw [if_neg (show ¬ g k = 0 by omega), if_neg (show ¬ btV m5 k = 0 by omega), if_pos (show g k / 16 % 4 < 3 by omega)]; done)
                                | (rw [if_neg (show ¬ g k = 0 by omega), if_neg (show ¬ btV m5 k = 0 by omega), if_neg (show ¬ g k / 16 % 4 < 3 by omega)]; done))
                      refine r_iload E 0 dL_areStickings_391 rfl ?_
                      refine r_if_ne E 400 dL_areStickings_393 (by decide) ⟨by omega, by omega⟩ (fun c_393 => ?_) (fun c_393 => ?_)
                      · refine r_iload E 0 dL_areStickings_400 rfl ?_
                        refine r_iconst E 2 rfl dL_areStickings_402 ?_
                        refine r_icmp_ne E 410 dL_areStickings_403 (by decide) ⟨by omega, by omega⟩ ⟨by omega, by omega⟩ (fun c_403 => ?_) (fun c_403 => ?_)
                        · refine r_iconst E 1 rfl dL_areStickings_410 ?_
                          refine r_lv [1, 2, 3, 4, 5, 6, 7, 8, 9, 0] [(0, .ref x0), (1, .int (iJ (n))), (2, .int (iJ (m2))), (3, .int (iJ (m3))), (4, .int (iJ (m4))), (5, .int (iJ (m5))), (7, .int (iJ (1))), (8, .int (iJ (x))), (9, .int (iJ (k))), (10, .int (iJ (g k / 16 % 4)))] rfl ?_
                          exact K_411 1 (by unfold smV; first | (rw [if_pos (by omega)]; done) | (rw [if_neg (by omega), if_pos (by omega)]; done) | (rw [if_neg (by omega), if_neg (by omega)]; done))
                        · refine r_iconst E 2 rfl dL_areStickings_406 ?_
                          refine r_goto E 411 dL_areStickings_407 (by decide) ?_
                          refine r_lv [1, 2, 3, 4, 5, 6, 7, 8, 9, 0] [(0, .ref x0), (1, .int (iJ (n))), (2, .int (iJ (m2))), (3, .int (iJ (m3))), (4, .int (iJ (m4))), (5, .int (iJ (m5))), (7, .int (iJ (1))), (8, .int (iJ (x))), (9, .int (iJ (k))), (10, .int (iJ (g k / 16 % 4)))] rfl ?_
                          exact K_411 2 (by unfold smV; first | (rw [if_pos (by omega)]; done) | (rw [if_neg (by omega), if_pos (by omega)]; done) | (rw [if_neg (by omega), if_neg (by omega)]; done))
                      · refine r_iconst E 0 rfl dL_areStickings_396 ?_
                        refine r_goto E 411 dL_areStickings_397 (by decide) ?_
                        refine r_lv [1, 2, 3, 4, 5, 6, 7, 8, 9, 0] [(0, .ref x0), (1, .int (iJ (n))), (2, .int (iJ (m2))), (3, .int (iJ (m3))), (4, .int (iJ (m4))), (5, .int (iJ (m5))), (7, .int (iJ (1))), (8, .int (iJ (x))), (9, .int (iJ (k))), (10, .int (iJ (g k / 16 % 4)))] rfl ?_
                        exact K_411 0 (by unfold smV; first | (rw [if_pos (by omega)]; done) | (rw [if_neg (by omega), if_pos (by omega)]; done) | (rw [if_neg (by omega), if_neg (by omega)]; done))
              refine r_lv [2, 3, 4, 5, 6, 7, 8, 1, 0] [(0, .ref x0), (1, .int (iJ (n))), (2, .int (iJ (m2))), (3, .int (iJ (m3))), (4, .int (iJ (m4))), (5, .int (iJ (m5))), (7, .int (iJ (1))), (8, .int (iJ (0))), (9, .int (iJ (0)))] rfl ?_
              exact loop_371 _ 0 0 ⟨by omega, by omega⟩ rfl (Nat.lt_succ_self _)
            · refine r_iload E 6 dL_areStickings_263 rfl ?_
              refine r_if_eq E 365 dL_areStickings_265 (by decide) ⟨by omega, by omega⟩ (fun c_265 => absurd c_265 (by omega)) (fun c_265 => ?_)
              refine r_aload_n E 0 dL_areStickings_268 rfl rfl ?_
              refine r_iload E 7 dL_areStickings_269 rfl ?_
              refine r_iconst E 0 rfl dL_areStickings_271 ?_
              refine r_vP E (st := []) (c_X6_stepR l D x0 h0 t0 n0 i0 d0 r0 p0 hs rf h1 cI g n q k 0 (by first | assumption | omega | exact ⟨by omega, by omega⟩) (by first | assumption | omega | exact ⟨by omega, by omega⟩) (by first | assumption | omega | exact ⟨by omega, by omega⟩) (by first | assumption | omega | exact ⟨by omega, by omega⟩) (by first | assumption | omega | exact ⟨by omega, by omega⟩)) gL_areStickings_X6_step 2 kf_X6_step ⟨rfl, rfl⟩ ⟨by decide, by decide⟩ dL_areStickings_272 rfl 0 rfl rfl rfl rfl ⟨Nat.zero_le _, Nat.zero_le _⟩ [0, 1, 2] rfl (by decide) [0] rfl (Nat.le_of_ble_eq_true rfl) ?_
              refine r_top (b := ohV (g k)) rfl ?_
              have f_o := ohV_in (g k)
              refine r_bipush E (-4) rfl dL_areStickings_275 ?_
              refine r_dm_ieq E dL_areStickings_277 dL_areStickings_280 dL_areStickings_281 dL_areStickings_284 ⟨by omega, by omega⟩ ⟨by omega, by omega⟩ ?_
              refine r_top (b := b2 (¬ g k = 0)) (b2_c ⟨fun t u => t (f_o.1.mpr u), fun t u => t (f_o.1.mp u)⟩) ?_
              refine r_istore E [(9, .int (iJ (b2 (¬ g k = 0)))), (0, .ref x0), (1, .int (iJ (n))), (2, .int (iJ (m2))), (3, .int (iJ (m3))), (4, .int (iJ (m4))), (5, .int (iJ (m5))), (7, .int (iJ (1))), (8, .int (iJ (k)))] dL_areStickings_285 (by decide) rfl ?_
              refine r_aload_n E 1 dL_areStickings_287 rfl rfl ?_
              refine r_iload E 8 dL_areStickings_288 rfl ?_
              refine r_iconst E 5 rfl dL_areStickings_290 ?_
              refine r_vM E (st := []) (c_X6_stepS l D x0 h0 t0 n0 i0 d0 r0 p0 hs rf h1 cI g n q pl1 pl2 pl3 pl4 pl5 pl6 cZ L3 O3 A3 U3 D3 F3 k 5 0 (by first | assumption | omega | exact ⟨by omega, by omega⟩) (by first | assumption | omega | exact ⟨by omega, by omega⟩) (by first | assumption | omega | exact ⟨by omega, by omega⟩) (by first | assumption | omega | exact ⟨by omega, by omega⟩) (by first | assumption | omega | exact ⟨by omega, by omega⟩) (Or.inl rfl) rfl) gL_areStickings_X6_step 2 kf_X6_step ⟨rfl, rfl⟩ ⟨by decide, by decide⟩ dL_areStickings_291 rfl 0 rfl rfl rfl rfl ⟨Nat.zero_le _, Nat.zero_le _⟩ [0, 1, 2, 6, 7, 8, 9, 10, 11, 12] rfl (by decide) [0, 1] rfl (Nat.le_of_ble_eq_true rfl) [(d0, .inr (1, [.ref d1, .int (iJ (np))])), (d1, cJ cI 60 (gp)), (i0, .inr (0, [.ref i1, .int (iJ (m))])), (t0, .inr (2, [.ref t1, .int (iJ (nt)), .int (iJ (qt))])), (t1, cJ cI 32 (gt))] [3, 4, 5, 13, 14] rfl (by decide) (by decide) hA [5, 6, 7, 0, 1, 2, 8, 9, 10, 11, 12, 13, 14, 3, 4] (by decide) (fun u : Int × (Int → Int) × (Int → Int) × (Int → Int) × (Int → Int) × (Int → Int) => [(x0, .inr (5, [.ref h0, .ref t0, .ref n0, .ref i0, .ref d0, .ref r0, .ref p0, .int (iJ (hs)), .int (iJ (rf))])), (h0, .inr (2, [.ref h1, .int (iJ (n)), .int (iJ (q))])), (h1, cJ cI 32 (g)), (d0, .inr (1, [.ref d1, .int (iJ (np))])), (d1, cJ cI 60 (gp)), (i0, .inr (0, [.ref i1, .int (iJ (m))])), (p0, .inr (3, [.ref pl1, .ref pl2, .ref pl3, .ref pl4, .ref pl5, .ref pl6, .int (iJ (u.1))])), (pl1, cJ cI 32 (nrA)), (pl2, cJ cI 32 (u.2.1)), (pl3, cJ cZ 32 (u.2.2.1)), (pl4, cJ cZ 32 (u.2.2.2.1)), (pl5, cJ cI 32 (u.2.2.2.2.1)), (pl6, cJ cI 132 (u.2.2.2.2.2)), (t0, .inr (2, [.ref t1, .int (iJ (nt)), .int (iJ (qt))])), (t1, cJ cI 32 (gt))]) (fun _ => rfl) ?_
              rintro ⟨L2_91, O2_92, A2_93, U2_94, H2_95, F2_96⟩ hp_97
              refine r_cv (ws2 := [(x0, .inr (5, [.ref h0, .ref t0, .ref n0, .ref i0, .ref d0, .ref r0, .ref p0, .int (iJ (hs)), .int (iJ (rf))])), (h0, .inr (2, [.ref h1, .int (iJ (n)), .int (iJ (q))])), (h1, cJ cI 32 (g)), (d0, .inr (1, [.ref d1, .int (iJ (np))])), (d1, cJ cI 60 (gp)), (i0, .inr (0, [.ref i1, .int (iJ (m))])), (p0, .inr (3, [.ref pl1, .ref pl2, .ref pl3, .ref pl4, .ref pl5, .ref pl6, .int (iJ (L2_91))])), (pl1, cJ cI 32 (nrA)), (pl2, cJ cI 32 (O2_92)), (pl3, cJ cZ 32 (A2_93)), (pl4, cJ cZ 32 (U2_94)), (pl5, cJ cI 32 (H2_95)), (pl6, cJ cI 132 (F2_96)), (t0, .inr (2, [.ref t1, .int (iJ (nt)), .int (iJ (qt))])), (t1, cJ cI 32 (gt))]) (st2 := [.int (iJ ((if ¬ g k = 0 ∧ fcB g n q 0 < 1000 then chP g n q 0 k else -4)))]) rfl rfl rfl ?_
              refine r_top (b := PH g n q 0 k) rfl ?_
              have K_316 : ∀ (u5 : Int), (u5 = PH g n q 0 k) → GG p_ l e_ rm_L_areStickings s_ m_ ar_ bw_ mt_ cd_ D vwCl B_ B_ s_.heap 13 0 0 Q_ [(x0, .inr (5, [.ref h0, .ref t0, .ref n0, .ref i0, .ref d0, .ref r0, .ref p0, .int (iJ (hs)), .int (iJ (rf))])), (h0, .inr (2, [.ref h1, .int (iJ (n)), .int (iJ (q))])), (h1, cJ cI 32 (g)), (d0, .inr (1, [.ref d1, .int (iJ (np))])), (d1, cJ cI 60 (gp)), (i0, .inr (0, [.ref i1, .int (iJ (m))])), (p0, .inr (3, [.ref pl1, .ref pl2, .ref pl3, .ref pl4, .ref pl5, .ref pl6, .int (iJ (L2_91))])), (pl1, cJ cI 32 (nrA)), (pl2, cJ cI 32 (O2_92)), (pl3, cJ cZ 32 (A2_93)), (pl4, cJ cZ 32 (U2_94)), (pl5, cJ cI 32 (H2_95)), (pl6, cJ cI 132 (F2_96)), (t0, .inr (2, [.ref t1, .int (iJ (nt)), .int (iJ (qt))])), (t1, cJ cI 32 (gt))] [(0, .ref x0), (1, .int (iJ (n))), (2, .int (iJ (m2))), (3, .int (iJ (m3))), (4, .int (iJ (m4))), (5, .int (iJ (m5))), (7, .int (iJ (1))), (8, .int (iJ (k))), (9, .int (iJ (b2 (¬ g k = 0))))] 316 [.int (iJ (u5)), .int (iJ (PH g n q 0 k))] := by
                intro u5 hu5
                have f_ph := PH_in (pr := 0) (j := k) hn32 hq hv
                refine r_icmp_ne E 356 dL_areStickings_316 (by decide) ⟨by omega, by omega⟩ ⟨by omega, by omega⟩ (fun c_316 => absurd c_316 (by omega)) (fun c_316 => ?_)
                refine r_aload_n E 0 dL_areStickings_319 rfl rfl ?_
                refine r_iload E 7 dL_areStickings_320 rfl ?_
                refine r_bipush E 6 rfl dL_areStickings_322 ?_
                refine r_vM E (st := []) (c_X6_stepS l D x0 h0 t0 n0 i0 d0 r0 p0 hs rf h1 cI g n q pl1 pl2 pl3 pl4 pl5 pl6 cZ L2_91 O2_92 A2_93 U2_94 H2_95 F2_96 k 6 1 (by first | assumption | omega | exact ⟨by omega, by omega⟩) (by first | assumption | omega | exact ⟨by omega, by omega⟩) (by first | assumption | omega | exact ⟨by omega, by omega⟩) (by first | assumption | omega | exact ⟨by omega, by omega⟩) (by first | assumption | omega | exact ⟨by omega, by omega⟩) (Or.inr rfl) rfl) gL_areStickings_X6_step 2 kf_X6_step ⟨rfl, rfl⟩ ⟨by decide, by decide⟩ dL_areStickings_324 rfl 0 rfl rfl rfl rfl ⟨Nat.zero_le _, Nat.zero_le _⟩ [0, 1, 2, 6, 7, 8, 9, 10, 11, 12] rfl (by decide) [0, 1] rfl (Nat.le_of_ble_eq_true rfl) [(d0, .inr (1, [.ref d1, .int (iJ (np))])), (d1, cJ cI 60 (gp)), (i0, .inr (0, [.ref i1, .int (iJ (m))])), (t0, .inr (2, [.ref t1, .int (iJ (nt)), .int (iJ (qt))])), (t1, cJ cI 32 (gt))] [3, 4, 5, 13, 14] rfl (by decide) (by decide) hA [5, 6, 7, 0, 1, 2, 8, 9, 10, 11, 12, 13, 14, 3, 4] (by decide) (fun u : Int × (Int → Int) × (Int → Int) × (Int → Int) × (Int → Int) × (Int → Int) => [(x0, .inr (5, [.ref h0, .ref t0, .ref n0, .ref i0, .ref d0, .ref r0, .ref p0, .int (iJ (hs)), .int (iJ (rf))])), (h0, .inr (2, [.ref h1, .int (iJ (n)), .int (iJ (q))])), (h1, cJ cI 32 (g)), (d0, .inr (1, [.ref d1, .int (iJ (np))])), (d1, cJ cI 60 (gp)), (i0, .inr (0, [.ref i1, .int (iJ (m))])), (p0, .inr (3, [.ref pl1, .ref pl2, .ref pl3, .ref pl4, .ref pl5, .ref pl6, .int (iJ (u.1))])), (pl1, cJ cI 32 (nrA)), (pl2, cJ cI 32 (u.2.1)), (pl3, cJ cZ 32 (u.2.2.1)), (pl4, cJ cZ 32 (u.2.2.2.1)), (pl5, cJ cI 32 (u.2.2.2.2.1)), (pl6, cJ cI 132 (u.2.2.2.2.2)), (t0, .inr (2, [.ref t1, .int (iJ (nt)), .int (iJ (qt))])), (t1, cJ cI 32 (gt))]) (fun _ => rfl) ?_
                rintro ⟨L2_98, O2_99, A2_100, U2_101, H2_102, F2_103⟩ hp_104
                refine r_cv (ws2 := [(x0, .inr (5, [.ref h0, .ref t0, .ref n0, .ref i0, .ref d0, .ref r0, .ref p0, .int (iJ (hs)), .int (iJ (rf))])), (h0, .inr (2, [.ref h1, .int (iJ (n)), .int (iJ (q))])), (h1, cJ cI 32 (g)), (d0, .inr (1, [.ref d1, .int (iJ (np))])), (d1, cJ cI 60 (gp)), (i0, .inr (0, [.ref i1, .int (iJ (m))])), (p0, .inr (3, [.ref pl1, .ref pl2, .ref pl3, .ref pl4, .ref pl5, .ref pl6, .int (iJ (L2_98))])), (pl1, cJ cI 32 (nrA)), (pl2, cJ cI 32 (O2_99)), (pl3, cJ cZ 32 (A2_100)), (pl4, cJ cZ 32 (U2_101)), (pl5, cJ cI 32 (H2_102)), (pl6, cJ cI 132 (F2_103)), (t0, .inr (2, [.ref t1, .int (iJ (nt)), .int (iJ (qt))])), (t1, cJ cI 32 (gt))]) (st2 := [.int (iJ ((if ¬ g k = 0 ∧ fcB g n q 1 < 1000 then chP g n q 1 k else -4)))]) rfl rfl rfl ?_
                refine r_top (b := PH g n q 1 k) rfl ?_
                have K_349 : ∀ (u6 : Int), (u6 = PH g n q 1 k) → GG p_ l e_ rm_L_areStickings s_ m_ ar_ bw_ mt_ cd_ D vwCl B_ B_ s_.heap 13 0 0 Q_ [(x0, .inr (5, [.ref h0, .ref t0, .ref n0, .ref i0, .ref d0, .ref r0, .ref p0, .int (iJ (hs)), .int (iJ (rf))])), (h0, .inr (2, [.ref h1, .int (iJ (n)), .int (iJ (q))])), (h1, cJ cI 32 (g)), (d0, .inr (1, [.ref d1, .int (iJ (np))])), (d1, cJ cI 60 (gp)), (i0, .inr (0, [.ref i1, .int (iJ (m))])), (p0, .inr (3, [.ref pl1, .ref pl2, .ref pl3, .ref pl4, .ref pl5, .ref pl6, .int (iJ (L2_98))])), (pl1, cJ cI 32 (nrA)), (pl2, cJ cI 32 (O2_99)), (pl3, cJ cZ 32 (A2_100)), (pl4, cJ cZ 32 (U2_101)), (pl5, cJ cI 32 (H2_102)), (pl6, cJ cI 132 (F2_103)), (t0, .inr (2, [.ref t1, .int (iJ (nt)), .int (iJ (qt))])), (t1, cJ cI 32 (gt))] [(0, .ref x0), (1, .int (iJ (n))), (2, .int (iJ (m2))), (3, .int (iJ (m3))), (4, .int (iJ (m4))), (5, .int (iJ (m5))), (7, .int (iJ (1))), (8, .int (iJ (k))), (9, .int (iJ (b2 (¬ g k = 0))))] 349 [.int (iJ (u6)), .int (iJ (PH g n q 1 k))] := by
                  intro u6 hu6
                  have f_ph := PH_in (pr := 1) (j := k) hn32 hq hv
                  refine r_icmp_ne E 356 dL_areStickings_349 (by decide) ⟨by omega, by omega⟩ ⟨by omega, by omega⟩ (fun c_349 => absurd c_349 (by omega)) (fun c_349 => ?_)
                  refine r_iconst E 1 rfl dL_areStickings_352 ?_
                  refine r_goto E 357 dL_areStickings_353 (by decide) ?_
                  refine r_istore E [(7, .int (iJ (1))), (0, .ref x0), (1, .int (iJ (n))), (2, .int (iJ (m2))), (3, .int (iJ (m3))), (4, .int (iJ (m4))), (5, .int (iJ (m5))), (8, .int (iJ (k))), (9, .int (iJ (b2 (¬ g k = 0))))] dL_areStickings_357 (by decide) rfl ?_
                  refine r_iinc E (k := 7) [(8, .int (iJ ((k + 1)))), (7, .int (iJ (1))), (0, .ref x0), (1, .int (iJ (n))), (2, .int (iJ (m2))), (3, .int (iJ (m3))), (4, .int (iJ (m4))), (5, .int (iJ (m5))), (9, .int (iJ (b2 (¬ g k = 0))))] dL_areStickings_359 rfl (by decide) rfl ?_
                  refine r_goto E 257 dL_areStickings_362 (by decide) ?_
                  refine r_lv [2, 3, 4, 5, 6, 7, 1, 0] [(0, .ref x0), (1, .int (iJ (n))), (2, .int (iJ (m2))), (3, .int (iJ (m3))), (4, .int (iJ (m4))), (5, .int (iJ (m5))), (7, .int (iJ (1))), (8, .int (iJ ((k + 1))))] rfl ?_
                  exact ih257 (k + 1) L2_98 O2_99 A2_100 U2_101 H2_102 F2_103 ⟨by omega, by omega⟩ (by omega)
                refine r_iload E 8 dL_areStickings_327 rfl ?_
                refine r_ifeq_n E 347 dL_areStickings_329 (by decide) (fun c_329 => ?_) (fun c_329 => ?_)
                · refine r_bipush E (-4) rfl dL_areStickings_347 ?_
                  refine r_lv [0, 1, 2, 3, 4, 5, 6, 7, 8] [(0, .ref x0), (1, .int (iJ (n))), (2, .int (iJ (m2))), (3, .int (iJ (m3))), (4, .int (iJ (m4))), (5, .int (iJ (m5))), (7, .int (iJ (1))), (8, .int (iJ (k))), (9, .int (iJ (b2 (¬ g k = 0))))] rfl ?_
                  exact K_349 (-4) (by
                        unfold PH
                        first
                        | (rw [if_neg (fun t => t.1 c_329)]; done)
                        | (rw [if_neg (fun t => absurd (z8.mpr t.2) (by omega))]; done)
                        | (rw [if_pos ⟨c_329, z8.mp (by omega)⟩]; exact z9 (z8.mp (by omega)) k (by omega) (by omega) c_329))
                · refine r_iload E 5 dL_areStickings_332 rfl ?_
                  refine r_if_lt E 347 dL_areStickings_334 (by decide) ⟨by omega, by omega⟩ (fun c_334 => ?_) (fun c_334 => ?_)
                  · refine r_bipush E (-4) rfl dL_areStickings_347 ?_
                    refine r_lv [0, 1, 2, 3, 4, 5, 6, 7, 8] [(0, .ref x0), (1, .int (iJ (n))), (2, .int (iJ (m2))), (3, .int (iJ (m3))), (4, .int (iJ (m4))), (5, .int (iJ (m5))), (7, .int (iJ (1))), (8, .int (iJ (k))), (9, .int (iJ (b2 (¬ g k = 0))))] rfl ?_
                    exact K_349 (-4) (by
                          unfold PH
                          first
                          | (rw [if_neg (fun t => t.1 c_329)]; done)
                          | (rw [if_neg (fun t => absurd (z8.mpr t.2) (by omega))]; done)
                          | (rw [if_pos ⟨c_329, z8.mp (by omega)⟩]; exact z9 (z8.mp (by omega)) k (by omega) (by omega) c_329))
                  · refine r_iload E 5 dL_areStickings_337 rfl ?_
                    refine r_iload E 7 dL_areStickings_339 rfl ?_
                    refine r_ishr E (m5 / p2 k) (sh_r ⟨by omega, by omega⟩ ⟨by omega, by omega⟩) dL_areStickings_341 ?_
                    refine r_iconst E 1 rfl dL_areStickings_342 ?_
                    refine r_iand E (btV m5 k) (bt_1 ⟨by omega, by omega⟩) dL_areStickings_343 ?_
                    refine r_goto E 349 dL_areStickings_344 (by decide) ?_
                    refine r_lv [0, 1, 2, 3, 4, 5, 6, 7, 8] [(0, .ref x0), (1, .int (iJ (n))), (2, .int (iJ (m2))), (3, .int (iJ (m3))), (4, .int (iJ (m4))), (5, .int (iJ (m5))), (7, .int (iJ (1))), (8, .int (iJ (k))), (9, .int (iJ (b2 (¬ g k = 0))))] rfl ?_
                    exact K_349 (btV m5 k) (by
                          unfold PH
                          first
                          | (rw [if_neg (fun t => t.1 c_329)]; done)
                          | (rw [if_neg (fun t => absurd (z8.mpr t.2) (by omega))]; done)
                          | (rw [if_pos ⟨c_329, z8.mp (by omega)⟩]; exact z9 (z8.mp (by omega)) k (by omega) (by omega) c_329))
              refine r_iload E 0 dL_areStickings_294 rfl ?_
              refine r_ifeq_n E 314 dL_areStickings_296 (by decide) (fun c_296 => ?_) (fun c_296 => ?_)
              · refine r_bipush E (-4) rfl dL_areStickings_314 ?_
                refine r_lv [1, 2, 3, 4, 5, 6, 7, 8, 0] [(0, .ref x0), (1, .int (iJ (n))), (2, .int (iJ (m2))), (3, .int (iJ (m3))), (4, .int (iJ (m4))), (5, .int (iJ (m5))), (7, .int (iJ (1))), (8, .int (iJ (k))), (9, .int (iJ (b2 (¬ g k = 0))))] rfl ?_
                exact K_316 (-4) (by
                      unfold PH
                      first
                      | (rw [if_neg (fun t => t.1 c_296)]; done)
                      | (rw [if_neg (fun t => absurd (z5.mpr t.2) (by omega))]; done)
                      | (rw [if_pos ⟨c_296, z5.mp (by omega)⟩]; exact z6 (z5.mp (by omega)) k (by omega) (by omega) c_296))
              · refine r_iload E 5 dL_areStickings_299 rfl ?_
                refine r_if_lt E 314 dL_areStickings_301 (by decide) ⟨by omega, by omega⟩ (fun c_301 => ?_) (fun c_301 => ?_)
                · refine r_bipush E (-4) rfl dL_areStickings_314 ?_
                  refine r_lv [1, 2, 3, 4, 5, 6, 7, 8, 0] [(0, .ref x0), (1, .int (iJ (n))), (2, .int (iJ (m2))), (3, .int (iJ (m3))), (4, .int (iJ (m4))), (5, .int (iJ (m5))), (7, .int (iJ (1))), (8, .int (iJ (k))), (9, .int (iJ (b2 (¬ g k = 0))))] rfl ?_
                  exact K_316 (-4) (by
                        unfold PH
                        first
                        | (rw [if_neg (fun t => t.1 c_296)]; done)
                        | (rw [if_neg (fun t => absurd (z5.mpr t.2) (by omega))]; done)
                        | (rw [if_pos ⟨c_296, z5.mp (by omega)⟩]; exact z6 (z5.mp (by omega)) k (by omega) (by omega) c_296))
                · refine r_iload E 5 dL_areStickings_304 rfl ?_
                  refine r_iload E 8 dL_areStickings_306 rfl ?_
                  refine r_ishr E (m4 / p2 k) (sh_r ⟨by omega, by omega⟩ ⟨by omega, by omega⟩) dL_areStickings_308 ?_
                  refine r_iconst E 1 rfl dL_areStickings_309 ?_
                  refine r_iand E (btV m4 k) (bt_1 ⟨by omega, by omega⟩) dL_areStickings_310 ?_
                  refine r_goto E 316 dL_areStickings_311 (by decide) ?_
                  refine r_lv [1, 2, 3, 4, 5, 6, 7, 8, 0] [(0, .ref x0), (1, .int (iJ (n))), (2, .int (iJ (m2))), (3, .int (iJ (m3))), (4, .int (iJ (m4))), (5, .int (iJ (m5))), (7, .int (iJ (1))), (8, .int (iJ (k))), (9, .int (iJ (b2 (¬ g k = 0))))] rfl ?_
                  exact K_316 (btV m4 k) (by
                        unfold PH
                        first
                        | (rw [if_neg (fun t => t.1 c_296)]; done)
                        | (rw [if_neg (fun t => absurd (z5.mpr t.2) (by omega))]; done)
                        | (rw [if_pos ⟨c_296, z5.mp (by omega)⟩]; exact z6 (z5.mp (by omega)) k (by omega) (by omega) c_296))
        refine r_lv [2, 3, 4, 5, 6, 7, 1, 0] [(0, .ref x0), (1, .int (iJ (n))), (2, .int (iJ (m2))), (3, .int (iJ (m3))), (4, .int (iJ (m4))), (5, .int (iJ (m5))), (7, .int (iJ (1))), (8, .int (iJ (0)))] rfl ?_
        exact loop_257 _ 0 L2_22 O2_23 A2_24 U2_25 H2_26 F2_27 ⟨by omega, by omega⟩ (Nat.lt_succ_self _)
      · refine r_iconst E 0 rfl dL_areStickings_30 ?_
        refine r_istore E [(8, .int (iJ (0))), (0, .ref x0), (1, .int (iJ (n))), (2, .int (iJ (m2))), (3, .int (iJ (m3))), (4, .int (iJ (m4))), (5, .int (iJ (m5))), (6, .int (iJ (m6))), (7, .int (iJ (k)))] dL_areStickings_31 (by decide) rfl ?_
        refine r_iconst E 1 rfl dL_areStickings_33 ?_
        refine r_istore E [(9, .int (iJ (1))), (8, .int (iJ (0))), (0, .ref x0), (1, .int (iJ (n))), (2, .int (iJ (m2))), (3, .int (iJ (m3))), (4, .int (iJ (m4))), (5, .int (iJ (m5))), (6, .int (iJ (m6))), (7, .int (iJ (k)))] dL_areStickings_34 (by decide) rfl ?_
        refine r_iconst E 0 rfl dL_areStickings_36 ?_
        refine r_istore E [(10, .int (iJ (0))), (9, .int (iJ (1))), (8, .int (iJ (0))), (0, .ref x0), (1, .int (iJ (n))), (2, .int (iJ (m2))), (3, .int (iJ (m3))), (4, .int (iJ (m4))), (5, .int (iJ (m5))), (6, .int (iJ (m6))), (7, .int (iJ (k)))] dL_areStickings_37 (by decide) rfl ?_
        have loop_39 : ∀ (N : Nat) (j : Int) (x : Int) (y : Int), (0 ≤ j ∧ j ≤ n) → (x = onN g (hkV n k) j.toNat) → (y = mkN (hkV n k) j.toNat) → (n - j).toNat < N → GG p_ l e_ rm_L_areStickings s_ m_ ar_ bw_ mt_ cd_ D vwCl B_ B_ s_.heap 13 0 0 Q_ [(x0, .inr (5, [.ref h0, .ref t0, .ref n0, .ref i0, .ref d0, .ref r0, .ref p0, .int (iJ (hs)), .int (iJ (rf))])), (h0, .inr (2, [.ref h1, .int (iJ (n)), .int (iJ (q))])), (h1, cJ cI 32 (g)), (d0, .inr (1, [.ref d1, .int (iJ (np))])), (d1, cJ cI 60 (gp)), (i0, .inr (0, [.ref i1, .int (iJ (m))])), (p0, .inr (3, [.ref pl1, .ref pl2, .ref pl3, .ref pl4, .ref pl5, .ref pl6, .int (iJ (L))])), (pl1, cJ cI 32 (nrA)), (pl2, cJ cI 32 (ow)), (pl3, cJ cZ 32 (cA)), (pl4, cJ cZ 32 (cU)), (pl5, cJ cI 32 (hd)), (pl6, cJ cI 132 (fw)), (t0, .inr (2, [.ref t1, .int (iJ (nt)), .int (iJ (qt))])), (t1, cJ cI 32 (gt))] [(0, .ref x0), (1, .int (iJ (n))), (2, .int (iJ (m2))), (3, .int (iJ (m3))), (4, .int (iJ (m4))), (5, .int (iJ (m5))), (6, .int (iJ (m6))), (7, .int (iJ (k))), (8, .int (iJ (y))), (9, .int (iJ (x))), (10, .int (iJ (j)))] 39 [] := by
          intro N; induction N with
          | zero => intro j x y hj hx hy hN; exact absurd hN (Nat.not_lt_zero _)
          | succ N ih39 =>
            intro j x y hj hx hy hN
            refine r_iload E 10 dL_areStickings_39 rfl ?_
            refine r_iload_n E 1 dL_areStickings_41 rfl rfl ?_
            refine r_icmp_ge E 123 dL_areStickings_42 (by decide) ⟨by omega, by omega⟩ ⟨by omega, by omega⟩ (fun c_42 => ?_) (fun c_42 => ?_)
            · have e_j : j = n := by omega
              have hx2 : x = onN g (hkV n k) n.toNat := by rw [hx, e_j]
              have hy2 : y = mkN (hkV n k) n.toNat := by rw [hy, e_j]
              have f_y := mkN_in (f := hkV n k) (fun j => hkV_01 n k j) n.toNat
              rw [Int.toNat_of_nonneg hn.1, ← hy2] at f_y
              have f_x := onN_01 g (hkV n k) n.toNat
              rw [← hx2] at f_x
              have f_c0 : caV g n q (hkV n k) 0 = 0 ∨ caV g n q (hkV n k) 0 = 1 := caN_01 g n q (hkV n k) 0 n.toNat 0
              have f_c1 : caV g n q (hkV n k) 1 = 0 ∨ caV g n q (hkV n k) 1 = 1 := caN_01 g n q (hkV n k) 1 n.toNat 0
              have f_r : 0 ≤ rpV g n (hkV n k) ∧ rpV g n (hkV n k) ≤ n.toNat := rpS_in g (hkV n k) n.toNat
              refine r_iload E 9 dL_areStickings_123 rfl ?_
              refine r_if_eq E 201 dL_areStickings_125 (by decide) ⟨by omega, by omega⟩ (fun c_125 => ?_) (fun c_125 => ?_)
              · refine r_iinc E (k := 7) [(7, .int (iJ ((k + 1)))), (0, .ref x0), (1, .int (iJ (n))), (2, .int (iJ (m2))), (3, .int (iJ (m3))), (4, .int (iJ (m4))), (5, .int (iJ (m5))), (6, .int (iJ (m6))), (8, .int (iJ (y))), (9, .int (iJ (x))), (10, .int (iJ (j)))] dL_areStickings_201 rfl (by decide) rfl ?_
                refine r_goto E 22 dL_areStickings_204 (by decide) ?_
                refine r_lv [1, 2, 3, 4, 5, 6, 7, 0] [(0, .ref x0), (1, .int (iJ (n))), (2, .int (iJ (m2))), (3, .int (iJ (m3))), (4, .int (iJ (m4))), (5, .int (iJ (m5))), (6, .int (iJ (m6))), (7, .int (iJ ((k + 1))))] rfl ?_
                exact ih22 (k + 1) m2 m3 m4 m5 m6 ⟨by omega, by omega⟩ (by
                      rw [arN_s g n q (show 0 ≤ k by omega)]
                      first
                      | (rw [if_neg (fun t : arP g n q k => t.1 (by rw [← hx2]; exact c_125))]; exact hAr)
                      | (rw [if_neg (fun t : arP g n q k => t.2 c_135)]; exact hAr)) (by omega)
              · refine r_aload_n E 0 dL_areStickings_128 rfl rfl ?_
                refine r_iload E 8 dL_areStickings_129 rfl ?_
                refine r_iconst E 0 rfl dL_areStickings_131 ?_
                refine r_sP E (st := []) (c_L_can l D x0 h0 t0 n0 i0 d0 r0 p0 hs rf h1 cI g n q d1 gp np i1 m y 0 (by first | assumption | omega | exact ⟨by omega, by omega⟩) (by first | assumption | omega | exact ⟨by omega, by omega⟩) (by first | assumption | omega | exact ⟨by omega, by omega⟩) ⟨by omega, by omega⟩ (Or.inl rfl)) gL_areStickings_L_can 3 kf_L_can ⟨rfl, rfl⟩ ⟨by decide, by decide⟩ dL_areStickings_132 rfl rfl ⟨Nat.zero_le _, Nat.zero_le _⟩ [0, 1, 2, 3, 4, 5] rfl (by decide) [0] rfl (Nat.le_of_ble_eq_true rfl) ?_
                refine r_top (b := (caV g n q (hkV n k) 0)) (by rw [hy2]; exact ca_mk (Int.toNat_of_nonneg hn.1)) ?_
                refine r_if_eq E 201 dL_areStickings_135 (by decide) ⟨by omega, by omega⟩ (fun c_135 => ?_) (fun c_135 => ?_)
                · refine r_iinc E (k := 7) [(7, .int (iJ ((k + 1)))), (0, .ref x0), (1, .int (iJ (n))), (2, .int (iJ (m2))), (3, .int (iJ (m3))), (4, .int (iJ (m4))), (5, .int (iJ (m5))), (6, .int (iJ (m6))), (8, .int (iJ (y))), (9, .int (iJ (x))), (10, .int (iJ (j)))] dL_areStickings_201 rfl (by decide) rfl ?_
                  refine r_goto E 22 dL_areStickings_204 (by decide) ?_
                  refine r_lv [1, 2, 3, 4, 5, 6, 7, 0] [(0, .ref x0), (1, .int (iJ (n))), (2, .int (iJ (m2))), (3, .int (iJ (m3))), (4, .int (iJ (m4))), (5, .int (iJ (m5))), (6, .int (iJ (m6))), (7, .int (iJ ((k + 1))))] rfl ?_
                  exact ih22 (k + 1) m2 m3 m4 m5 m6 ⟨by omega, by omega⟩ (by
                        rw [arN_s g n q (show 0 ≤ k by omega)]
                        first
                        | (rw [if_neg (fun t : arP g n q k => t.1 (by rw [← hx2]; exact c_125))]; exact hAr)
                        | (rw [if_neg (fun t : arP g n q k => t.2 c_135)]; exact hAr)) (by omega)
                · refine r_iinc E (k := 2) [(2, .int (iJ ((m2 + 1)))), (0, .ref x0), (1, .int (iJ (n))), (3, .int (iJ (m3))), (4, .int (iJ (m4))), (5, .int (iJ (m5))), (6, .int (iJ (m6))), (7, .int (iJ (k))), (8, .int (iJ (y))), (9, .int (iJ (x))), (10, .int (iJ (j)))] dL_areStickings_138 rfl (by decide) rfl ?_
                  refine r_iload_n E 3 dL_areStickings_141 rfl rfl ?_
                  refine r_aload_n E 1 dL_areStickings_142 rfl rfl ?_
                  refine r_iload E 8 dL_areStickings_143 rfl ?_
                  refine r_iconst E 1 rfl dL_areStickings_145 ?_
                  refine r_sP E (st := [.int (iJ (m3))]) (c_L_can l D x0 h0 t0 n0 i0 d0 r0 p0 hs rf h1 cI g n q d1 gp np i1 m y 1 (by first | assumption | omega | exact ⟨by omega, by omega⟩) (by first | assumption | omega | exact ⟨by omega, by omega⟩) (by first | assumption | omega | exact ⟨by omega, by omega⟩) ⟨by omega, by omega⟩ (Or.inr rfl)) gL_areStickings_L_can 3 kf_L_can ⟨rfl, rfl⟩ ⟨by decide, by decide⟩ dL_areStickings_146 rfl rfl ⟨Nat.zero_le _, Nat.zero_le _⟩ [0, 1, 2, 3, 4, 5] rfl (by decide) [0] rfl (Nat.le_of_ble_eq_true rfl) ?_
                  refine r_top (b := (caV g n q (hkV n k) 1)) (by rw [hy2]; exact ca_mk (Int.toNat_of_nonneg hn.1)) ?_
                  refine r_dm_eq E dL_areStickings_149 dL_areStickings_152 dL_areStickings_153 dL_areStickings_156 ⟨by omega, by omega⟩ ?_
                  refine r_top (b := (caV g n q (hkV n k) 1)) (by rcases f_c1 with z | z <;> first | (rw [b2_f (fun t => t z), z]; done) | (rw [b2_t (show ¬ caV g n q (hkV n k) 1 = 0 by omega), z]; done)) ?_
                  refine r_iadd E dL_areStickings_157 ?_
                  refine r_istore_n E [(3, .int (iJ ((m3 + (caV g n q (hkV n k) 1))))), (2, .int (iJ ((m2 + 1)))), (0, .ref x0), (1, .int (iJ (n))), (4, .int (iJ (m4))), (5, .int (iJ (m5))), (6, .int (iJ (m6))), (7, .int (iJ (k))), (8, .int (iJ (y))), (9, .int (iJ (x))), (10, .int (iJ (j)))] dL_areStickings_158 rfl (by decide) rfl ?_
                  have K_171 : ∀ (u4 : Int), (u4 = (if m4 < 0 then y else m4)) → GG p_ l e_ rm_L_areStickings s_ m_ ar_ bw_ mt_ cd_ D vwCl B_ B_ s_.heap 13 0 0 Q_ [(x0, .inr (5, [.ref h0, .ref t0, .ref n0, .ref i0, .ref d0, .ref r0, .ref p0, .int (iJ (hs)), .int (iJ (rf))])), (h0, .inr (2, [.ref h1, .int (iJ (n)), .int (iJ (q))])), (h1, cJ cI 32 (g)), (d0, .inr (1, [.ref d1, .int (iJ (np))])), (d1, cJ cI 60 (gp)), (i0, .inr (0, [.ref i1, .int (iJ (m))])), (p0, .inr (3, [.ref pl1, .ref pl2, .ref pl3, .ref pl4, .ref pl5, .ref pl6, .int (iJ (L))])), (pl1, cJ cI 32 (nrA)), (pl2, cJ cI 32 (ow)), (pl3, cJ cZ 32 (cA)), (pl4, cJ cZ 32 (cU)), (pl5, cJ cI 32 (hd)), (pl6, cJ cI 132 (fw)), (t0, .inr (2, [.ref t1, .int (iJ (nt)), .int (iJ (qt))])), (t1, cJ cI 32 (gt))] [(0, .ref x0), (1, .int (iJ (n))), (2, .int (iJ ((m2 + 1)))), (3, .int (iJ ((m3 + (caV g n q (hkV n k) 1))))), (4, .int (iJ (m4))), (5, .int (iJ (m5))), (6, .int (iJ (m6))), (7, .int (iJ (k))), (8, .int (iJ (y))), (9, .int (iJ (x))), (10, .int (iJ (j)))] 171 [.int (iJ (u4))] := by
                    intro u4 hu4
                    refine r_istore E [(4, .int (iJ (u4))), (0, .ref x0), (1, .int (iJ (n))), (2, .int (iJ ((m2 + 1)))), (3, .int (iJ ((m3 + (caV g n q (hkV n k) 1))))), (5, .int (iJ (m5))), (6, .int (iJ (m6))), (7, .int (iJ (k))), (8, .int (iJ (y))), (9, .int (iJ (x))), (10, .int (iJ (j)))] dL_areStickings_171 (by decide) rfl ?_
                    refine r_iload E 5 dL_areStickings_173 rfl ?_
                    refine r_if_lt E 189 dL_areStickings_175 (by decide) ⟨by omega, by omega⟩ (fun c_175 => ?_) (fun c_175 => ?_)
                    · refine r_iload E 8 dL_areStickings_189 rfl ?_
                      refine r_istore E [(5, .int (iJ (y))), (4, .int (iJ (u4))), (0, .ref x0), (1, .int (iJ (n))), (2, .int (iJ ((m2 + 1)))), (3, .int (iJ ((m3 + (caV g n q (hkV n k) 1))))), (6, .int (iJ (m6))), (7, .int (iJ (k))), (8, .int (iJ (y))), (9, .int (iJ (x))), (10, .int (iJ (j)))] dL_areStickings_191 (by decide) rfl ?_
                      refine r_aload_n E 2 dL_areStickings_193 rfl rfl ?_
                      refine r_iload E 8 dL_areStickings_194 rfl ?_
                      refine r_sP E (st := []) (c_L_repeated l D x0 h0 t0 n0 i0 d0 r0 p0 hs rf h1 cI g n q d1 gp np i1 m y (by first | assumption | omega | exact ⟨by omega, by omega⟩) (by first | assumption | omega | exact ⟨by omega, by omega⟩) (by first | assumption | omega | exact ⟨by omega, by omega⟩) ⟨by omega, by omega⟩) gL_areStickings_L_repeated 2 kf_L_repeated ⟨rfl, rfl⟩ ⟨by decide, by decide⟩ dL_areStickings_196 rfl rfl ⟨Nat.zero_le _, Nat.zero_le _⟩ [0, 1, 2, 3, 4, 5] rfl (by decide) [0] rfl (Nat.le_of_ble_eq_true rfl) ?_
                      refine r_top (b := (rpV g n (hkV n k))) (by rw [hy2]; exact rp_mk (Int.toNat_of_nonneg hn.1)) ?_
                      refine r_istore E [(6, .int (iJ ((rpV g n (hkV n k))))), (5, .int (iJ (y))), (4, .int (iJ (u4))), (0, .ref x0), (1, .int (iJ (n))), (2, .int (iJ ((m2 + 1)))), (3, .int (iJ ((m3 + (caV g n q (hkV n k) 1))))), (7, .int (iJ (k))), (8, .int (iJ (y))), (9, .int (iJ (x))), (10, .int (iJ (j)))] dL_areStickings_199 (by decide) rfl ?_
                      refine r_iinc E (k := 7) [(7, .int (iJ ((k + 1)))), (6, .int (iJ ((rpV g n (hkV n k))))), (5, .int (iJ (y))), (4, .int (iJ (u4))), (0, .ref x0), (1, .int (iJ (n))), (2, .int (iJ ((m2 + 1)))), (3, .int (iJ ((m3 + (caV g n q (hkV n k) 1))))), (8, .int (iJ (y))), (9, .int (iJ (x))), (10, .int (iJ (j)))] dL_areStickings_201 rfl (by decide) rfl ?_
                      refine r_goto E 22 dL_areStickings_204 (by decide) ?_
                      refine r_lv [4, 5, 6, 7, 3, 2, 1, 0] [(0, .ref x0), (1, .int (iJ (n))), (2, .int (iJ ((m2 + 1)))), (3, .int (iJ ((m3 + (caV g n q (hkV n k) 1))))), (4, .int (iJ (u4))), (5, .int (iJ (y))), (6, .int (iJ ((rpV g n (hkV n k))))), (7, .int (iJ ((k + 1))))] rfl ?_
                      exact ih22 (k + 1) (m2 + 1) (m3 + (caV g n q (hkV n k) 1)) u4 y (rpV g n (hkV n k)) ⟨by omega, by omega⟩ (by
                            rw [arN_s g n q (show 0 ≤ k by omega), if_pos (show arP g n q k from ⟨by rw [← hx2]; exact c_125, c_135⟩), ← hAr]
                            dsimp only
                            rw [← hy2, ← hu4]
                            rw [if_pos (show m5 < 0 ∨ rpV g n (hkV n k) < m6 by omega), if_pos (show m5 < 0 ∨ rpV g n (hkV n k) < m6 by omega)]) (by omega)
                    · refine r_aload_n E 1 dL_areStickings_178 rfl rfl ?_
                      refine r_iload E 8 dL_areStickings_179 rfl ?_
                      refine r_sP E (st := []) (c_L_repeated l D x0 h0 t0 n0 i0 d0 r0 p0 hs rf h1 cI g n q d1 gp np i1 m y (by first | assumption | omega | exact ⟨by omega, by omega⟩) (by first | assumption | omega | exact ⟨by omega, by omega⟩) (by first | assumption | omega | exact ⟨by omega, by omega⟩) ⟨by omega, by omega⟩) gL_areStickings_L_repeated 2 kf_L_repeated ⟨rfl, rfl⟩ ⟨by decide, by decide⟩ dL_areStickings_181 rfl rfl ⟨Nat.zero_le _, Nat.zero_le _⟩ [0, 1, 2, 3, 4, 5] rfl (by decide) [0] rfl (Nat.le_of_ble_eq_true rfl) ?_
                      refine r_top (b := (rpV g n (hkV n k))) (by rw [hy2]; exact rp_mk (Int.toNat_of_nonneg hn.1)) ?_
                      refine r_iload E 6 dL_areStickings_184 rfl ?_
                      refine r_icmp_ge E 201 dL_areStickings_186 (by decide) ⟨by omega, by omega⟩ ⟨by omega, by omega⟩ (fun c_186 => ?_) (fun c_186 => ?_)
                      · refine r_iinc E (k := 7) [(7, .int (iJ ((k + 1)))), (4, .int (iJ (u4))), (0, .ref x0), (1, .int (iJ (n))), (2, .int (iJ ((m2 + 1)))), (3, .int (iJ ((m3 + (caV g n q (hkV n k) 1))))), (5, .int (iJ (m5))), (6, .int (iJ (m6))), (8, .int (iJ (y))), (9, .int (iJ (x))), (10, .int (iJ (j)))] dL_areStickings_201 rfl (by decide) rfl ?_
                        refine r_goto E 22 dL_areStickings_204 (by decide) ?_
                        refine r_lv [2, 3, 4, 5, 1, 6, 7, 0] [(0, .ref x0), (1, .int (iJ (n))), (2, .int (iJ ((m2 + 1)))), (3, .int (iJ ((m3 + (caV g n q (hkV n k) 1))))), (4, .int (iJ (u4))), (5, .int (iJ (m5))), (6, .int (iJ (m6))), (7, .int (iJ ((k + 1))))] rfl ?_
                        exact ih22 (k + 1) (m2 + 1) (m3 + (caV g n q (hkV n k) 1)) u4 m5 m6 ⟨by omega, by omega⟩ (by
                              rw [arN_s g n q (show 0 ≤ k by omega), if_pos (show arP g n q k from ⟨by rw [← hx2]; exact c_125, c_135⟩), ← hAr]
                              dsimp only
                              rw [← hy2, ← hu4]
                              rw [if_neg (show ¬ (m5 < 0 ∨ rpV g n (hkV n k) < m6) by omega), if_neg (show ¬ (m5 < 0 ∨ rpV g n (hkV n k) < m6) by omega)]) (by omega)
                      · refine r_iload E 8 dL_areStickings_189 rfl ?_
                        refine r_istore E [(5, .int (iJ (y))), (4, .int (iJ (u4))), (0, .ref x0), (1, .int (iJ (n))), (2, .int (iJ ((m2 + 1)))), (3, .int (iJ ((m3 + (caV g n q (hkV n k) 1))))), (6, .int (iJ (m6))), (7, .int (iJ (k))), (8, .int (iJ (y))), (9, .int (iJ (x))), (10, .int (iJ (j)))] dL_areStickings_191 (by decide) rfl ?_
                        refine r_aload_n E 2 dL_areStickings_193 rfl rfl ?_
                        refine r_iload E 8 dL_areStickings_194 rfl ?_
                        refine r_sP E (st := []) (c_L_repeated l D x0 h0 t0 n0 i0 d0 r0 p0 hs rf h1 cI g n q d1 gp np i1 m y (by first | assumption | omega | exact ⟨by omega, by omega⟩) (by first | assumption | omega | exact ⟨by omega, by omega⟩) (by first | assumption | omega | exact ⟨by omega, by omega⟩) ⟨by omega, by omega⟩) gL_areStickings_L_repeated 2 kf_L_repeated ⟨rfl, rfl⟩ ⟨by decide, by decide⟩ dL_areStickings_196 rfl rfl ⟨Nat.zero_le _, Nat.zero_le _⟩ [0, 1, 2, 3, 4, 5] rfl (by decide) [0] rfl (Nat.le_of_ble_eq_true rfl) ?_
                        refine r_top (b := (rpV g n (hkV n k))) (by rw [hy2]; exact rp_mk (Int.toNat_of_nonneg hn.1)) ?_
                        refine r_istore E [(6, .int (iJ ((rpV g n (hkV n k))))), (5, .int (iJ (y))), (4, .int (iJ (u4))), (0, .ref x0), (1, .int (iJ (n))), (2, .int (iJ ((m2 + 1)))), (3, .int (iJ ((m3 + (caV g n q (hkV n k) 1))))), (7, .int (iJ (k))), (8, .int (iJ (y))), (9, .int (iJ (x))), (10, .int (iJ (j)))] dL_areStickings_199 (by decide) rfl ?_
                        refine r_iinc E (k := 7) [(7, .int (iJ ((k + 1)))), (6, .int (iJ ((rpV g n (hkV n k))))), (5, .int (iJ (y))), (4, .int (iJ (u4))), (0, .ref x0), (1, .int (iJ (n))), (2, .int (iJ ((m2 + 1)))), (3, .int (iJ ((m3 + (caV g n q (hkV n k) 1))))), (8, .int (iJ (y))), (9, .int (iJ (x))), (10, .int (iJ (j)))] dL_areStickings_201 rfl (by decide) rfl ?_
                        refine r_goto E 22 dL_areStickings_204 (by decide) ?_
                        refine r_lv [4, 5, 6, 7, 3, 2, 1, 0] [(0, .ref x0), (1, .int (iJ (n))), (2, .int (iJ ((m2 + 1)))), (3, .int (iJ ((m3 + (caV g n q (hkV n k) 1))))), (4, .int (iJ (u4))), (5, .int (iJ (y))), (6, .int (iJ ((rpV g n (hkV n k))))), (7, .int (iJ ((k + 1))))] rfl ?_
                        exact ih22 (k + 1) (m2 + 1) (m3 + (caV g n q (hkV n k) 1)) u4 y (rpV g n (hkV n k)) ⟨by omega, by omega⟩ (by
                              rw [arN_s g n q (show 0 ≤ k by omega), if_pos (show arP g n q k from ⟨by rw [← hx2]; exact c_125, c_135⟩), ← hAr]
                              dsimp only
                              rw [← hy2, ← hu4]
                              rw [if_pos (show m5 < 0 ∨ rpV g n (hkV n k) < m6 by omega), if_pos (show m5 < 0 ∨ rpV g n (hkV n k) < m6 by omega)]) (by omega)
                  refine r_iload E 4 dL_areStickings_159 rfl ?_
                  refine r_if_ge E 169 dL_areStickings_161 (by decide) ⟨by omega, by omega⟩ (fun c_161 => ?_) (fun c_161 => ?_)
                  · refine r_iload E 4 dL_areStickings_169 rfl ?_
                    refine r_lv [2, 3, 1, 0, 4, 5, 6, 7, 8, 9, 10] [(0, .ref x0), (1, .int (iJ (n))), (2, .int (iJ ((m2 + 1)))), (3, .int (iJ ((m3 + (caV g n q (hkV n k) 1))))), (4, .int (iJ (m4))), (5, .int (iJ (m5))), (6, .int (iJ (m6))), (7, .int (iJ (k))), (8, .int (iJ (y))), (9, .int (iJ (x))), (10, .int (iJ (j)))] rfl ?_
                    exact K_171 m4 (by first | (rw [if_pos (by omega)]; done) | (rw [if_neg (by omega)]; done))
                  · refine r_iload E 8 dL_areStickings_164 rfl ?_
                    refine r_goto E 171 dL_areStickings_166 (by decide) ?_
                    refine r_lv [2, 3, 1, 0, 4, 5, 6, 7, 8, 9, 10] [(0, .ref x0), (1, .int (iJ (n))), (2, .int (iJ ((m2 + 1)))), (3, .int (iJ ((m3 + (caV g n q (hkV n k) 1))))), (4, .int (iJ (m4))), (5, .int (iJ (m5))), (6, .int (iJ (m6))), (7, .int (iJ (k))), (8, .int (iJ (y))), (9, .int (iJ (x))), (10, .int (iJ (j)))] rfl ?_
                    exact K_171 y (by first | (rw [if_pos (by omega)]; done) | (rw [if_neg (by omega)]; done))
            · refine r_iload E 7 dL_areStickings_45 rfl ?_
              refine r_iload_n E 1 dL_areStickings_47 rfl rfl ?_
              refine r_iconst E 1 rfl dL_areStickings_48 ?_
              refine r_isub E dL_areStickings_49 ?_
              refine r_iload E 10 dL_areStickings_50 rfl ?_
              refine r_isub E dL_areStickings_52 ?_
              refine r_ishr E (k / p2 (n - 1 - j)) (sh_r ⟨by omega, by omega⟩ ⟨by omega, by omega⟩) dL_areStickings_53 ?_
              refine r_iconst E 1 rfl dL_areStickings_54 ?_
              refine r_iand E (hkV n k j) (iJ_and (dv_in ⟨by omega, by omega⟩) (iJ 1) 1 2 (by decide) rfl) dL_areStickings_55 ?_
              refine r_istore E [(11, .int (iJ ((hkV n k j)))), (0, .ref x0), (1, .int (iJ (n))), (2, .int (iJ (m2))), (3, .int (iJ (m3))), (4, .int (iJ (m4))), (5, .int (iJ (m5))), (6, .int (iJ (m6))), (7, .int (iJ (k))), (8, .int (iJ (y))), (9, .int (iJ (x))), (10, .int (iJ (j)))] dL_areStickings_56 (by decide) rfl ?_
              have f_h := hkV_01 n k j
              refine r_aload_n E 1 dL_areStickings_58 rfl rfl ?_
              refine r_iload E 11 dL_areStickings_59 rfl ?_
              refine r_iconst E 0 rfl dL_areStickings_61 ?_
              refine r_vP E (st := []) (c_X6_stepR l D x0 h0 t0 n0 i0 d0 r0 p0 hs rf h1 cI g n q j 0 (by first | assumption | omega | exact ⟨by omega, by omega⟩) (by first | assumption | omega | exact ⟨by omega, by omega⟩) (by first | assumption | omega | exact ⟨by omega, by omega⟩) (by first | assumption | omega | exact ⟨by omega, by omega⟩) (by first | assumption | omega | exact ⟨by omega, by omega⟩)) gL_areStickings_X6_step 2 kf_X6_step ⟨rfl, rfl⟩ ⟨by decide, by decide⟩ dL_areStickings_62 rfl 0 rfl rfl rfl rfl ⟨Nat.zero_le _, Nat.zero_le _⟩ [0, 1, 2] rfl (by decide) [0] rfl (Nat.le_of_ble_eq_true rfl) ?_
              refine r_top (b := ohV (g j)) rfl ?_
              have f_o := ohV_in (g j)
              have f_h := hkV_01 n k j
              have f_x := onN_01 g (hkV n k) j.toNat
              rw [← hx] at f_x
              refine r_istore E [(12, .int (iJ (ohV (g j)))), (11, .int (iJ ((hkV n k j)))), (0, .ref x0), (1, .int (iJ (n))), (2, .int (iJ (m2))), (3, .int (iJ (m3))), (4, .int (iJ (m4))), (5, .int (iJ (m5))), (6, .int (iJ (m6))), (7, .int (iJ (k))), (8, .int (iJ (y))), (9, .int (iJ (x))), (10, .int (iJ (j)))] dL_areStickings_65 (by decide) rfl ?_
              have K_105 : ∀ (u : Int), (u = onN g (hkV n k) (j + 1).toNat) → GG p_ l e_ rm_L_areStickings s_ m_ ar_ bw_ mt_ cd_ D vwCl B_ B_ s_.heap 13 0 0 Q_ [(x0, .inr (5, [.ref h0, .ref t0, .ref n0, .ref i0, .ref d0, .ref r0, .ref p0, .int (iJ (hs)), .int (iJ (rf))])), (h0, .inr (2, [.ref h1, .int (iJ (n)), .int (iJ (q))])), (h1, cJ cI 32 (g)), (d0, .inr (1, [.ref d1, .int (iJ (np))])), (d1, cJ cI 60 (gp)), (i0, .inr (0, [.ref i1, .int (iJ (m))])), (p0, .inr (3, [.ref pl1, .ref pl2, .ref pl3, .ref pl4, .ref pl5, .ref pl6, .int (iJ (L))])), (pl1, cJ cI 32 (nrA)), (pl2, cJ cI 32 (ow)), (pl3, cJ cZ 32 (cA)), (pl4, cJ cZ 32 (cU)), (pl5, cJ cI 32 (hd)), (pl6, cJ cI 132 (fw)), (t0, .inr (2, [.ref t1, .int (iJ (nt)), .int (iJ (qt))])), (t1, cJ cI 32 (gt))] [(0, .ref x0), (1, .int (iJ (n))), (2, .int (iJ (m2))), (3, .int (iJ (m3))), (4, .int (iJ (m4))), (5, .int (iJ (m5))), (6, .int (iJ (m6))), (7, .int (iJ (k))), (8, .int (iJ (y))), (9, .int (iJ (x))), (10, .int (iJ (j))), (11, .int (iJ ((hkV n k j)))), (12, .int (iJ (ohV (g j))))] 105 [.int (iJ (u))] := by
                intro u hu
                refine r_istore E [(9, .int (iJ (u))), (0, .ref x0), (1, .int (iJ (n))), (2, .int (iJ (m2))), (3, .int (iJ (m3))), (4, .int (iJ (m4))), (5, .int (iJ (m5))), (6, .int (iJ (m6))), (7, .int (iJ (k))), (8, .int (iJ (y))), (10, .int (iJ (j))), (11, .int (iJ ((hkV n k j)))), (12, .int (iJ (ohV (g j))))] dL_areStickings_105 (by decide) rfl ?_
                have f_h := hkV_01 n k j
                have f_m : 0 ≤ y ∧ y < p2 j := by
                      have t := mkN_in (f := hkV n k) (fun j => hkV_01 n k j) j.toNat
                      rw [Int.toNat_of_nonneg (by omega), ← hy] at t; exact t
                refine r_iload E 9 dL_areStickings_107 rfl ?_
                refine r_iload E 11 dL_areStickings_109 rfl ?_
                refine r_iload E 10 dL_areStickings_111 rfl ?_
                refine r_ishl E (hkV n k j * p2 j) (sh_1 (hkV_01 n k j) ⟨by omega, by omega⟩) dL_areStickings_113 ?_
                refine r_ior E (y + hkV n k j * p2 j) (or_b ⟨by omega, by omega⟩ f_m (hkV_01 n k j)) dL_areStickings_114 ?_
                refine r_istore E [(8, .int (iJ ((y + hkV n k j * p2 j)))), (9, .int (iJ (u))), (0, .ref x0), (1, .int (iJ (n))), (2, .int (iJ (m2))), (3, .int (iJ (m3))), (4, .int (iJ (m4))), (5, .int (iJ (m5))), (6, .int (iJ (m6))), (7, .int (iJ (k))), (10, .int (iJ (j))), (11, .int (iJ ((hkV n k j)))), (12, .int (iJ (ohV (g j))))] dL_areStickings_115 (by decide) rfl ?_
                refine r_iinc E (k := 10) [(10, .int (iJ ((j + 1)))), (8, .int (iJ ((y + hkV n k j * p2 j)))), (9, .int (iJ (u))), (0, .ref x0), (1, .int (iJ (n))), (2, .int (iJ (m2))), (3, .int (iJ (m3))), (4, .int (iJ (m4))), (5, .int (iJ (m5))), (6, .int (iJ (m6))), (7, .int (iJ (k))), (11, .int (iJ ((hkV n k j)))), (12, .int (iJ (ohV (g j))))] dL_areStickings_117 rfl (by decide) rfl ?_
                refine r_goto E 39 dL_areStickings_120 (by decide) ?_
                refine r_lv [3, 4, 5, 6, 7, 8, 9, 10, 1, 2, 0] [(0, .ref x0), (1, .int (iJ (n))), (2, .int (iJ (m2))), (3, .int (iJ (m3))), (4, .int (iJ (m4))), (5, .int (iJ (m5))), (6, .int (iJ (m6))), (7, .int (iJ (k))), (8, .int (iJ ((y + hkV n k j * p2 j)))), (9, .int (iJ (u))), (10, .int (iJ ((j + 1))))] rfl ?_
                exact ih39 (j + 1) u (y + hkV n k j * p2 j) ⟨by omega, by omega⟩ hu (by rw [mkN_s _ (by omega), ← hy]) (by omega)
              refine r_iload E 11 dL_areStickings_67 rfl ?_
              refine r_if_eq E 104 dL_areStickings_69 (by decide) ⟨by omega, by omega⟩ (fun c_69 => ?_) (fun c_69 => ?_)
              · refine r_iconst E 0 rfl dL_areStickings_104 ?_
                refine r_lv [2, 3, 4, 5, 6, 7, 8, 9, 10, 11, 12, 1, 0] [(0, .ref x0), (1, .int (iJ (n))), (2, .int (iJ (m2))), (3, .int (iJ (m3))), (4, .int (iJ (m4))), (5, .int (iJ (m5))), (6, .int (iJ (m6))), (7, .int (iJ (k))), (8, .int (iJ (y))), (9, .int (iJ (x))), (10, .int (iJ (j))), (11, .int (iJ ((hkV n k j)))), (12, .int (iJ (ohV (g j))))] rfl ?_
                exact K_105 0 (by
                      rw [onN_s g (hkV n k) (show 0 ≤ j by omega), ← hx]
                      first
                      | (rw [if_pos (show ¬ x = 0 ∧ ((g j = 0 ∧ hkV n k j = 0) ∨ (¬ g j = 0 ∧ (g j / 2 % 4 = 2 ∨ g j / 2 % 4 = hkV n k j))) by omega)]; done)
                      | (rw [if_neg (show ¬ (¬ x = 0 ∧ ((g j = 0 ∧ hkV n k j = 0) ∨ (¬ g j = 0 ∧ (g j / 2 % 4 = 2 ∨ g j / 2 % 4 = hkV n k j)))) by omega)]; done))
              · refine r_iload E 0 dL_areStickings_72 rfl ?_
                refine r_bipush E (-4) rfl dL_areStickings_74 ?_
                refine r_icmp_ne E 87 dL_areStickings_76 (by decide) ⟨by omega, by omega⟩ ⟨by omega, by omega⟩ (fun c_76 => ?_) (fun c_76 => ?_)
                · refine r_iload E 0 dL_areStickings_87 rfl ?_
                  refine r_iconst E 2 rfl dL_areStickings_89 ?_
                  refine r_icmp_eq E 100 dL_areStickings_90 (by decide) ⟨by omega, by omega⟩ ⟨by omega, by omega⟩ (fun c_90 => ?_) (fun c_90 => ?_)
                  · refine r_iconst E 1 rfl dL_areStickings_100 ?_
                    refine r_goto E 105 dL_areStickings_101 (by decide) ?_
                    refine r_lv [2, 3, 4, 5, 6, 7, 8, 9, 10, 11, 12, 1, 0] [(0, .ref x0), (1, .int (iJ (n))), (2, .int (iJ (m2))), (3, .int (iJ (m3))), (4, .int (iJ (m4))), (5, .int (iJ (m5))), (6, .int (iJ (m6))), (7, .int (iJ (k))), (8, .int (iJ (y))), (9, .int (iJ (x))), (10, .int (iJ (j))), (11, .int (iJ ((hkV n k j)))), (12, .int (iJ (ohV (g j))))] rfl ?_
                    exact K_105 1 (by
                          rw [onN_s g (hkV n k) (show 0 ≤ j by omega), ← hx]
                          first
                          | (rw [if_pos (show ¬ x = 0 ∧ ((g j = 0 ∧ hkV n k j = 0) ∨ (¬ g j = 0 ∧ (g j / 2 % 4 = 2 ∨ g j / 2 % 4 = hkV n k j))) by omega)]; done)
                          | (rw [if_neg (show ¬ (¬ x = 0 ∧ ((g j = 0 ∧ hkV n k j = 0) ∨ (¬ g j = 0 ∧ (g j / 2 % 4 = 2 ∨ g j / 2 % 4 = hkV n k j)))) by omega)]; done))
                  · refine r_iload E 0 dL_areStickings_93 rfl ?_
                    refine r_iload E 1 dL_areStickings_95 rfl ?_
                    refine r_icmp_ne E 104 dL_areStickings_97 (by decide) ⟨by omega, by omega⟩ ⟨by omega, by omega⟩ (fun c_97 => ?_) (fun c_97 => ?_)
                    · refine r_iconst E 0 rfl dL_areStickings_104 ?_
                      refine r_lv [2, 3, 4, 5, 6, 7, 8, 9, 10, 11, 12, 1, 0] [(0, .ref x0), (1, .int (iJ (n))), (2, .int (iJ (m2))), (3, .int (iJ (m3))), (4, .int (iJ (m4))), (5, .int (iJ (m5))), (6, .int (iJ (m6))), (7, .int (iJ (k))), (8, .int (iJ (y))), (9, .int (iJ (x))), (10, .int (iJ (j))), (11, .int (iJ ((hkV n k j)))), (12, .int (iJ (ohV (g j))))] rfl ?_
                      exact K_105 0 (by
                            rw [onN_s g (hkV n k) (show 0 ≤ j by omega), ← hx]
                            first
                            | (rw [if_pos (show ¬ x = 0 ∧ ((g j = 0 ∧ hkV n k j = 0) ∨ (¬ g j = 0 ∧ (g j / 2 % 4 = 2 ∨ g j / 2 % 4 = hkV n k j))) by omega)]; done)
                            | (rw [if_neg (show ¬ (¬ x = 0 ∧ ((g j = 0 ∧ hkV n k j = 0) ∨ (¬ g j = 0 ∧ (g j / 2 % 4 = 2 ∨ g j / 2 % 4 = hkV n k j)))) by omega)]; done))
                    · refine r_iconst E 1 rfl dL_areStickings_100 ?_
                      refine r_goto E 105 dL_areStickings_101 (by decide) ?_
                      refine r_lv [2, 3, 4, 5, 6, 7, 8, 9, 10, 11, 12, 1, 0] [(0, .ref x0), (1, .int (iJ (n))), (2, .int (iJ (m2))), (3, .int (iJ (m3))), (4, .int (iJ (m4))), (5, .int (iJ (m5))), (6, .int (iJ (m6))), (7, .int (iJ (k))), (8, .int (iJ (y))), (9, .int (iJ (x))), (10, .int (iJ (j))), (11, .int (iJ ((hkV n k j)))), (12, .int (iJ (ohV (g j))))] rfl ?_
                      exact K_105 1 (by
                            rw [onN_s g (hkV n k) (show 0 ≤ j by omega), ← hx]
                            first
                            | (rw [if_pos (show ¬ x = 0 ∧ ((g j = 0 ∧ hkV n k j = 0) ∨ (¬ g j = 0 ∧ (g j / 2 % 4 = 2 ∨ g j / 2 % 4 = hkV n k j))) by omega)]; done)
                            | (rw [if_neg (show ¬ (¬ x = 0 ∧ ((g j = 0 ∧ hkV n k j = 0) ∨ (¬ g j = 0 ∧ (g j / 2 % 4 = 2 ∨ g j / 2 % 4 = hkV n k j)))) by omega)]; done))
                · refine r_iload E 1 dL_areStickings_79 rfl ?_
                  refine r_if_ne E 104 dL_areStickings_81 (by decide) ⟨by omega, by omega⟩ (fun c_81 => ?_) (fun c_81 => ?_)
                  · refine r_iconst E 0 rfl dL_areStickings_104 ?_
                    refine r_lv [2, 3, 4, 5, 6, 7, 8, 9, 10, 11, 12, 1, 0] [(0, .ref x0), (1, .int (iJ (n))), (2, .int (iJ (m2))), (3, .int (iJ (m3))), (4, .int (iJ (m4))), (5, .int (iJ (m5))), (6, .int (iJ (m6))), (7, .int (iJ (k))), (8, .int (iJ (y))), (9, .int (iJ (x))), (10, .int (iJ (j))), (11, .int (iJ ((hkV n k j)))), (12, .int (iJ (ohV (g j))))] rfl ?_
                    exact K_105 0 (by
                          rw [onN_s g (hkV n k) (show 0 ≤ j by omega), ← hx]
                          first
                          | (rw [if_pos (show ¬ x = 0 ∧ ((g j = 0 ∧ hkV n k j = 0) ∨ (¬ g j = 0 ∧ (g j / 2 % 4 = 2 ∨ g j / 2 % 4 = hkV n k j))) by omega)]; done)
                          | (rw [if_neg (show ¬ (¬ x = 0 ∧ ((g j = 0 ∧ hkV n k j = 0) ∨ (¬ g j = 0 ∧ (g j / 2 % 4 = 2 ∨ g j / 2 % 4 = hkV n k j)))) by omega)]; done))
                  · refine r_goto E 100 dL_areStickings_84 (by decide) ?_
                    refine r_iconst E 1 rfl dL_areStickings_100 ?_
                    refine r_goto E 105 dL_areStickings_101 (by decide) ?_
                    refine r_lv [2, 3, 4, 5, 6, 7, 8, 9, 10, 11, 12, 1, 0] [(0, .ref x0), (1, .int (iJ (n))), (2, .int (iJ (m2))), (3, .int (iJ (m3))), (4, .int (iJ (m4))), (5, .int (iJ (m5))), (6, .int (iJ (m6))), (7, .int (iJ (k))), (8, .int (iJ (y))), (9, .int (iJ (x))), (10, .int (iJ (j))), (11, .int (iJ ((hkV n k j)))), (12, .int (iJ (ohV (g j))))] rfl ?_
                    exact K_105 1 (by
                          rw [onN_s g (hkV n k) (show 0 ≤ j by omega), ← hx]
                          first
                          | (rw [if_pos (show ¬ x = 0 ∧ ((g j = 0 ∧ hkV n k j = 0) ∨ (¬ g j = 0 ∧ (g j / 2 % 4 = 2 ∨ g j / 2 % 4 = hkV n k j))) by omega)]; done)
                          | (rw [if_neg (show ¬ (¬ x = 0 ∧ ((g j = 0 ∧ hkV n k j = 0) ∨ (¬ g j = 0 ∧ (g j / 2 % 4 = 2 ∨ g j / 2 % 4 = hkV n k j)))) by omega)]; done))
        refine r_lv [3, 4, 5, 6, 7, 8, 9, 10, 2, 1, 0] [(0, .ref x0), (1, .int (iJ (n))), (2, .int (iJ (m2))), (3, .int (iJ (m3))), (4, .int (iJ (m4))), (5, .int (iJ (m5))), (6, .int (iJ (m6))), (7, .int (iJ (k))), (8, .int (iJ (0))), (9, .int (iJ (1))), (10, .int (iJ (0)))] rfl ?_
        exact loop_39 _ 0 1 0 ⟨by omega, by omega⟩ rfl rfl (Nat.lt_succ_self _)
  refine r_lv [7, 6, 5, 4, 3, 2, 1, 0] [(0, .ref x0), (1, .int (iJ (n))), (2, .int (iJ (0))), (3, .int (iJ (0))), (4, .int (iJ ((-1)))), (5, .int (iJ ((-1)))), (6, .int (iJ (0))), (7, .int (iJ (0)))] rfl ?_
  exact loop_22 _ 0 0 0 (-1) (-1) 0 ⟨by omega, by omega⟩ rfl (Nat.lt_succ_self _)
