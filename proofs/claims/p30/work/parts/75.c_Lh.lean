theorem kf_L_holds : KF yL_holds 1 wsL_holds cL_holds 11 (some .boolean) := ⟨rfl, by decide +kernel, by decide +kernel, by decide +kernel⟩
def rm_L_holds : Room := { frames := 11, cells := 0, slots := 0, locals := 279 }
set_option maxHeartbeats 4000000 in
set_option maxRecDepth 100000 in
theorem c_L_holds (l : Launch) (D : va_G) (x0 : Nat) (h0 : Nat) (t0 : Nat) (n0 : Nat) (i0 : Nat) (d0 : Nat) (r0 : Nat) (p0 : Nat) (hs : Int) (rf : Int) (h1 : Nat) (cI : ClassId) (g : Int → Int) (n : Int) (q : Int) (d1 : Nat) (gp : Int → Int) (np : Int) (i1 : Nat) (m : Int) (pl1 : Nat) (pl2 : Nat) (pl3 : Nat) (pl4 : Nat) (pl5 : Nat) (pl6 : Nat) (cZ : ClassId) (L : Int) (ow : Int → Int) (cA : Int → Int) (cU : Int → Int) (hd : Int → Int) (fw : Int → Int) (t1 : Nat) (gt : Int → Int) (nt : Int) (qt : Int) (hn : 0 ≤ n ∧ n ≤ 9) (hq : 1 ≤ q ∧ q ≤ 4) (hv : ∀ j : Int, 0 ≤ j → j < n → vK (g j)) (hnt : 0 ≤ nt ∧ nt ≤ 32) : MM (S := Int × (Int → Int) × (Int → Int) × (Int → Int) × (Int → Int) × (Int → Int) × (Int → Int) × Int) l yL_holds wsL_holds rm_L_holds D vwCl [.ref x0] [(x0, .inr (5, [.ref h0, .ref t0, .ref n0, .ref i0, .ref d0, .ref r0, .ref p0, .int (iJ (hs)), .int (iJ (rf))])), (h0, .inr (2, [.ref h1, .int (iJ (n)), .int (iJ (q))])), (h1, cJ cI 32 (g)), (d0, .inr (1, [.ref d1, .int (iJ (np))])), (d1, cJ cI 60 (gp)), (i0, .inr (0, [.ref i1, .int (iJ (m))])), (p0, .inr (3, [.ref pl1, .ref pl2, .ref pl3, .ref pl4, .ref pl5, .ref pl6, .int (iJ (L))])), (pl1, cJ cI 32 (nrA)), (pl2, cJ cI 32 (ow)), (pl3, cJ cZ 32 (cA)), (pl4, cJ cZ 32 (cU)), (pl5, cJ cI 32 (hd)), (pl6, cJ cI 132 (fw)), (t0, .inr (2, [.ref t1, .int (iJ (nt)), .int (iJ (qt))])), (t1, cJ cI 32 (gt))] [(cI, .int), (cZ, .boolean)] (fun (u : Int × (Int → Int) × (Int → Int) × (Int → Int) × (Int → Int) × (Int → Int) × (Int → Int) × Int) => 1) (fun (u : Int × (Int → Int) × (Int → Int) × (Int → Int) × (Int → Int) × (Int → Int) × (Int → Int) × Int) => True) (fun (u : Int × (Int → Int) × (Int → Int) × (Int → Int) × (Int → Int) × (Int → Int) × (Int → Int) × Int) => [(x0, .inr (5, [.ref h0, .ref t0, .ref n0, .ref i0, .ref d0, .ref r0, .ref p0, .int (iJ (hs)), .int (iJ (rf))])), (h0, .inr (2, [.ref h1, .int (iJ (n)), .int (iJ (q))])), (h1, cJ cI 32 (g)), (d0, .inr (1, [.ref d1, .int (iJ (np))])), (d1, cJ cI 60 (gp)), (i0, .inr (0, [.ref i1, .int (iJ (m))])), (p0, .inr (3, [.ref pl1, .ref pl2, .ref pl3, .ref pl4, .ref pl5, .ref pl6, .int (iJ (u.1))])), (pl1, cJ cI 32 (nrA)), (pl2, cJ cI 32 (u.2.1)), (pl3, cJ cZ 32 (u.2.2.1)), (pl4, cJ cZ 32 (u.2.2.2.1)), (pl5, cJ cI 32 (u.2.2.2.2.1)), (pl6, cJ cI 132 (u.2.2.2.2.2.1)), (t0, .inr (2, [.ref t1, .int (iJ (n)), .int (iJ (u.2.2.2.2.2.2.2))])), (t1, cJ cI 32 (u.2.2.2.2.2.2.1))]) := by
  refine MM.mk (cc := cL_holds) (maxL := 11) (ret := (some .boolean)) (by decide) rfl (Nat.le_of_ble_eq_true rfl) rfl RL rfl ?_
  intro p_ e_ s_ m_ ar_ bw_ mt_ cd_ B_ Q_ hA E hr hQ
  have hn32 : 0 ≤ n ∧ n ≤ 32 := ⟨hn.1, by omega⟩
  have hg : ∀ j : Int, 0 ≤ j → j < n → 0 ≤ g j ∧ g j < 64 := fun j a b => (hv j a b).1
  have hg3 : ∀ j : Int, 0 ≤ j → j < n → ¬ g j / 2 % 4 = 3 := fun j a b => (hv j a b).2.1
  refine r_aload_n E 0 dL_holds_0 rfl rfl ?_
  refine r_iconst E 0 rfl dL_holds_1 ?_
  refine r_vP E (st := []) (c_X6_count l D x0 h0 t0 n0 i0 d0 r0 p0 hs rf h1 cI g n q d1 gp np i1 m 0 (by first | assumption | omega | exact ⟨by omega, by omega⟩) (by first | assumption | omega | exact ⟨by omega, by omega⟩) (by first | assumption | omega | exact ⟨by omega, by omega⟩)) gL_holds_X6_count 1 kf_X6_count ⟨rfl, rfl⟩ ⟨by decide, by decide⟩ dL_holds_2 rfl 0 rfl rfl rfl rfl ⟨Nat.zero_le _, Nat.zero_le _⟩ [0, 1, 2, 3, 4, 5] rfl (by decide) [0] rfl (Nat.le_of_ble_eq_true rfl) ?_
  refine r_top (b := n) rfl ?_
  refine r_istore_n E [(1, .int (iJ (n))), (0, .ref x0)] dL_holds_5 rfl (by decide) rfl ?_
  refine r_iconst E 0 rfl dL_holds_6 ?_
  refine r_istore_n E [(2, .int (iJ (0))), (1, .int (iJ (n))), (0, .ref x0)] dL_holds_7 rfl (by decide) rfl ?_
  refine r_iconst E 0 rfl dL_holds_8 ?_
  refine r_istore_n E [(3, .int (iJ (0))), (2, .int (iJ (0))), (1, .int (iJ (n))), (0, .ref x0)] dL_holds_9 rfl (by decide) rfl ?_
  refine r_iconst E 0 rfl dL_holds_10 ?_
  refine r_istore E [(4, .int (iJ (0))), (3, .int (iJ (0))), (2, .int (iJ (0))), (1, .int (iJ (n))), (0, .ref x0)] dL_holds_11 (by decide) rfl ?_
  refine r_iconst E 0 rfl dL_holds_13 ?_
  refine r_istore E [(5, .int (iJ (0))), (4, .int (iJ (0))), (3, .int (iJ (0))), (2, .int (iJ (0))), (1, .int (iJ (n))), (0, .ref x0)] dL_holds_14 (by decide) rfl ?_
  refine r_aload_n E 5 dL_holds_16 rfl rfl ?_
  refine r_iload_n E 4 dL_holds_17 rfl rfl ?_
  refine r_iconst E 0 rfl dL_holds_18 ?_
  refine r_vP E (st := []) (c_X6_stepBad l D x0 h0 t0 n0 i0 d0 r0 p0 hs rf h1 cI g n q n 0 (by first | assumption | omega | exact ⟨by omega, by omega⟩) (by first | assumption | omega | exact ⟨by omega, by omega⟩) (by first | assumption | omega | exact ⟨by omega, by omega⟩)) gL_holds_X6_step 2 kf_X6_step ⟨rfl, rfl⟩ ⟨by decide, by decide⟩ dL_holds_19 rfl 0 rfl rfl rfl rfl ⟨Nat.zero_le _, Nat.zero_le _⟩ [0, 1, 2] rfl (by decide) [0] rfl (Nat.le_of_ble_eq_true rfl) ?_
  refine r_iconst E (-1) rfl dL_holds_22 ?_
  refine r_icmp_ne E 53 dL_holds_23 (by decide) ⟨by omega, by omega⟩ ⟨by omega, by omega⟩ (fun c_23 => absurd c_23 (by omega)) (fun c_23 => ?_)
  refine r_aload_n E 5 dL_holds_26 rfl rfl ?_
  refine r_bipush E (-3) rfl dL_holds_27 ?_
  refine r_vP E (st := []) (c_X6_heardBad l D x0 h0 t0 n0 i0 d0 r0 p0 hs rf h1 cI g n q (-3) (by first | assumption | omega | exact ⟨by omega, by omega⟩) (by first | assumption | omega | exact ⟨by omega, by omega⟩) (by first | assumption | omega | exact ⟨by omega, by omega⟩)) gL_holds_X6_heard 1 kf_X6_heard ⟨rfl, rfl⟩ ⟨by decide, by decide⟩ dL_holds_29 rfl 0 rfl rfl rfl rfl ⟨Nat.zero_le _, Nat.zero_le _⟩ [0, 1, 2] rfl (by decide) [0] rfl (Nat.le_of_ble_eq_true rfl) ?_
  refine r_iconst E (-1) rfl dL_holds_32 ?_
  refine r_icmp_ne E 53 dL_holds_33 (by decide) ⟨by omega, by omega⟩ ⟨by omega, by omega⟩ (fun c_33 => absurd c_33 (by omega)) (fun c_33 => ?_)
  refine r_aload_n E 5 dL_holds_36 rfl rfl ?_
  refine r_iconst E 4 rfl dL_holds_37 ?_
  refine r_iload_n E 4 dL_holds_38 rfl rfl ?_
  refine r_imul E dL_holds_39 ?_
  refine r_iconst E 1 rfl dL_holds_40 ?_
  refine r_iadd E dL_holds_41 ?_
  refine r_vP E (st := []) (c_X6_heardBad l D x0 h0 t0 n0 i0 d0 r0 p0 hs rf h1 cI g n q ((4 * n) + 1) (by first | assumption | omega | exact ⟨by omega, by omega⟩) (by first | assumption | omega | exact ⟨by omega, by omega⟩) (by first | assumption | omega | exact ⟨by omega, by omega⟩)) gL_holds_X6_heard 1 kf_X6_heard ⟨rfl, rfl⟩ ⟨by decide, by decide⟩ dL_holds_42 rfl 0 rfl rfl rfl rfl ⟨Nat.zero_le _, Nat.zero_le _⟩ [0, 1, 2] rfl (by decide) [0] rfl (Nat.le_of_ble_eq_true rfl) ?_
  refine r_iconst E (-1) rfl dL_holds_45 ?_
  refine r_icmp_ne E 53 dL_holds_46 (by decide) ⟨by omega, by omega⟩ ⟨by omega, by omega⟩ (fun c_46 => absurd c_46 (by omega)) (fun c_46 => ?_)
  refine r_iconst E 1 rfl dL_holds_49 ?_
  refine r_goto E 54 dL_holds_50 (by decide) ?_
  refine r_istore E [(6, .int (iJ (1))), (5, .int (iJ (0))), (4, .int (iJ (0))), (3, .int (iJ (0))), (2, .int (iJ (0))), (1, .int (iJ (n))), (0, .ref x0)] dL_holds_54 (by decide) rfl ?_
  refine r_iconst E 0 rfl dL_holds_56 ?_
  refine r_istore E [(7, .int (iJ (0))), (6, .int (iJ (1))), (5, .int (iJ (0))), (4, .int (iJ (0))), (3, .int (iJ (0))), (2, .int (iJ (0))), (1, .int (iJ (n))), (0, .ref x0)] dL_holds_57 (by decide) rfl ?_
  have loop_59 : ∀ (N : Nat) (k : Int) (x2 : Int) (x3 : Int) (x5 : Int), (0 ≤ k ∧ k ≤ n) → (x2 = sm (fun j => sBl (g j)) k) → (x3 = sm (fun j => sFs (g j)) k) → (x5 = sm (fun j => b2 (g j / 8 % 2 = 1)) k) → (n - k).toNat < N → GG p_ l e_ rm_L_holds s_ m_ ar_ bw_ mt_ cd_ D vwCl B_ B_ s_.heap 11 0 0 Q_ [(x0, .inr (5, [.ref h0, .ref t0, .ref n0, .ref i0, .ref d0, .ref r0, .ref p0, .int (iJ (hs)), .int (iJ (rf))])), (h0, .inr (2, [.ref h1, .int (iJ (n)), .int (iJ (q))])), (h1, cJ cI 32 (g)), (d0, .inr (1, [.ref d1, .int (iJ (np))])), (d1, cJ cI 60 (gp)), (i0, .inr (0, [.ref i1, .int (iJ (m))])), (p0, .inr (3, [.ref pl1, .ref pl2, .ref pl3, .ref pl4, .ref pl5, .ref pl6, .int (iJ (L))])), (pl1, cJ cI 32 (nrA)), (pl2, cJ cI 32 (ow)), (pl3, cJ cZ 32 (cA)), (pl4, cJ cZ 32 (cU)), (pl5, cJ cI 32 (hd)), (pl6, cJ cI 132 (fw)), (t0, .inr (2, [.ref t1, .int (iJ (nt)), .int (iJ (qt))])), (t1, cJ cI 32 (gt))] [(0, .ref x0), (1, .int (iJ (n))), (2, .int (iJ (x2))), (3, .int (iJ (x3))), (4, .int (iJ (0))), (5, .int (iJ (x5))), (6, .int (iJ (1))), (7, .int (iJ (k)))] 59 [] := by
    intro N; induction N with
    | zero => intro k x2 x3 x5 hk hx2 hx3 hx5 hN; exact absurd hN (Nat.not_lt_zero _)
    | succ N ih59 =>
      intro k x2 x3 x5 hk hx2 hx3 hx5 hN
      refine r_iload E 7 dL_holds_59 rfl ?_
      refine r_iload_n E 1 dL_holds_61 rfl rfl ?_
      refine r_icmp_ge E 229 dL_holds_62 (by decide) ⟨by omega, by omega⟩ ⟨by omega, by omega⟩ (fun c_62 => ?_) (fun c_62 => ?_)
      · have e_k : k = n := by omega
        rw [e_k] at hx2 hx3 hx5
        refine r_bipush E (-2) rfl dL_holds_229 ?_
        refine r_istore E [(7, .int (iJ ((-2)))), (0, .ref x0), (1, .int (iJ (n))), (2, .int (iJ (x2))), (3, .int (iJ (x3))), (4, .int (iJ (0))), (5, .int (iJ (x5))), (6, .int (iJ (1)))] dL_holds_231 (by decide) rfl ?_
        have loop_233 : ∀ (N : Nat) (t : Int) (x4 : Int), (-2 ≤ t ∧ t ≤ 4 * n + 1) → (x4 = sm (fun i => sm (fun k => sFa (g k) (i - 2 - 4 * k)) n) (t + 2)) → (4 * n + 1 - t).toNat < N → GG p_ l e_ rm_L_holds s_ m_ ar_ bw_ mt_ cd_ D vwCl B_ B_ s_.heap 11 0 0 Q_ [(x0, .inr (5, [.ref h0, .ref t0, .ref n0, .ref i0, .ref d0, .ref r0, .ref p0, .int (iJ (hs)), .int (iJ (rf))])), (h0, .inr (2, [.ref h1, .int (iJ (n)), .int (iJ (q))])), (h1, cJ cI 32 (g)), (d0, .inr (1, [.ref d1, .int (iJ (np))])), (d1, cJ cI 60 (gp)), (i0, .inr (0, [.ref i1, .int (iJ (m))])), (p0, .inr (3, [.ref pl1, .ref pl2, .ref pl3, .ref pl4, .ref pl5, .ref pl6, .int (iJ (L))])), (pl1, cJ cI 32 (nrA)), (pl2, cJ cI 32 (ow)), (pl3, cJ cZ 32 (cA)), (pl4, cJ cZ 32 (cU)), (pl5, cJ cI 32 (hd)), (pl6, cJ cI 132 (fw)), (t0, .inr (2, [.ref t1, .int (iJ (nt)), .int (iJ (qt))])), (t1, cJ cI 32 (gt))] [(0, .ref x0), (1, .int (iJ (n))), (2, .int (iJ (x2))), (3, .int (iJ (x3))), (4, .int (iJ (x4))), (5, .int (iJ (x5))), (6, .int (iJ (1))), (7, .int (iJ (t)))] 233 [] := by
          intro N; induction N with
          | zero => intro t x4 ht hx4 hN; exact absurd hN (Nat.not_lt_zero _)
          | succ N ih233 =>
            intro t x4 ht hx4 hN
            refine r_iload E 7 dL_holds_233 rfl ?_
            refine r_iconst E 4 rfl dL_holds_235 ?_
            refine r_iload_n E 1 dL_holds_236 rfl rfl ?_
            refine r_imul E dL_holds_237 ?_
            refine r_icmp_gt E 258 dL_holds_238 (by decide) ⟨by omega, by omega⟩ ⟨by omega, by omega⟩ (fun c_238 => ?_) (fun c_238 => ?_)
            · have e_t : t = 4 * n + 1 := by omega
              have e_h : x4 = sm (fun j => sFs (g j)) n := by rw [hx4, e_t, show 4 * n + 1 + 2 = 4 * n + 3 by omega]; exact hs_all hn.1 hv
              have f_T := st_le (g := g) hn.1
              refine r_iconst E 0 rfl dL_holds_258 ?_
              refine r_istore E [(7, .int (iJ (0))), (0, .ref x0), (1, .int (iJ (n))), (2, .int (iJ (x2))), (3, .int (iJ (x3))), (4, .int (iJ (x4))), (5, .int (iJ (x5))), (6, .int (iJ (1)))] dL_holds_259 (by decide) rfl ?_
              have loop_261 : ∀ (N : Nat) (p : Int), (0 ≤ p ∧ p ≤ sm (fun j => sTl (g j)) n) → (sm (fun j => sTl (g j)) n - p).toNat < N → GG p_ l e_ rm_L_holds s_ m_ ar_ bw_ mt_ cd_ D vwCl B_ B_ s_.heap 11 0 0 Q_ [(x0, .inr (5, [.ref h0, .ref t0, .ref n0, .ref i0, .ref d0, .ref r0, .ref p0, .int (iJ (hs)), .int (iJ (rf))])), (h0, .inr (2, [.ref h1, .int (iJ (n)), .int (iJ (q))])), (h1, cJ cI 32 (g)), (d0, .inr (1, [.ref d1, .int (iJ (np))])), (d1, cJ cI 60 (gp)), (i0, .inr (0, [.ref i1, .int (iJ (m))])), (p0, .inr (3, [.ref pl1, .ref pl2, .ref pl3, .ref pl4, .ref pl5, .ref pl6, .int (iJ (L))])), (pl1, cJ cI 32 (nrA)), (pl2, cJ cI 32 (ow)), (pl3, cJ cZ 32 (cA)), (pl4, cJ cZ 32 (cU)), (pl5, cJ cI 32 (hd)), (pl6, cJ cI 132 (fw)), (t0, .inr (2, [.ref t1, .int (iJ (nt)), .int (iJ (qt))])), (t1, cJ cI 32 (gt))] [(0, .ref x0), (1, .int (iJ (n))), (2, .int (iJ (x2))), (3, .int (iJ (x3))), (4, .int (iJ (x4))), (5, .int (iJ (x5))), (6, .int (iJ (1))), (7, .int (iJ (p)))] 261 [] := by
                intro N; induction N with
                | zero => intro p hp hN; exact absurd hN (Nat.not_lt_zero _)
                | succ N ih261 =>
                  intro p hp hN
                  refine r_aload_n E 0 dL_holds_261 rfl rfl ?_
                  refine r_iload E 7 dL_holds_262 rfl ?_
                  have f_G := sg_0 (g := g) (p := p) hn.1 (by omega)
                  refine r_vP E (st := []) (c_X6_sign l D x0 h0 t0 n0 i0 d0 r0 p0 hs rf h1 cI g n q p (by first | assumption | omega | exact ⟨by omega, by omega⟩) (by first | assumption | omega | exact ⟨by omega, by omega⟩) (by first | assumption | omega | exact ⟨by omega, by omega⟩) (by first | assumption | omega | exact ⟨by omega, by omega⟩)) gL_holds_X6_sign 1 kf_X6_sign ⟨rfl, rfl⟩ ⟨by decide, by decide⟩ dL_holds_264 rfl 0 rfl rfl rfl rfl ⟨Nat.zero_le _, Nat.zero_le _⟩ [0, 1, 2] rfl (by decide) [0] rfl (Nat.le_of_ble_eq_true rfl) ?_
                  refine r_if_lt E 276 dL_holds_267 (by decide) (by
                        rcases (by omega : p < sm (fun j => sTl (g j)) n ∨ sm (fun j => sTl (g j)) n ≤ p) with z | z
                        · have := f_G.1 z; exact ⟨by omega, by omega⟩
                        · have := f_G.2 z; exact ⟨by omega, by omega⟩) (fun c_267 => ?_) (fun c_267 => ?_)
                  · have f_bl := sm_le (f := fun j => sBl (g j)) (c := 3) hn.1 (fun j _ _ => sBl_in)
                    have f_fr := smS_160 (g := g) hn32
                    have f_ac := sb_le (g := g) hn.1 (fun j => g j / 8 % 2 = 1)
                    have f_s0 := sb_le (g := g) hn.1 (fun j => ¬ g j = 0 ∧ g j / 2 % 4 = 0)
                    have f_s1 := sb_le (g := g) hn.1 (fun j => ¬ g j = 0 ∧ g j / 2 % 4 = 1)
                    have f_s2 := sb_le (g := g) hn.1 (fun j => ¬ g j = 0 ∧ g j / 2 % 4 = 2)
                    have f_ss := sb_le (g := g) hn.1 (fun j => ¬ g j = 0)
                    have f_ct := ct_e hv
                    have f_lr := lr_st g hn.1
                    have f_l0 : 0 ≤ lrL g n := (lr_le g n.toNat).2.2.1
                    have f_sv := sv_pos hn hq hv
                    have f_fc := fcP_in (g := g) (q := q) hn32
                    refine r_iload E 6 dL_holds_276 rfl ?_
                    refine r_if_eq E 359 dL_holds_278 (by decide) ⟨by omega, by omega⟩ (fun c_278 => absurd c_278 (by omega)) (fun c_278 => ?_)
                    refine r_iload_n E 2 dL_holds_281 rfl rfl ?_
                    refine r_aload_n E 0 dL_holds_282 rfl rfl ?_
                    refine r_bipush E 9 rfl dL_holds_283 ?_
                    refine r_vP E (st := [.int (iJ (x2))]) (c_X6_count l D x0 h0 t0 n0 i0 d0 r0 p0 hs rf h1 cI g n q d1 gp np i1 m 9 (by first | assumption | omega | exact ⟨by omega, by omega⟩) (by first | assumption | omega | exact ⟨by omega, by omega⟩) (by first | assumption | omega | exact ⟨by omega, by omega⟩)) gL_holds_X6_count 1 kf_X6_count ⟨rfl, rfl⟩ ⟨by decide, by decide⟩ dL_holds_285 rfl 0 rfl rfl rfl rfl ⟨Nat.zero_le _, Nat.zero_le _⟩ [0, 1, 2, 3, 4, 5] rfl (by decide) [0] rfl (Nat.le_of_ble_eq_true rfl) ?_
                    refine r_top (b := sm (fun j => sBl (g j)) n) rfl ?_
                    refine r_icmp_ne E 359 dL_holds_288 (by decide) ⟨by omega, by omega⟩ ⟨by omega, by omega⟩ (fun c_288 => absurd c_288 (by omega)) (fun c_288 => ?_)
                    refine r_iload_n E 3 dL_holds_291 rfl rfl ?_
                    refine r_aload_n E 0 dL_holds_292 rfl rfl ?_
                    refine r_bipush E 10 rfl dL_holds_293 ?_
                    refine r_vP E (st := [.int (iJ (x3))]) (c_X6_count l D x0 h0 t0 n0 i0 d0 r0 p0 hs rf h1 cI g n q d1 gp np i1 m 10 (by first | assumption | omega | exact ⟨by omega, by omega⟩) (by first | assumption | omega | exact ⟨by omega, by omega⟩) (by first | assumption | omega | exact ⟨by omega, by omega⟩)) gL_holds_X6_count 1 kf_X6_count ⟨rfl, rfl⟩ ⟨by decide, by decide⟩ dL_holds_295 rfl 0 rfl rfl rfl rfl ⟨Nat.zero_le _, Nat.zero_le _⟩ [0, 1, 2, 3, 4, 5] rfl (by decide) [0] rfl (Nat.le_of_ble_eq_true rfl) ?_
                    refine r_top (b := sm (fun j => sFs (g j)) n) rfl ?_
                    refine r_icmp_ne E 359 dL_holds_298 (by decide) ⟨by omega, by omega⟩ ⟨by omega, by omega⟩ (fun c_298 => absurd c_298 (by omega)) (fun c_298 => ?_)
                    refine r_iload E 4 dL_holds_301 rfl ?_
                    refine r_iload_n E 3 dL_holds_303 rfl rfl ?_
                    refine r_icmp_ne E 359 dL_holds_304 (by decide) ⟨by omega, by omega⟩ ⟨by omega, by omega⟩ (fun c_304 => absurd c_304 (by omega)) (fun c_304 => ?_)
                    refine r_iload E 5 dL_holds_307 rfl ?_
                    refine r_aload_n E 0 dL_holds_309 rfl rfl ?_
                    refine r_iconst E 5 rfl dL_holds_310 ?_
                    refine r_vP E (st := [.int (iJ (x5))]) (c_X6_count l D x0 h0 t0 n0 i0 d0 r0 p0 hs rf h1 cI g n q d1 gp np i1 m 5 (by first | assumption | omega | exact ⟨by omega, by omega⟩) (by first | assumption | omega | exact ⟨by omega, by omega⟩) (by first | assumption | omega | exact ⟨by omega, by omega⟩)) gL_holds_X6_count 1 kf_X6_count ⟨rfl, rfl⟩ ⟨by decide, by decide⟩ dL_holds_311 rfl 0 rfl rfl rfl rfl ⟨Nat.zero_le _, Nat.zero_le _⟩ [0, 1, 2, 3, 4, 5] rfl (by decide) [0] rfl (Nat.le_of_ble_eq_true rfl) ?_
                    refine r_top (b := sm (fun j => b2 (g j / 8 % 2 = 1)) n) rfl ?_
                    refine r_icmp_ne E 359 dL_holds_314 (by decide) ⟨by omega, by omega⟩ ⟨by omega, by omega⟩ (fun c_314 => absurd c_314 (by omega)) (fun c_314 => ?_)
                    refine r_aload_n E 0 dL_holds_317 rfl rfl ?_
                    refine r_iconst E 1 rfl dL_holds_318 ?_
                    refine r_vP E (st := []) (c_X6_count l D x0 h0 t0 n0 i0 d0 r0 p0 hs rf h1 cI g n q d1 gp np i1 m 1 (by first | assumption | omega | exact ⟨by omega, by omega⟩) (by first | assumption | omega | exact ⟨by omega, by omega⟩) (by first | assumption | omega | exact ⟨by omega, by omega⟩)) gL_holds_X6_count 1 kf_X6_count ⟨rfl, rfl⟩ ⟨by decide, by decide⟩ dL_holds_319 rfl 0 rfl rfl rfl rfl ⟨Nat.zero_le _, Nat.zero_le _⟩ [0, 1, 2, 3, 4, 5] rfl (by decide) [0] rfl (Nat.le_of_ble_eq_true rfl) ?_
                    refine r_top (b := n - sm (fun j => b2 (¬ g j = 0)) n) rfl ?_
                    refine r_aload_n E 0 dL_holds_322 rfl rfl ?_
                    refine r_iconst E 2 rfl dL_holds_323 ?_
                    refine r_vP E (st := [.int (iJ (n - sm (fun j => b2 (¬ g j = 0)) n))]) (c_X6_count l D x0 h0 t0 n0 i0 d0 r0 p0 hs rf h1 cI g n q d1 gp np i1 m 2 (by first | assumption | omega | exact ⟨by omega, by omega⟩) (by first | assumption | omega | exact ⟨by omega, by omega⟩) (by first | assumption | omega | exact ⟨by omega, by omega⟩)) gL_holds_X6_count 1 kf_X6_count ⟨rfl, rfl⟩ ⟨by decide, by decide⟩ dL_holds_324 rfl 0 rfl rfl rfl rfl ⟨Nat.zero_le _, Nat.zero_le _⟩ [0, 1, 2, 3, 4, 5] rfl (by decide) [0] rfl (Nat.le_of_ble_eq_true rfl) ?_
                    refine r_top (b := sm (fun j => b2 (¬ g j = 0 ∧ g j / 2 % 4 = 0)) n) rfl ?_
                    refine r_iadd E dL_holds_327 ?_
                    refine r_aload_n E 0 dL_holds_328 rfl rfl ?_
                    refine r_iconst E 3 rfl dL_holds_329 ?_
                    refine r_vP E (st := [.int (iJ (((n - sm (fun j => b2 (¬ g j = 0)) n) + (sm (fun j => b2 (¬ g j = 0 ∧ g j / 2 % 4 = 0)) n))))]) (c_X6_count l D x0 h0 t0 n0 i0 d0 r0 p0 hs rf h1 cI g n q d1 gp np i1 m 3 (by first | assumption | omega | exact ⟨by omega, by omega⟩) (by first | assumption | omega | exact ⟨by omega, by omega⟩) (by first | assumption | omega | exact ⟨by omega, by omega⟩)) gL_holds_X6_count 1 kf_X6_count ⟨rfl, rfl⟩ ⟨by decide, by decide⟩ dL_holds_330 rfl 0 rfl rfl rfl rfl ⟨Nat.zero_le _, Nat.zero_le _⟩ [0, 1, 2, 3, 4, 5] rfl (by decide) [0] rfl (Nat.le_of_ble_eq_true rfl) ?_
                    refine r_top (b := sm (fun j => b2 (¬ g j = 0 ∧ g j / 2 % 4 = 1)) n) rfl ?_
                    refine r_iadd E dL_holds_333 ?_
                    refine r_aload_n E 0 dL_holds_334 rfl rfl ?_
                    refine r_iconst E 4 rfl dL_holds_335 ?_
                    refine r_vP E (st := [.int (iJ ((((n - sm (fun j => b2 (¬ g j = 0)) n) + (sm (fun j => b2 (¬ g j = 0 ∧ g j / 2 % 4 = 0)) n)) + (sm (fun j => b2 (¬ g j = 0 ∧ g j / 2 % 4 = 1)) n))))]) (c_X6_count l D x0 h0 t0 n0 i0 d0 r0 p0 hs rf h1 cI g n q d1 gp np i1 m 4 (by first | assumption | omega | exact ⟨by omega, by omega⟩) (by first | assumption | omega | exact ⟨by omega, by omega⟩) (by first | assumption | omega | exact ⟨by omega, by omega⟩)) gL_holds_X6_count 1 kf_X6_count ⟨rfl, rfl⟩ ⟨by decide, by decide⟩ dL_holds_336 rfl 0 rfl rfl rfl rfl ⟨Nat.zero_le _, Nat.zero_le _⟩ [0, 1, 2, 3, 4, 5] rfl (by decide) [0] rfl (Nat.le_of_ble_eq_true rfl) ?_
                    refine r_top (b := sm (fun j => b2 (¬ g j = 0 ∧ g j / 2 % 4 = 2)) n) rfl ?_
                    refine r_iadd E dL_holds_339 ?_
                    refine r_iload_n E 1 dL_holds_340 rfl rfl ?_
                    refine r_icmp_ne E 359 dL_holds_341 (by decide) ⟨by omega, by omega⟩ ⟨by omega, by omega⟩ (fun c_341 => absurd c_341 (by omega)) (fun c_341 => ?_)
                    refine r_iload E 7 dL_holds_344 rfl ?_
                    refine r_aload_n E 0 dL_holds_346 rfl rfl ?_
                    refine r_bipush E 13 rfl dL_holds_347 ?_
                    refine r_vP E (st := [.int (iJ (p))]) (c_X6_count l D x0 h0 t0 n0 i0 d0 r0 p0 hs rf h1 cI g n q d1 gp np i1 m 13 (by first | assumption | omega | exact ⟨by omega, by omega⟩) (by first | assumption | omega | exact ⟨by omega, by omega⟩) (by first | assumption | omega | exact ⟨by omega, by omega⟩)) gL_holds_X6_count 1 kf_X6_count ⟨rfl, rfl⟩ ⟨by decide, by decide⟩ dL_holds_349 rfl 0 rfl rfl rfl rfl ⟨Nat.zero_le _, Nat.zero_le _⟩ [0, 1, 2, 3, 4, 5] rfl (by decide) [0] rfl (Nat.le_of_ble_eq_true rfl) ?_
                    refine r_top (b := sm (fun j => sTl (g j)) n) rfl ?_
                    refine r_icmp_ne E 359 dL_holds_352 (by decide) ⟨by omega, by omega⟩ ⟨by omega, by omega⟩ (fun c_352 => absurd c_352 (by omega)) (fun c_352 => ?_)
                    refine r_iconst E 1 rfl dL_holds_355 ?_
                    refine r_goto E 360 dL_holds_356 (by decide) ?_
                    refine r_istore E [(6, .int (iJ (1))), (0, .ref x0), (1, .int (iJ (n))), (2, .int (iJ (x2))), (3, .int (iJ (x3))), (4, .int (iJ (x4))), (5, .int (iJ (x5))), (7, .int (iJ (p)))] dL_holds_360 (by decide) rfl ?_
                    refine r_iload E 0 dL_holds_362 rfl ?_
                    refine r_if_eq E 446 dL_holds_364 (by decide) ⟨by omega, by omega⟩ (fun c_364 => absurd c_364 (by omega)) (fun c_364 => ?_)
                    refine r_aload_n E 1 dL_holds_367 rfl rfl ?_
                    refine r_bipush E 12 rfl dL_holds_368 ?_
                    refine r_vP E (st := []) (c_X6_count l D x0 h0 t0 n0 i0 d0 r0 p0 hs rf h1 cI g n q d1 gp np i1 m 12 (by first | assumption | omega | exact ⟨by omega, by omega⟩) (by first | assumption | omega | exact ⟨by omega, by omega⟩) (by first | assumption | omega | exact ⟨by omega, by omega⟩)) gL_holds_X6_count 1 kf_X6_count ⟨rfl, rfl⟩ ⟨by decide, by decide⟩ dL_holds_370 rfl 0 rfl rfl rfl rfl ⟨Nat.zero_le _, Nat.zero_le _⟩ [0, 1, 2, 3, 4, 5] rfl (by decide) [0] rfl (Nat.le_of_ble_eq_true rfl) ?_
                    refine r_top (b := lrL g n) rfl ?_
                    refine r_iload_n E 2 dL_holds_373 rfl rfl ?_
                    refine r_aload_n E 1 dL_holds_374 rfl rfl ?_
                    refine r_iconst E 1 rfl dL_holds_375 ?_
                    refine r_vP E (st := [.int (iJ (n)), .int (iJ (lrL g n))]) (c_X6_count l D x0 h0 t0 n0 i0 d0 r0 p0 hs rf h1 cI g n q d1 gp np i1 m 1 (by first | assumption | omega | exact ⟨by omega, by omega⟩) (by first | assumption | omega | exact ⟨by omega, by omega⟩) (by first | assumption | omega | exact ⟨by omega, by omega⟩)) gL_holds_X6_count 1 kf_X6_count ⟨rfl, rfl⟩ ⟨by decide, by decide⟩ dL_holds_376 rfl 0 rfl rfl rfl rfl ⟨Nat.zero_le _, Nat.zero_le _⟩ [0, 1, 2, 3, 4, 5] rfl (by decide) [0] rfl (Nat.le_of_ble_eq_true rfl) ?_
                    refine r_top (b := n - sm (fun j => b2 (¬ g j = 0)) n) rfl ?_
                    refine r_isub E dL_holds_379 ?_
                    refine r_icmp_gt E 446 dL_holds_380 (by decide) ⟨by omega, by omega⟩ ⟨by omega, by omega⟩ (fun c_380 => absurd c_380 (by omega)) (fun c_380 => ?_)
                    refine r_aload_n E 1 dL_holds_383 rfl rfl ?_
                    refine r_sM E (st := []) (c_L_areStickings l D x0 h0 t0 n0 i0 d0 r0 p0 hs rf h1 cI g n q d1 gp np i1 m pl1 pl2 pl3 pl4 pl5 pl6 cZ L ow cA cU hd fw t1 gt nt qt (by first | assumption | omega | exact ⟨by omega, by omega⟩) (by first | assumption | omega | exact ⟨by omega, by omega⟩) (by first | assumption | omega | exact ⟨by omega, by omega⟩) (by first | assumption | omega | exact ⟨by omega, by omega⟩)) gL_holds_L_areStickings 1 kf_L_areStickings ⟨rfl, rfl⟩ ⟨by decide, by decide⟩ dL_holds_384 rfl rfl ⟨Nat.zero_le _, Nat.zero_le _⟩ [0, 1, 2, 3, 4, 5, 6, 7, 8, 9, 10, 11, 12, 13, 14] rfl (by decide) [0, 1] rfl (Nat.le_of_ble_eq_true rfl) [] [] rfl (by decide) (by decide) hA [0, 1, 2, 3, 4, 5, 6, 7, 8, 9, 10, 11, 12, 13, 14] (by decide) (fun u : Int × (Int → Int) × (Int → Int) × (Int → Int) × (Int → Int) × (Int → Int) × (Int → Int) × Int => [(x0, .inr (5, [.ref h0, .ref t0, .ref n0, .ref i0, .ref d0, .ref r0, .ref p0, .int (iJ (hs)), .int (iJ (rf))])), (h0, .inr (2, [.ref h1, .int (iJ (n)), .int (iJ (q))])), (h1, cJ cI 32 (g)), (d0, .inr (1, [.ref d1, .int (iJ (np))])), (d1, cJ cI 60 (gp)), (i0, .inr (0, [.ref i1, .int (iJ (m))])), (p0, .inr (3, [.ref pl1, .ref pl2, .ref pl3, .ref pl4, .ref pl5, .ref pl6, .int (iJ (u.1))])), (pl1, cJ cI 32 (nrA)), (pl2, cJ cI 32 (u.2.1)), (pl3, cJ cZ 32 (u.2.2.1)), (pl4, cJ cZ 32 (u.2.2.2.1)), (pl5, cJ cI 32 (u.2.2.2.2.1)), (pl6, cJ cI 132 (u.2.2.2.2.2.1)), (t0, .inr (2, [.ref t1, .int (iJ (n)), .int (iJ (u.2.2.2.2.2.2.2))])), (t1, cJ cI 32 (u.2.2.2.2.2.2.1))]) (fun _ => rfl) ?_
                    rintro ⟨L2_1, O2_2, A2_3, U2_4, H2_5, F2_6, G2_7, Q2_8⟩ hp_9
                    refine r_cv (ws2 := [(x0, .inr (5, [.ref h0, .ref t0, .ref n0, .ref i0, .ref d0, .ref r0, .ref p0, .int (iJ (hs)), .int (iJ (rf))])), (h0, .inr (2, [.ref h1, .int (iJ (n)), .int (iJ (q))])), (h1, cJ cI 32 (g)), (d0, .inr (1, [.ref d1, .int (iJ (np))])), (d1, cJ cI 60 (gp)), (i0, .inr (0, [.ref i1, .int (iJ (m))])), (p0, .inr (3, [.ref pl1, .ref pl2, .ref pl3, .ref pl4, .ref pl5, .ref pl6, .int (iJ (L2_1))])), (pl1, cJ cI 32 (nrA)), (pl2, cJ cI 32 (O2_2)), (pl3, cJ cZ 32 (A2_3)), (pl4, cJ cZ 32 (U2_4)), (pl5, cJ cI 32 (H2_5)), (pl6, cJ cI 132 (F2_6)), (t0, .inr (2, [.ref t1, .int (iJ (n)), .int (iJ (Q2_8))])), (t1, cJ cI 32 (G2_7))]) (st2 := [.int (iJ (1))]) rfl rfl rfl ?_
                    refine r_if_eq E 446 dL_holds_387 (by decide) ⟨by omega, by omega⟩ (fun c_387 => absurd c_387 (by omega)) (fun c_387 => ?_)
                    refine r_aload_n E 1 dL_holds_390 rfl rfl ?_
                    refine r_iconst E 4 rfl dL_holds_391 ?_
                    refine r_vP E (st := []) (c_X6_count l D x0 h0 t0 n0 i0 d0 r0 p0 hs rf h1 cI g n q d1 gp np i1 m 4 (by first | assumption | omega | exact ⟨by omega, by omega⟩) (by first | assumption | omega | exact ⟨by omega, by omega⟩) (by first | assumption | omega | exact ⟨by omega, by omega⟩)) gL_holds_X6_count 1 kf_X6_count ⟨rfl, rfl⟩ ⟨by decide, by decide⟩ dL_holds_392 rfl 0 rfl rfl rfl rfl ⟨Nat.zero_le _, Nat.zero_le _⟩ [0, 1, 2, 3, 4, 5] rfl (by decide) [0] rfl (Nat.le_of_ble_eq_true rfl) ?_
                    refine r_top (b := sm (fun j => b2 (¬ g j = 0 ∧ g j / 2 % 4 = 2)) n) rfl ?_
                    refine r_if_ne E 433 dL_holds_395 (by decide) ⟨by omega, by omega⟩ (fun c_395 => ?_) (fun c_395 => ?_)
                    · refine r_aload_n E 1 dL_holds_433 rfl rfl ?_
                      refine r_vM E (st := []) (c_X6_clashNo l D x0 h0 t0 n0 i0 d0 r0 p0 hs rf h1 cI g n q pl1 pl2 pl3 pl4 pl5 pl6 cZ L2_1 O2_2 A2_3 U2_4 H2_5 F2_6 (by first | assumption | omega | exact ⟨by omega, by omega⟩) (by first | assumption | omega | exact ⟨by omega, by omega⟩) (by first | assumption | omega | exact ⟨by omega, by omega⟩) (by first | assumption | omega | exact ⟨by omega, by omega⟩)) gL_holds_X6_clash 0 kf_X6_clash ⟨rfl, rfl⟩ ⟨by decide, by decide⟩ dL_holds_434 rfl 0 rfl rfl rfl rfl ⟨Nat.zero_le _, Nat.zero_le _⟩ [0, 1, 2, 6, 7, 8, 9, 10, 11, 12] rfl (by decide) [0, 1] rfl (Nat.le_of_ble_eq_true rfl) [(d0, .inr (1, [.ref d1, .int (iJ (np))])), (d1, cJ cI 60 (gp)), (i0, .inr (0, [.ref i1, .int (iJ (m))])), (t0, .inr (2, [.ref t1, .int (iJ (n)), .int (iJ (Q2_8))])), (t1, cJ cI 32 (G2_7))] [3, 4, 5, 13, 14] rfl (by decide) (by decide) hA [5, 6, 7, 0, 1, 2, 8, 9, 10, 11, 12, 13, 14, 3, 4] (by decide) (fun u : Int × (Int → Int) × (Int → Int) × (Int → Int) × (Int → Int) × (Int → Int) => [(x0, .inr (5, [.ref h0, .ref t0, .ref n0, .ref i0, .ref d0, .ref r0, .ref p0, .int (iJ (hs)), .int (iJ (rf))])), (h0, .inr (2, [.ref h1, .int (iJ (n)), .int (iJ (q))])), (h1, cJ cI 32 (g)), (d0, .inr (1, [.ref d1, .int (iJ (np))])), (d1, cJ cI 60 (gp)), (i0, .inr (0, [.ref i1, .int (iJ (m))])), (p0, .inr (3, [.ref pl1, .ref pl2, .ref pl3, .ref pl4, .ref pl5, .ref pl6, .int (iJ (u.1))])), (pl1, cJ cI 32 (nrA)), (pl2, cJ cI 32 (u.2.1)), (pl3, cJ cZ 32 (u.2.2.1)), (pl4, cJ cZ 32 (u.2.2.2.1)), (pl5, cJ cI 32 (u.2.2.2.2.1)), (pl6, cJ cI 132 (u.2.2.2.2.2)), (t0, .inr (2, [.ref t1, .int (iJ (n)), .int (iJ (Q2_8))])), (t1, cJ cI 32 (G2_7))]) (fun _ => rfl) ?_
                      rintro ⟨L2_10, O2_11, A2_12, U2_13, H2_14, F2_15⟩ hp_16
                      refine r_cv (ws2 := [(x0, .inr (5, [.ref h0, .ref t0, .ref n0, .ref i0, .ref d0, .ref r0, .ref p0, .int (iJ (hs)), .int (iJ (rf))])), (h0, .inr (2, [.ref h1, .int (iJ (n)), .int (iJ (q))])), (h1, cJ cI 32 (g)), (d0, .inr (1, [.ref d1, .int (iJ (np))])), (d1, cJ cI 60 (gp)), (i0, .inr (0, [.ref i1, .int (iJ (m))])), (p0, .inr (3, [.ref pl1, .ref pl2, .ref pl3, .ref pl4, .ref pl5, .ref pl6, .int (iJ (L2_10))])), (pl1, cJ cI 32 (nrA)), (pl2, cJ cI 32 (O2_11)), (pl3, cJ cZ 32 (A2_12)), (pl4, cJ cZ 32 (U2_13)), (pl5, cJ cI 32 (H2_14)), (pl6, cJ cI 132 (F2_15)), (t0, .inr (2, [.ref t1, .int (iJ (n)), .int (iJ (Q2_8))])), (t1, cJ cI 32 (G2_7))]) (st2 := [.int (iJ (-2))]) rfl rfl rfl ?_
                      refine r_bipush E (-2) rfl dL_holds_437 ?_
                      refine r_icmp_ne E 446 dL_holds_439 (by decide) ⟨by omega, by omega⟩ ⟨by omega, by omega⟩ (fun c_439 => absurd c_439 (by omega)) (fun c_439 => ?_)
                      refine r_iconst E 1 rfl dL_holds_442 ?_
                      refine r_goto E 447 dL_holds_443 (by decide) ?_
                      exact r_retMZ E (L2_10, O2_11, A2_12, U2_13, H2_14, F2_15, G2_7, Q2_8) hr dL_holds_447 (by omega) rfl trivial rfl hQ
                    · refine r_aload_n E 1 dL_holds_398 rfl rfl ?_
                      refine r_vM E (st := []) (c_X6_clash l D x0 h0 t0 n0 i0 d0 r0 p0 hs rf h1 cI g n q pl1 pl2 pl3 pl4 pl5 pl6 cZ L2_1 O2_2 A2_3 U2_4 H2_5 F2_6 (by first | assumption | omega | exact ⟨by omega, by omega⟩) (by first | assumption | omega | exact ⟨by omega, by omega⟩) (by first | assumption | omega | exact ⟨by omega, by omega⟩) (by first | assumption | omega | exact ⟨by omega, by omega⟩)) gL_holds_X6_clash 0 kf_X6_clash ⟨rfl, rfl⟩ ⟨by decide, by decide⟩ dL_holds_399 rfl 0 rfl rfl rfl rfl ⟨Nat.zero_le _, Nat.zero_le _⟩ [0, 1, 2, 6, 7, 8, 9, 10, 11, 12] rfl (by decide) [0, 1] rfl (Nat.le_of_ble_eq_true rfl) [(d0, .inr (1, [.ref d1, .int (iJ (np))])), (d1, cJ cI 60 (gp)), (i0, .inr (0, [.ref i1, .int (iJ (m))])), (t0, .inr (2, [.ref t1, .int (iJ (n)), .int (iJ (Q2_8))])), (t1, cJ cI 32 (G2_7))] [3, 4, 5, 13, 14] rfl (by decide) (by decide) hA [5, 6, 7, 0, 1, 2, 8, 9, 10, 11, 12, 13, 14, 3, 4] (by decide) (fun u : Int × (Int → Int) × (Int → Int) × (Int → Int) × (Int → Int) × (Int → Int) => [(x0, .inr (5, [.ref h0, .ref t0, .ref n0, .ref i0, .ref d0, .ref r0, .ref p0, .int (iJ (hs)), .int (iJ (rf))])), (h0, .inr (2, [.ref h1, .int (iJ (n)), .int (iJ (q))])), (h1, cJ cI 32 (g)), (d0, .inr (1, [.ref d1, .int (iJ (np))])), (d1, cJ cI 60 (gp)), (i0, .inr (0, [.ref i1, .int (iJ (m))])), (p0, .inr (3, [.ref pl1, .ref pl2, .ref pl3, .ref pl4, .ref pl5, .ref pl6, .int (iJ (u.1))])), (pl1, cJ cI 32 (nrA)), (pl2, cJ cI 32 (u.2.1)), (pl3, cJ cZ 32 (u.2.2.1)), (pl4, cJ cZ 32 (u.2.2.2.1)), (pl5, cJ cI 32 (u.2.2.2.2.1)), (pl6, cJ cI 132 (u.2.2.2.2.2)), (t0, .inr (2, [.ref t1, .int (iJ (n)), .int (iJ (Q2_8))])), (t1, cJ cI 32 (G2_7))]) (fun _ => rfl) ?_
                      rintro ⟨L2_17, O2_18, A2_19, U2_20, H2_21, F2_22⟩ hp_23
                      refine r_cv (ws2 := [(x0, .inr (5, [.ref h0, .ref t0, .ref n0, .ref i0, .ref d0, .ref r0, .ref p0, .int (iJ (hs)), .int (iJ (rf))])), (h0, .inr (2, [.ref h1, .int (iJ (n)), .int (iJ (q))])), (h1, cJ cI 32 (g)), (d0, .inr (1, [.ref d1, .int (iJ (np))])), (d1, cJ cI 60 (gp)), (i0, .inr (0, [.ref i1, .int (iJ (m))])), (p0, .inr (3, [.ref pl1, .ref pl2, .ref pl3, .ref pl4, .ref pl5, .ref pl6, .int (iJ (L2_17))])), (pl1, cJ cI 32 (nrA)), (pl2, cJ cI 32 (O2_18)), (pl3, cJ cZ 32 (A2_19)), (pl4, cJ cZ 32 (U2_20)), (pl5, cJ cI 32 (H2_21)), (pl6, cJ cI 132 (F2_22)), (t0, .inr (2, [.ref t1, .int (iJ (n)), .int (iJ (Q2_8))])), (t1, cJ cI 32 (G2_7))]) (st2 := [.int (iJ (fcP g n q))]) rfl rfl rfl ?_
                      refine r_bipush E (-4) rfl dL_holds_402 ?_
                      refine r_dm_ine E dL_holds_404 dL_holds_407 dL_holds_408 dL_holds_411 ⟨by omega, by omega⟩ ⟨by omega, by omega⟩ ?_
                      refine r_aload_n E 1 dL_holds_412 rfl rfl ?_
                      refine r_iconst E 0 rfl dL_holds_413 ?_
                      refine r_iconst E 0 rfl dL_holds_414 ?_
                      refine r_vM E (st := [.int (iJ (b2 (fcP g n q = (-4))))]) (c_L6_stick l D x0 h0 t0 n0 i0 d0 r0 p0 hs rf h1 cI g n q pl1 pl2 pl3 pl4 pl5 pl6 cZ L2_17 O2_18 A2_19 U2_20 H2_21 F2_22 0 0 hn32 (by first | assumption | omega | exact ⟨by omega, by omega⟩) hv (by decide) (by decide)) gL_holds_X6_stickings 2 kf_X6_stickings ⟨rfl, rfl⟩ ⟨by decide, by decide⟩ dL_holds_415 rfl 0 rfl rfl rfl rfl ⟨Nat.zero_le _, Nat.zero_le _⟩ [0, 1, 2, 6, 7, 8, 9, 10, 11, 12] rfl (by decide) [0, 1] rfl (Nat.le_of_ble_eq_true rfl) [(d0, .inr (1, [.ref d1, .int (iJ (np))])), (d1, cJ cI 60 (gp)), (i0, .inr (0, [.ref i1, .int (iJ (m))])), (t0, .inr (2, [.ref t1, .int (iJ (n)), .int (iJ (Q2_8))])), (t1, cJ cI 32 (G2_7))] [3, 4, 5, 13, 14] rfl (by decide) (by decide) hA [5, 6, 7, 0, 1, 2, 8, 9, 10, 11, 12, 13, 14, 3, 4] (by decide) (fun u : Int × (Int → Int) × (Int → Int) × (Int → Int) × (Int → Int) × (Int → Int) => [(x0, .inr (5, [.ref h0, .ref t0, .ref n0, .ref i0, .ref d0, .ref r0, .ref p0, .int (iJ (hs)), .int (iJ (rf))])), (h0, .inr (2, [.ref h1, .int (iJ (n)), .int (iJ (q))])), (h1, cJ cI 32 (g)), (d0, .inr (1, [.ref d1, .int (iJ (np))])), (d1, cJ cI 60 (gp)), (i0, .inr (0, [.ref i1, .int (iJ (m))])), (p0, .inr (3, [.ref pl1, .ref pl2, .ref pl3, .ref pl4, .ref pl5, .ref pl6, .int (iJ (u.1))])), (pl1, cJ cI 32 (nrA)), (pl2, cJ cI 32 (u.2.1)), (pl3, cJ cZ 32 (u.2.2.1)), (pl4, cJ cZ 32 (u.2.2.2.1)), (pl5, cJ cI 32 (u.2.2.2.2.1)), (pl6, cJ cI 132 (u.2.2.2.2.2)), (t0, .inr (2, [.ref t1, .int (iJ (n)), .int (iJ (Q2_8))])), (t1, cJ cI 32 (G2_7))]) (fun _ => rfl) ?_
                      rintro ⟨L2_24, O2_25, A2_26, U2_27, H2_28, F2_29⟩ hp_30
                      refine r_cv (ws2 := [(x0, .inr (5, [.ref h0, .ref t0, .ref n0, .ref i0, .ref d0, .ref r0, .ref p0, .int (iJ (hs)), .int (iJ (rf))])), (h0, .inr (2, [.ref h1, .int (iJ (n)), .int (iJ (q))])), (h1, cJ cI 32 (g)), (d0, .inr (1, [.ref d1, .int (iJ (np))])), (d1, cJ cI 60 (gp)), (i0, .inr (0, [.ref i1, .int (iJ (m))])), (p0, .inr (3, [.ref pl1, .ref pl2, .ref pl3, .ref pl4, .ref pl5, .ref pl6, .int (iJ (L2_24))])), (pl1, cJ cI 32 (nrA)), (pl2, cJ cI 32 (O2_25)), (pl3, cJ cZ 32 (A2_26)), (pl4, cJ cZ 32 (U2_27)), (pl5, cJ cI 32 (H2_28)), (pl6, cJ cI 132 (F2_29)), (t0, .inr (2, [.ref t1, .int (iJ (n)), .int (iJ (Q2_8))])), (t1, cJ cI 32 (G2_7))]) (st2 := [.int (iJ (SV g n q 0)), .int (iJ (b2 (fcP g n q = (-4))))]) rfl rfl rfl ?_
                      refine r_top (b := SV g n q 0) rfl ?_
                      refine r_iconst E 1 rfl dL_holds_418 ?_
                      refine r_dm_ine E dL_holds_419 dL_holds_422 dL_holds_423 dL_holds_426 ⟨by omega, by omega⟩ ⟨by omega, by omega⟩ ?_
                      refine r_icmp_ne E 446 dL_holds_427 (by decide) (jb_b2 _) (jb_b2 _) (fun c_427 => absurd c_427 (by exact (fun t => t (b2_c (cl_e hn32 hq hv (by omega)))))) (fun c_427 => ?_)
                      refine r_goto E 442 dL_holds_430 (by decide) ?_
                      refine r_iconst E 1 rfl dL_holds_442 ?_
                      refine r_goto E 447 dL_holds_443 (by decide) ?_
                      exact r_retMZ E (L2_24, O2_25, A2_26, U2_27, H2_28, F2_29, G2_7, Q2_8) hr dL_holds_447 (by omega) rfl trivial rfl hQ
                  · refine r_iinc E (k := 7) [(7, .int (iJ ((p + 1)))), (0, .ref x0), (1, .int (iJ (n))), (2, .int (iJ (x2))), (3, .int (iJ (x3))), (4, .int (iJ (x4))), (5, .int (iJ (x5))), (6, .int (iJ (1)))] dL_holds_270 rfl (by decide) rfl ?_
                    refine r_goto E 261 dL_holds_273 (by decide) ?_
                    refine r_lv [1, 2, 3, 4, 5, 6, 7, 0] [(0, .ref x0), (1, .int (iJ (n))), (2, .int (iJ (x2))), (3, .int (iJ (x3))), (4, .int (iJ (x4))), (5, .int (iJ (x5))), (6, .int (iJ (1))), (7, .int (iJ ((p + 1))))] rfl ?_
                    exact ih261 (p + 1) ⟨by omega, by omega⟩ (by omega)
              refine r_lv [1, 2, 3, 4, 5, 6, 7, 0] [(0, .ref x0), (1, .int (iJ (n))), (2, .int (iJ (x2))), (3, .int (iJ (x3))), (4, .int (iJ (x4))), (5, .int (iJ (x5))), (6, .int (iJ (1))), (7, .int (iJ (0)))] rfl ?_
              exact loop_261 _ 0 ⟨by omega, by omega⟩ (Nat.lt_succ_self _)
            · refine r_iload E 4 dL_holds_241 rfl ?_
              refine r_aload_n E 0 dL_holds_243 rfl rfl ?_
              refine r_iload E 7 dL_holds_244 rfl ?_
              refine r_vP E (st := [.int (iJ (x4))]) (c_X6_heard l D x0 h0 t0 n0 i0 d0 r0 p0 hs rf h1 cI g n q t (by first | assumption | omega | exact ⟨by omega, by omega⟩) (by first | assumption | omega | exact ⟨by omega, by omega⟩) (by first | assumption | omega | exact ⟨by omega, by omega⟩)) gL_holds_X6_heard 1 kf_X6_heard ⟨rfl, rfl⟩ ⟨by decide, by decide⟩ dL_holds_246 rfl 0 rfl rfl rfl rfl ⟨Nat.zero_le _, Nat.zero_le _⟩ [0, 1, 2] rfl (by decide) [0] rfl (Nat.le_of_ble_eq_true rfl) ?_
              refine r_iadd E dL_holds_249 ?_
              refine r_istore E [(4, .int (iJ ((x4 + (sm (fun k => sFa (g k) (t - 4 * k)) n))))), (0, .ref x0), (1, .int (iJ (n))), (2, .int (iJ (x2))), (3, .int (iJ (x3))), (5, .int (iJ (x5))), (6, .int (iJ (1))), (7, .int (iJ (t)))] dL_holds_250 (by decide) rfl ?_
              refine r_iinc E (k := 7) [(7, .int (iJ ((t + 1)))), (4, .int (iJ ((x4 + (sm (fun k => sFa (g k) (t - 4 * k)) n))))), (0, .ref x0), (1, .int (iJ (n))), (2, .int (iJ (x2))), (3, .int (iJ (x3))), (5, .int (iJ (x5))), (6, .int (iJ (1)))] dL_holds_252 rfl (by decide) rfl ?_
              refine r_goto E 233 dL_holds_255 (by decide) ?_
              refine r_lv [2, 3, 4, 5, 1, 6, 7, 0] [(0, .ref x0), (1, .int (iJ (n))), (2, .int (iJ (x2))), (3, .int (iJ (x3))), (4, .int (iJ ((x4 + (sm (fun k => sFa (g k) (t - 4 * k)) n))))), (5, .int (iJ (x5))), (6, .int (iJ (1))), (7, .int (iJ ((t + 1))))] rfl ?_
              exact ih233 (t + 1) (x4 + (sm (fun k => sFa (g k) (t - 4 * k)) n)) ⟨by omega, by omega⟩ (by rw [show t + 1 + 2 = (t + 2) + 1 by omega, sm_s _ (by omega), ← hx4, show t + 2 - 2 = t by omega]) (by omega)
        refine r_lv [1, 2, 3, 4, 5, 6, 7, 0] [(0, .ref x0), (1, .int (iJ (n))), (2, .int (iJ (x2))), (3, .int (iJ (x3))), (4, .int (iJ (0))), (5, .int (iJ (x5))), (6, .int (iJ (1))), (7, .int (iJ ((-2))))] rfl ?_
        exact loop_233 _ (-2) 0 ⟨by omega, by omega⟩ rfl (Nat.lt_succ_self _)
      · refine r_iload E 6 dL_holds_65 rfl ?_
        refine r_if_eq E 229 dL_holds_67 (by decide) ⟨by omega, by omega⟩ (fun c_67 => absurd c_67 (by omega)) (fun c_67 => ?_)
        refine r_aload_n E 0 dL_holds_70 rfl rfl ?_
        refine r_iload E 7 dL_holds_71 rfl ?_
        refine r_iconst E 2 rfl dL_holds_73 ?_
        refine r_vP E (st := []) (c_X6_stepR l D x0 h0 t0 n0 i0 d0 r0 p0 hs rf h1 cI g n q k 2 (by first | assumption | omega | exact ⟨by omega, by omega⟩) (by first | assumption | omega | exact ⟨by omega, by omega⟩) (by first | assumption | omega | exact ⟨by omega, by omega⟩) (by first | assumption | omega | exact ⟨by omega, by omega⟩) (by first | assumption | omega | exact ⟨by omega, by omega⟩)) gL_holds_X6_step 2 kf_X6_step ⟨rfl, rfl⟩ ⟨by decide, by decide⟩ dL_holds_74 rfl 0 rfl rfl rfl rfl ⟨Nat.zero_le _, Nat.zero_le _⟩ [0, 1, 2] rfl (by decide) [0] rfl (Nat.le_of_ble_eq_true rfl) ?_
        refine r_top (b := g k / 16 % 4) rfl ?_
        refine r_istore E [(8, .int (iJ (g k / 16 % 4))), (0, .ref x0), (1, .int (iJ (n))), (2, .int (iJ (x2))), (3, .int (iJ (x3))), (4, .int (iJ (0))), (5, .int (iJ (x5))), (6, .int (iJ (1))), (7, .int (iJ (k)))] dL_holds_77 (by decide) rfl ?_
        have f_1 := hc_1 (hv k (by omega) (by omega))
        have f_o := ohV_in (g k)
        have f_s := smV_in (g k / 16 % 4)
        have f_g := hg k (by omega) (by omega)
        have f_B := sBl_in (c := g k)
        have f_F := sFs_5 (c := g k)
        have K_99 : ∀ (v : Int), (v = smV (g k / 16 % 4)) → GG p_ l e_ rm_L_holds s_ m_ ar_ bw_ mt_ cd_ D vwCl B_ B_ s_.heap 11 0 0 Q_ [(x0, .inr (5, [.ref h0, .ref t0, .ref n0, .ref i0, .ref d0, .ref r0, .ref p0, .int (iJ (hs)), .int (iJ (rf))])), (h0, .inr (2, [.ref h1, .int (iJ (n)), .int (iJ (q))])), (h1, cJ cI 32 (g)), (d0, .inr (1, [.ref d1, .int (iJ (np))])), (d1, cJ cI 60 (gp)), (i0, .inr (0, [.ref i1, .int (iJ (m))])), (p0, .inr (3, [.ref pl1, .ref pl2, .ref pl3, .ref pl4, .ref pl5, .ref pl6, .int (iJ (L))])), (pl1, cJ cI 32 (nrA)), (pl2, cJ cI 32 (ow)), (pl3, cJ cZ 32 (cA)), (pl4, cJ cZ 32 (cU)), (pl5, cJ cI 32 (hd)), (pl6, cJ cI 132 (fw)), (t0, .inr (2, [.ref t1, .int (iJ (nt)), .int (iJ (qt))])), (t1, cJ cI 32 (gt))] [(0, .ref x0), (1, .int (iJ (n))), (2, .int (iJ (x2))), (3, .int (iJ (x3))), (4, .int (iJ (0))), (5, .int (iJ (x5))), (6, .int (iJ (1))), (7, .int (iJ (k))), (8, .int (iJ (g k / 16 % 4)))] 99 [.int (iJ (v))] := by
          intro v hw
          refine r_istore E [(9, .int (iJ (v))), (0, .ref x0), (1, .int (iJ (n))), (2, .int (iJ (x2))), (3, .int (iJ (x3))), (4, .int (iJ (0))), (5, .int (iJ (x5))), (6, .int (iJ (1))), (7, .int (iJ (k))), (8, .int (iJ (g k / 16 % 4)))] dL_holds_99 (by decide) rfl ?_
          refine r_aload_n E 1 dL_holds_101 rfl rfl ?_
          refine r_iload E 8 dL_holds_102 rfl ?_
          refine r_iconst E 0 rfl dL_holds_104 ?_
          refine r_vP E (st := []) (c_X6_stepR l D x0 h0 t0 n0 i0 d0 r0 p0 hs rf h1 cI g n q k 0 (by first | assumption | omega | exact ⟨by omega, by omega⟩) (by first | assumption | omega | exact ⟨by omega, by omega⟩) (by first | assumption | omega | exact ⟨by omega, by omega⟩) (by first | assumption | omega | exact ⟨by omega, by omega⟩) (by first | assumption | omega | exact ⟨by omega, by omega⟩)) gL_holds_X6_step 2 kf_X6_step ⟨rfl, rfl⟩ ⟨by decide, by decide⟩ dL_holds_105 rfl 0 rfl rfl rfl rfl ⟨Nat.zero_le _, Nat.zero_le _⟩ [0, 1, 2] rfl (by decide) [0] rfl (Nat.le_of_ble_eq_true rfl) ?_
          refine r_top (b := ohV (g k)) rfl ?_
          refine r_bipush E (-4) rfl dL_holds_108 ?_
          refine r_dm_ine E dL_holds_110 dL_holds_113 dL_holds_114 dL_holds_117 ⟨by omega, by omega⟩ ⟨by omega, by omega⟩ ?_
          refine r_top (b := b2 (g k = 0)) (b2_c f_o.1) ?_
          refine r_istore E [(10, .int (iJ (b2 (g k = 0)))), (9, .int (iJ (v))), (0, .ref x0), (1, .int (iJ (n))), (2, .int (iJ (x2))), (3, .int (iJ (x3))), (4, .int (iJ (0))), (5, .int (iJ (x5))), (6, .int (iJ (1))), (7, .int (iJ (k))), (8, .int (iJ (g k / 16 % 4)))] dL_holds_118 (by decide) rfl ?_
          refine r_iload_n E 4 dL_holds_120 rfl rfl ?_
          refine r_aload_n E 2 dL_holds_121 rfl rfl ?_
          refine r_iload E 9 dL_holds_122 rfl ?_
          refine r_iconst E 3 rfl dL_holds_124 ?_
          refine r_vP E (st := [.int (iJ (x2))]) (c_X6_stepR l D x0 h0 t0 n0 i0 d0 r0 p0 hs rf h1 cI g n q k 3 (by first | assumption | omega | exact ⟨by omega, by omega⟩) (by first | assumption | omega | exact ⟨by omega, by omega⟩) (by first | assumption | omega | exact ⟨by omega, by omega⟩) (by first | assumption | omega | exact ⟨by omega, by omega⟩) (by first | assumption | omega | exact ⟨by omega, by omega⟩)) gL_holds_X6_step 2 kf_X6_step ⟨rfl, rfl⟩ ⟨by decide, by decide⟩ dL_holds_125 rfl 0 rfl rfl rfl rfl ⟨Nat.zero_le _, Nat.zero_le _⟩ [0, 1, 2] rfl (by decide) [0] rfl (Nat.le_of_ble_eq_true rfl) ?_
          refine r_top (b := sBl (g k)) rfl ?_
          refine r_iadd E dL_holds_128 ?_
          refine r_istore_n E [(2, .int (iJ ((x2 + (sBl (g k)))))), (10, .int (iJ (b2 (g k = 0)))), (9, .int (iJ (v))), (0, .ref x0), (1, .int (iJ (n))), (3, .int (iJ (x3))), (4, .int (iJ (0))), (5, .int (iJ (x5))), (6, .int (iJ (1))), (7, .int (iJ (k))), (8, .int (iJ (g k / 16 % 4)))] dL_holds_129 rfl (by decide) rfl ?_
          refine r_iload_n E 5 dL_holds_130 rfl rfl ?_
          refine r_aload_n E 3 dL_holds_131 rfl rfl ?_
          refine r_iload E 9 dL_holds_132 rfl ?_
          refine r_iconst E 4 rfl dL_holds_134 ?_
          refine r_vP E (st := [.int (iJ (x3))]) (c_X6_stepR l D x0 h0 t0 n0 i0 d0 r0 p0 hs rf h1 cI g n q k 4 (by first | assumption | omega | exact ⟨by omega, by omega⟩) (by first | assumption | omega | exact ⟨by omega, by omega⟩) (by first | assumption | omega | exact ⟨by omega, by omega⟩) (by first | assumption | omega | exact ⟨by omega, by omega⟩) (by first | assumption | omega | exact ⟨by omega, by omega⟩)) gL_holds_X6_step 2 kf_X6_step ⟨rfl, rfl⟩ ⟨by decide, by decide⟩ dL_holds_135 rfl 0 rfl rfl rfl rfl ⟨Nat.zero_le _, Nat.zero_le _⟩ [0, 1, 2] rfl (by decide) [0] rfl (Nat.le_of_ble_eq_true rfl) ?_
          refine r_top (b := sFs (g k)) rfl ?_
          refine r_iadd E dL_holds_138 ?_
          refine r_istore_n E [(3, .int (iJ ((x3 + (sFs (g k)))))), (2, .int (iJ ((x2 + (sBl (g k)))))), (10, .int (iJ (b2 (g k = 0)))), (9, .int (iJ (v))), (0, .ref x0), (1, .int (iJ (n))), (4, .int (iJ (0))), (5, .int (iJ (x5))), (6, .int (iJ (1))), (7, .int (iJ (k))), (8, .int (iJ (g k / 16 % 4)))] dL_holds_139 rfl (by decide) rfl ?_
          refine r_iload E 7 dL_holds_140 rfl ?_
          refine r_aload_n E 4 dL_holds_142 rfl rfl ?_
          refine r_iload E 9 dL_holds_143 rfl ?_
          refine r_iconst E 1 rfl dL_holds_145 ?_
          refine r_vP E (st := [.int (iJ (x5))]) (c_X6_stepR l D x0 h0 t0 n0 i0 d0 r0 p0 hs rf h1 cI g n q k 1 (by first | assumption | omega | exact ⟨by omega, by omega⟩) (by first | assumption | omega | exact ⟨by omega, by omega⟩) (by first | assumption | omega | exact ⟨by omega, by omega⟩) (by first | assumption | omega | exact ⟨by omega, by omega⟩) (by first | assumption | omega | exact ⟨by omega, by omega⟩)) gL_holds_X6_step 2 kf_X6_step ⟨rfl, rfl⟩ ⟨by decide, by decide⟩ dL_holds_146 rfl 0 rfl rfl rfl rfl ⟨Nat.zero_le _, Nat.zero_le _⟩ [0, 1, 2] rfl (by decide) [0] rfl (Nat.le_of_ble_eq_true rfl) ?_
          refine r_top (b := b2 (g k / 8 % 2 = 1)) rfl ?_
          refine r_iadd E dL_holds_149 ?_
          refine r_istore E [(5, .int (iJ ((x5 + (b2 (g k / 8 % 2 = 1)))))), (3, .int (iJ ((x3 + (sFs (g k)))))), (2, .int (iJ ((x2 + (sBl (g k)))))), (10, .int (iJ (b2 (g k = 0)))), (9, .int (iJ (v))), (0, .ref x0), (1, .int (iJ (n))), (4, .int (iJ (0))), (6, .int (iJ (1))), (7, .int (iJ (k))), (8, .int (iJ (g k / 16 % 4)))] dL_holds_150 (by decide) rfl ?_
          refine r_aload_n E 5 dL_holds_152 rfl rfl ?_
          refine r_iload E 9 dL_holds_153 rfl ?_
          refine r_iconst E 3 rfl dL_holds_155 ?_
          refine r_vP E (st := []) (c_X6_stepR l D x0 h0 t0 n0 i0 d0 r0 p0 hs rf h1 cI g n q k 3 (by first | assumption | omega | exact ⟨by omega, by omega⟩) (by first | assumption | omega | exact ⟨by omega, by omega⟩) (by first | assumption | omega | exact ⟨by omega, by omega⟩) (by first | assumption | omega | exact ⟨by omega, by omega⟩) (by first | assumption | omega | exact ⟨by omega, by omega⟩)) gL_holds_X6_step 2 kf_X6_step ⟨rfl, rfl⟩ ⟨by decide, by decide⟩ dL_holds_156 rfl 0 rfl rfl rfl rfl ⟨Nat.zero_le _, Nat.zero_le _⟩ [0, 1, 2] rfl (by decide) [0] rfl (Nat.le_of_ble_eq_true rfl) ?_
          refine r_top (b := sBl (g k)) rfl ?_
          have K_172 : ∀ (u : Int), (u = sBl (g k)) → GG p_ l e_ rm_L_holds s_ m_ ar_ bw_ mt_ cd_ D vwCl B_ B_ s_.heap 11 0 0 Q_ [(x0, .inr (5, [.ref h0, .ref t0, .ref n0, .ref i0, .ref d0, .ref r0, .ref p0, .int (iJ (hs)), .int (iJ (rf))])), (h0, .inr (2, [.ref h1, .int (iJ (n)), .int (iJ (q))])), (h1, cJ cI 32 (g)), (d0, .inr (1, [.ref d1, .int (iJ (np))])), (d1, cJ cI 60 (gp)), (i0, .inr (0, [.ref i1, .int (iJ (m))])), (p0, .inr (3, [.ref pl1, .ref pl2, .ref pl3, .ref pl4, .ref pl5, .ref pl6, .int (iJ (L))])), (pl1, cJ cI 32 (nrA)), (pl2, cJ cI 32 (ow)), (pl3, cJ cZ 32 (cA)), (pl4, cJ cZ 32 (cU)), (pl5, cJ cI 32 (hd)), (pl6, cJ cI 132 (fw)), (t0, .inr (2, [.ref t1, .int (iJ (nt)), .int (iJ (qt))])), (t1, cJ cI 32 (gt))] [(0, .ref x0), (1, .int (iJ (n))), (2, .int (iJ ((x2 + (sBl (g k)))))), (3, .int (iJ ((x3 + (sFs (g k)))))), (4, .int (iJ (0))), (5, .int (iJ ((x5 + (b2 (g k / 8 % 2 = 1)))))), (6, .int (iJ (1))), (7, .int (iJ (k))), (8, .int (iJ (g k / 16 % 4))), (9, .int (iJ (v))), (10, .int (iJ (b2 (g k = 0))))] 172 [.int (iJ (u)), .int (iJ (sBl (g k)))] := by
            intro u hu
            refine r_icmp_ne E 220 dL_holds_172 (by decide) ⟨by omega, by omega⟩ ⟨by omega, by omega⟩ (fun c_172 => absurd c_172 (by omega)) (fun c_172 => ?_)
            refine r_aload_n E 0 dL_holds_175 rfl rfl ?_
            refine r_iload E 7 dL_holds_176 rfl ?_
            refine r_iconst E 4 rfl dL_holds_178 ?_
            refine r_vP E (st := []) (c_X6_stepR l D x0 h0 t0 n0 i0 d0 r0 p0 hs rf h1 cI g n q k 4 (by first | assumption | omega | exact ⟨by omega, by omega⟩) (by first | assumption | omega | exact ⟨by omega, by omega⟩) (by first | assumption | omega | exact ⟨by omega, by omega⟩) (by first | assumption | omega | exact ⟨by omega, by omega⟩) (by first | assumption | omega | exact ⟨by omega, by omega⟩)) gL_holds_X6_step 2 kf_X6_step ⟨rfl, rfl⟩ ⟨by decide, by decide⟩ dL_holds_179 rfl 0 rfl rfl rfl rfl ⟨Nat.zero_le _, Nat.zero_le _⟩ [0, 1, 2] rfl (by decide) [0] rfl (Nat.le_of_ble_eq_true rfl) ?_
            refine r_top (b := sFs (g k)) rfl ?_
            have K_203 : ∀ (w : Int), (w = sFs (g k)) → GG p_ l e_ rm_L_holds s_ m_ ar_ bw_ mt_ cd_ D vwCl B_ B_ s_.heap 11 0 0 Q_ [(x0, .inr (5, [.ref h0, .ref t0, .ref n0, .ref i0, .ref d0, .ref r0, .ref p0, .int (iJ (hs)), .int (iJ (rf))])), (h0, .inr (2, [.ref h1, .int (iJ (n)), .int (iJ (q))])), (h1, cJ cI 32 (g)), (d0, .inr (1, [.ref d1, .int (iJ (np))])), (d1, cJ cI 60 (gp)), (i0, .inr (0, [.ref i1, .int (iJ (m))])), (p0, .inr (3, [.ref pl1, .ref pl2, .ref pl3, .ref pl4, .ref pl5, .ref pl6, .int (iJ (L))])), (pl1, cJ cI 32 (nrA)), (pl2, cJ cI 32 (ow)), (pl3, cJ cZ 32 (cA)), (pl4, cJ cZ 32 (cU)), (pl5, cJ cI 32 (hd)), (pl6, cJ cI 132 (fw)), (t0, .inr (2, [.ref t1, .int (iJ (nt)), .int (iJ (qt))])), (t1, cJ cI 32 (gt))] [(0, .ref x0), (1, .int (iJ (n))), (2, .int (iJ ((x2 + (sBl (g k)))))), (3, .int (iJ ((x3 + (sFs (g k)))))), (4, .int (iJ (0))), (5, .int (iJ ((x5 + (b2 (g k / 8 % 2 = 1)))))), (6, .int (iJ (1))), (7, .int (iJ (k))), (8, .int (iJ (g k / 16 % 4))), (9, .int (iJ (v))), (10, .int (iJ (b2 (g k = 0))))] 203 [.int (iJ (w)), .int (iJ (sFs (g k)))] := by
              intro w hw2
              refine r_icmp_ne E 220 dL_holds_203 (by decide) ⟨by omega, by omega⟩ ⟨by omega, by omega⟩ (fun c_203 => absurd c_203 (by omega)) (fun c_203 => ?_)
              refine r_iload E 10 dL_holds_206 rfl ?_
              refine r_ifeq_b E 216 dL_holds_208 (by decide) (fun c_208 => ?_) (fun c_208 => ?_)
              · refine r_iconst E 1 rfl dL_holds_216 ?_
                refine r_goto E 221 dL_holds_217 (by decide) ?_
                refine r_istore E [(6, .int (iJ (1))), (0, .ref x0), (1, .int (iJ (n))), (2, .int (iJ ((x2 + (sBl (g k)))))), (3, .int (iJ ((x3 + (sFs (g k)))))), (4, .int (iJ (0))), (5, .int (iJ ((x5 + (b2 (g k / 8 % 2 = 1)))))), (7, .int (iJ (k))), (8, .int (iJ (g k / 16 % 4))), (9, .int (iJ (v))), (10, .int (iJ (b2 (g k = 0))))] dL_holds_221 (by decide) rfl ?_
                refine r_iinc E (k := 7) [(7, .int (iJ ((k + 1)))), (6, .int (iJ (1))), (0, .ref x0), (1, .int (iJ (n))), (2, .int (iJ ((x2 + (sBl (g k)))))), (3, .int (iJ ((x3 + (sFs (g k)))))), (4, .int (iJ (0))), (5, .int (iJ ((x5 + (b2 (g k / 8 % 2 = 1)))))), (8, .int (iJ (g k / 16 % 4))), (9, .int (iJ (v))), (10, .int (iJ (b2 (g k = 0))))] dL_holds_223 rfl (by decide) rfl ?_
                refine r_goto E 59 dL_holds_226 (by decide) ?_
                refine r_lv [2, 3, 4, 5, 6, 7, 1, 0] [(0, .ref x0), (1, .int (iJ (n))), (2, .int (iJ ((x2 + (sBl (g k)))))), (3, .int (iJ ((x3 + (sFs (g k)))))), (4, .int (iJ (0))), (5, .int (iJ ((x5 + (b2 (g k / 8 % 2 = 1)))))), (6, .int (iJ (1))), (7, .int (iJ ((k + 1))))] rfl ?_
                exact ih59 (k + 1) (x2 + (sBl (g k))) (x3 + (sFs (g k))) (x5 + (b2 (g k / 8 % 2 = 1))) ⟨by omega, by omega⟩ (by rw [sm_s _ (by omega), hx2]) (by rw [sm_s _ (by omega), hx3]) (by rw [sm_s _ (by omega), hx5]) (by omega)
              · refine r_iload E 8 dL_holds_211 rfl ?_
                refine r_if_ne E 220 dL_holds_213 (by decide) ⟨by omega, by omega⟩ (fun c_213 => absurd c_213 (by omega)) (fun c_213 => ?_)
                refine r_iconst E 1 rfl dL_holds_216 ?_
                refine r_goto E 221 dL_holds_217 (by decide) ?_
                refine r_istore E [(6, .int (iJ (1))), (0, .ref x0), (1, .int (iJ (n))), (2, .int (iJ ((x2 + (sBl (g k)))))), (3, .int (iJ ((x3 + (sFs (g k)))))), (4, .int (iJ (0))), (5, .int (iJ ((x5 + (b2 (g k / 8 % 2 = 1)))))), (7, .int (iJ (k))), (8, .int (iJ (g k / 16 % 4))), (9, .int (iJ (v))), (10, .int (iJ (b2 (g k = 0))))] dL_holds_221 (by decide) rfl ?_
                refine r_iinc E (k := 7) [(7, .int (iJ ((k + 1)))), (6, .int (iJ (1))), (0, .ref x0), (1, .int (iJ (n))), (2, .int (iJ ((x2 + (sBl (g k)))))), (3, .int (iJ ((x3 + (sFs (g k)))))), (4, .int (iJ (0))), (5, .int (iJ ((x5 + (b2 (g k / 8 % 2 = 1)))))), (8, .int (iJ (g k / 16 % 4))), (9, .int (iJ (v))), (10, .int (iJ (b2 (g k = 0))))] dL_holds_223 rfl (by decide) rfl ?_
                refine r_goto E 59 dL_holds_226 (by decide) ?_
                refine r_lv [2, 3, 4, 5, 6, 7, 1, 0] [(0, .ref x0), (1, .int (iJ (n))), (2, .int (iJ ((x2 + (sBl (g k)))))), (3, .int (iJ ((x3 + (sFs (g k)))))), (4, .int (iJ (0))), (5, .int (iJ ((x5 + (b2 (g k / 8 % 2 = 1)))))), (6, .int (iJ (1))), (7, .int (iJ ((k + 1))))] rfl ?_
                exact ih59 (k + 1) (x2 + (sBl (g k))) (x3 + (sFs (g k))) (x5 + (b2 (g k / 8 % 2 = 1))) ⟨by omega, by omega⟩ (by rw [sm_s _ (by omega), hx2]) (by rw [sm_s _ (by omega), hx3]) (by rw [sm_s _ (by omega), hx5]) (by omega)
            refine r_iload E 10 dL_holds_182 rfl ?_
            refine r_ifeq_b E 191 dL_holds_184 (by decide) (fun c_184 => ?_) (fun c_184 => ?_)
            · refine r_iconst E 2 rfl dL_holds_191 ?_
              refine r_aload_n E 0 dL_holds_192 rfl rfl ?_
              refine r_iload E 7 dL_holds_193 rfl ?_
              refine r_iconst E 1 rfl dL_holds_195 ?_
              refine r_vP E (st := [.int (iJ (2)), .int (iJ (sFs (g k)))]) (c_X6_stepR l D x0 h0 t0 n0 i0 d0 r0 p0 hs rf h1 cI g n q k 1 (by first | assumption | omega | exact ⟨by omega, by omega⟩) (by first | assumption | omega | exact ⟨by omega, by omega⟩) (by first | assumption | omega | exact ⟨by omega, by omega⟩) (by first | assumption | omega | exact ⟨by omega, by omega⟩) (by first | assumption | omega | exact ⟨by omega, by omega⟩)) gL_holds_X6_step 2 kf_X6_step ⟨rfl, rfl⟩ ⟨by decide, by decide⟩ dL_holds_196 rfl 0 rfl rfl rfl rfl ⟨Nat.zero_le _, Nat.zero_le _⟩ [0, 1, 2] rfl (by decide) [0] rfl (Nat.le_of_ble_eq_true rfl) ?_
              refine r_top (b := b2 (g k / 8 % 2 = 1)) rfl ?_
              refine r_iadd E dL_holds_199 ?_
              refine r_iload E 9 dL_holds_200 rfl ?_
              refine r_iadd E dL_holds_202 ?_
              refine r_lv [0, 1, 2, 3, 4, 5, 6, 7, 8, 9, 10] [(0, .ref x0), (1, .int (iJ (n))), (2, .int (iJ ((x2 + (sBl (g k)))))), (3, .int (iJ ((x3 + (sFs (g k)))))), (4, .int (iJ (0))), (5, .int (iJ ((x5 + (b2 (g k / 8 % 2 = 1)))))), (6, .int (iJ (1))), (7, .int (iJ (k))), (8, .int (iJ (g k / 16 % 4))), (9, .int (iJ (v))), (10, .int (iJ (b2 (g k = 0))))] rfl ?_
              exact K_203 ((2 + (b2 (g k / 8 % 2 = 1))) + v) (by first | exact ((f_1.1 c_184).2.1).symm | (rw [hw]; exact ((f_1.2 c_184).2).symm))
            · refine r_iconst E 0 rfl dL_holds_187 ?_
              refine r_goto E 203 dL_holds_188 (by decide) ?_
              refine r_lv [0, 1, 2, 3, 4, 5, 6, 7, 8, 9, 10] [(0, .ref x0), (1, .int (iJ (n))), (2, .int (iJ ((x2 + (sBl (g k)))))), (3, .int (iJ ((x3 + (sFs (g k)))))), (4, .int (iJ (0))), (5, .int (iJ ((x5 + (b2 (g k / 8 % 2 = 1)))))), (6, .int (iJ (1))), (7, .int (iJ (k))), (8, .int (iJ (g k / 16 % 4))), (9, .int (iJ (v))), (10, .int (iJ (b2 (g k = 0))))] rfl ?_
              exact K_203 0 (by first | exact ((f_1.1 c_184).2.1).symm | (rw [hw]; exact ((f_1.2 c_184).2).symm))
          refine r_iload E 3 dL_holds_159 rfl ?_
          refine r_ifeq_b E 168 dL_holds_161 (by decide) (fun c_161 => ?_) (fun c_161 => ?_)
          · refine r_iconst E 1 rfl dL_holds_168 ?_
            refine r_iload E 4 dL_holds_169 rfl ?_
            refine r_iadd E dL_holds_171 ?_
            refine r_lv [5, 6, 2, 1, 7, 0, 8, 9, 10, 4, 3] [(0, .ref x0), (1, .int (iJ (n))), (2, .int (iJ ((x2 + (sBl (g k)))))), (3, .int (iJ ((x3 + (sFs (g k)))))), (4, .int (iJ (0))), (5, .int (iJ ((x5 + (b2 (g k / 8 % 2 = 1)))))), (6, .int (iJ (1))), (7, .int (iJ (k))), (8, .int (iJ (g k / 16 % 4))), (9, .int (iJ (v))), (10, .int (iJ (b2 (g k = 0))))] rfl ?_
            exact K_172 (1 + v) (by first | exact ((f_1.1 c_161).1).symm | (rw [hw]; exact ((f_1.2 c_161).1).symm))
          · refine r_iconst E 0 rfl dL_holds_164 ?_
            refine r_goto E 172 dL_holds_165 (by decide) ?_
            refine r_lv [5, 6, 2, 1, 7, 0, 8, 9, 10, 4, 3] [(0, .ref x0), (1, .int (iJ (n))), (2, .int (iJ ((x2 + (sBl (g k)))))), (3, .int (iJ ((x3 + (sFs (g k)))))), (4, .int (iJ (0))), (5, .int (iJ ((x5 + (b2 (g k / 8 % 2 = 1)))))), (6, .int (iJ (1))), (7, .int (iJ (k))), (8, .int (iJ (g k / 16 % 4))), (9, .int (iJ (v))), (10, .int (iJ (b2 (g k = 0))))] rfl ?_
            exact K_172 0 (by first | exact ((f_1.1 c_161).1).symm | (rw [hw]; exact ((f_1.2 c_161).1).symm))
        refine r_iload E 0 dL_holds_79 rfl ?_
        refine r_if_ne E 88 dL_holds_81 (by decide) ⟨by omega, by omega⟩ (fun c_81 => ?_) (fun c_81 => ?_)
        · refine r_iload E 0 dL_holds_88 rfl ?_
          refine r_iconst E 2 rfl dL_holds_90 ?_
          refine r_icmp_ne E 98 dL_holds_91 (by decide) ⟨by omega, by omega⟩ ⟨by omega, by omega⟩ (fun c_91 => ?_) (fun c_91 => ?_)
          · refine r_iconst E 1 rfl dL_holds_98 ?_
            refine r_lv [1, 2, 3, 4, 5, 6, 7, 8, 0] [(0, .ref x0), (1, .int (iJ (n))), (2, .int (iJ (x2))), (3, .int (iJ (x3))), (4, .int (iJ (0))), (5, .int (iJ (x5))), (6, .int (iJ (1))), (7, .int (iJ (k))), (8, .int (iJ (g k / 16 % 4)))] rfl ?_
            exact K_99 1 (by unfold smV; first | (rw [if_pos (by omega)]; done) | (rw [if_neg (by omega), if_pos (by omega)]; done) | (rw [if_neg (by omega), if_neg (by omega)]; done))
          · refine r_iconst E 2 rfl dL_holds_94 ?_
            refine r_goto E 99 dL_holds_95 (by decide) ?_
            refine r_lv [1, 2, 3, 4, 5, 6, 7, 8, 0] [(0, .ref x0), (1, .int (iJ (n))), (2, .int (iJ (x2))), (3, .int (iJ (x3))), (4, .int (iJ (0))), (5, .int (iJ (x5))), (6, .int (iJ (1))), (7, .int (iJ (k))), (8, .int (iJ (g k / 16 % 4)))] rfl ?_
            exact K_99 2 (by unfold smV; first | (rw [if_pos (by omega)]; done) | (rw [if_neg (by omega), if_pos (by omega)]; done) | (rw [if_neg (by omega), if_neg (by omega)]; done))
        · refine r_iconst E 0 rfl dL_holds_84 ?_
          refine r_goto E 99 dL_holds_85 (by decide) ?_
          refine r_lv [1, 2, 3, 4, 5, 6, 7, 8, 0] [(0, .ref x0), (1, .int (iJ (n))), (2, .int (iJ (x2))), (3, .int (iJ (x3))), (4, .int (iJ (0))), (5, .int (iJ (x5))), (6, .int (iJ (1))), (7, .int (iJ (k))), (8, .int (iJ (g k / 16 % 4)))] rfl ?_
          exact K_99 0 (by unfold smV; first | (rw [if_pos (by omega)]; done) | (rw [if_neg (by omega), if_pos (by omega)]; done) | (rw [if_neg (by omega), if_neg (by omega)]; done))
  refine r_lv [7, 6, 5, 4, 3, 2, 1, 0] [(0, .ref x0), (1, .int (iJ (n))), (2, .int (iJ (0))), (3, .int (iJ (0))), (4, .int (iJ (0))), (5, .int (iJ (0))), (6, .int (iJ (1))), (7, .int (iJ (0)))] rfl ?_
  exact loop_59 _ 0 0 0 0 ⟨by omega, by omega⟩ rfl rfl rfl (Nat.lt_succ_self _)
