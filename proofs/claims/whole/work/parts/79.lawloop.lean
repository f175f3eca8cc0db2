set_option maxHeartbeats 4000000 in
set_option maxRecDepth 100000 in
theorem law_loop {p_ : Program} {l : Launch} {e_ : Env} {s_ : State} {m_ : MethodId} {ar_ : Array Value} {bw_ : List Frame} {mt_ : Method} {cd_ : Code} {D : va_G} {Q_ : State → Prop} {b_ : Nat} {x0 h0 t0 n0 i0 d0 r0 p0 h1 t1 n1 i1 d1 r1 r2 p1 p2 p3 p4 p5 p6 m0 ms mh mn mp ml mm md mw mt mb mi mg : Nat} {cI cJ_ cZ cP : ClassId} (E : EE p_ s_ m_ ar_ mt_ cd_ D vwCl [(cI, .int), (cJ_, .long), (cZ, .boolean), (cP, .object "LeanSticks$Piece")] 8 cL_law RL wsL_law) {Ln : Nat} {xs : Nat → Int32} (hX : va_X b_ Ln xs s_ s_.heap) (hbl : b_ < s_.heap.size) (hL : Ln ≤ 2560) (ke : ∀ (ws : va_W) (lv : List (Nat × Value)), GG p_ l e_ room_1 s_ m_ ar_ bw_ mt_ cd_ D vwCl (fun q => s_.heap.size ≤ q) (fun q => s_.heap.size ≤ q) s_.heap 8 42 1383 Q_ ws lv 891 []) : ∀ (N : Nat) (i_ : Int) (hs : Int) (rf : Int) (n : Int) (q : Int) (g : Int → Int) (nt : Int) (qt : Int) (gt : Int → Int) (ns : Int) (qs : Int) (gs : Int → Int) (m : Int) (xa : Nat → Nat) (ya : Nat → Nat) (kN : Nat → Int) (kQ : Nat → Int) (kG : Nat → Int → Int) (np : Int) (gp : Int → Int) (S : Int → Int) (X : Int → Int) (L_ : Int) (ow : Int → Int) (cA : Int → Int) (cU : Int → Int) (hd : Int → Int) (fw : Int → Int) (kp : Int) (sv : Int) (pn : Int) (rf7 : Int) (tl : Int) (s : Int → Int) (h : Int → Int) (sn : Int → Int) (p : Int → Int) (le : Int → Int) (my : Int → Int) (hd7 : Int → Int) (ww : Int → Int) (T : Int → Int) (B : Int → Int) (X7 : Int → Int) (sg : Int → Int), 0 ≤ i_ ∧ i_ ≤ (Ln : Int) → ((Ln : Int) - i_).toNat < N → IV g n q s m kN kQ kG kp h hs ns qs gs sv sn np gp pn p rf rf7 nt → GG p_ l e_ room_1 s_ m_ ar_ bw_ mt_ cd_ D vwCl (fun q => s_.heap.size ≤ q) (fun q => s_.heap.size ≤ q) s_.heap 8 42 1383 Q_ [(x0, .inr (5, [.ref h0, .ref t0, .ref n0, .ref i0, .ref d0, .ref r0, .ref p0, .int (iJ (hs)), .int (iJ (rf))])), (h0, .inr (2, [.ref h1, .int (iJ (n)), .int (iJ (q))])), (h1, cJ cI 32 (g)), (t0, .inr (2, [.ref t1, .int (iJ (nt)), .int (iJ (qt))])), (t1, cJ cI 32 (gt)), (n0, .inr (2, [.ref n1, .int (iJ (ns)), .int (iJ (qs))])), (n1, cJ cI 32 (gs)), (i0, .inr (0, [.ref i1, .int (iJ (m))])), (i1, cR cP 4 (hF xa)), ((xa 0), .inr (2, [.ref (ya 0), .int (iJ (kN 0)), .int (iJ (kQ 0))])), ((ya 0), cJ cI 32 (kG 0)), ((xa 1), .inr (2, [.ref (ya 1), .int (iJ (kN 1)), .int (iJ (kQ 1))])), ((ya 1), cJ cI 32 (kG 1)), ((xa 2), .inr (2, [.ref (ya 2), .int (iJ (kN 2)), .int (iJ (kQ 2))])), ((ya 2), cJ cI 32 (kG 2)), ((xa 3), .inr (2, [.ref (ya 3), .int (iJ (kN 3)), .int (iJ (kQ 3))])), ((ya 3), cJ cI 32 (kG 3)), (d0, .inr (1, [.ref d1, .int (iJ (np))])), (d1, cJ cI 60 (gp)), (r0, .inr (4, [.ref r1, .ref r2])), (r1, cJ cI 60 (S)), (r2, cJ cI 60 (X)), (p0, .inr (3, [.ref p1, .ref p2, .ref p3, .ref p4, .ref p5, .ref p6, .int (iJ (L_))])), (p1, cJ cI 32 (nrA)), (p2, cJ cI 32 (ow)), (p3, cJ cZ 32 (cA)), (p4, cJ cZ 32 (cU)), (p5, cJ cI 32 (hd)), (p6, cJ cI 132 (fw)), (m0, .inr (6, [.ref ms, .ref mh, .int (iJ (kp)), .ref mn, .int (iJ (sv)), .ref mp, .int (iJ (pn)), .int (iJ (rf7)), .ref ml, .ref mm, .ref md, .ref mw, .ref mt, .int (iJ (tl)), .ref mb, .ref mi, .ref mg])), (ms, cJ cI 34 (s)), (mh, cJ cI 136 (h)), (mn, cJ cI 34 (sn)), (mp, cJ cI 60 (p)), (ml, cJ cI 99 (le)), (mm, cL cJ_ 99 (my)), (md, cJ cI 32 (hd7)), (mw, cJ cI 32 (ww)), (mt, cJ cI 33 (T)), (mb, cJ cI 30 (B)), (mi, cJ cI 30 (X7)), (mg, cJ cI 4 (sg))] [(0, .ref b_), (1, .ref x0), (2, .ref m0), (3, .int (iJ i_))] 18 [] := by
  intro N; induction N with
  | zero => intro i_ hs rf n q g nt qt gt ns qs gs m xa ya kN kQ kG np gp S X L_ ow cA cU hd fw kp sv pn rf7 tl s h sn p le my hd7 ww T B X7 sg _ hN; exact absurd hN (Nat.not_lt_zero _)
  | succ N ih =>
    intro i_ hs rf n q g nt qt gt ns qs gs m xa ya kN kQ kG np gp S X L_ ow cA cU hd fw kp sv pn rf7 tl s h sn p le my hd7 ww T B X7 sg hb hN hI
    refine r_iload_n E 3 dL_law_18 rfl rfl ?_
    refine r_aload_n E 0 dL_law_19 rfl rfl ?_
    refine r_slen E hX hbl (Nat.not_le.mpr hbl) dL_law_20 ?_
    refine r_iconst E 5 rfl dL_law_21 ?_
    refine r_isub E dL_law_22 ?_
    refine r_icmp_gt E 891 dL_law_23 (by decide) ⟨by omega, by omega⟩ ⟨by omega, by omega⟩ (fun _ => ke _ _) (fun c_23 => ?_)
    have hi : 0 ≤ i_ ∧ i_ + 4 < (Ln : Int) := ⟨hb.1, by omega⟩
    have kk : KK p_ l e_ s_ m_ ar_ bw_ mt_ cd_ D Q_ b_ i_ x0 h0 t0 n0 i0 d0 r0 p0 h1 t1 n1 i1 d1 r1 r2 p1 p2 p3 p4 p5 p6 m0 ms mh mn mp ml mm md mw mt mb mi mg cI cJ_ cZ cP := by
      intro hs rf n q g nt qt gt ns qs gs m xa ya kN kQ kG np gp S X L_ ow cA cU hd fw kp sv pn rf7 tl s h sn p le my hd7 ww T B X7 sg hI
      refine r_iinc E (k := 3) [(3, .int (iJ (i_ + 5))), (0, .ref b_), (1, .ref x0), (2, .ref m0)] dL_law_885 rfl (by decide) rfl ?_
      refine r_goto E 18 dL_law_888 (by decide) ?_
      refine r_lv [1, 2, 3, 0] [(0, .ref b_), (1, .ref x0), (2, .ref m0), (3, .int (iJ (i_ + 5)))] rfl ?_
      exact ih (i_ + 5) hs rf n q g nt qt gt ns qs gs m xa ya kN kQ kG np gp S X L_ ow cA cU hd fw kp sv pn rf7 tl s h sn p le my hd7 ww T B X7 sg ⟨by omega, by omega⟩ (by omega) hI
    refine r_aload_n E 0 dL_law_26 rfl rfl ?_
    refine r_iload_n E 3 dL_law_27 rfl rfl ?_
    refine r_sld E hX hbl (Nat.not_le.mpr hbl) hL (i := i_) (by omega) (XS xs i_) rfl dL_law_28 ?_
    refine r_bipush E 31 rfl dL_law_29 ?_
    obtain ⟨v, hv, ev⟩ := and_31 (XS xs i_)
    refine r_iand E v ev dL_law_31 ?_
    by_cases c_0 : v = 0
    · refine r_tabIn E 0 156 dL_law_32 c_0 ⟨by decide, by decide⟩ (by decide) (by decide) rfl (by decide) ?_
      exact cL_c0 E hX hbl hL hi rfl (jb_of _) rfl (jb_of _) rfl (jb_of _) rfl (jb_of _) rfl (b2_01 _) hI kk
    by_cases c_1 : v = 1
    · refine r_tabIn E 1 225 dL_law_32 c_1 ⟨by decide, by decide⟩ (by decide) (by decide) rfl (by decide) ?_
      exact cL_c1 E hX hbl hL hi rfl (jb_of _) hI kk
    by_cases c_2 : v = 2
    · refine r_tabIn E 2 248 dL_law_32 c_2 ⟨by decide, by decide⟩ (by decide) (by decide) rfl (by decide) ?_
      exact cL_c2 E hX hbl hL hi rfl (jb_of _) rfl (jb_of _) hI kk
    by_cases c_3 : v = 3
    · refine r_tabIn E 3 281 dL_law_32 c_3 ⟨by decide, by decide⟩ (by decide) (by decide) rfl (by decide) ?_
      exact cL_c3 E hX hbl hL hi rfl (jb_of _) rfl (jb_of _) hI kk
    by_cases c_4 : v = 4
    · refine r_tabIn E 4 314 dL_law_32 c_4 ⟨by decide, by decide⟩ (by decide) (by decide) rfl (by decide) ?_
      exact cL_c4 E hX hbl hL hi  hI kk
    by_cases c_5 : v = 5
    · refine r_tabIn E 5 327 dL_law_32 c_5 ⟨by decide, by decide⟩ (by decide) (by decide) rfl (by decide) ?_
      exact cL_c5 E hX hbl hL hi rfl (jb_of _) hI kk
    by_cases c_6 : v = 6
    · refine r_tabIn E 6 350 dL_law_32 c_6 ⟨by decide, by decide⟩ (by decide) (by decide) rfl (by decide) ?_
      exact cL_c6 E hX hbl hL hi rfl (jb_of _) rfl (b2_01 _) hI kk
    by_cases c_7 : v = 7
    · refine r_tabIn E 7 389 dL_law_32 c_7 ⟨by decide, by decide⟩ (by decide) (by decide) rfl (by decide) ?_
      exact cL_c7 E hX hbl hL hi rfl (jb_of _) hI kk
    by_cases c_8 : v = 8
    · refine r_tabIn E 8 412 dL_law_32 c_8 ⟨by decide, by decide⟩ (by decide) (by decide) rfl (by decide) ?_
      exact cL_c8 E hX hbl hL hi rfl (jb_of _) rfl (b2_01 _) hI kk
    by_cases c_9 : v = 9
    · refine r_tabIn E 9 451 dL_law_32 c_9 ⟨by decide, by decide⟩ (by decide) (by decide) rfl (by decide) ?_
      exact cL_c9 E hX hbl hL hi rfl (jb_of _) hI kk
    by_cases c_10 : v = 10
    · refine r_tabIn E 10 474 dL_law_32 c_10 ⟨by decide, by decide⟩ (by decide) (by decide) rfl (by decide) ?_
      exact cL_c10 E hX hbl hL hi  hI kk
    by_cases c_11 : v = 11
    · refine r_tabIn E 11 487 dL_law_32 c_11 ⟨by decide, by decide⟩ (by decide) (by decide) rfl (by decide) ?_
      exact cL_c11 E hX hbl hL hi rfl (jb_of _) hI kk
    by_cases c_12 : v = 12
    · refine r_tabIn E 12 510 dL_law_32 c_12 ⟨by decide, by decide⟩ (by decide) (by decide) rfl (by decide) ?_
      exact cL_c12 E hX hbl hL hi  hI kk
    by_cases c_13 : v = 13
    · refine r_tabIn E 13 523 dL_law_32 c_13 ⟨by decide, by decide⟩ (by decide) (by decide) rfl (by decide) ?_
      exact cL_c13 E hX hbl hL hi  hI kk
    by_cases c_14 : v = 14
    · refine r_tabIn E 14 536 dL_law_32 c_14 ⟨by decide, by decide⟩ (by decide) (by decide) rfl (by decide) ?_
      exact cL_c14 E hX hbl hL hi rfl (jb_of _) hI kk
    by_cases c_15 : v = 15
    · refine r_tabIn E 15 559 dL_law_32 c_15 ⟨by decide, by decide⟩ (by decide) (by decide) rfl (by decide) ?_
      exact cL_c15 E hX hbl hL hi rfl (jb_of _) rfl (jb_of _) hI kk
    by_cases c_16 : v = 16
    · refine r_tabIn E 16 592 dL_law_32 c_16 ⟨by decide, by decide⟩ (by decide) (by decide) rfl (by decide) ?_
      exact cL_c16 E hX hbl hL hi rfl (jb_of _) hI kk
    by_cases c_17 : v = 17
    · refine r_tabIn E 17 615 dL_law_32 c_17 ⟨by decide, by decide⟩ (by decide) (by decide) rfl (by decide) ?_
      exact cL_c17 E hX hbl hL hi rfl (jb_of _) rfl (jb_of _) rfl (b2_01 _) hI kk
    by_cases c_18 : v = 18
    · refine r_tabIn E 18 664 dL_law_32 c_18 ⟨by decide, by decide⟩ (by decide) (by decide) rfl (by decide) ?_
      exact cL_c18 E hX hbl hL hi  hI kk
    by_cases c_19 : v = 19
    · refine r_tabIn E 19 677 dL_law_32 c_19 ⟨by decide, by decide⟩ (by decide) (by decide) rfl (by decide) ?_
      exact cL_c19 E hX hbl hL hi rfl (jb_of _) hI kk
    by_cases c_20 : v = 20
    · refine r_tabIn E 20 700 dL_law_32 c_20 ⟨by decide, by decide⟩ (by decide) (by decide) rfl (by decide) ?_
      exact cL_c20 E hX hbl hL hi rfl (jb_of _) rfl (b2_01 _) hI kk
    by_cases c_21 : v = 21
    · refine r_tabIn E 21 767 dL_law_32 c_21 ⟨by decide, by decide⟩ (by decide) (by decide) rfl (by decide) ?_
      exact cL_c21 E hX hbl hL hi  hI kk
    by_cases c_22 : v = 22
    · refine r_tabIn E 22 780 dL_law_32 c_22 ⟨by decide, by decide⟩ (by decide) (by decide) rfl (by decide) ?_
      exact cL_c22 E hX hbl hL hi rfl (jb_of _) rfl (jb_of _) rfl (jb_of _) rfl (jb_of _) hI kk
    by_cases c_23 : v = 23
    · refine r_tabIn E 23 833 dL_law_32 c_23 ⟨by decide, by decide⟩ (by decide) (by decide) rfl (by decide) ?_
      exact cL_c23 E hX hbl hL hi  hI kk
    by_cases c_24 : v = 24
    · refine r_tabIn E 24 846 dL_law_32 c_24 ⟨by decide, by decide⟩ (by decide) (by decide) rfl (by decide) ?_
      exact cL_c24 E hX hbl hL hi  hI kk
    by_cases c_25 : v = 25
    · refine r_tabIn E 25 859 dL_law_32 c_25 ⟨by decide, by decide⟩ (by decide) (by decide) rfl (by decide) ?_
      exact cL_c25 E hX hbl hL hi  hI kk
    by_cases c_26 : v = 26
    · refine r_tabIn E 26 872 dL_law_32 c_26 ⟨by decide, by decide⟩ (by decide) (by decide) rfl (by decide) ?_
      exact cL_c26 E hX hbl hL hi  hI kk
    refine r_tabOut E 885 dL_law_32 ⟨by omega, by omega⟩ (by omega) (by decide) ?_
    exact kk hs rf n q g nt qt gt ns qs gs m xa ya kN kQ kG np gp S X L_ ow cA cU hd fw kp sv pn rf7 tl s h sn p le my hd7 ww T B X7 sg hI
