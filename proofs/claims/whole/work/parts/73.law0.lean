def KK (p_ : Program) (l : Launch) (e_ : Env) (s_ : State) (m_ : MethodId) (ar_ : Array Value) (bw_ : List Frame) (mt_ : Method) (cd_ : Code) (D : va_G) (Q_ : State → Prop) (b_ : Nat) (i_ : Int) (x0 h0 t0 n0 i0 d0 r0 p0 h1 t1 n1 i1 d1 r1 r2 p1 p2 p3 p4 p5 p6 m0 ms mh mn mp ml mm md mw mt mb mi mg : Nat) (cI cJ_ cZ cP : ClassId) : Prop :=
  ∀ (hs : Int) (rf : Int) (n : Int) (q : Int) (g : Int → Int) (nt : Int) (qt : Int) (gt : Int → Int) (ns : Int) (qs : Int) (gs : Int → Int) (m : Int) (xa : Nat → Nat) (ya : Nat → Nat) (kN : Nat → Int) (kQ : Nat → Int) (kG : Nat → Int → Int) (np : Int) (gp : Int → Int) (S : Int → Int) (X : Int → Int) (L_ : Int) (ow : Int → Int) (cA : Int → Int) (cU : Int → Int) (hd : Int → Int) (fw : Int → Int) (kp : Int) (sv : Int) (pn : Int) (rf7 : Int) (tl : Int) (s : Int → Int) (h : Int → Int) (sn : Int → Int) (p : Int → Int) (le : Int → Int) (my : Int → Int) (hd7 : Int → Int) (ww : Int → Int) (T : Int → Int) (B : Int → Int) (X7 : Int → Int) (sg : Int → Int), IV g n q s m kN kQ kG kp h hs ns qs gs sv sn np gp pn p rf rf7 nt → GG p_ l e_ room_1 s_ m_ ar_ bw_ mt_ cd_ D vwCl (fun q => s_.heap.size ≤ q) (fun q => s_.heap.size ≤ q) s_.heap 8 42 1383 Q_ [(x0, .inr (5, [.ref h0, .ref t0, .ref n0, .ref i0, .ref d0, .ref r0, .ref p0, .int (iJ (hs)), .int (iJ (rf))])), (h0, .inr (2, [.ref h1, .int (iJ (n)), .int (iJ (q))])), (h1, cJ cI 32 (g)), (t0, .inr (2, [.ref t1, .int (iJ (nt)), .int (iJ (qt))])), (t1, cJ cI 32 (gt)), (n0, .inr (2, [.ref n1, .int (iJ (ns)), .int (iJ (qs))])), (n1, cJ cI 32 (gs)), (i0, .inr (0, [.ref i1, .int (iJ (m))])), (i1, cR cP 4 (hF xa)), ((xa 0), .inr (2, [.ref (ya 0), .int (iJ (kN 0)), .int (iJ (kQ 0))])), ((ya 0), cJ cI 32 (kG 0)), ((xa 1), .inr (2, [.ref (ya 1), .int (iJ (kN 1)), .int (iJ (kQ 1))])), ((ya 1), cJ cI 32 (kG 1)), ((xa 2), .inr (2, [.ref (ya 2), .int (iJ (kN 2)), .int (iJ (kQ 2))])), ((ya 2), cJ cI 32 (kG 2)), ((xa 3), .inr (2, [.ref (ya 3), .int (iJ (kN 3)), .int (iJ (kQ 3))])), ((ya 3), cJ cI 32 (kG 3)), (d0, .inr (1, [.ref d1, .int (iJ (np))])), (d1, cJ cI 60 (gp)), (r0, .inr (4, [.ref r1, .ref r2])), (r1, cJ cI 60 (S)), (r2, cJ cI 60 (X)), (p0, .inr (3, [.ref p1, .ref p2, .ref p3, .ref p4, .ref p5, .ref p6, .int (iJ (L_))])), (p1, cJ cI 32 (nrA)), (p2, cJ cI 32 (ow)), (p3, cJ cZ 32 (cA)), (p4, cJ cZ 32 (cU)), (p5, cJ cI 32 (hd)), (p6, cJ cI 132 (fw)), (m0, .inr (6, [.ref ms, .ref mh, .int (iJ (kp)), .ref mn, .int (iJ (sv)), .ref mp, .int (iJ (pn)), .int (iJ (rf7)), .ref ml, .ref mm, .ref md, .ref mw, .ref mt, .int (iJ (tl)), .ref mb, .ref mi, .ref mg])), (ms, cJ cI 34 (s)), (mh, cJ cI 136 (h)), (mn, cJ cI 34 (sn)), (mp, cJ cI 60 (p)), (ml, cJ cI 99 (le)), (mm, cL cJ_ 99 (my)), (md, cJ cI 32 (hd7)), (mw, cJ cI 32 (ww)), (mt, cJ cI 33 (T)), (mb, cJ cI 30 (B)), (mi, cJ cI 30 (X7)), (mg, cJ cI 4 (sg))] [(0, .ref b_), (1, .ref x0), (2, .ref m0), (3, .int (iJ i_))] 885 []

set_option maxHeartbeats 4000000 in
set_option maxRecDepth 100000 in
theorem cL_0Bad {p_ : Program} {l : Launch} {e_ : Env} {s_ : State} {m_ : MethodId} {ar_ : Array Value} {bw_ : List Frame} {mt_ : Method} {cd_ : Code} {D : va_G} {Q_ : State → Prop} {b_ : Nat} {i_ : Int} {x0 h0 t0 n0 i0 d0 r0 p0 h1 t1 n1 i1 d1 r1 r2 p1 p2 p3 p4 p5 p6 m0 ms mh mn mp ml mm md mw mt mb mi mg : Nat} {cI cJ_ cZ cP : ClassId} (E : EE p_ s_ m_ ar_ mt_ cd_ D vwCl [(cI, .int), (cJ_, .long), (cZ, .boolean), (cP, .object "LeanSticks$Piece")] 8 cL_law RL wsL_law) {Ln : Nat} {xs : Nat → Int32} (hX : va_X b_ Ln xs s_ s_.heap) (hbl : b_ < s_.heap.size) (hL : Ln ≤ 2560) (hi : 0 ≤ i_ ∧ i_ + 4 < (Ln : Int)) {a1 : Int} (e1 : XS xs (i_ + 1) = a1) (j1 : jb a1) {a2 : Int} (e2 : XS xs (i_ + 2) = a2) (j2 : jb a2) {a3 : Int} (e3 : XS xs (i_ + 3) = a3) (j3 : jb a3) {a4 : Int} (e4 : XS xs (i_ + 4) = a4) (j4 : jb a4) {z3 : Int} (ez3 : b2 (¬ a3 = 0) = z3) (hz3 : z3 = 0 ∨ z3 = 1) {hs : Int} {rf : Int} {n : Int} {q : Int} {g : Int → Int} {nt : Int} {qt : Int} {gt : Int → Int} {ns : Int} {qs : Int} {gs : Int → Int} {m : Int} {xa : Nat → Nat} {ya : Nat → Nat} {kN : Nat → Int} {kQ : Nat → Int} {kG : Nat → Int → Int} {np : Int} {gp : Int → Int} {S : Int → Int} {X : Int → Int} {L_ : Int} {ow : Int → Int} {cA : Int → Int} {cU : Int → Int} {hd : Int → Int} {fw : Int → Int} {kp : Int} {sv : Int} {pn : Int} {rf7 : Int} {tl : Int} {s : Int → Int} {h : Int → Int} {sn : Int → Int} {p : Int → Int} {le : Int → Int} {my : Int → Int} {hd7 : Int → Int} {ww : Int → Int} {T : Int → Int} {B : Int → Int} {X7 : Int → Int} {sg : Int → Int} (hI : IV g n q s m kN kQ kG kp h hs ns qs gs sv sn np gp pn p rf rf7 nt) (hk : ¬ ((0 ≤ a1 ∧ a1 ≤ n) ∧ (0 ≤ a2 ∧ a2 ≤ 2) ∧ (0 ≤ a4 ∧ a4 ≤ 3))) (kk : KK p_ l e_ s_ m_ ar_ bw_ mt_ cd_ D Q_ b_ i_ x0 h0 t0 n0 i0 d0 r0 p0 h1 t1 n1 i1 d1 r1 r2 p1 p2 p3 p4 p5 p6 m0 ms mh mn mp ml mm md mw mt mb mi mg cI cJ_ cZ cP) : GG p_ l e_ room_1 s_ m_ ar_ bw_ mt_ cd_ D vwCl (fun q => s_.heap.size ≤ q) (fun q => s_.heap.size ≤ q) s_.heap 8 42 1383 Q_ [(x0, .inr (5, [.ref h0, .ref t0, .ref n0, .ref i0, .ref d0, .ref r0, .ref p0, .int (iJ (hs)), .int (iJ (rf))])), (h0, .inr (2, [.ref h1, .int (iJ (n)), .int (iJ (q))])), (h1, cJ cI 32 (g)), (t0, .inr (2, [.ref t1, .int (iJ (nt)), .int (iJ (qt))])), (t1, cJ cI 32 (gt)), (n0, .inr (2, [.ref n1, .int (iJ (ns)), .int (iJ (qs))])), (n1, cJ cI 32 (gs)), (i0, .inr (0, [.ref i1, .int (iJ (m))])), (i1, cR cP 4 (hF xa)), ((xa 0), .inr (2, [.ref (ya 0), .int (iJ (kN 0)), .int (iJ (kQ 0))])), ((ya 0), cJ cI 32 (kG 0)), ((xa 1), .inr (2, [.ref (ya 1), .int (iJ (kN 1)), .int (iJ (kQ 1))])), ((ya 1), cJ cI 32 (kG 1)), ((xa 2), .inr (2, [.ref (ya 2), .int (iJ (kN 2)), .int (iJ (kQ 2))])), ((ya 2), cJ cI 32 (kG 2)), ((xa 3), .inr (2, [.ref (ya 3), .int (iJ (kN 3)), .int (iJ (kQ 3))])), ((ya 3), cJ cI 32 (kG 3)), (d0, .inr (1, [.ref d1, .int (iJ (np))])), (d1, cJ cI 60 (gp)), (r0, .inr (4, [.ref r1, .ref r2])), (r1, cJ cI 60 (S)), (r2, cJ cI 60 (X)), (p0, .inr (3, [.ref p1, .ref p2, .ref p3, .ref p4, .ref p5, .ref p6, .int (iJ (L_))])), (p1, cJ cI 32 (nrA)), (p2, cJ cI 32 (ow)), (p3, cJ cZ 32 (cA)), (p4, cJ cZ 32 (cU)), (p5, cJ cI 32 (hd)), (p6, cJ cI 132 (fw)), (m0, .inr (6, [.ref ms, .ref mh, .int (iJ (kp)), .ref mn, .int (iJ (sv)), .ref mp, .int (iJ (pn)), .int (iJ (rf7)), .ref ml, .ref mm, .ref md, .ref mw, .ref mt, .int (iJ (tl)), .ref mb, .ref mi, .ref mg])), (ms, cJ cI 34 (s)), (mh, cJ cI 136 (h)), (mn, cJ cI 34 (sn)), (mp, cJ cI 60 (p)), (ml, cJ cI 99 (le)), (mm, cL cJ_ 99 (my)), (md, cJ cI 32 (hd7)), (mw, cJ cI 32 (ww)), (mt, cJ cI 33 (T)), (mb, cJ cI 30 (B)), (mi, cJ cI 30 (X7)), (mg, cJ cI 4 (sg))] [(0, .ref b_), (1, .ref x0), (2, .ref m0), (3, .int (iJ i_))] 156 [] := by
  obtain ⟨iR, iH, iS, iP, iF, iT⟩ := hI
  have b_n := iR.1
  have b_q := iR.2.1
  have b_g := iR.hg
  have b_g3 := iR.hg3
  have b_s0 := iR.hs0
  have b_s1 := iR.hs1
  have b_sv := iR.hsv
  have b_m := iH.2.1
  have b_kN := iH.2.2.1
  have e_kp := iH.1
  have b_kp : 0 ≤ kp ∧ kp ≤ 4 := by rw [e_kp]; exact b_m
  have b_np := iP.2.1
  have e_pn := iP.1
  have b_pn : 0 ≤ pn ∧ pn ≤ 60 := by rw [e_pn]; exact b_np
  have b_pp : ∀ j : Int, 0 ≤ j → j < pn → 33 ≤ p j ∧ p j ≤ 126 := fun j t1 t2 => (iP.2.2 j t1 (by rw [← e_pn]; exact t2)).2
  have b_gp : ∀ j : Int, 0 ≤ j → j < np → 33 ≤ gp j ∧ gp j ≤ 126 := fun j t1 t2 => by rw [(iP.2.2 j t1 t2).1]; exact (iP.2.2 j t1 t2).2
  have b_ns := iS.2.2.1
  have e_sv := iS.1
  have e_s0 : s 0 = n := iR.2.2.1
  have e_s1 : s 1 = q := iR.2.2.2.1
  have hA : ∀ q : Nat, s_.heap.size ≤ q → (fun q : Nat => s_.heap.size ≤ q) q := fun _ t => t
  refine r_aload_n E 1 dL_law_156 rfl rfl ?_
  refine r_aload_n E 0 dL_law_157 rfl rfl ?_
  refine r_iload_n E 3 dL_law_158 rfl rfl ?_
  refine r_iconst E 1 rfl dL_law_159 ?_
  refine r_iadd E dL_law_160 ?_
  refine r_sld E hX hbl (Nat.not_le.mpr hbl) hL (i := (i_ + 1)) (by omega) a1 e1 dL_law_161 ?_
  refine r_aload_n E 0 dL_law_162 rfl rfl ?_
  refine r_iload_n E 3 dL_law_163 rfl rfl ?_
  refine r_iconst E 2 rfl dL_law_164 ?_
  refine r_iadd E dL_law_165 ?_
  refine r_sld E hX hbl (Nat.not_le.mpr hbl) hL (i := (i_ + 2)) (by omega) a2 e2 dL_law_166 ?_
  refine r_aload_n E 0 dL_law_167 rfl rfl ?_
  refine r_iload_n E 3 dL_law_168 rfl rfl ?_
  refine r_iconst E 3 rfl dL_law_169 ?_
  refine r_iadd E dL_law_170 ?_
  refine r_sld E hX hbl (Nat.not_le.mpr hbl) hL (i := (i_ + 3)) (by omega) a3 e3 dL_law_171 ?_
  refine r_bool E j3 z3 ez3 dL_law_172 dL_law_175 dL_law_176 dL_law_179 ?_
  refine r_aload_n E 0 dL_law_180 rfl rfl ?_
  refine r_iload_n E 3 dL_law_181 rfl rfl ?_
  refine r_iconst E 4 rfl dL_law_182 ?_
  refine r_iadd E dL_law_183 ?_
  refine r_sld E hX hbl (Nat.not_le.mpr hbl) hL (i := (i_ + 4)) (by omega) a4 e4 dL_law_184 ?_
  refine r_vP E (st := []) (c_X6_strokeBad l D x0 h0 t0 n0 i0 d0 r0 p0 hs rf h1 cI g n q a1 a2 z3 a4 (by first | assumption | omega | exact ⟨by omega, by omega⟩) (by first | assumption | omega | exact ⟨by omega, by omega⟩) (by first | assumption | omega | exact ⟨by omega, by omega⟩) hz3 (by first | assumption | omega | exact ⟨by omega, by omega⟩) hk) gL_law_X6_stroke 4 kf_X6_stroke ⟨rfl, rfl⟩ ⟨Nat.le_of_ble_eq_true rfl, Nat.le_of_ble_eq_true rfl⟩ dL_law_185 rfl 0 rfl rfl rfl rfl ⟨Nat.le_of_ble_eq_true rfl, Nat.le_of_ble_eq_true rfl⟩ [0, 1, 2] rfl (by decide) [0] rfl (Nat.le_of_ble_eq_true rfl) ?_
  refine r_aload_n E 2 dL_law_188 rfl rfl ?_
  refine r_aload_n E 0 dL_law_189 rfl rfl ?_
  refine r_iload_n E 3 dL_law_190 rfl rfl ?_
  refine r_iconst E 1 rfl dL_law_191 ?_
  refine r_iadd E dL_law_192 ?_
  refine r_sld E hX hbl (Nat.not_le.mpr hbl) hL (i := (i_ + 1)) (by omega) a1 e1 dL_law_193 ?_
  refine r_aload_n E 0 dL_law_194 rfl rfl ?_
  refine r_iload_n E 3 dL_law_195 rfl rfl ?_
  refine r_iconst E 2 rfl dL_law_196 ?_
  refine r_iadd E dL_law_197 ?_
  refine r_sld E hX hbl (Nat.not_le.mpr hbl) hL (i := (i_ + 2)) (by omega) a2 e2 dL_law_198 ?_
  refine r_aload_n E 0 dL_law_199 rfl rfl ?_
  refine r_iload_n E 3 dL_law_200 rfl rfl ?_
  refine r_iconst E 3 rfl dL_law_201 ?_
  refine r_iadd E dL_law_202 ?_
  refine r_sld E hX hbl (Nat.not_le.mpr hbl) hL (i := (i_ + 3)) (by omega) a3 e3 dL_law_203 ?_
  refine r_bool E j3 z3 ez3 dL_law_204 dL_law_207 dL_law_208 dL_law_211 ?_
  refine r_aload_n E 0 dL_law_212 rfl rfl ?_
  refine r_iload_n E 3 dL_law_213 rfl rfl ?_
  refine r_iconst E 4 rfl dL_law_214 ?_
  refine r_iadd E dL_law_215 ?_
  refine r_sld E hX hbl (Nat.not_le.mpr hbl) hL (i := (i_ + 4)) (by omega) a4 e4 dL_law_216 ?_
  refine r_vP E (st := [.int (iJ (-1))]) (c_X7_strokeBad l D m0 ms mh mn mp ml mm md mw mt mb mi mg cI kp sv pn rf7 tl s a1 a2 z3 a4 (by first | assumption | omega | exact ⟨by omega, by omega⟩) (by first | assumption | omega | exact ⟨by omega, by omega⟩) (by first | assumption | omega | exact ⟨by omega, by omega⟩) hz3 (by first | assumption | omega | exact ⟨by omega, by omega⟩) (by rw [e_s0]; exact hk)) gL_law_X7_stroke 4 kf_X7_stroke ⟨rfl, rfl⟩ ⟨Nat.le_of_ble_eq_true rfl, Nat.le_of_ble_eq_true rfl⟩ dL_law_217 rfl 29 rfl rfl rfl rfl ⟨Nat.le_of_ble_eq_true rfl, Nat.le_of_ble_eq_true rfl⟩ [29, 30] rfl (by decide) [0] rfl (Nat.le_of_ble_eq_true rfl) ?_
  refine r_top (b := -1) rfl ?_
  refine r_same E 885 dL_law_220 (by decide) ?_
  refine r_lv [0, 1, 2, 3] [(0, .ref b_), (1, .ref x0), (2, .ref m0), (3, .int (iJ (i_)))] rfl ?_
  exact kk hs rf n q g nt qt gt ns qs gs m xa ya kN kQ kG np gp S X L_ ow cA cU hd fw kp sv pn rf7 tl s h sn p le my hd7 ww T B X7 sg ⟨iR, iH, iS, iP, iF, iT⟩
set_option maxHeartbeats 4000000 in
set_option maxRecDepth 100000 in
theorem cL_0No {p_ : Program} {l : Launch} {e_ : Env} {s_ : State} {m_ : MethodId} {ar_ : Array Value} {bw_ : List Frame} {mt_ : Method} {cd_ : Code} {D : va_G} {Q_ : State → Prop} {b_ : Nat} {i_ : Int} {x0 h0 t0 n0 i0 d0 r0 p0 h1 t1 n1 i1 d1 r1 r2 p1 p2 p3 p4 p5 p6 m0 ms mh mn mp ml mm md mw mt mb mi mg : Nat} {cI cJ_ cZ cP : ClassId} (E : EE p_ s_ m_ ar_ mt_ cd_ D vwCl [(cI, .int), (cJ_, .long), (cZ, .boolean), (cP, .object "LeanSticks$Piece")] 8 cL_law RL wsL_law) {Ln : Nat} {xs : Nat → Int32} (hX : va_X b_ Ln xs s_ s_.heap) (hbl : b_ < s_.heap.size) (hL : Ln ≤ 2560) (hi : 0 ≤ i_ ∧ i_ + 4 < (Ln : Int)) {a1 : Int} (e1 : XS xs (i_ + 1) = a1) (j1 : jb a1) {a2 : Int} (e2 : XS xs (i_ + 2) = a2) (j2 : jb a2) {a3 : Int} (e3 : XS xs (i_ + 3) = a3) (j3 : jb a3) {a4 : Int} (e4 : XS xs (i_ + 4) = a4) (j4 : jb a4) {z3 : Int} (ez3 : b2 (¬ a3 = 0) = z3) (hz3 : z3 = 0 ∨ z3 = 1) {hs : Int} {rf : Int} {n : Int} {q : Int} {g : Int → Int} {nt : Int} {qt : Int} {gt : Int → Int} {ns : Int} {qs : Int} {gs : Int → Int} {m : Int} {xa : Nat → Nat} {ya : Nat → Nat} {kN : Nat → Int} {kQ : Nat → Int} {kG : Nat → Int → Int} {np : Int} {gp : Int → Int} {S : Int → Int} {X : Int → Int} {L_ : Int} {ow : Int → Int} {cA : Int → Int} {cU : Int → Int} {hd : Int → Int} {fw : Int → Int} {kp : Int} {sv : Int} {pn : Int} {rf7 : Int} {tl : Int} {s : Int → Int} {h : Int → Int} {sn : Int → Int} {p : Int → Int} {le : Int → Int} {my : Int → Int} {hd7 : Int → Int} {ww : Int → Int} {T : Int → Int} {B : Int → Int} {X7 : Int → Int} {sg : Int → Int} (hI : IV g n q s m kN kQ kG kp h hs ns qs gs sv sn np gp pn p rf rf7 nt) (hk : (0 ≤ a1 ∧ a1 ≤ n) ∧ (0 ≤ a2 ∧ a2 ≤ 2) ∧ (0 ≤ a4 ∧ a4 ≤ 3)) (ha : a1 = 32) (kk : KK p_ l e_ s_ m_ ar_ bw_ mt_ cd_ D Q_ b_ i_ x0 h0 t0 n0 i0 d0 r0 p0 h1 t1 n1 i1 d1 r1 r2 p1 p2 p3 p4 p5 p6 m0 ms mh mn mp ml mm md mw mt mb mi mg cI cJ_ cZ cP) : GG p_ l e_ room_1 s_ m_ ar_ bw_ mt_ cd_ D vwCl (fun q => s_.heap.size ≤ q) (fun q => s_.heap.size ≤ q) s_.heap 8 42 1383 Q_ [(x0, .inr (5, [.ref h0, .ref t0, .ref n0, .ref i0, .ref d0, .ref r0, .ref p0, .int (iJ (hs)), .int (iJ (rf))])), (h0, .inr (2, [.ref h1, .int (iJ (n)), .int (iJ (q))])), (h1, cJ cI 32 (g)), (t0, .inr (2, [.ref t1, .int (iJ (nt)), .int (iJ (qt))])), (t1, cJ cI 32 (gt)), (n0, .inr (2, [.ref n1, .int (iJ (ns)), .int (iJ (qs))])), (n1, cJ cI 32 (gs)), (i0, .inr (0, [.ref i1, .int (iJ (m))])), (i1, cR cP 4 (hF xa)), ((xa 0), .inr (2, [.ref (ya 0), .int (iJ (kN 0)), .int (iJ (kQ 0))])), ((ya 0), cJ cI 32 (kG 0)), ((xa 1), .inr (2, [.ref (ya 1), .int (iJ (kN 1)), .int (iJ (kQ 1))])), ((ya 1), cJ cI 32 (kG 1)), ((xa 2), .inr (2, [.ref (ya 2), .int (iJ (kN 2)), .int (iJ (kQ 2))])), ((ya 2), cJ cI 32 (kG 2)), ((xa 3), .inr (2, [.ref (ya 3), .int (iJ (kN 3)), .int (iJ (kQ 3))])), ((ya 3), cJ cI 32 (kG 3)), (d0, .inr (1, [.ref d1, .int (iJ (np))])), (d1, cJ cI 60 (gp)), (r0, .inr (4, [.ref r1, .ref r2])), (r1, cJ cI 60 (S)), (r2, cJ cI 60 (X)), (p0, .inr (3, [.ref p1, .ref p2, .ref p3, .ref p4, .ref p5, .ref p6, .int (iJ (L_))])), (p1, cJ cI 32 (nrA)), (p2, cJ cI 32 (ow)), (p3, cJ cZ 32 (cA)), (p4, cJ cZ 32 (cU)), (p5, cJ cI 32 (hd)), (p6, cJ cI 132 (fw)), (m0, .inr (6, [.ref ms, .ref mh, .int (iJ (kp)), .ref mn, .int (iJ (sv)), .ref mp, .int (iJ (pn)), .int (iJ (rf7)), .ref ml, .ref mm, .ref md, .ref mw, .ref mt, .int (iJ (tl)), .ref mb, .ref mi, .ref mg])), (ms, cJ cI 34 (s)), (mh, cJ cI 136 (h)), (mn, cJ cI 34 (sn)), (mp, cJ cI 60 (p)), (ml, cJ cI 99 (le)), (mm, cL cJ_ 99 (my)), (md, cJ cI 32 (hd7)), (mw, cJ cI 32 (ww)), (mt, cJ cI 33 (T)), (mb, cJ cI 30 (B)), (mi, cJ cI 30 (X7)), (mg, cJ cI 4 (sg))] [(0, .ref b_), (1, .ref x0), (2, .ref m0), (3, .int (iJ i_))] 156 [] := by
  obtain ⟨iR, iH, iS, iP, iF, iT⟩ := hI
  have b_n := iR.1
  have b_q := iR.2.1
  have b_g := iR.hg
  have b_g3 := iR.hg3
  have b_s0 := iR.hs0
  have b_s1 := iR.hs1
  have b_sv := iR.hsv
  have b_m := iH.2.1
  have b_kN := iH.2.2.1
  have e_kp := iH.1
  have b_kp : 0 ≤ kp ∧ kp ≤ 4 := by rw [e_kp]; exact b_m
  have b_np := iP.2.1
  have e_pn := iP.1
  have b_pn : 0 ≤ pn ∧ pn ≤ 60 := by rw [e_pn]; exact b_np
  have b_pp : ∀ j : Int, 0 ≤ j → j < pn → 33 ≤ p j ∧ p j ≤ 126 := fun j t1 t2 => (iP.2.2 j t1 (by rw [← e_pn]; exact t2)).2
  have b_gp : ∀ j : Int, 0 ≤ j → j < np → 33 ≤ gp j ∧ gp j ≤ 126 := fun j t1 t2 => by rw [(iP.2.2 j t1 t2).1]; exact (iP.2.2 j t1 t2).2
  have b_ns := iS.2.2.1
  have e_sv := iS.1
  have e_s0 : s 0 = n := iR.2.2.1
  have e_s1 : s 1 = q := iR.2.2.2.1
  have hA : ∀ q : Nat, s_.heap.size ≤ q → (fun q : Nat => s_.heap.size ≤ q) q := fun _ t => t
  refine r_aload_n E 1 dL_law_156 rfl rfl ?_
  refine r_aload_n E 0 dL_law_157 rfl rfl ?_
  refine r_iload_n E 3 dL_law_158 rfl rfl ?_
  refine r_iconst E 1 rfl dL_law_159 ?_
  refine r_iadd E dL_law_160 ?_
  refine r_sld E hX hbl (Nat.not_le.mpr hbl) hL (i := (i_ + 1)) (by omega) a1 e1 dL_law_161 ?_
  refine r_aload_n E 0 dL_law_162 rfl rfl ?_
  refine r_iload_n E 3 dL_law_163 rfl rfl ?_
  refine r_iconst E 2 rfl dL_law_164 ?_
  refine r_iadd E dL_law_165 ?_
  refine r_sld E hX hbl (Nat.not_le.mpr hbl) hL (i := (i_ + 2)) (by omega) a2 e2 dL_law_166 ?_
  refine r_aload_n E 0 dL_law_167 rfl rfl ?_
  refine r_iload_n E 3 dL_law_168 rfl rfl ?_
  refine r_iconst E 3 rfl dL_law_169 ?_
  refine r_iadd E dL_law_170 ?_
  refine r_sld E hX hbl (Nat.not_le.mpr hbl) hL (i := (i_ + 3)) (by omega) a3 e3 dL_law_171 ?_
  refine r_bool E j3 z3 ez3 dL_law_172 dL_law_175 dL_law_176 dL_law_179 ?_
  refine r_aload_n E 0 dL_law_180 rfl rfl ?_
  refine r_iload_n E 3 dL_law_181 rfl rfl ?_
  refine r_iconst E 4 rfl dL_law_182 ?_
  refine r_iadd E dL_law_183 ?_
  refine r_sld E hX hbl (Nat.not_le.mpr hbl) hL (i := (i_ + 4)) (by omega) a4 e4 dL_law_184 ?_
  refine r_vP E (st := []) (c_X6_strokeNo l D x0 h0 t0 n0 i0 d0 r0 p0 hs rf h1 cI g n q a1 a2 z3 a4 (by first | assumption | omega | exact ⟨by omega, by omega⟩) hk hz3 ha) gL_law_X6_stroke 4 kf_X6_stroke ⟨rfl, rfl⟩ ⟨Nat.le_of_ble_eq_true rfl, Nat.le_of_ble_eq_true rfl⟩ dL_law_185 rfl 0 rfl rfl rfl rfl ⟨Nat.le_of_ble_eq_true rfl, Nat.le_of_ble_eq_true rfl⟩ [0, 1, 2] rfl (by decide) [0] rfl (Nat.le_of_ble_eq_true rfl) ?_
  refine r_aload_n E 2 dL_law_188 rfl rfl ?_
  refine r_aload_n E 0 dL_law_189 rfl rfl ?_
  refine r_iload_n E 3 dL_law_190 rfl rfl ?_
  refine r_iconst E 1 rfl dL_law_191 ?_
  refine r_iadd E dL_law_192 ?_
  refine r_sld E hX hbl (Nat.not_le.mpr hbl) hL (i := (i_ + 1)) (by omega) a1 e1 dL_law_193 ?_
  refine r_aload_n E 0 dL_law_194 rfl rfl ?_
  refine r_iload_n E 3 dL_law_195 rfl rfl ?_
  refine r_iconst E 2 rfl dL_law_196 ?_
  refine r_iadd E dL_law_197 ?_
  refine r_sld E hX hbl (Nat.not_le.mpr hbl) hL (i := (i_ + 2)) (by omega) a2 e2 dL_law_198 ?_
  refine r_aload_n E 0 dL_law_199 rfl rfl ?_
  refine r_iload_n E 3 dL_law_200 rfl rfl ?_
  refine r_iconst E 3 rfl dL_law_201 ?_
  refine r_iadd E dL_law_202 ?_
  refine r_sld E hX hbl (Nat.not_le.mpr hbl) hL (i := (i_ + 3)) (by omega) a3 e3 dL_law_203 ?_
  refine r_bool E j3 z3 ez3 dL_law_204 dL_law_207 dL_law_208 dL_law_211 ?_
  refine r_aload_n E 0 dL_law_212 rfl rfl ?_
  refine r_iload_n E 3 dL_law_213 rfl rfl ?_
  refine r_iconst E 4 rfl dL_law_214 ?_
  refine r_iadd E dL_law_215 ?_
  refine r_sld E hX hbl (Nat.not_le.mpr hbl) hL (i := (i_ + 4)) (by omega) a4 e4 dL_law_216 ?_
  refine r_vP E (st := [.int (iJ (-3))]) (c_X7_strokeNo l D m0 ms mh mn mp ml mm md mw mt mb mi mg cI kp sv pn rf7 tl s a1 a2 z3 a4 (by first | assumption | omega | exact ⟨by omega, by omega⟩) (by rw [e_s0]; exact hk) hz3 ha) gL_law_X7_stroke 4 kf_X7_stroke ⟨rfl, rfl⟩ ⟨Nat.le_of_ble_eq_true rfl, Nat.le_of_ble_eq_true rfl⟩ dL_law_217 rfl 29 rfl rfl rfl rfl ⟨Nat.le_of_ble_eq_true rfl, Nat.le_of_ble_eq_true rfl⟩ [29, 30] rfl (by decide) [0] rfl (Nat.le_of_ble_eq_true rfl) ?_
  refine r_top (b := -3) rfl ?_
  refine r_same E 885 dL_law_220 (by decide) ?_
  refine r_lv [0, 1, 2, 3] [(0, .ref b_), (1, .ref x0), (2, .ref m0), (3, .int (iJ (i_)))] rfl ?_
  exact kk hs rf n q g nt qt gt ns qs gs m xa ya kN kQ kG np gp S X L_ ow cA cU hd fw kp sv pn rf7 tl s h sn p le my hd7 ww T B X7 sg ⟨iR, iH, iS, iP, iF, iT⟩
set_option maxHeartbeats 4000000 in
set_option maxRecDepth 100000 in
theorem cL_0Add {p_ : Program} {l : Launch} {e_ : Env} {s_ : State} {m_ : MethodId} {ar_ : Array Value} {bw_ : List Frame} {mt_ : Method} {cd_ : Code} {D : va_G} {Q_ : State → Prop} {b_ : Nat} {i_ : Int} {x0 h0 t0 n0 i0 d0 r0 p0 h1 t1 n1 i1 d1 r1 r2 p1 p2 p3 p4 p5 p6 m0 ms mh mn mp ml mm md mw mt mb mi mg : Nat} {cI cJ_ cZ cP : ClassId} (E : EE p_ s_ m_ ar_ mt_ cd_ D vwCl [(cI, .int), (cJ_, .long), (cZ, .boolean), (cP, .object "LeanSticks$Piece")] 8 cL_law RL wsL_law) {Ln : Nat} {xs : Nat → Int32} (hX : va_X b_ Ln xs s_ s_.heap) (hbl : b_ < s_.heap.size) (hL : Ln ≤ 2560) (hi : 0 ≤ i_ ∧ i_ + 4 < (Ln : Int)) {a1 : Int} (e1 : XS xs (i_ + 1) = a1) (j1 : jb a1) {a2 : Int} (e2 : XS xs (i_ + 2) = a2) (j2 : jb a2) {a3 : Int} (e3 : XS xs (i_ + 3) = a3) (j3 : jb a3) {a4 : Int} (e4 : XS xs (i_ + 4) = a4) (j4 : jb a4) {z3 : Int} (ez3 : b2 (¬ a3 = 0) = z3) (hz3 : z3 = 0 ∨ z3 = 1) {hs : Int} {rf : Int} {n : Int} {q : Int} {g : Int → Int} {nt : Int} {qt : Int} {gt : Int → Int} {ns : Int} {qs : Int} {gs : Int → Int} {m : Int} {xa : Nat → Nat} {ya : Nat → Nat} {kN : Nat → Int} {kQ : Nat → Int} {kG : Nat → Int → Int} {np : Int} {gp : Int → Int} {S : Int → Int} {X : Int → Int} {L_ : Int} {ow : Int → Int} {cA : Int → Int} {cU : Int → Int} {hd : Int → Int} {fw : Int → Int} {kp : Int} {sv : Int} {pn : Int} {rf7 : Int} {tl : Int} {s : Int → Int} {h : Int → Int} {sn : Int → Int} {p : Int → Int} {le : Int → Int} {my : Int → Int} {hd7 : Int → Int} {ww : Int → Int} {T : Int → Int} {B : Int → Int} {X7 : Int → Int} {sg : Int → Int} (hI : IV g n q s m kN kQ kG kp h hs ns qs gs sv sn np gp pn p rf rf7 nt) (hk : (0 ≤ a1 ∧ a1 ≤ n) ∧ (0 ≤ a2 ∧ a2 ≤ 2) ∧ (0 ≤ a4 ∧ a4 ≤ 3)) (ha : a1 = n ∧ n < 32) (kk : KK p_ l e_ s_ m_ ar_ bw_ mt_ cd_ D Q_ b_ i_ x0 h0 t0 n0 i0 d0 r0 p0 h1 t1 n1 i1 d1 r1 r2 p1 p2 p3 p4 p5 p6 m0 ms mh mn mp ml mm md mw mt mb mi mg cI cJ_ cZ cP) : GG p_ l e_ room_1 s_ m_ ar_ bw_ mt_ cd_ D vwCl (fun q => s_.heap.size ≤ q) (fun q => s_.heap.size ≤ q) s_.heap 8 42 1383 Q_ [(x0, .inr (5, [.ref h0, .ref t0, .ref n0, .ref i0, .ref d0, .ref r0, .ref p0, .int (iJ (hs)), .int (iJ (rf))])), (h0, .inr (2, [.ref h1, .int (iJ (n)), .int (iJ (q))])), (h1, cJ cI 32 (g)), (t0, .inr (2, [.ref t1, .int (iJ (nt)), .int (iJ (qt))])), (t1, cJ cI 32 (gt)), (n0, .inr (2, [.ref n1, .int (iJ (ns)), .int (iJ (qs))])), (n1, cJ cI 32 (gs)), (i0, .inr (0, [.ref i1, .int (iJ (m))])), (i1, cR cP 4 (hF xa)), ((xa 0), .inr (2, [.ref (ya 0), .int (iJ (kN 0)), .int (iJ (kQ 0))])), ((ya 0), cJ cI 32 (kG 0)), ((xa 1), .inr (2, [.ref (ya 1), .int (iJ (kN 1)), .int (iJ (kQ 1))])), ((ya 1), cJ cI 32 (kG 1)), ((xa 2), .inr (2, [.ref (ya 2), .int (iJ (kN 2)), .int (iJ (kQ 2))])), ((ya 2), cJ cI 32 (kG 2)), ((xa 3), .inr (2, [.ref (ya 3), .int (iJ (kN 3)), .int (iJ (kQ 3))])), ((ya 3), cJ cI 32 (kG 3)), (d0, .inr (1, [.ref d1, .int (iJ (np))])), (d1, cJ cI 60 (gp)), (r0, .inr (4, [.ref r1, .ref r2])), (r1, cJ cI 60 (S)), (r2, cJ cI 60 (X)), (p0, .inr (3, [.ref p1, .ref p2, .ref p3, .ref p4, .ref p5, .ref p6, .int (iJ (L_))])), (p1, cJ cI 32 (nrA)), (p2, cJ cI 32 (ow)), (p3, cJ cZ 32 (cA)), (p4, cJ cZ 32 (cU)), (p5, cJ cI 32 (hd)), (p6, cJ cI 132 (fw)), (m0, .inr (6, [.ref ms, .ref mh, .int (iJ (kp)), .ref mn, .int (iJ (sv)), .ref mp, .int (iJ (pn)), .int (iJ (rf7)), .ref ml, .ref mm, .ref md, .ref mw, .ref mt, .int (iJ (tl)), .ref mb, .ref mi, .ref mg])), (ms, cJ cI 34 (s)), (mh, cJ cI 136 (h)), (mn, cJ cI 34 (sn)), (mp, cJ cI 60 (p)), (ml, cJ cI 99 (le)), (mm, cL cJ_ 99 (my)), (md, cJ cI 32 (hd7)), (mw, cJ cI 32 (ww)), (mt, cJ cI 33 (T)), (mb, cJ cI 30 (B)), (mi, cJ cI 30 (X7)), (mg, cJ cI 4 (sg))] [(0, .ref b_), (1, .ref x0), (2, .ref m0), (3, .int (iJ i_))] 156 [] := by
  obtain ⟨iR, iH, iS, iP, iF, iT⟩ := hI
  have b_n := iR.1
  have b_q := iR.2.1
  have b_g := iR.hg
  have b_g3 := iR.hg3
  have b_s0 := iR.hs0
  have b_s1 := iR.hs1
  have b_sv := iR.hsv
  have b_m := iH.2.1
  have b_kN := iH.2.2.1
  have e_kp := iH.1
  have b_kp : 0 ≤ kp ∧ kp ≤ 4 := by rw [e_kp]; exact b_m
  have b_np := iP.2.1
  have e_pn := iP.1
  have b_pn : 0 ≤ pn ∧ pn ≤ 60 := by rw [e_pn]; exact b_np
  have b_pp : ∀ j : Int, 0 ≤ j → j < pn → 33 ≤ p j ∧ p j ≤ 126 := fun j t1 t2 => (iP.2.2 j t1 (by rw [← e_pn]; exact t2)).2
  have b_gp : ∀ j : Int, 0 ≤ j → j < np → 33 ≤ gp j ∧ gp j ≤ 126 := fun j t1 t2 => by rw [(iP.2.2 j t1 t2).1]; exact (iP.2.2 j t1 t2).2
  have b_ns := iS.2.2.1
  have e_sv := iS.1
  have e_s0 : s 0 = n := iR.2.2.1
  have e_s1 : s 1 = q := iR.2.2.2.1
  have hA : ∀ q : Nat, s_.heap.size ≤ q → (fun q : Nat => s_.heap.size ≤ q) q := fun _ t => t
  refine r_aload_n E 1 dL_law_156 rfl rfl ?_
  refine r_aload_n E 0 dL_law_157 rfl rfl ?_
  refine r_iload_n E 3 dL_law_158 rfl rfl ?_
  refine r_iconst E 1 rfl dL_law_159 ?_
  refine r_iadd E dL_law_160 ?_
  refine r_sld E hX hbl (Nat.not_le.mpr hbl) hL (i := (i_ + 1)) (by omega) a1 e1 dL_law_161 ?_
  refine r_aload_n E 0 dL_law_162 rfl rfl ?_
  refine r_iload_n E 3 dL_law_163 rfl rfl ?_
  refine r_iconst E 2 rfl dL_law_164 ?_
  refine r_iadd E dL_law_165 ?_
  refine r_sld E hX hbl (Nat.not_le.mpr hbl) hL (i := (i_ + 2)) (by omega) a2 e2 dL_law_166 ?_
  refine r_aload_n E 0 dL_law_167 rfl rfl ?_
  refine r_iload_n E 3 dL_law_168 rfl rfl ?_
  refine r_iconst E 3 rfl dL_law_169 ?_
  refine r_iadd E dL_law_170 ?_
  refine r_sld E hX hbl (Nat.not_le.mpr hbl) hL (i := (i_ + 3)) (by omega) a3 e3 dL_law_171 ?_
  refine r_bool E j3 z3 ez3 dL_law_172 dL_law_175 dL_law_176 dL_law_179 ?_
  refine r_aload_n E 0 dL_law_180 rfl rfl ?_
  refine r_iload_n E 3 dL_law_181 rfl rfl ?_
  refine r_iconst E 4 rfl dL_law_182 ?_
  refine r_iadd E dL_law_183 ?_
  refine r_sld E hX hbl (Nat.not_le.mpr hbl) hL (i := (i_ + 4)) (by omega) a4 e4 dL_law_184 ?_
  refine r_vM E (st := []) (c_X6_strokeAdd l D x0 h0 t0 n0 i0 d0 r0 p0 hs rf h1 cI g n q i1 cP xa ya kN kQ kG m a1 a2 z3 a4 (by first | assumption | omega | exact ⟨by omega, by omega⟩) (by first | assumption | omega | exact ⟨by omega, by omega⟩) (by first | assumption | omega | exact ⟨by omega, by omega⟩) hk hz3 ha) gL_law_X6_stroke 4 kf_X6_stroke ⟨rfl, rfl⟩ ⟨Nat.le_of_ble_eq_true rfl, Nat.le_of_ble_eq_true rfl⟩ dL_law_185 rfl 0 rfl rfl rfl rfl ⟨Nat.le_of_ble_eq_true rfl, Nat.le_of_ble_eq_true rfl⟩ [0, 1, 2, 7, 8, 9, 10, 11, 12, 13, 14, 15, 16] rfl (by decide) [0, 3] rfl (Nat.le_of_ble_eq_true rfl) [(t0, .inr (2, [.ref t1, .int (iJ (nt)), .int (iJ (qt))])), (t1, cJ cI 32 (gt)), (n0, .inr (2, [.ref n1, .int (iJ (ns)), .int (iJ (qs))])), (n1, cJ cI 32 (gs)), (d0, .inr (1, [.ref d1, .int (iJ (np))])), (d1, cJ cI 60 (gp)), (r0, .inr (4, [.ref r1, .ref r2])), (r1, cJ cI 60 (S)), (r2, cJ cI 60 (X)), (p0, .inr (3, [.ref p1, .ref p2, .ref p3, .ref p4, .ref p5, .ref p6, .int (iJ (L_))])), (p1, cJ cI 32 (nrA)), (p2, cJ cI 32 (ow)), (p3, cJ cZ 32 (cA)), (p4, cJ cZ 32 (cU)), (p5, cJ cI 32 (hd)), (p6, cJ cI 132 (fw)), (m0, .inr (6, [.ref ms, .ref mh, .int (iJ (kp)), .ref mn, .int (iJ (sv)), .ref mp, .int (iJ (pn)), .int (iJ (rf7)), .ref ml, .ref mm, .ref md, .ref mw, .ref mt, .int (iJ (tl)), .ref mb, .ref mi, .ref mg])), (ms, cJ cI 34 (s)), (mh, cJ cI 136 (h)), (mn, cJ cI 34 (sn)), (mp, cJ cI 60 (p)), (ml, cJ cI 99 (le)), (mm, cL cJ_ 99 (my)), (md, cJ cI 32 (hd7)), (mw, cJ cI 32 (ww)), (mt, cJ cI 33 (T)), (mb, cJ cI 30 (B)), (mi, cJ cI 30 (X7)), (mg, cJ cI 4 (sg))] [3, 4, 5, 6, 17, 18, 19, 20, 21, 22, 23, 24, 25, 26, 27, 28, 29, 30, 31, 32, 33, 34, 35, 36, 37, 38, 39, 40, 41] rfl (by decide) (by decide) hA [29, 30, 31, 0, 1, 2, 3, 32, 33, 34, 35, 36, 37, 38, 39, 40, 41, 4, 5, 6, 7, 8, 9, 10, 11, 12, 13, 14, 15, 16, 17, 18, 19, 20, 21, 22, 23, 24, 25, 26, 27, 28] (by decide) (fun u : (Nat → Nat) × (Nat → Nat) × (Nat → Int) × (Nat → Int) × (Nat → Int → Int) × Int => [(x0, .inr (5, [.ref h0, .ref t0, .ref n0, .ref i0, .ref d0, .ref r0, .ref p0, .int (iJ (hs)), .int (iJ (rf))])), (h0, .inr (2, [.ref h1, .int (iJ ((n + 1))), .int (iJ (q))])), (h1, cJ cI 32 (uJ g n (sOf a2 z3 a4))), (t0, .inr (2, [.ref t1, .int (iJ (nt)), .int (iJ (qt))])), (t1, cJ cI 32 (gt)), (n0, .inr (2, [.ref n1, .int (iJ (ns)), .int (iJ (qs))])), (n1, cJ cI 32 (gs)), (i0, .inr (0, [.ref i1, .int (iJ (u.2.2.2.2.2))])), (i1, cR cP 4 (hF u.1)), ((u.1 0), .inr (2, [.ref (u.2.1 0), .int (iJ (u.2.2.1 0)), .int (iJ (u.2.2.2.1 0))])), ((u.2.1 0), cJ cI 32 (u.2.2.2.2.1 0)), ((u.1 1), .inr (2, [.ref (u.2.1 1), .int (iJ (u.2.2.1 1)), .int (iJ (u.2.2.2.1 1))])), ((u.2.1 1), cJ cI 32 (u.2.2.2.2.1 1)), ((u.1 2), .inr (2, [.ref (u.2.1 2), .int (iJ (u.2.2.1 2)), .int (iJ (u.2.2.2.1 2))])), ((u.2.1 2), cJ cI 32 (u.2.2.2.2.1 2)), ((u.1 3), .inr (2, [.ref (u.2.1 3), .int (iJ (u.2.2.1 3)), .int (iJ (u.2.2.2.1 3))])), ((u.2.1 3), cJ cI 32 (u.2.2.2.2.1 3)), (d0, .inr (1, [.ref d1, .int (iJ (np))])), (d1, cJ cI 60 (gp)), (r0, .inr (4, [.ref r1, .ref r2])), (r1, cJ cI 60 (S)), (r2, cJ cI 60 (X)), (p0, .inr (3, [.ref p1, .ref p2, .ref p3, .ref p4, .ref p5, .ref p6, .int (iJ (L_))])), (p1, cJ cI 32 (nrA)), (p2, cJ cI 32 (ow)), (p3, cJ cZ 32 (cA)), (p4, cJ cZ 32 (cU)), (p5, cJ cI 32 (hd)), (p6, cJ cI 132 (fw)), (m0, .inr (6, [.ref ms, .ref mh, .int (iJ (kp)), .ref mn, .int (iJ (sv)), .ref mp, .int (iJ (pn)), .int (iJ (rf7)), .ref ml, .ref mm, .ref md, .ref mw, .ref mt, .int (iJ (tl)), .ref mb, .ref mi, .ref mg])), (ms, cJ cI 34 (s)), (mh, cJ cI 136 (h)), (mn, cJ cI 34 (sn)), (mp, cJ cI 60 (p)), (ml, cJ cI 99 (le)), (mm, cL cJ_ 99 (my)), (md, cJ cI 32 (hd7)), (mw, cJ cI 32 (ww)), (mt, cJ cI 33 (T)), (mb, cJ cI 30 (B)), (mi, cJ cI 30 (X7)), (mg, cJ cI 4 (sg))]) (fun _ => rfl) ?_
  rintro ⟨xa2_1, ya2_2, kN2_3, kQ2_4, kG2_5, m2_6⟩ hp_7
  refine r_cv (ws2 := [(x0, .inr (5, [.ref h0, .ref t0, .ref n0, .ref i0, .ref d0, .ref r0, .ref p0, .int (iJ (hs)), .int (iJ (rf))])), (h0, .inr (2, [.ref h1, .int (iJ ((n + 1))), .int (iJ (q))])), (h1, cJ cI 32 (uJ g n (sOf a2 z3 a4))), (t0, .inr (2, [.ref t1, .int (iJ (nt)), .int (iJ (qt))])), (t1, cJ cI 32 (gt)), (n0, .inr (2, [.ref n1, .int (iJ (ns)), .int (iJ (qs))])), (n1, cJ cI 32 (gs)), (i0, .inr (0, [.ref i1, .int (iJ (m2_6))])), (i1, cR cP 4 (hF xa2_1)), ((xa2_1 0), .inr (2, [.ref (ya2_2 0), .int (iJ (kN2_3 0)), .int (iJ (kQ2_4 0))])), ((ya2_2 0), cJ cI 32 (kG2_5 0)), ((xa2_1 1), .inr (2, [.ref (ya2_2 1), .int (iJ (kN2_3 1)), .int (iJ (kQ2_4 1))])), ((ya2_2 1), cJ cI 32 (kG2_5 1)), ((xa2_1 2), .inr (2, [.ref (ya2_2 2), .int (iJ (kN2_3 2)), .int (iJ (kQ2_4 2))])), ((ya2_2 2), cJ cI 32 (kG2_5 2)), ((xa2_1 3), .inr (2, [.ref (ya2_2 3), .int (iJ (kN2_3 3)), .int (iJ (kQ2_4 3))])), ((ya2_2 3), cJ cI 32 (kG2_5 3)), (d0, .inr (1, [.ref d1, .int (iJ (np))])), (d1, cJ cI 60 (gp)), (r0, .inr (4, [.ref r1, .ref r2])), (r1, cJ cI 60 (S)), (r2, cJ cI 60 (X)), (p0, .inr (3, [.ref p1, .ref p2, .ref p3, .ref p4, .ref p5, .ref p6, .int (iJ (L_))])), (p1, cJ cI 32 (nrA)), (p2, cJ cI 32 (ow)), (p3, cJ cZ 32 (cA)), (p4, cJ cZ 32 (cU)), (p5, cJ cI 32 (hd)), (p6, cJ cI 132 (fw)), (m0, .inr (6, [.ref ms, .ref mh, .int (iJ (kp)), .ref mn, .int (iJ (sv)), .ref mp, .int (iJ (pn)), .int (iJ (rf7)), .ref ml, .ref mm, .ref md, .ref mw, .ref mt, .int (iJ (tl)), .ref mb, .ref mi, .ref mg])), (ms, cJ cI 34 (s)), (mh, cJ cI 136 (h)), (mn, cJ cI 34 (sn)), (mp, cJ cI 60 (p)), (ml, cJ cI 99 (le)), (mm, cL cJ_ 99 (my)), (md, cJ cI 32 (hd7)), (mw, cJ cI 32 (ww)), (mt, cJ cI 33 (T)), (mb, cJ cI 30 (B)), (mi, cJ cI 30 (X7)), (mg, cJ cI 4 (sg))]) (st2 := [.int (iJ (n + 1))]) rfl rfl rfl ?_
  have hpu := hp_7
  try dsimp only at hpu
  refine r_aload_n E 2 dL_law_188 rfl rfl ?_
  refine r_aload_n E 0 dL_law_189 rfl rfl ?_
  refine r_iload_n E 3 dL_law_190 rfl rfl ?_
  refine r_iconst E 1 rfl dL_law_191 ?_
  refine r_iadd E dL_law_192 ?_
  refine r_sld E hX hbl (Nat.not_le.mpr hbl) hL (i := (i_ + 1)) (by omega) a1 e1 dL_law_193 ?_
  refine r_aload_n E 0 dL_law_194 rfl rfl ?_
  refine r_iload_n E 3 dL_law_195 rfl rfl ?_
  refine r_iconst E 2 rfl dL_law_196 ?_
  refine r_iadd E dL_law_197 ?_
  refine r_sld E hX hbl (Nat.not_le.mpr hbl) hL (i := (i_ + 2)) (by omega) a2 e2 dL_law_198 ?_
  refine r_aload_n E 0 dL_law_199 rfl rfl ?_
  refine r_iload_n E 3 dL_law_200 rfl rfl ?_
  refine r_iconst E 3 rfl dL_law_201 ?_
  refine r_iadd E dL_law_202 ?_
  refine r_sld E hX hbl (Nat.not_le.mpr hbl) hL (i := (i_ + 3)) (by omega) a3 e3 dL_law_203 ?_
  refine r_bool E j3 z3 ez3 dL_law_204 dL_law_207 dL_law_208 dL_law_211 ?_
  refine r_aload_n E 0 dL_law_212 rfl rfl ?_
  refine r_iload_n E 3 dL_law_213 rfl rfl ?_
  refine r_iconst E 4 rfl dL_law_214 ?_
  refine r_iadd E dL_law_215 ?_
  refine r_sld E hX hbl (Nat.not_le.mpr hbl) hL (i := (i_ + 4)) (by omega) a4 e4 dL_law_216 ?_
  refine r_vM E (st := [.int (iJ (n + 1))]) (c_X7_strokeAdd l D m0 ms mh mn mp ml mm md mw mt mb mi mg cI kp sv pn rf7 tl s h a1 a2 z3 a4 (by first | assumption | omega | exact ⟨by omega, by omega⟩) (by first | assumption | omega | exact ⟨by omega, by omega⟩) (by rw [e_s0]; exact hk) hz3 (by rw [e_s0]; exact ha)) gL_law_X7_stroke 4 kf_X7_stroke ⟨rfl, rfl⟩ ⟨Nat.le_of_ble_eq_true rfl, Nat.le_of_ble_eq_true rfl⟩ dL_law_217 rfl 29 rfl rfl rfl rfl ⟨Nat.le_of_ble_eq_true rfl, Nat.le_of_ble_eq_true rfl⟩ [29, 30, 31] rfl (by decide) [0] rfl (Nat.le_of_ble_eq_true rfl) [(x0, .inr (5, [.ref h0, .ref t0, .ref n0, .ref i0, .ref d0, .ref r0, .ref p0, .int (iJ (hs)), .int (iJ (rf))])), (h0, .inr (2, [.ref h1, .int (iJ ((n + 1))), .int (iJ (q))])), (h1, cJ cI 32 (uJ g n (sOf a2 z3 a4))), (t0, .inr (2, [.ref t1, .int (iJ (nt)), .int (iJ (qt))])), (t1, cJ cI 32 (gt)), (n0, .inr (2, [.ref n1, .int (iJ (ns)), .int (iJ (qs))])), (n1, cJ cI 32 (gs)), (i0, .inr (0, [.ref i1, .int (iJ (m2_6))])), (i1, cR cP 4 (hF xa2_1)), ((xa2_1 0), .inr (2, [.ref (ya2_2 0), .int (iJ (kN2_3 0)), .int (iJ (kQ2_4 0))])), ((ya2_2 0), cJ cI 32 (kG2_5 0)), ((xa2_1 1), .inr (2, [.ref (ya2_2 1), .int (iJ (kN2_3 1)), .int (iJ (kQ2_4 1))])), ((ya2_2 1), cJ cI 32 (kG2_5 1)), ((xa2_1 2), .inr (2, [.ref (ya2_2 2), .int (iJ (kN2_3 2)), .int (iJ (kQ2_4 2))])), ((ya2_2 2), cJ cI 32 (kG2_5 2)), ((xa2_1 3), .inr (2, [.ref (ya2_2 3), .int (iJ (kN2_3 3)), .int (iJ (kQ2_4 3))])), ((ya2_2 3), cJ cI 32 (kG2_5 3)), (d0, .inr (1, [.ref d1, .int (iJ (np))])), (d1, cJ cI 60 (gp)), (r0, .inr (4, [.ref r1, .ref r2])), (r1, cJ cI 60 (S)), (r2, cJ cI 60 (X)), (p0, .inr (3, [.ref p1, .ref p2, .ref p3, .ref p4, .ref p5, .ref p6, .int (iJ (L_))])), (p1, cJ cI 32 (nrA)), (p2, cJ cI 32 (ow)), (p3, cJ cZ 32 (cA)), (p4, cJ cZ 32 (cU)), (p5, cJ cI 32 (hd)), (p6, cJ cI 132 (fw)), (mn, cJ cI 34 (sn)), (mp, cJ cI 60 (p)), (ml, cJ cI 99 (le)), (mm, cL cJ_ 99 (my)), (md, cJ cI 32 (hd7)), (mw, cJ cI 32 (ww)), (mt, cJ cI 33 (T)), (mb, cJ cI 30 (B)), (mi, cJ cI 30 (X7)), (mg, cJ cI 4 (sg))] [0, 1, 2, 3, 4, 5, 6, 7, 8, 9, 10, 11, 12, 13, 14, 15, 16, 17, 18, 19, 20, 21, 22, 23, 24, 25, 26, 27, 28, 32, 33, 34, 35, 36, 37, 38, 39, 40, 41] rfl (by decide) (by decide) hA [0, 1, 2, 3, 4, 5, 6, 7, 8, 9, 10, 11, 12, 13, 14, 15, 16, 17, 18, 19, 20, 21, 22, 23, 24, 25, 26, 27, 28, 39, 40, 41, 29, 30, 31, 32, 33, 34, 35, 36, 37, 38] (by decide) (fun (_ : Unit) => [(x0, .inr (5, [.ref h0, .ref t0, .ref n0, .ref i0, .ref d0, .ref r0, .ref p0, .int (iJ (hs)), .int (iJ (rf))])), (h0, .inr (2, [.ref h1, .int (iJ ((n + 1))), .int (iJ (q))])), (h1, cJ cI 32 (uJ g n (sOf a2 z3 a4))), (t0, .inr (2, [.ref t1, .int (iJ (nt)), .int (iJ (qt))])), (t1, cJ cI 32 (gt)), (n0, .inr (2, [.ref n1, .int (iJ (ns)), .int (iJ (qs))])), (n1, cJ cI 32 (gs)), (i0, .inr (0, [.ref i1, .int (iJ (m2_6))])), (i1, cR cP 4 (hF xa2_1)), ((xa2_1 0), .inr (2, [.ref (ya2_2 0), .int (iJ (kN2_3 0)), .int (iJ (kQ2_4 0))])), ((ya2_2 0), cJ cI 32 (kG2_5 0)), ((xa2_1 1), .inr (2, [.ref (ya2_2 1), .int (iJ (kN2_3 1)), .int (iJ (kQ2_4 1))])), ((ya2_2 1), cJ cI 32 (kG2_5 1)), ((xa2_1 2), .inr (2, [.ref (ya2_2 2), .int (iJ (kN2_3 2)), .int (iJ (kQ2_4 2))])), ((ya2_2 2), cJ cI 32 (kG2_5 2)), ((xa2_1 3), .inr (2, [.ref (ya2_2 3), .int (iJ (kN2_3 3)), .int (iJ (kQ2_4 3))])), ((ya2_2 3), cJ cI 32 (kG2_5 3)), (d0, .inr (1, [.ref d1, .int (iJ (np))])), (d1, cJ cI 60 (gp)), (r0, .inr (4, [.ref r1, .ref r2])), (r1, cJ cI 60 (S)), (r2, cJ cI 60 (X)), (p0, .inr (3, [.ref p1, .ref p2, .ref p3, .ref p4, .ref p5, .ref p6, .int (iJ (L_))])), (p1, cJ cI 32 (nrA)), (p2, cJ cI 32 (ow)), (p3, cJ cZ 32 (cA)), (p4, cJ cZ 32 (cU)), (p5, cJ cI 32 (hd)), (p6, cJ cI 132 (fw)), (m0, .inr (6, [.ref ms, .ref mh, .int (iJ (rcK kp)), .ref mn, .int (iJ (sv)), .ref mp, .int (iJ (pn)), .int (iJ (rf7)), .ref ml, .ref mm, .ref md, .ref mw, .ref mt, .int (iJ (tl)), .ref mb, .ref mi, .ref mg])), (ms, cJ cI 34 (uJ (uJ s 0 (s 0 + 1)) (2 + a1) (1 + a2 + 3 * z3 + 6 * a4))), (mh, cJ cI 136 (rcH s h kp)), (mn, cJ cI 34 (sn)), (mp, cJ cI 60 (p)), (ml, cJ cI 99 (le)), (mm, cL cJ_ 99 (my)), (md, cJ cI 32 (hd7)), (mw, cJ cI 32 (ww)), (mt, cJ cI 33 (T)), (mb, cJ cI 30 (B)), (mi, cJ cI 30 (X7)), (mg, cJ cI 4 (sg))]) (fun _ => rfl) ?_
  rintro ⟨⟩ hp_8
  refine r_top (b := n + 1) (by rw [e_s0]) ?_
  refine r_same E 885 dL_law_220 (by decide) ?_
  refine r_lv [0, 1, 2, 3] [(0, .ref b_), (1, .ref x0), (2, .ref m0), (3, .int (iJ (i_)))] rfl ?_
  exact kk hs rf (n + 1) q (uJ g n (sOf a2 z3 a4)) nt qt gt ns qs gs m2_6 xa2_1 ya2_2 kN2_3 kQ2_4 kG2_5 np gp S X L_ ow cA cU hd fw (rcK kp) sv pn rf7 tl (uJ (uJ s 0 (s 0 + 1)) (2 + a1) (1 + a2 + 3 * z3 + 6 * a4)) (rcH s h kp) sn p le my hd7 ww T B X7 sg ⟨(by rw [ha.1, ← mk_sOf hk.2.1 hz3 hk.2.2]; exact iR.add (vK_of hk.2.1 hz3 hk.2.2) ha.2), (iH.push iR hpu), iS, iP, iF, iT⟩
set_option maxHeartbeats 4000000 in
set_option maxRecDepth 100000 in
theorem cL_0Ch {p_ : Program} {l : Launch} {e_ : Env} {s_ : State} {m_ : MethodId} {ar_ : Array Value} {bw_ : List Frame} {mt_ : Method} {cd_ : Code} {D : va_G} {Q_ : State → Prop} {b_ : Nat} {i_ : Int} {x0 h0 t0 n0 i0 d0 r0 p0 h1 t1 n1 i1 d1 r1 r2 p1 p2 p3 p4 p5 p6 m0 ms mh mn mp ml mm md mw mt mb mi mg : Nat} {cI cJ_ cZ cP : ClassId} (E : EE p_ s_ m_ ar_ mt_ cd_ D vwCl [(cI, .int), (cJ_, .long), (cZ, .boolean), (cP, .object "LeanSticks$Piece")] 8 cL_law RL wsL_law) {Ln : Nat} {xs : Nat → Int32} (hX : va_X b_ Ln xs s_ s_.heap) (hbl : b_ < s_.heap.size) (hL : Ln ≤ 2560) (hi : 0 ≤ i_ ∧ i_ + 4 < (Ln : Int)) {a1 : Int} (e1 : XS xs (i_ + 1) = a1) (j1 : jb a1) {a2 : Int} (e2 : XS xs (i_ + 2) = a2) (j2 : jb a2) {a3 : Int} (e3 : XS xs (i_ + 3) = a3) (j3 : jb a3) {a4 : Int} (e4 : XS xs (i_ + 4) = a4) (j4 : jb a4) {z3 : Int} (ez3 : b2 (¬ a3 = 0) = z3) (hz3 : z3 = 0 ∨ z3 = 1) {hs : Int} {rf : Int} {n : Int} {q : Int} {g : Int → Int} {nt : Int} {qt : Int} {gt : Int → Int} {ns : Int} {qs : Int} {gs : Int → Int} {m : Int} {xa : Nat → Nat} {ya : Nat → Nat} {kN : Nat → Int} {kQ : Nat → Int} {kG : Nat → Int → Int} {np : Int} {gp : Int → Int} {S : Int → Int} {X : Int → Int} {L_ : Int} {ow : Int → Int} {cA : Int → Int} {cU : Int → Int} {hd : Int → Int} {fw : Int → Int} {kp : Int} {sv : Int} {pn : Int} {rf7 : Int} {tl : Int} {s : Int → Int} {h : Int → Int} {sn : Int → Int} {p : Int → Int} {le : Int → Int} {my : Int → Int} {hd7 : Int → Int} {ww : Int → Int} {T : Int → Int} {B : Int → Int} {X7 : Int → Int} {sg : Int → Int} (hI : IV g n q s m kN kQ kG kp h hs ns qs gs sv sn np gp pn p rf rf7 nt) (hk : (0 ≤ a1 ∧ a1 ≤ n) ∧ (0 ≤ a2 ∧ a2 ≤ 2) ∧ (0 ≤ a4 ∧ a4 ≤ 3)) (ha : 0 ≤ a1 ∧ a1 < n) (kk : KK p_ l e_ s_ m_ ar_ bw_ mt_ cd_ D Q_ b_ i_ x0 h0 t0 n0 i0 d0 r0 p0 h1 t1 n1 i1 d1 r1 r2 p1 p2 p3 p4 p5 p6 m0 ms mh mn mp ml mm md mw mt mb mi mg cI cJ_ cZ cP) : GG p_ l e_ room_1 s_ m_ ar_ bw_ mt_ cd_ D vwCl (fun q => s_.heap.size ≤ q) (fun q => s_.heap.size ≤ q) s_.heap 8 42 1383 Q_ [(x0, .inr (5, [.ref h0, .ref t0, .ref n0, .ref i0, .ref d0, .ref r0, .ref p0, .int (iJ (hs)), .int (iJ (rf))])), (h0, .inr (2, [.ref h1, .int (iJ (n)), .int (iJ (q))])), (h1, cJ cI 32 (g)), (t0, .inr (2, [.ref t1, .int (iJ (nt)), .int (iJ (qt))])), (t1, cJ cI 32 (gt)), (n0, .inr (2, [.ref n1, .int (iJ (ns)), .int (iJ (qs))])), (n1, cJ cI 32 (gs)), (i0, .inr (0, [.ref i1, .int (iJ (m))])), (i1, cR cP 4 (hF xa)), ((xa 0), .inr (2, [.ref (ya 0), .int (iJ (kN 0)), .int (iJ (kQ 0))])), ((ya 0), cJ cI 32 (kG 0)), ((xa 1), .inr (2, [.ref (ya 1), .int (iJ (kN 1)), .int (iJ (kQ 1))])), ((ya 1), cJ cI 32 (kG 1)), ((xa 2), .inr (2, [.ref (ya 2), .int (iJ (kN 2)), .int (iJ (kQ 2))])), ((ya 2), cJ cI 32 (kG 2)), ((xa 3), .inr (2, [.ref (ya 3), .int (iJ (kN 3)), .int (iJ (kQ 3))])), ((ya 3), cJ cI 32 (kG 3)), (d0, .inr (1, [.ref d1, .int (iJ (np))])), (d1, cJ cI 60 (gp)), (r0, .inr (4, [.ref r1, .ref r2])), (r1, cJ cI 60 (S)), (r2, cJ cI 60 (X)), (p0, .inr (3, [.ref p1, .ref p2, .ref p3, .ref p4, .ref p5, .ref p6, .int (iJ (L_))])), (p1, cJ cI 32 (nrA)), (p2, cJ cI 32 (ow)), (p3, cJ cZ 32 (cA)), (p4, cJ cZ 32 (cU)), (p5, cJ cI 32 (hd)), (p6, cJ cI 132 (fw)), (m0, .inr (6, [.ref ms, .ref mh, .int (iJ (kp)), .ref mn, .int (iJ (sv)), .ref mp, .int (iJ (pn)), .int (iJ (rf7)), .ref ml, .ref mm, .ref md, .ref mw, .ref mt, .int (iJ (tl)), .ref mb, .ref mi, .ref mg])), (ms, cJ cI 34 (s)), (mh, cJ cI 136 (h)), (mn, cJ cI 34 (sn)), (mp, cJ cI 60 (p)), (ml, cJ cI 99 (le)), (mm, cL cJ_ 99 (my)), (md, cJ cI 32 (hd7)), (mw, cJ cI 32 (ww)), (mt, cJ cI 33 (T)), (mb, cJ cI 30 (B)), (mi, cJ cI 30 (X7)), (mg, cJ cI 4 (sg))] [(0, .ref b_), (1, .ref x0), (2, .ref m0), (3, .int (iJ i_))] 156 [] := by
  obtain ⟨iR, iH, iS, iP, iF, iT⟩ := hI
  have b_n := iR.1
  have b_q := iR.2.1
  have b_g := iR.hg
  have b_g3 := iR.hg3
  have b_s0 := iR.hs0
  have b_s1 := iR.hs1
  have b_sv := iR.hsv
  have b_m := iH.2.1
  have b_kN := iH.2.2.1
  have e_kp := iH.1
  have b_kp : 0 ≤ kp ∧ kp ≤ 4 := by rw [e_kp]; exact b_m
  have b_np := iP.2.1
  have e_pn := iP.1
  have b_pn : 0 ≤ pn ∧ pn ≤ 60 := by rw [e_pn]; exact b_np
  have b_pp : ∀ j : Int, 0 ≤ j → j < pn → 33 ≤ p j ∧ p j ≤ 126 := fun j t1 t2 => (iP.2.2 j t1 (by rw [← e_pn]; exact t2)).2
  have b_gp : ∀ j : Int, 0 ≤ j → j < np → 33 ≤ gp j ∧ gp j ≤ 126 := fun j t1 t2 => by rw [(iP.2.2 j t1 t2).1]; exact (iP.2.2 j t1 t2).2
  have b_ns := iS.2.2.1
  have e_sv := iS.1
  have e_s0 : s 0 = n := iR.2.2.1
  have e_s1 : s 1 = q := iR.2.2.2.1
  have hA : ∀ q : Nat, s_.heap.size ≤ q → (fun q : Nat => s_.heap.size ≤ q) q := fun _ t => t
  refine r_aload_n E 1 dL_law_156 rfl rfl ?_
  refine r_aload_n E 0 dL_law_157 rfl rfl ?_
  refine r_iload_n E 3 dL_law_158 rfl rfl ?_
  refine r_iconst E 1 rfl dL_law_159 ?_
  refine r_iadd E dL_law_160 ?_
  refine r_sld E hX hbl (Nat.not_le.mpr hbl) hL (i := (i_ + 1)) (by omega) a1 e1 dL_law_161 ?_
  refine r_aload_n E 0 dL_law_162 rfl rfl ?_
  refine r_iload_n E 3 dL_law_163 rfl rfl ?_
  refine r_iconst E 2 rfl dL_law_164 ?_
  refine r_iadd E dL_law_165 ?_
  refine r_sld E hX hbl (Nat.not_le.mpr hbl) hL (i := (i_ + 2)) (by omega) a2 e2 dL_law_166 ?_
  refine r_aload_n E 0 dL_law_167 rfl rfl ?_
  refine r_iload_n E 3 dL_law_168 rfl rfl ?_
  refine r_iconst E 3 rfl dL_law_169 ?_
  refine r_iadd E dL_law_170 ?_
  refine r_sld E hX hbl (Nat.not_le.mpr hbl) hL (i := (i_ + 3)) (by omega) a3 e3 dL_law_171 ?_
  refine r_bool E j3 z3 ez3 dL_law_172 dL_law_175 dL_law_176 dL_law_179 ?_
  refine r_aload_n E 0 dL_law_180 rfl rfl ?_
  refine r_iload_n E 3 dL_law_181 rfl rfl ?_
  refine r_iconst E 4 rfl dL_law_182 ?_
  refine r_iadd E dL_law_183 ?_
  refine r_sld E hX hbl (Nat.not_le.mpr hbl) hL (i := (i_ + 4)) (by omega) a4 e4 dL_law_184 ?_
  refine r_vM E (st := []) (c_X6_strokeCh l D x0 h0 t0 n0 i0 d0 r0 p0 hs rf h1 cI g n q i1 cP xa ya kN kQ kG m a1 a2 z3 a4 (by first | assumption | omega | exact ⟨by omega, by omega⟩) (by first | assumption | omega | exact ⟨by omega, by omega⟩) (by first | assumption | omega | exact ⟨by omega, by omega⟩) hk hz3 ha) gL_law_X6_stroke 4 kf_X6_stroke ⟨rfl, rfl⟩ ⟨Nat.le_of_ble_eq_true rfl, Nat.le_of_ble_eq_true rfl⟩ dL_law_185 rfl 0 rfl rfl rfl rfl ⟨Nat.le_of_ble_eq_true rfl, Nat.le_of_ble_eq_true rfl⟩ [0, 1, 2, 7, 8, 9, 10, 11, 12, 13, 14, 15, 16] rfl (by decide) [0, 3] rfl (Nat.le_of_ble_eq_true rfl) [(t0, .inr (2, [.ref t1, .int (iJ (nt)), .int (iJ (qt))])), (t1, cJ cI 32 (gt)), (n0, .inr (2, [.ref n1, .int (iJ (ns)), .int (iJ (qs))])), (n1, cJ cI 32 (gs)), (d0, .inr (1, [.ref d1, .int (iJ (np))])), (d1, cJ cI 60 (gp)), (r0, .inr (4, [.ref r1, .ref r2])), (r1, cJ cI 60 (S)), (r2, cJ cI 60 (X)), (p0, .inr (3, [.ref p1, .ref p2, .ref p3, .ref p4, .ref p5, .ref p6, .int (iJ (L_))])), (p1, cJ cI 32 (nrA)), (p2, cJ cI 32 (ow)), (p3, cJ cZ 32 (cA)), (p4, cJ cZ 32 (cU)), (p5, cJ cI 32 (hd)), (p6, cJ cI 132 (fw)), (m0, .inr (6, [.ref ms, .ref mh, .int (iJ (kp)), .ref mn, .int (iJ (sv)), .ref mp, .int (iJ (pn)), .int (iJ (rf7)), .ref ml, .ref mm, .ref md, .ref mw, .ref mt, .int (iJ (tl)), .ref mb, .ref mi, .ref mg])), (ms, cJ cI 34 (s)), (mh, cJ cI 136 (h)), (mn, cJ cI 34 (sn)), (mp, cJ cI 60 (p)), (ml, cJ cI 99 (le)), (mm, cL cJ_ 99 (my)), (md, cJ cI 32 (hd7)), (mw, cJ cI 32 (ww)), (mt, cJ cI 33 (T)), (mb, cJ cI 30 (B)), (mi, cJ cI 30 (X7)), (mg, cJ cI 4 (sg))] [3, 4, 5, 6, 17, 18, 19, 20, 21, 22, 23, 24, 25, 26, 27, 28, 29, 30, 31, 32, 33, 34, 35, 36, 37, 38, 39, 40, 41] rfl (by decide) (by decide) hA [29, 30, 31, 0, 1, 2, 3, 32, 33, 34, 35, 36, 37, 38, 39, 40, 41, 4, 5, 6, 7, 8, 9, 10, 11, 12, 13, 14, 15, 16, 17, 18, 19, 20, 21, 22, 23, 24, 25, 26, 27, 28] (by decide) (fun u : (Nat → Nat) × (Nat → Nat) × (Nat → Int) × (Nat → Int) × (Nat → Int → Int) × Int => [(x0, .inr (5, [.ref h0, .ref t0, .ref n0, .ref i0, .ref d0, .ref r0, .ref p0, .int (iJ (hs)), .int (iJ (rf))])), (h0, .inr (2, [.ref h1, .int (iJ (n)), .int (iJ (q))])), (h1, cJ cI 32 (uJ g a1 (sOf a2 z3 a4))), (t0, .inr (2, [.ref t1, .int (iJ (nt)), .int (iJ (qt))])), (t1, cJ cI 32 (gt)), (n0, .inr (2, [.ref n1, .int (iJ (ns)), .int (iJ (qs))])), (n1, cJ cI 32 (gs)), (i0, .inr (0, [.ref i1, .int (iJ (u.2.2.2.2.2))])), (i1, cR cP 4 (hF u.1)), ((u.1 0), .inr (2, [.ref (u.2.1 0), .int (iJ (u.2.2.1 0)), .int (iJ (u.2.2.2.1 0))])), ((u.2.1 0), cJ cI 32 (u.2.2.2.2.1 0)), ((u.1 1), .inr (2, [.ref (u.2.1 1), .int (iJ (u.2.2.1 1)), .int (iJ (u.2.2.2.1 1))])), ((u.2.1 1), cJ cI 32 (u.2.2.2.2.1 1)), ((u.1 2), .inr (2, [.ref (u.2.1 2), .int (iJ (u.2.2.1 2)), .int (iJ (u.2.2.2.1 2))])), ((u.2.1 2), cJ cI 32 (u.2.2.2.2.1 2)), ((u.1 3), .inr (2, [.ref (u.2.1 3), .int (iJ (u.2.2.1 3)), .int (iJ (u.2.2.2.1 3))])), ((u.2.1 3), cJ cI 32 (u.2.2.2.2.1 3)), (d0, .inr (1, [.ref d1, .int (iJ (np))])), (d1, cJ cI 60 (gp)), (r0, .inr (4, [.ref r1, .ref r2])), (r1, cJ cI 60 (S)), (r2, cJ cI 60 (X)), (p0, .inr (3, [.ref p1, .ref p2, .ref p3, .ref p4, .ref p5, .ref p6, .int (iJ (L_))])), (p1, cJ cI 32 (nrA)), (p2, cJ cI 32 (ow)), (p3, cJ cZ 32 (cA)), (p4, cJ cZ 32 (cU)), (p5, cJ cI 32 (hd)), (p6, cJ cI 132 (fw)), (m0, .inr (6, [.ref ms, .ref mh, .int (iJ (kp)), .ref mn, .int (iJ (sv)), .ref mp, .int (iJ (pn)), .int (iJ (rf7)), .ref ml, .ref mm, .ref md, .ref mw, .ref mt, .int (iJ (tl)), .ref mb, .ref mi, .ref mg])), (ms, cJ cI 34 (s)), (mh, cJ cI 136 (h)), (mn, cJ cI 34 (sn)), (mp, cJ cI 60 (p)), (ml, cJ cI 99 (le)), (mm, cL cJ_ 99 (my)), (md, cJ cI 32 (hd7)), (mw, cJ cI 32 (ww)), (mt, cJ cI 33 (T)), (mb, cJ cI 30 (B)), (mi, cJ cI 30 (X7)), (mg, cJ cI 4 (sg))]) (fun _ => rfl) ?_
  rintro ⟨xa2_1, ya2_2, kN2_3, kQ2_4, kG2_5, m2_6⟩ hp_7
  refine r_cv (ws2 := [(x0, .inr (5, [.ref h0, .ref t0, .ref n0, .ref i0, .ref d0, .ref r0, .ref p0, .int (iJ (hs)), .int (iJ (rf))])), (h0, .inr (2, [.ref h1, .int (iJ (n)), .int (iJ (q))])), (h1, cJ cI 32 (uJ g a1 (sOf a2 z3 a4))), (t0, .inr (2, [.ref t1, .int (iJ (nt)), .int (iJ (qt))])), (t1, cJ cI 32 (gt)), (n0, .inr (2, [.ref n1, .int (iJ (ns)), .int (iJ (qs))])), (n1, cJ cI 32 (gs)), (i0, .inr (0, [.ref i1, .int (iJ (m2_6))])), (i1, cR cP 4 (hF xa2_1)), ((xa2_1 0), .inr (2, [.ref (ya2_2 0), .int (iJ (kN2_3 0)), .int (iJ (kQ2_4 0))])), ((ya2_2 0), cJ cI 32 (kG2_5 0)), ((xa2_1 1), .inr (2, [.ref (ya2_2 1), .int (iJ (kN2_3 1)), .int (iJ (kQ2_4 1))])), ((ya2_2 1), cJ cI 32 (kG2_5 1)), ((xa2_1 2), .inr (2, [.ref (ya2_2 2), .int (iJ (kN2_3 2)), .int (iJ (kQ2_4 2))])), ((ya2_2 2), cJ cI 32 (kG2_5 2)), ((xa2_1 3), .inr (2, [.ref (ya2_2 3), .int (iJ (kN2_3 3)), .int (iJ (kQ2_4 3))])), ((ya2_2 3), cJ cI 32 (kG2_5 3)), (d0, .inr (1, [.ref d1, .int (iJ (np))])), (d1, cJ cI 60 (gp)), (r0, .inr (4, [.ref r1, .ref r2])), (r1, cJ cI 60 (S)), (r2, cJ cI 60 (X)), (p0, .inr (3, [.ref p1, .ref p2, .ref p3, .ref p4, .ref p5, .ref p6, .int (iJ (L_))])), (p1, cJ cI 32 (nrA)), (p2, cJ cI 32 (ow)), (p3, cJ cZ 32 (cA)), (p4, cJ cZ 32 (cU)), (p5, cJ cI 32 (hd)), (p6, cJ cI 132 (fw)), (m0, .inr (6, [.ref ms, .ref mh, .int (iJ (kp)), .ref mn, .int (iJ (sv)), .ref mp, .int (iJ (pn)), .int (iJ (rf7)), .ref ml, .ref mm, .ref md, .ref mw, .ref mt, .int (iJ (tl)), .ref mb, .ref mi, .ref mg])), (ms, cJ cI 34 (s)), (mh, cJ cI 136 (h)), (mn, cJ cI 34 (sn)), (mp, cJ cI 60 (p)), (ml, cJ cI 99 (le)), (mm, cL cJ_ 99 (my)), (md, cJ cI 32 (hd7)), (mw, cJ cI 32 (ww)), (mt, cJ cI 33 (T)), (mb, cJ cI 30 (B)), (mi, cJ cI 30 (X7)), (mg, cJ cI 4 (sg))]) (st2 := [.int (iJ (n))]) rfl rfl rfl ?_
  have hpu := hp_7
  try dsimp only at hpu
  refine r_aload_n E 2 dL_law_188 rfl rfl ?_
  refine r_aload_n E 0 dL_law_189 rfl rfl ?_
  refine r_iload_n E 3 dL_law_190 rfl rfl ?_
  refine r_iconst E 1 rfl dL_law_191 ?_
  refine r_iadd E dL_law_192 ?_
  refine r_sld E hX hbl (Nat.not_le.mpr hbl) hL (i := (i_ + 1)) (by omega) a1 e1 dL_law_193 ?_
  refine r_aload_n E 0 dL_law_194 rfl rfl ?_
  refine r_iload_n E 3 dL_law_195 rfl rfl ?_
  refine r_iconst E 2 rfl dL_law_196 ?_
  refine r_iadd E dL_law_197 ?_
  refine r_sld E hX hbl (Nat.not_le.mpr hbl) hL (i := (i_ + 2)) (by omega) a2 e2 dL_law_198 ?_
  refine r_aload_n E 0 dL_law_199 rfl rfl ?_
  refine r_iload_n E 3 dL_law_200 rfl rfl ?_
  refine r_iconst E 3 rfl dL_law_201 ?_
  refine r_iadd E dL_law_202 ?_
  refine r_sld E hX hbl (Nat.not_le.mpr hbl) hL (i := (i_ + 3)) (by omega) a3 e3 dL_law_203 ?_
  refine r_bool E j3 z3 ez3 dL_law_204 dL_law_207 dL_law_208 dL_law_211 ?_
  refine r_aload_n E 0 dL_law_212 rfl rfl ?_
  refine r_iload_n E 3 dL_law_213 rfl rfl ?_
  refine r_iconst E 4 rfl dL_law_214 ?_
  refine r_iadd E dL_law_215 ?_
  refine r_sld E hX hbl (Nat.not_le.mpr hbl) hL (i := (i_ + 4)) (by omega) a4 e4 dL_law_216 ?_
  refine r_vM E (st := [.int (iJ (n))]) (c_X7_strokeCh l D m0 ms mh mn mp ml mm md mw mt mb mi mg cI kp sv pn rf7 tl s h a1 a2 z3 a4 (by first | assumption | omega | exact ⟨by omega, by omega⟩) (by first | assumption | omega | exact ⟨by omega, by omega⟩) (by rw [e_s0]; exact hk) hz3 (by rw [e_s0]; exact ha)) gL_law_X7_stroke 4 kf_X7_stroke ⟨rfl, rfl⟩ ⟨Nat.le_of_ble_eq_true rfl, Nat.le_of_ble_eq_true rfl⟩ dL_law_217 rfl 29 rfl rfl rfl rfl ⟨Nat.le_of_ble_eq_true rfl, Nat.le_of_ble_eq_true rfl⟩ [29, 30, 31] rfl (by decide) [0] rfl (Nat.le_of_ble_eq_true rfl) [(x0, .inr (5, [.ref h0, .ref t0, .ref n0, .ref i0, .ref d0, .ref r0, .ref p0, .int (iJ (hs)), .int (iJ (rf))])), (h0, .inr (2, [.ref h1, .int (iJ (n)), .int (iJ (q))])), (h1, cJ cI 32 (uJ g a1 (sOf a2 z3 a4))), (t0, .inr (2, [.ref t1, .int (iJ (nt)), .int (iJ (qt))])), (t1, cJ cI 32 (gt)), (n0, .inr (2, [.ref n1, .int (iJ (ns)), .int (iJ (qs))])), (n1, cJ cI 32 (gs)), (i0, .inr (0, [.ref i1, .int (iJ (m2_6))])), (i1, cR cP 4 (hF xa2_1)), ((xa2_1 0), .inr (2, [.ref (ya2_2 0), .int (iJ (kN2_3 0)), .int (iJ (kQ2_4 0))])), ((ya2_2 0), cJ cI 32 (kG2_5 0)), ((xa2_1 1), .inr (2, [.ref (ya2_2 1), .int (iJ (kN2_3 1)), .int (iJ (kQ2_4 1))])), ((ya2_2 1), cJ cI 32 (kG2_5 1)), ((xa2_1 2), .inr (2, [.ref (ya2_2 2), .int (iJ (kN2_3 2)), .int (iJ (kQ2_4 2))])), ((ya2_2 2), cJ cI 32 (kG2_5 2)), ((xa2_1 3), .inr (2, [.ref (ya2_2 3), .int (iJ (kN2_3 3)), .int (iJ (kQ2_4 3))])), ((ya2_2 3), cJ cI 32 (kG2_5 3)), (d0, .inr (1, [.ref d1, .int (iJ (np))])), (d1, cJ cI 60 (gp)), (r0, .inr (4, [.ref r1, .ref r2])), (r1, cJ cI 60 (S)), (r2, cJ cI 60 (X)), (p0, .inr (3, [.ref p1, .ref p2, .ref p3, .ref p4, .ref p5, .ref p6, .int (iJ (L_))])), (p1, cJ cI 32 (nrA)), (p2, cJ cI 32 (ow)), (p3, cJ cZ 32 (cA)), (p4, cJ cZ 32 (cU)), (p5, cJ cI 32 (hd)), (p6, cJ cI 132 (fw)), (mn, cJ cI 34 (sn)), (mp, cJ cI 60 (p)), (ml, cJ cI 99 (le)), (mm, cL cJ_ 99 (my)), (md, cJ cI 32 (hd7)), (mw, cJ cI 32 (ww)), (mt, cJ cI 33 (T)), (mb, cJ cI 30 (B)), (mi, cJ cI 30 (X7)), (mg, cJ cI 4 (sg))] [0, 1, 2, 3, 4, 5, 6, 7, 8, 9, 10, 11, 12, 13, 14, 15, 16, 17, 18, 19, 20, 21, 22, 23, 24, 25, 26, 27, 28, 32, 33, 34, 35, 36, 37, 38, 39, 40, 41] rfl (by decide) (by decide) hA [0, 1, 2, 3, 4, 5, 6, 7, 8, 9, 10, 11, 12, 13, 14, 15, 16, 17, 18, 19, 20, 21, 22, 23, 24, 25, 26, 27, 28, 39, 40, 41, 29, 30, 31, 32, 33, 34, 35, 36, 37, 38] (by decide) (fun (_ : Unit) => [(x0, .inr (5, [.ref h0, .ref t0, .ref n0, .ref i0, .ref d0, .ref r0, .ref p0, .int (iJ (hs)), .int (iJ (rf))])), (h0, .inr (2, [.ref h1, .int (iJ (n)), .int (iJ (q))])), (h1, cJ cI 32 (uJ g a1 (sOf a2 z3 a4))), (t0, .inr (2, [.ref t1, .int (iJ (nt)), .int (iJ (qt))])), (t1, cJ cI 32 (gt)), (n0, .inr (2, [.ref n1, .int (iJ (ns)), .int (iJ (qs))])), (n1, cJ cI 32 (gs)), (i0, .inr (0, [.ref i1, .int (iJ (m2_6))])), (i1, cR cP 4 (hF xa2_1)), ((xa2_1 0), .inr (2, [.ref (ya2_2 0), .int (iJ (kN2_3 0)), .int (iJ (kQ2_4 0))])), ((ya2_2 0), cJ cI 32 (kG2_5 0)), ((xa2_1 1), .inr (2, [.ref (ya2_2 1), .int (iJ (kN2_3 1)), .int (iJ (kQ2_4 1))])), ((ya2_2 1), cJ cI 32 (kG2_5 1)), ((xa2_1 2), .inr (2, [.ref (ya2_2 2), .int (iJ (kN2_3 2)), .int (iJ (kQ2_4 2))])), ((ya2_2 2), cJ cI 32 (kG2_5 2)), ((xa2_1 3), .inr (2, [.ref (ya2_2 3), .int (iJ (kN2_3 3)), .int (iJ (kQ2_4 3))])), ((ya2_2 3), cJ cI 32 (kG2_5 3)), (d0, .inr (1, [.ref d1, .int (iJ (np))])), (d1, cJ cI 60 (gp)), (r0, .inr (4, [.ref r1, .ref r2])), (r1, cJ cI 60 (S)), (r2, cJ cI 60 (X)), (p0, .inr (3, [.ref p1, .ref p2, .ref p3, .ref p4, .ref p5, .ref p6, .int (iJ (L_))])), (p1, cJ cI 32 (nrA)), (p2, cJ cI 32 (ow)), (p3, cJ cZ 32 (cA)), (p4, cJ cZ 32 (cU)), (p5, cJ cI 32 (hd)), (p6, cJ cI 132 (fw)), (m0, .inr (6, [.ref ms, .ref mh, .int (iJ (rcK kp)), .ref mn, .int (iJ (sv)), .ref mp, .int (iJ (pn)), .int (iJ (rf7)), .ref ml, .ref mm, .ref md, .ref mw, .ref mt, .int (iJ (tl)), .ref mb, .ref mi, .ref mg])), (ms, cJ cI 34 (uJ (uJ s 0 (s 0 + 0)) (2 + a1) (1 + a2 + 3 * z3 + 6 * a4))), (mh, cJ cI 136 (rcH s h kp)), (mn, cJ cI 34 (sn)), (mp, cJ cI 60 (p)), (ml, cJ cI 99 (le)), (mm, cL cJ_ 99 (my)), (md, cJ cI 32 (hd7)), (mw, cJ cI 32 (ww)), (mt, cJ cI 33 (T)), (mb, cJ cI 30 (B)), (mi, cJ cI 30 (X7)), (mg, cJ cI 4 (sg))]) (fun _ => rfl) ?_
  rintro ⟨⟩ hp_8
  refine r_top (b := n) e_s0 ?_
  refine r_same E 885 dL_law_220 (by decide) ?_
  refine r_lv [0, 1, 2, 3] [(0, .ref b_), (1, .ref x0), (2, .ref m0), (3, .int (iJ (i_)))] rfl ?_
  exact kk hs rf n q (uJ g a1 (sOf a2 z3 a4)) nt qt gt ns qs gs m2_6 xa2_1 ya2_2 kN2_3 kQ2_4 kG2_5 np gp S X L_ ow cA cU hd fw (rcK kp) sv pn rf7 tl (uJ (uJ s 0 (s 0 + 0)) (2 + a1) (1 + a2 + 3 * z3 + 6 * a4)) (rcH s h kp) sn p le my hd7 ww T B X7 sg ⟨(by rw [← mk_sOf hk.2.1 hz3 hk.2.2]; exact iR.ch (vK_of hk.2.1 hz3 hk.2.2) ha), (iH.push iR hpu), iS, iP, iF, iT⟩
set_option maxHeartbeats 4000000 in
set_option maxRecDepth 100000 in
theorem cL_1Bad {p_ : Program} {l : Launch} {e_ : Env} {s_ : State} {m_ : MethodId} {ar_ : Array Value} {bw_ : List Frame} {mt_ : Method} {cd_ : Code} {D : va_G} {Q_ : State → Prop} {b_ : Nat} {i_ : Int} {x0 h0 t0 n0 i0 d0 r0 p0 h1 t1 n1 i1 d1 r1 r2 p1 p2 p3 p4 p5 p6 m0 ms mh mn mp ml mm md mw mt mb mi mg : Nat} {cI cJ_ cZ cP : ClassId} (E : EE p_ s_ m_ ar_ mt_ cd_ D vwCl [(cI, .int), (cJ_, .long), (cZ, .boolean), (cP, .object "LeanSticks$Piece")] 8 cL_law RL wsL_law) {Ln : Nat} {xs : Nat → Int32} (hX : va_X b_ Ln xs s_ s_.heap) (hbl : b_ < s_.heap.size) (hL : Ln ≤ 2560) (hi : 0 ≤ i_ ∧ i_ + 4 < (Ln : Int)) {a1 : Int} (e1 : XS xs (i_ + 1) = a1) (j1 : jb a1) {hs : Int} {rf : Int} {n : Int} {q : Int} {g : Int → Int} {nt : Int} {qt : Int} {gt : Int → Int} {ns : Int} {qs : Int} {gs : Int → Int} {m : Int} {xa : Nat → Nat} {ya : Nat → Nat} {kN : Nat → Int} {kQ : Nat → Int} {kG : Nat → Int → Int} {np : Int} {gp : Int → Int} {S : Int → Int} {X : Int → Int} {L_ : Int} {ow : Int → Int} {cA : Int → Int} {cU : Int → Int} {hd : Int → Int} {fw : Int → Int} {kp : Int} {sv : Int} {pn : Int} {rf7 : Int} {tl : Int} {s : Int → Int} {h : Int → Int} {sn : Int → Int} {p : Int → Int} {le : Int → Int} {my : Int → Int} {hd7 : Int → Int} {ww : Int → Int} {T : Int → Int} {B : Int → Int} {X7 : Int → Int} {sg : Int → Int} (hI : IV g n q s m kN kQ kG kp h hs ns qs gs sv sn np gp pn p rf rf7 nt) (hk : ¬ (0 ≤ a1 ∧ a1 ≤ n)) (kk : KK p_ l e_ s_ m_ ar_ bw_ mt_ cd_ D Q_ b_ i_ x0 h0 t0 n0 i0 d0 r0 p0 h1 t1 n1 i1 d1 r1 r2 p1 p2 p3 p4 p5 p6 m0 ms mh mn mp ml mm md mw mt mb mi mg cI cJ_ cZ cP) : GG p_ l e_ room_1 s_ m_ ar_ bw_ mt_ cd_ D vwCl (fun q => s_.heap.size ≤ q) (fun q => s_.heap.size ≤ q) s_.heap 8 42 1383 Q_ [(x0, .inr (5, [.ref h0, .ref t0, .ref n0, .ref i0, .ref d0, .ref r0, .ref p0, .int (iJ (hs)), .int (iJ (rf))])), (h0, .inr (2, [.ref h1, .int (iJ (n)), .int (iJ (q))])), (h1, cJ cI 32 (g)), (t0, .inr (2, [.ref t1, .int (iJ (nt)), .int (iJ (qt))])), (t1, cJ cI 32 (gt)), (n0, .inr (2, [.ref n1, .int (iJ (ns)), .int (iJ (qs))])), (n1, cJ cI 32 (gs)), (i0, .inr (0, [.ref i1, .int (iJ (m))])), (i1, cR cP 4 (hF xa)), ((xa 0), .inr (2, [.ref (ya 0), .int (iJ (kN 0)), .int (iJ (kQ 0))])), ((ya 0), cJ cI 32 (kG 0)), ((xa 1), .inr (2, [.ref (ya 1), .int (iJ (kN 1)), .int (iJ (kQ 1))])), ((ya 1), cJ cI 32 (kG 1)), ((xa 2), .inr (2, [.ref (ya 2), .int (iJ (kN 2)), .int (iJ (kQ 2))])), ((ya 2), cJ cI 32 (kG 2)), ((xa 3), .inr (2, [.ref (ya 3), .int (iJ (kN 3)), .int (iJ (kQ 3))])), ((ya 3), cJ cI 32 (kG 3)), (d0, .inr (1, [.ref d1, .int (iJ (np))])), (d1, cJ cI 60 (gp)), (r0, .inr (4, [.ref r1, .ref r2])), (r1, cJ cI 60 (S)), (r2, cJ cI 60 (X)), (p0, .inr (3, [.ref p1, .ref p2, .ref p3, .ref p4, .ref p5, .ref p6, .int (iJ (L_))])), (p1, cJ cI 32 (nrA)), (p2, cJ cI 32 (ow)), (p3, cJ cZ 32 (cA)), (p4, cJ cZ 32 (cU)), (p5, cJ cI 32 (hd)), (p6, cJ cI 132 (fw)), (m0, .inr (6, [.ref ms, .ref mh, .int (iJ (kp)), .ref mn, .int (iJ (sv)), .ref mp, .int (iJ (pn)), .int (iJ (rf7)), .ref ml, .ref mm, .ref md, .ref mw, .ref mt, .int (iJ (tl)), .ref mb, .ref mi, .ref mg])), (ms, cJ cI 34 (s)), (mh, cJ cI 136 (h)), (mn, cJ cI 34 (sn)), (mp, cJ cI 60 (p)), (ml, cJ cI 99 (le)), (mm, cL cJ_ 99 (my)), (md, cJ cI 32 (hd7)), (mw, cJ cI 32 (ww)), (mt, cJ cI 33 (T)), (mb, cJ cI 30 (B)), (mi, cJ cI 30 (X7)), (mg, cJ cI 4 (sg))] [(0, .ref b_), (1, .ref x0), (2, .ref m0), (3, .int (iJ i_))] 225 [] := by
  obtain ⟨iR, iH, iS, iP, iF, iT⟩ := hI
  have b_n := iR.1
  have b_q := iR.2.1
  have b_g := iR.hg
  have b_g3 := iR.hg3
  have b_s0 := iR.hs0
  have b_s1 := iR.hs1
  have b_sv := iR.hsv
  have b_m := iH.2.1
  have b_kN := iH.2.2.1
  have e_kp := iH.1
  have b_kp : 0 ≤ kp ∧ kp ≤ 4 := by rw [e_kp]; exact b_m
  have b_np := iP.2.1
  have e_pn := iP.1
  have b_pn : 0 ≤ pn ∧ pn ≤ 60 := by rw [e_pn]; exact b_np
  have b_pp : ∀ j : Int, 0 ≤ j → j < pn → 33 ≤ p j ∧ p j ≤ 126 := fun j t1 t2 => (iP.2.2 j t1 (by rw [← e_pn]; exact t2)).2
  have b_gp : ∀ j : Int, 0 ≤ j → j < np → 33 ≤ gp j ∧ gp j ≤ 126 := fun j t1 t2 => by rw [(iP.2.2 j t1 t2).1]; exact (iP.2.2 j t1 t2).2
  have b_ns := iS.2.2.1
  have e_sv := iS.1
  have e_s0 : s 0 = n := iR.2.2.1
  have e_s1 : s 1 = q := iR.2.2.2.1
  have hA : ∀ q : Nat, s_.heap.size ≤ q → (fun q : Nat => s_.heap.size ≤ q) q := fun _ t => t
  refine r_aload_n E 1 dL_law_225 rfl rfl ?_
  refine r_aload_n E 0 dL_law_226 rfl rfl ?_
  refine r_iload_n E 3 dL_law_227 rfl rfl ?_
  refine r_iconst E 1 rfl dL_law_228 ?_
  refine r_iadd E dL_law_229 ?_
  refine r_sld E hX hbl (Nat.not_le.mpr hbl) hL (i := (i_ + 1)) (by omega) a1 e1 dL_law_230 ?_
  refine r_vP E (st := []) (c_X6_restBad l D x0 h0 t0 n0 i0 d0 r0 p0 hs rf h1 cI g n q a1 (by first | assumption | omega | exact ⟨by omega, by omega⟩) (by first | assumption | omega | exact ⟨by omega, by omega⟩) hk) gL_law_X6_rest 1 kf_X6_rest ⟨rfl, rfl⟩ ⟨Nat.le_of_ble_eq_true rfl, Nat.le_of_ble_eq_true rfl⟩ dL_law_231 rfl 0 rfl rfl rfl rfl ⟨Nat.le_of_ble_eq_true rfl, Nat.le_of_ble_eq_true rfl⟩ [0, 1, 2] rfl (by decide) [0] rfl (Nat.le_of_ble_eq_true rfl) ?_
  refine r_aload_n E 2 dL_law_234 rfl rfl ?_
  refine r_aload_n E 0 dL_law_235 rfl rfl ?_
  refine r_iload_n E 3 dL_law_236 rfl rfl ?_
  refine r_iconst E 1 rfl dL_law_237 ?_
  refine r_iadd E dL_law_238 ?_
  refine r_sld E hX hbl (Nat.not_le.mpr hbl) hL (i := (i_ + 1)) (by omega) a1 e1 dL_law_239 ?_
  refine r_vP E (st := [.int (iJ (-1))]) (c_X7_restBad l D m0 ms mh mn mp ml mm md mw mt mb mi mg cI kp sv pn rf7 tl s a1 (by first | assumption | omega | exact ⟨by omega, by omega⟩) (by first | assumption | omega | exact ⟨by omega, by omega⟩) (by rw [e_s0]; exact hk)) gL_law_X7_rest 1 kf_X7_rest ⟨rfl, rfl⟩ ⟨Nat.le_of_ble_eq_true rfl, Nat.le_of_ble_eq_true rfl⟩ dL_law_240 rfl 29 rfl rfl rfl rfl ⟨Nat.le_of_ble_eq_true rfl, Nat.le_of_ble_eq_true rfl⟩ [29, 30] rfl (by decide) [0] rfl (Nat.le_of_ble_eq_true rfl) ?_
  refine r_top (b := -1) rfl ?_
  refine r_same E 885 dL_law_243 (by decide) ?_
  refine r_lv [0, 1, 2, 3] [(0, .ref b_), (1, .ref x0), (2, .ref m0), (3, .int (iJ (i_)))] rfl ?_
  exact kk hs rf n q g nt qt gt ns qs gs m xa ya kN kQ kG np gp S X L_ ow cA cU hd fw kp sv pn rf7 tl s h sn p le my hd7 ww T B X7 sg ⟨iR, iH, iS, iP, iF, iT⟩
set_option maxHeartbeats 4000000 in
set_option maxRecDepth 100000 in
theorem cL_1No {p_ : Program} {l : Launch} {e_ : Env} {s_ : State} {m_ : MethodId} {ar_ : Array Value} {bw_ : List Frame} {mt_ : Method} {cd_ : Code} {D : va_G} {Q_ : State → Prop} {b_ : Nat} {i_ : Int} {x0 h0 t0 n0 i0 d0 r0 p0 h1 t1 n1 i1 d1 r1 r2 p1 p2 p3 p4 p5 p6 m0 ms mh mn mp ml mm md mw mt mb mi mg : Nat} {cI cJ_ cZ cP : ClassId} (E : EE p_ s_ m_ ar_ mt_ cd_ D vwCl [(cI, .int), (cJ_, .long), (cZ, .boolean), (cP, .object "LeanSticks$Piece")] 8 cL_law RL wsL_law) {Ln : Nat} {xs : Nat → Int32} (hX : va_X b_ Ln xs s_ s_.heap) (hbl : b_ < s_.heap.size) (hL : Ln ≤ 2560) (hi : 0 ≤ i_ ∧ i_ + 4 < (Ln : Int)) {a1 : Int} (e1 : XS xs (i_ + 1) = a1) (j1 : jb a1) {hs : Int} {rf : Int} {n : Int} {q : Int} {g : Int → Int} {nt : Int} {qt : Int} {gt : Int → Int} {ns : Int} {qs : Int} {gs : Int → Int} {m : Int} {xa : Nat → Nat} {ya : Nat → Nat} {kN : Nat → Int} {kQ : Nat → Int} {kG : Nat → Int → Int} {np : Int} {gp : Int → Int} {S : Int → Int} {X : Int → Int} {L_ : Int} {ow : Int → Int} {cA : Int → Int} {cU : Int → Int} {hd : Int → Int} {fw : Int → Int} {kp : Int} {sv : Int} {pn : Int} {rf7 : Int} {tl : Int} {s : Int → Int} {h : Int → Int} {sn : Int → Int} {p : Int → Int} {le : Int → Int} {my : Int → Int} {hd7 : Int → Int} {ww : Int → Int} {T : Int → Int} {B : Int → Int} {X7 : Int → Int} {sg : Int → Int} (hI : IV g n q s m kN kQ kG kp h hs ns qs gs sv sn np gp pn p rf rf7 nt) (hk : 0 ≤ a1 ∧ a1 ≤ n) (ha : a1 = 32) (kk : KK p_ l e_ s_ m_ ar_ bw_ mt_ cd_ D Q_ b_ i_ x0 h0 t0 n0 i0 d0 r0 p0 h1 t1 n1 i1 d1 r1 r2 p1 p2 p3 p4 p5 p6 m0 ms mh mn mp ml mm md mw mt mb mi mg cI cJ_ cZ cP) : GG p_ l e_ room_1 s_ m_ ar_ bw_ mt_ cd_ D vwCl (fun q => s_.heap.size ≤ q) (fun q => s_.heap.size ≤ q) s_.heap 8 42 1383 Q_ [(x0, .inr (5, [.ref h0, .ref t0, .ref n0, .ref i0, .ref d0, .ref r0, .ref p0, .int (iJ (hs)), .int (iJ (rf))])), (h0, .inr (2, [.ref h1, .int (iJ (n)), .int (iJ (q))])), (h1, cJ cI 32 (g)), (t0, .inr (2, [.ref t1, .int (iJ (nt)), .int (iJ (qt))])), (t1, cJ cI 32 (gt)), (n0, .inr (2, [.ref n1, .int (iJ (ns)), .int (iJ (qs))])), (n1, cJ cI 32 (gs)), (i0, .inr (0, [.ref i1, .int (iJ (m))])), (i1, cR cP 4 (hF xa)), ((xa 0), .inr (2, [.ref (ya 0), .int (iJ (kN 0)), .int (iJ (kQ 0))])), ((ya 0), cJ cI 32 (kG 0)), ((xa 1), .inr (2, [.ref (ya 1), .int (iJ (kN 1)), .int (iJ (kQ 1))])), ((ya 1), cJ cI 32 (kG 1)), ((xa 2), .inr (2, [.ref (ya 2), .int (iJ (kN 2)), .int (iJ (kQ 2))])), ((ya 2), cJ cI 32 (kG 2)), ((xa 3), .inr (2, [.ref (ya 3), .int (iJ (kN 3)), .int (iJ (kQ 3))])), ((ya 3), cJ cI 32 (kG 3)), (d0, .inr (1, [.ref d1, .int (iJ (np))])), (d1, cJ cI 60 (gp)), (r0, .inr (4, [.ref r1, .ref r2])), (r1, cJ cI 60 (S)), (r2, cJ cI 60 (X)), (p0, .inr (3, [.ref p1, .ref p2, .ref p3, .ref p4, .ref p5, .ref p6, .int (iJ (L_))])), (p1, cJ cI 32 (nrA)), (p2, cJ cI 32 (ow)), (p3, cJ cZ 32 (cA)), (p4, cJ cZ 32 (cU)), (p5, cJ cI 32 (hd)), (p6, cJ cI 132 (fw)), (m0, .inr (6, [.ref ms, .ref mh, .int (iJ (kp)), .ref mn, .int (iJ (sv)), .ref mp, .int (iJ (pn)), .int (iJ (rf7)), .ref ml, .ref mm, .ref md, .ref mw, .ref mt, .int (iJ (tl)), .ref mb, .ref mi, .ref mg])), (ms, cJ cI 34 (s)), (mh, cJ cI 136 (h)), (mn, cJ cI 34 (sn)), (mp, cJ cI 60 (p)), (ml, cJ cI 99 (le)), (mm, cL cJ_ 99 (my)), (md, cJ cI 32 (hd7)), (mw, cJ cI 32 (ww)), (mt, cJ cI 33 (T)), (mb, cJ cI 30 (B)), (mi, cJ cI 30 (X7)), (mg, cJ cI 4 (sg))] [(0, .ref b_), (1, .ref x0), (2, .ref m0), (3, .int (iJ i_))] 225 [] := by
  obtain ⟨iR, iH, iS, iP, iF, iT⟩ := hI
  have b_n := iR.1
  have b_q := iR.2.1
  have b_g := iR.hg
  have b_g3 := iR.hg3
  have b_s0 := iR.hs0
  have b_s1 := iR.hs1
  have b_sv := iR.hsv
  have b_m := iH.2.1
  have b_kN := iH.2.2.1
  have e_kp := iH.1
  have b_kp : 0 ≤ kp ∧ kp ≤ 4 := by rw [e_kp]; exact b_m
  have b_np := iP.2.1
  have e_pn := iP.1
  have b_pn : 0 ≤ pn ∧ pn ≤ 60 := by rw [e_pn]; exact b_np
  have b_pp : ∀ j : Int, 0 ≤ j → j < pn → 33 ≤ p j ∧ p j ≤ 126 := fun j t1 t2 => (iP.2.2 j t1 (by rw [← e_pn]; exact t2)).2
  have b_gp : ∀ j : Int, 0 ≤ j → j < np → 33 ≤ gp j ∧ gp j ≤ 126 := fun j t1 t2 => by rw [(iP.2.2 j t1 t2).1]; exact (iP.2.2 j t1 t2).2
  have b_ns := iS.2.2.1
  have e_sv := iS.1
  have e_s0 : s 0 = n := iR.2.2.1
  have e_s1 : s 1 = q := iR.2.2.2.1
  have hA : ∀ q : Nat, s_.heap.size ≤ q → (fun q : Nat => s_.heap.size ≤ q) q := fun _ t => t
  refine r_aload_n E 1 dL_law_225 rfl rfl ?_
  refine r_aload_n E 0 dL_law_226 rfl rfl ?_
  refine r_iload_n E 3 dL_law_227 rfl rfl ?_
  refine r_iconst E 1 rfl dL_law_228 ?_
  refine r_iadd E dL_law_229 ?_
  refine r_sld E hX hbl (Nat.not_le.mpr hbl) hL (i := (i_ + 1)) (by omega) a1 e1 dL_law_230 ?_
  refine r_vP E (st := []) (c_X6_restNo l D x0 h0 t0 n0 i0 d0 r0 p0 hs rf h1 cI g n q a1 (by first | assumption | omega | exact ⟨by omega, by omega⟩) hk ha) gL_law_X6_rest 1 kf_X6_rest ⟨rfl, rfl⟩ ⟨Nat.le_of_ble_eq_true rfl, Nat.le_of_ble_eq_true rfl⟩ dL_law_231 rfl 0 rfl rfl rfl rfl ⟨Nat.le_of_ble_eq_true rfl, Nat.le_of_ble_eq_true rfl⟩ [0, 1, 2] rfl (by decide) [0] rfl (Nat.le_of_ble_eq_true rfl) ?_
  refine r_aload_n E 2 dL_law_234 rfl rfl ?_
  refine r_aload_n E 0 dL_law_235 rfl rfl ?_
  refine r_iload_n E 3 dL_law_236 rfl rfl ?_
  refine r_iconst E 1 rfl dL_law_237 ?_
  refine r_iadd E dL_law_238 ?_
  refine r_sld E hX hbl (Nat.not_le.mpr hbl) hL (i := (i_ + 1)) (by omega) a1 e1 dL_law_239 ?_
  refine r_vP E (st := [.int (iJ (-3))]) (c_X7_restNo l D m0 ms mh mn mp ml mm md mw mt mb mi mg cI kp sv pn rf7 tl s a1 (by first | assumption | omega | exact ⟨by omega, by omega⟩) (by rw [e_s0]; exact ⟨ha, by omega⟩)) gL_law_X7_rest 1 kf_X7_rest ⟨rfl, rfl⟩ ⟨Nat.le_of_ble_eq_true rfl, Nat.le_of_ble_eq_true rfl⟩ dL_law_240 rfl 29 rfl rfl rfl rfl ⟨Nat.le_of_ble_eq_true rfl, Nat.le_of_ble_eq_true rfl⟩ [29, 30] rfl (by decide) [0] rfl (Nat.le_of_ble_eq_true rfl) ?_
  refine r_top (b := -3) rfl ?_
  refine r_same E 885 dL_law_243 (by decide) ?_
  refine r_lv [0, 1, 2, 3] [(0, .ref b_), (1, .ref x0), (2, .ref m0), (3, .int (iJ (i_)))] rfl ?_
  exact kk hs rf n q g nt qt gt ns qs gs m xa ya kN kQ kG np gp S X L_ ow cA cU hd fw kp sv pn rf7 tl s h sn p le my hd7 ww T B X7 sg ⟨iR, iH, iS, iP, iF, iT⟩
set_option maxHeartbeats 4000000 in
set_option maxRecDepth 100000 in
theorem cL_1Add {p_ : Program} {l : Launch} {e_ : Env} {s_ : State} {m_ : MethodId} {ar_ : Array Value} {bw_ : List Frame} {mt_ : Method} {cd_ : Code} {D : va_G} {Q_ : State → Prop} {b_ : Nat} {i_ : Int} {x0 h0 t0 n0 i0 d0 r0 p0 h1 t1 n1 i1 d1 r1 r2 p1 p2 p3 p4 p5 p6 m0 ms mh mn mp ml mm md mw mt mb mi mg : Nat} {cI cJ_ cZ cP : ClassId} (E : EE p_ s_ m_ ar_ mt_ cd_ D vwCl [(cI, .int), (cJ_, .long), (cZ, .boolean), (cP, .object "LeanSticks$Piece")] 8 cL_law RL wsL_law) {Ln : Nat} {xs : Nat → Int32} (hX : va_X b_ Ln xs s_ s_.heap) (hbl : b_ < s_.heap.size) (hL : Ln ≤ 2560) (hi : 0 ≤ i_ ∧ i_ + 4 < (Ln : Int)) {a1 : Int} (e1 : XS xs (i_ + 1) = a1) (j1 : jb a1) {hs : Int} {rf : Int} {n : Int} {q : Int} {g : Int → Int} {nt : Int} {qt : Int} {gt : Int → Int} {ns : Int} {qs : Int} {gs : Int → Int} {m : Int} {xa : Nat → Nat} {ya : Nat → Nat} {kN : Nat → Int} {kQ : Nat → Int} {kG : Nat → Int → Int} {np : Int} {gp : Int → Int} {S : Int → Int} {X : Int → Int} {L_ : Int} {ow : Int → Int} {cA : Int → Int} {cU : Int → Int} {hd : Int → Int} {fw : Int → Int} {kp : Int} {sv : Int} {pn : Int} {rf7 : Int} {tl : Int} {s : Int → Int} {h : Int → Int} {sn : Int → Int} {p : Int → Int} {le : Int → Int} {my : Int → Int} {hd7 : Int → Int} {ww : Int → Int} {T : Int → Int} {B : Int → Int} {X7 : Int → Int} {sg : Int → Int} (hI : IV g n q s m kN kQ kG kp h hs ns qs gs sv sn np gp pn p rf rf7 nt) (ha : a1 = n ∧ n < 32) (kk : KK p_ l e_ s_ m_ ar_ bw_ mt_ cd_ D Q_ b_ i_ x0 h0 t0 n0 i0 d0 r0 p0 h1 t1 n1 i1 d1 r1 r2 p1 p2 p3 p4 p5 p6 m0 ms mh mn mp ml mm md mw mt mb mi mg cI cJ_ cZ cP) : GG p_ l e_ room_1 s_ m_ ar_ bw_ mt_ cd_ D vwCl (fun q => s_.heap.size ≤ q) (fun q => s_.heap.size ≤ q) s_.heap 8 42 1383 Q_ [(x0, .inr (5, [.ref h0, .ref t0, .ref n0, .ref i0, .ref d0, .ref r0, .ref p0, .int (iJ (hs)), .int (iJ (rf))])), (h0, .inr (2, [.ref h1, .int (iJ (n)), .int (iJ (q))])), (h1, cJ cI 32 (g)), (t0, .inr (2, [.ref t1, .int (iJ (nt)), .int (iJ (qt))])), (t1, cJ cI 32 (gt)), (n0, .inr (2, [.ref n1, .int (iJ (ns)), .int (iJ (qs))])), (n1, cJ cI 32 (gs)), (i0, .inr (0, [.ref i1, .int (iJ (m))])), (i1, cR cP 4 (hF xa)), ((xa 0), .inr (2, [.ref (ya 0), .int (iJ (kN 0)), .int (iJ (kQ 0))])), ((ya 0), cJ cI 32 (kG 0)), ((xa 1), .inr (2, [.ref (ya 1), .int (iJ (kN 1)), .int (iJ (kQ 1))])), ((ya 1), cJ cI 32 (kG 1)), ((xa 2), .inr (2, [.ref (ya 2), .int (iJ (kN 2)), .int (iJ (kQ 2))])), ((ya 2), cJ cI 32 (kG 2)), ((xa 3), .inr (2, [.ref (ya 3), .int (iJ (kN 3)), .int (iJ (kQ 3))])), ((ya 3), cJ cI 32 (kG 3)), (d0, .inr (1, [.ref d1, .int (iJ (np))])), (d1, cJ cI 60 (gp)), (r0, .inr (4, [.ref r1, .ref r2])), (r1, cJ cI 60 (S)), (r2, cJ cI 60 (X)), (p0, .inr (3, [.ref p1, .ref p2, .ref p3, .ref p4, .ref p5, .ref p6, .int (iJ (L_))])), (p1, cJ cI 32 (nrA)), (p2, cJ cI 32 (ow)), (p3, cJ cZ 32 (cA)), (p4, cJ cZ 32 (cU)), (p5, cJ cI 32 (hd)), (p6, cJ cI 132 (fw)), (m0, .inr (6, [.ref ms, .ref mh, .int (iJ (kp)), .ref mn, .int (iJ (sv)), .ref mp, .int (iJ (pn)), .int (iJ (rf7)), .ref ml, .ref mm, .ref md, .ref mw, .ref mt, .int (iJ (tl)), .ref mb, .ref mi, .ref mg])), (ms, cJ cI 34 (s)), (mh, cJ cI 136 (h)), (mn, cJ cI 34 (sn)), (mp, cJ cI 60 (p)), (ml, cJ cI 99 (le)), (mm, cL cJ_ 99 (my)), (md, cJ cI 32 (hd7)), (mw, cJ cI 32 (ww)), (mt, cJ cI 33 (T)), (mb, cJ cI 30 (B)), (mi, cJ cI 30 (X7)), (mg, cJ cI 4 (sg))] [(0, .ref b_), (1, .ref x0), (2, .ref m0), (3, .int (iJ i_))] 225 [] := by
  obtain ⟨iR, iH, iS, iP, iF, iT⟩ := hI
  have b_n := iR.1
  have b_q := iR.2.1
  have b_g := iR.hg
  have b_g3 := iR.hg3
  have b_s0 := iR.hs0
  have b_s1 := iR.hs1
  have b_sv := iR.hsv
  have b_m := iH.2.1
  have b_kN := iH.2.2.1
  have e_kp := iH.1
  have b_kp : 0 ≤ kp ∧ kp ≤ 4 := by rw [e_kp]; exact b_m
  have b_np := iP.2.1
  have e_pn := iP.1
  have b_pn : 0 ≤ pn ∧ pn ≤ 60 := by rw [e_pn]; exact b_np
  have b_pp : ∀ j : Int, 0 ≤ j → j < pn → 33 ≤ p j ∧ p j ≤ 126 := fun j t1 t2 => (iP.2.2 j t1 (by rw [← e_pn]; exact t2)).2
  have b_gp : ∀ j : Int, 0 ≤ j → j < np → 33 ≤ gp j ∧ gp j ≤ 126 := fun j t1 t2 => by rw [(iP.2.2 j t1 t2).1]; exact (iP.2.2 j t1 t2).2
  have b_ns := iS.2.2.1
  have e_sv := iS.1
  have e_s0 : s 0 = n := iR.2.2.1
  have e_s1 : s 1 = q := iR.2.2.2.1
  have hA : ∀ q : Nat, s_.heap.size ≤ q → (fun q : Nat => s_.heap.size ≤ q) q := fun _ t => t
  refine r_aload_n E 1 dL_law_225 rfl rfl ?_
  refine r_aload_n E 0 dL_law_226 rfl rfl ?_
  refine r_iload_n E 3 dL_law_227 rfl rfl ?_
  refine r_iconst E 1 rfl dL_law_228 ?_
  refine r_iadd E dL_law_229 ?_
  refine r_sld E hX hbl (Nat.not_le.mpr hbl) hL (i := (i_ + 1)) (by omega) a1 e1 dL_law_230 ?_
  refine r_vM E (st := []) (c_X6_restAdd l D x0 h0 t0 n0 i0 d0 r0 p0 hs rf h1 cI g n q i1 cP xa ya kN kQ kG m a1 (by first | assumption | omega | exact ⟨by omega, by omega⟩) (by first | assumption | omega | exact ⟨by omega, by omega⟩) (by first | assumption | omega | exact ⟨by omega, by omega⟩) ha) gL_law_X6_rest 1 kf_X6_rest ⟨rfl, rfl⟩ ⟨Nat.le_of_ble_eq_true rfl, Nat.le_of_ble_eq_true rfl⟩ dL_law_231 rfl 0 rfl rfl rfl rfl ⟨Nat.le_of_ble_eq_true rfl, Nat.le_of_ble_eq_true rfl⟩ [0, 1, 2, 7, 8, 9, 10, 11, 12, 13, 14, 15, 16] rfl (by decide) [0, 3] rfl (Nat.le_of_ble_eq_true rfl) [(t0, .inr (2, [.ref t1, .int (iJ (nt)), .int (iJ (qt))])), (t1, cJ cI 32 (gt)), (n0, .inr (2, [.ref n1, .int (iJ (ns)), .int (iJ (qs))])), (n1, cJ cI 32 (gs)), (d0, .inr (1, [.ref d1, .int (iJ (np))])), (d1, cJ cI 60 (gp)), (r0, .inr (4, [.ref r1, .ref r2])), (r1, cJ cI 60 (S)), (r2, cJ cI 60 (X)), (p0, .inr (3, [.ref p1, .ref p2, .ref p3, .ref p4, .ref p5, .ref p6, .int (iJ (L_))])), (p1, cJ cI 32 (nrA)), (p2, cJ cI 32 (ow)), (p3, cJ cZ 32 (cA)), (p4, cJ cZ 32 (cU)), (p5, cJ cI 32 (hd)), (p6, cJ cI 132 (fw)), (m0, .inr (6, [.ref ms, .ref mh, .int (iJ (kp)), .ref mn, .int (iJ (sv)), .ref mp, .int (iJ (pn)), .int (iJ (rf7)), .ref ml, .ref mm, .ref md, .ref mw, .ref mt, .int (iJ (tl)), .ref mb, .ref mi, .ref mg])), (ms, cJ cI 34 (s)), (mh, cJ cI 136 (h)), (mn, cJ cI 34 (sn)), (mp, cJ cI 60 (p)), (ml, cJ cI 99 (le)), (mm, cL cJ_ 99 (my)), (md, cJ cI 32 (hd7)), (mw, cJ cI 32 (ww)), (mt, cJ cI 33 (T)), (mb, cJ cI 30 (B)), (mi, cJ cI 30 (X7)), (mg, cJ cI 4 (sg))] [3, 4, 5, 6, 17, 18, 19, 20, 21, 22, 23, 24, 25, 26, 27, 28, 29, 30, 31, 32, 33, 34, 35, 36, 37, 38, 39, 40, 41] rfl (by decide) (by decide) hA [29, 30, 31, 0, 1, 2, 3, 32, 33, 34, 35, 36, 37, 38, 39, 40, 41, 4, 5, 6, 7, 8, 9, 10, 11, 12, 13, 14, 15, 16, 17, 18, 19, 20, 21, 22, 23, 24, 25, 26, 27, 28] (by decide) (fun u : (Nat → Nat) × (Nat → Nat) × (Nat → Int) × (Nat → Int) × (Nat → Int → Int) × Int => [(x0, .inr (5, [.ref h0, .ref t0, .ref n0, .ref i0, .ref d0, .ref r0, .ref p0, .int (iJ (hs)), .int (iJ (rf))])), (h0, .inr (2, [.ref h1, .int (iJ ((n + 1))), .int (iJ (q))])), (h1, cJ cI 32 (uJ g n 0)), (t0, .inr (2, [.ref t1, .int (iJ (nt)), .int (iJ (qt))])), (t1, cJ cI 32 (gt)), (n0, .inr (2, [.ref n1, .int (iJ (ns)), .int (iJ (qs))])), (n1, cJ cI 32 (gs)), (i0, .inr (0, [.ref i1, .int (iJ (u.2.2.2.2.2))])), (i1, cR cP 4 (hF u.1)), ((u.1 0), .inr (2, [.ref (u.2.1 0), .int (iJ (u.2.2.1 0)), .int (iJ (u.2.2.2.1 0))])), ((u.2.1 0), cJ cI 32 (u.2.2.2.2.1 0)), ((u.1 1), .inr (2, [.ref (u.2.1 1), .int (iJ (u.2.2.1 1)), .int (iJ (u.2.2.2.1 1))])), ((u.2.1 1), cJ cI 32 (u.2.2.2.2.1 1)), ((u.1 2), .inr (2, [.ref (u.2.1 2), .int (iJ (u.2.2.1 2)), .int (iJ (u.2.2.2.1 2))])), ((u.2.1 2), cJ cI 32 (u.2.2.2.2.1 2)), ((u.1 3), .inr (2, [.ref (u.2.1 3), .int (iJ (u.2.2.1 3)), .int (iJ (u.2.2.2.1 3))])), ((u.2.1 3), cJ cI 32 (u.2.2.2.2.1 3)), (d0, .inr (1, [.ref d1, .int (iJ (np))])), (d1, cJ cI 60 (gp)), (r0, .inr (4, [.ref r1, .ref r2])), (r1, cJ cI 60 (S)), (r2, cJ cI 60 (X)), (p0, .inr (3, [.ref p1, .ref p2, .ref p3, .ref p4, .ref p5, .ref p6, .int (iJ (L_))])), (p1, cJ cI 32 (nrA)), (p2, cJ cI 32 (ow)), (p3, cJ cZ 32 (cA)), (p4, cJ cZ 32 (cU)), (p5, cJ cI 32 (hd)), (p6, cJ cI 132 (fw)), (m0, .inr (6, [.ref ms, .ref mh, .int (iJ (kp)), .ref mn, .int (iJ (sv)), .ref mp, .int (iJ (pn)), .int (iJ (rf7)), .ref ml, .ref mm, .ref md, .ref mw, .ref mt, .int (iJ (tl)), .ref mb, .ref mi, .ref mg])), (ms, cJ cI 34 (s)), (mh, cJ cI 136 (h)), (mn, cJ cI 34 (sn)), (mp, cJ cI 60 (p)), (ml, cJ cI 99 (le)), (mm, cL cJ_ 99 (my)), (md, cJ cI 32 (hd7)), (mw, cJ cI 32 (ww)), (mt, cJ cI 33 (T)), (mb, cJ cI 30 (B)), (mi, cJ cI 30 (X7)), (mg, cJ cI 4 (sg))]) (fun _ => rfl) ?_
  rintro ⟨xa2_1, ya2_2, kN2_3, kQ2_4, kG2_5, m2_6⟩ hp_7
  refine r_cv (ws2 := [(x0, .inr (5, [.ref h0, .ref t0, .ref n0, .ref i0, .ref d0, .ref r0, .ref p0, .int (iJ (hs)), .int (iJ (rf))])), (h0, .inr (2, [.ref h1, .int (iJ ((n + 1))), .int (iJ (q))])), (h1, cJ cI 32 (uJ g n 0)), (t0, .inr (2, [.ref t1, .int (iJ (nt)), .int (iJ (qt))])), (t1, cJ cI 32 (gt)), (n0, .inr (2, [.ref n1, .int (iJ (ns)), .int (iJ (qs))])), (n1, cJ cI 32 (gs)), (i0, .inr (0, [.ref i1, .int (iJ (m2_6))])), (i1, cR cP 4 (hF xa2_1)), ((xa2_1 0), .inr (2, [.ref (ya2_2 0), .int (iJ (kN2_3 0)), .int (iJ (kQ2_4 0))])), ((ya2_2 0), cJ cI 32 (kG2_5 0)), ((xa2_1 1), .inr (2, [.ref (ya2_2 1), .int (iJ (kN2_3 1)), .int (iJ (kQ2_4 1))])), ((ya2_2 1), cJ cI 32 (kG2_5 1)), ((xa2_1 2), .inr (2, [.ref (ya2_2 2), .int (iJ (kN2_3 2)), .int (iJ (kQ2_4 2))])), ((ya2_2 2), cJ cI 32 (kG2_5 2)), ((xa2_1 3), .inr (2, [.ref (ya2_2 3), .int (iJ (kN2_3 3)), .int (iJ (kQ2_4 3))])), ((ya2_2 3), cJ cI 32 (kG2_5 3)), (d0, .inr (1, [.ref d1, .int (iJ (np))])), (d1, cJ cI 60 (gp)), (r0, .inr (4, [.ref r1, .ref r2])), (r1, cJ cI 60 (S)), (r2, cJ cI 60 (X)), (p0, .inr (3, [.ref p1, .ref p2, .ref p3, .ref p4, .ref p5, .ref p6, .int (iJ (L_))])), (p1, cJ cI 32 (nrA)), (p2, cJ cI 32 (ow)), (p3, cJ cZ 32 (cA)), (p4, cJ cZ 32 (cU)), (p5, cJ cI 32 (hd)), (p6, cJ cI 132 (fw)), (m0, .inr (6, [.ref ms, .ref mh, .int (iJ (kp)), .ref mn, .int (iJ (sv)), .ref mp, .int (iJ (pn)), .int (iJ (rf7)), .ref ml, .ref mm, .ref md, .ref mw, .ref mt, .int (iJ (tl)), .ref mb, .ref mi, .ref mg])), (ms, cJ cI 34 (s)), (mh, cJ cI 136 (h)), (mn, cJ cI 34 (sn)), (mp, cJ cI 60 (p)), (ml, cJ cI 99 (le)), (mm, cL cJ_ 99 (my)), (md, cJ cI 32 (hd7)), (mw, cJ cI 32 (ww)), (mt, cJ cI 33 (T)), (mb, cJ cI 30 (B)), (mi, cJ cI 30 (X7)), (mg, cJ cI 4 (sg))]) (st2 := [.int (iJ (n + 1))]) rfl rfl rfl ?_
  have hpu := hp_7
  try dsimp only at hpu
  refine r_aload_n E 2 dL_law_234 rfl rfl ?_
  refine r_aload_n E 0 dL_law_235 rfl rfl ?_
  refine r_iload_n E 3 dL_law_236 rfl rfl ?_
  refine r_iconst E 1 rfl dL_law_237 ?_
  refine r_iadd E dL_law_238 ?_
  refine r_sld E hX hbl (Nat.not_le.mpr hbl) hL (i := (i_ + 1)) (by omega) a1 e1 dL_law_239 ?_
  refine r_vM E (st := [.int (iJ (n + 1))]) (c_X7_restAdd l D m0 ms mh mn mp ml mm md mw mt mb mi mg cI kp sv pn rf7 tl s h a1 (by first | assumption | omega | exact ⟨by omega, by omega⟩) (by first | assumption | omega | exact ⟨by omega, by omega⟩) (by rw [e_s0]; exact ha)) gL_law_X7_rest 1 kf_X7_rest ⟨rfl, rfl⟩ ⟨Nat.le_of_ble_eq_true rfl, Nat.le_of_ble_eq_true rfl⟩ dL_law_240 rfl 29 rfl rfl rfl rfl ⟨Nat.le_of_ble_eq_true rfl, Nat.le_of_ble_eq_true rfl⟩ [29, 30, 31] rfl (by decide) [0] rfl (Nat.le_of_ble_eq_true rfl) [(x0, .inr (5, [.ref h0, .ref t0, .ref n0, .ref i0, .ref d0, .ref r0, .ref p0, .int (iJ (hs)), .int (iJ (rf))])), (h0, .inr (2, [.ref h1, .int (iJ ((n + 1))), .int (iJ (q))])), (h1, cJ cI 32 (uJ g n 0)), (t0, .inr (2, [.ref t1, .int (iJ (nt)), .int (iJ (qt))])), (t1, cJ cI 32 (gt)), (n0, .inr (2, [.ref n1, .int (iJ (ns)), .int (iJ (qs))])), (n1, cJ cI 32 (gs)), (i0, .inr (0, [.ref i1, .int (iJ (m2_6))])), (i1, cR cP 4 (hF xa2_1)), ((xa2_1 0), .inr (2, [.ref (ya2_2 0), .int (iJ (kN2_3 0)), .int (iJ (kQ2_4 0))])), ((ya2_2 0), cJ cI 32 (kG2_5 0)), ((xa2_1 1), .inr (2, [.ref (ya2_2 1), .int (iJ (kN2_3 1)), .int (iJ (kQ2_4 1))])), ((ya2_2 1), cJ cI 32 (kG2_5 1)), ((xa2_1 2), .inr (2, [.ref (ya2_2 2), .int (iJ (kN2_3 2)), .int (iJ (kQ2_4 2))])), ((ya2_2 2), cJ cI 32 (kG2_5 2)), ((xa2_1 3), .inr (2, [.ref (ya2_2 3), .int (iJ (kN2_3 3)), .int (iJ (kQ2_4 3))])), ((ya2_2 3), cJ cI 32 (kG2_5 3)), (d0, .inr (1, [.ref d1, .int (iJ (np))])), (d1, cJ cI 60 (gp)), (r0, .inr (4, [.ref r1, .ref r2])), (r1, cJ cI 60 (S)), (r2, cJ cI 60 (X)), (p0, .inr (3, [.ref p1, .ref p2, .ref p3, .ref p4, .ref p5, .ref p6, .int (iJ (L_))])), (p1, cJ cI 32 (nrA)), (p2, cJ cI 32 (ow)), (p3, cJ cZ 32 (cA)), (p4, cJ cZ 32 (cU)), (p5, cJ cI 32 (hd)), (p6, cJ cI 132 (fw)), (mn, cJ cI 34 (sn)), (mp, cJ cI 60 (p)), (ml, cJ cI 99 (le)), (mm, cL cJ_ 99 (my)), (md, cJ cI 32 (hd7)), (mw, cJ cI 32 (ww)), (mt, cJ cI 33 (T)), (mb, cJ cI 30 (B)), (mi, cJ cI 30 (X7)), (mg, cJ cI 4 (sg))] [0, 1, 2, 3, 4, 5, 6, 7, 8, 9, 10, 11, 12, 13, 14, 15, 16, 17, 18, 19, 20, 21, 22, 23, 24, 25, 26, 27, 28, 32, 33, 34, 35, 36, 37, 38, 39, 40, 41] rfl (by decide) (by decide) hA [0, 1, 2, 3, 4, 5, 6, 7, 8, 9, 10, 11, 12, 13, 14, 15, 16, 17, 18, 19, 20, 21, 22, 23, 24, 25, 26, 27, 28, 39, 40, 41, 29, 30, 31, 32, 33, 34, 35, 36, 37, 38] (by decide) (fun (_ : Unit) => [(x0, .inr (5, [.ref h0, .ref t0, .ref n0, .ref i0, .ref d0, .ref r0, .ref p0, .int (iJ (hs)), .int (iJ (rf))])), (h0, .inr (2, [.ref h1, .int (iJ ((n + 1))), .int (iJ (q))])), (h1, cJ cI 32 (uJ g n 0)), (t0, .inr (2, [.ref t1, .int (iJ (nt)), .int (iJ (qt))])), (t1, cJ cI 32 (gt)), (n0, .inr (2, [.ref n1, .int (iJ (ns)), .int (iJ (qs))])), (n1, cJ cI 32 (gs)), (i0, .inr (0, [.ref i1, .int (iJ (m2_6))])), (i1, cR cP 4 (hF xa2_1)), ((xa2_1 0), .inr (2, [.ref (ya2_2 0), .int (iJ (kN2_3 0)), .int (iJ (kQ2_4 0))])), ((ya2_2 0), cJ cI 32 (kG2_5 0)), ((xa2_1 1), .inr (2, [.ref (ya2_2 1), .int (iJ (kN2_3 1)), .int (iJ (kQ2_4 1))])), ((ya2_2 1), cJ cI 32 (kG2_5 1)), ((xa2_1 2), .inr (2, [.ref (ya2_2 2), .int (iJ (kN2_3 2)), .int (iJ (kQ2_4 2))])), ((ya2_2 2), cJ cI 32 (kG2_5 2)), ((xa2_1 3), .inr (2, [.ref (ya2_2 3), .int (iJ (kN2_3 3)), .int (iJ (kQ2_4 3))])), ((ya2_2 3), cJ cI 32 (kG2_5 3)), (d0, .inr (1, [.ref d1, .int (iJ (np))])), (d1, cJ cI 60 (gp)), (r0, .inr (4, [.ref r1, .ref r2])), (r1, cJ cI 60 (S)), (r2, cJ cI 60 (X)), (p0, .inr (3, [.ref p1, .ref p2, .ref p3, .ref p4, .ref p5, .ref p6, .int (iJ (L_))])), (p1, cJ cI 32 (nrA)), (p2, cJ cI 32 (ow)), (p3, cJ cZ 32 (cA)), (p4, cJ cZ 32 (cU)), (p5, cJ cI 32 (hd)), (p6, cJ cI 132 (fw)), (m0, .inr (6, [.ref ms, .ref mh, .int (iJ (rcK kp)), .ref mn, .int (iJ (sv)), .ref mp, .int (iJ (pn)), .int (iJ (rf7)), .ref ml, .ref mm, .ref md, .ref mw, .ref mt, .int (iJ (tl)), .ref mb, .ref mi, .ref mg])), (ms, cJ cI 34 (uJ (uJ s 0 (s 0 + 1)) (2 + a1) 0)), (mh, cJ cI 136 (rcH s h kp)), (mn, cJ cI 34 (sn)), (mp, cJ cI 60 (p)), (ml, cJ cI 99 (le)), (mm, cL cJ_ 99 (my)), (md, cJ cI 32 (hd7)), (mw, cJ cI 32 (ww)), (mt, cJ cI 33 (T)), (mb, cJ cI 30 (B)), (mi, cJ cI 30 (X7)), (mg, cJ cI 4 (sg))]) (fun _ => rfl) ?_
  rintro ⟨⟩ hp_8
  refine r_top (b := n + 1) (by rw [e_s0]) ?_
  refine r_same E 885 dL_law_243 (by decide) ?_
  refine r_lv [0, 1, 2, 3] [(0, .ref b_), (1, .ref x0), (2, .ref m0), (3, .int (iJ (i_)))] rfl ?_
  exact kk hs rf (n + 1) q (uJ g n 0) nt qt gt ns qs gs m2_6 xa2_1 ya2_2 kN2_3 kQ2_4 kG2_5 np gp S X L_ ow cA cU hd fw (rcK kp) sv pn rf7 tl (uJ (uJ s 0 (s 0 + 1)) (2 + a1) 0) (rcH s h kp) sn p le my hd7 ww T B X7 sg ⟨(by rw [ha.1]; exact iR.add vK_0 ha.2), (iH.push iR hpu), iS, iP, iF, iT⟩
set_option maxHeartbeats 4000000 in
set_option maxRecDepth 100000 in
theorem cL_1Ch {p_ : Program} {l : Launch} {e_ : Env} {s_ : State} {m_ : MethodId} {ar_ : Array Value} {bw_ : List Frame} {mt_ : Method} {cd_ : Code} {D : va_G} {Q_ : State → Prop} {b_ : Nat} {i_ : Int} {x0 h0 t0 n0 i0 d0 r0 p0 h1 t1 n1 i1 d1 r1 r2 p1 p2 p3 p4 p5 p6 m0 ms mh mn mp ml mm md mw mt mb mi mg : Nat} {cI cJ_ cZ cP : ClassId} (E : EE p_ s_ m_ ar_ mt_ cd_ D vwCl [(cI, .int), (cJ_, .long), (cZ, .boolean), (cP, .object "LeanSticks$Piece")] 8 cL_law RL wsL_law) {Ln : Nat} {xs : Nat → Int32} (hX : va_X b_ Ln xs s_ s_.heap) (hbl : b_ < s_.heap.size) (hL : Ln ≤ 2560) (hi : 0 ≤ i_ ∧ i_ + 4 < (Ln : Int)) {a1 : Int} (e1 : XS xs (i_ + 1) = a1) (j1 : jb a1) {hs : Int} {rf : Int} {n : Int} {q : Int} {g : Int → Int} {nt : Int} {qt : Int} {gt : Int → Int} {ns : Int} {qs : Int} {gs : Int → Int} {m : Int} {xa : Nat → Nat} {ya : Nat → Nat} {kN : Nat → Int} {kQ : Nat → Int} {kG : Nat → Int → Int} {np : Int} {gp : Int → Int} {S : Int → Int} {X : Int → Int} {L_ : Int} {ow : Int → Int} {cA : Int → Int} {cU : Int → Int} {hd : Int → Int} {fw : Int → Int} {kp : Int} {sv : Int} {pn : Int} {rf7 : Int} {tl : Int} {s : Int → Int} {h : Int → Int} {sn : Int → Int} {p : Int → Int} {le : Int → Int} {my : Int → Int} {hd7 : Int → Int} {ww : Int → Int} {T : Int → Int} {B : Int → Int} {X7 : Int → Int} {sg : Int → Int} (hI : IV g n q s m kN kQ kG kp h hs ns qs gs sv sn np gp pn p rf rf7 nt) (ha : 0 ≤ a1 ∧ a1 < n) (kk : KK p_ l e_ s_ m_ ar_ bw_ mt_ cd_ D Q_ b_ i_ x0 h0 t0 n0 i0 d0 r0 p0 h1 t1 n1 i1 d1 r1 r2 p1 p2 p3 p4 p5 p6 m0 ms mh mn mp ml mm md mw mt mb mi mg cI cJ_ cZ cP) : GG p_ l e_ room_1 s_ m_ ar_ bw_ mt_ cd_ D vwCl (fun q => s_.heap.size ≤ q) (fun q => s_.heap.size ≤ q) s_.heap 8 42 1383 Q_ [(x0, .inr (5, [.ref h0, .ref t0, .ref n0, .ref i0, .ref d0, .ref r0, .ref p0, .int (iJ (hs)), .int (iJ (rf))])), (h0, .inr (2, [.ref h1, .int (iJ (n)), .int (iJ (q))])), (h1, cJ cI 32 (g)), (t0, .inr (2, [.ref t1, .int (iJ (nt)), .int (iJ (qt))])), (t1, cJ cI 32 (gt)), (n0, .inr (2, [.ref n1, .int (iJ (ns)), .int (iJ (qs))])), (n1, cJ cI 32 (gs)), (i0, .inr (0, [.ref i1, .int (iJ (m))])), (i1, cR cP 4 (hF xa)), ((xa 0), .inr (2, [.ref (ya 0), .int (iJ (kN 0)), .int (iJ (kQ 0))])), ((ya 0), cJ cI 32 (kG 0)), ((xa 1), .inr (2, [.ref (ya 1), .int (iJ (kN 1)), .int (iJ (kQ 1))])), ((ya 1), cJ cI 32 (kG 1)), ((xa 2), .inr (2, [.ref (ya 2), .int (iJ (kN 2)), .int (iJ (kQ 2))])), ((ya 2), cJ cI 32 (kG 2)), ((xa 3), .inr (2, [.ref (ya 3), .int (iJ (kN 3)), .int (iJ (kQ 3))])), ((ya 3), cJ cI 32 (kG 3)), (d0, .inr (1, [.ref d1, .int (iJ (np))])), (d1, cJ cI 60 (gp)), (r0, .inr (4, [.ref r1, .ref r2])), (r1, cJ cI 60 (S)), (r2, cJ cI 60 (X)), (p0, .inr (3, [.ref p1, .ref p2, .ref p3, .ref p4, .ref p5, .ref p6, .int (iJ (L_))])), (p1, cJ cI 32 (nrA)), (p2, cJ cI 32 (ow)), (p3, cJ cZ 32 (cA)), (p4, cJ cZ 32 (cU)), (p5, cJ cI 32 (hd)), (p6, cJ cI 132 (fw)), (m0, .inr (6, [.ref ms, .ref mh, .int (iJ (kp)), .ref mn, .int (iJ (sv)), .ref mp, .int (iJ (pn)), .int (iJ (rf7)), .ref ml, .ref mm, .ref md, .ref mw, .ref mt, .int (iJ (tl)), .ref mb, .ref mi, .ref mg])), (ms, cJ cI 34 (s)), (mh, cJ cI 136 (h)), (mn, cJ cI 34 (sn)), (mp, cJ cI 60 (p)), (ml, cJ cI 99 (le)), (mm, cL cJ_ 99 (my)), (md, cJ cI 32 (hd7)), (mw, cJ cI 32 (ww)), (mt, cJ cI 33 (T)), (mb, cJ cI 30 (B)), (mi, cJ cI 30 (X7)), (mg, cJ cI 4 (sg))] [(0, .ref b_), (1, .ref x0), (2, .ref m0), (3, .int (iJ i_))] 225 [] := by
  obtain ⟨iR, iH, iS, iP, iF, iT⟩ := hI
  have b_n := iR.1
  have b_q := iR.2.1
  have b_g := iR.hg
  have b_g3 := iR.hg3
  have b_s0 := iR.hs0
  have b_s1 := iR.hs1
  have b_sv := iR.hsv
  have b_m := iH.2.1
  have b_kN := iH.2.2.1
  have e_kp := iH.1
  have b_kp : 0 ≤ kp ∧ kp ≤ 4 := by rw [e_kp]; exact b_m
  have b_np := iP.2.1
  have e_pn := iP.1
  have b_pn : 0 ≤ pn ∧ pn ≤ 60 := by rw [e_pn]; exact b_np
  have b_pp : ∀ j : Int, 0 ≤ j → j < pn → 33 ≤ p j ∧ p j ≤ 126 := fun j t1 t2 => (iP.2.2 j t1 (by rw [← e_pn]; exact t2)).2
  have b_gp : ∀ j : Int, 0 ≤ j → j < np → 33 ≤ gp j ∧ gp j ≤ 126 := fun j t1 t2 => by rw [(iP.2.2 j t1 t2).1]; exact (iP.2.2 j t1 t2).2
  have b_ns := iS.2.2.1
  have e_sv := iS.1
  have e_s0 : s 0 = n := iR.2.2.1
  have e_s1 : s 1 = q := iR.2.2.2.1
  have hA : ∀ q : Nat, s_.heap.size ≤ q → (fun q : Nat => s_.heap.size ≤ q) q := fun _ t => t
  refine r_aload_n E 1 dL_law_225 rfl rfl ?_
  refine r_aload_n E 0 dL_law_226 rfl rfl ?_
  refine r_iload_n E 3 dL_law_227 rfl rfl ?_
  refine r_iconst E 1 rfl dL_law_228 ?_
  refine r_iadd E dL_law_229 ?_
  refine r_sld E hX hbl (Nat.not_le.mpr hbl) hL (i := (i_ + 1)) (by omega) a1 e1 dL_law_230 ?_
  refine r_vM E (st := []) (c_X6_restCh l D x0 h0 t0 n0 i0 d0 r0 p0 hs rf h1 cI g n q i1 cP xa ya kN kQ kG m a1 (by first | assumption | omega | exact ⟨by omega, by omega⟩) (by first | assumption | omega | exact ⟨by omega, by omega⟩) (by first | assumption | omega | exact ⟨by omega, by omega⟩) ha) gL_law_X6_rest 1 kf_X6_rest ⟨rfl, rfl⟩ ⟨Nat.le_of_ble_eq_true rfl, Nat.le_of_ble_eq_true rfl⟩ dL_law_231 rfl 0 rfl rfl rfl rfl ⟨Nat.le_of_ble_eq_true rfl, Nat.le_of_ble_eq_true rfl⟩ [0, 1, 2, 7, 8, 9, 10, 11, 12, 13, 14, 15, 16] rfl (by decide) [0, 3] rfl (Nat.le_of_ble_eq_true rfl) [(t0, .inr (2, [.ref t1, .int (iJ (nt)), .int (iJ (qt))])), (t1, cJ cI 32 (gt)), (n0, .inr (2, [.ref n1, .int (iJ (ns)), .int (iJ (qs))])), (n1, cJ cI 32 (gs)), (d0, .inr (1, [.ref d1, .int (iJ (np))])), (d1, cJ cI 60 (gp)), (r0, .inr (4, [.ref r1, .ref r2])), (r1, cJ cI 60 (S)), (r2, cJ cI 60 (X)), (p0, .inr (3, [.ref p1, .ref p2, .ref p3, .ref p4, .ref p5, .ref p6, .int (iJ (L_))])), (p1, cJ cI 32 (nrA)), (p2, cJ cI 32 (ow)), (p3, cJ cZ 32 (cA)), (p4, cJ cZ 32 (cU)), (p5, cJ cI 32 (hd)), (p6, cJ cI 132 (fw)), (m0, .inr (6, [.ref ms, .ref mh, .int (iJ (kp)), .ref mn, .int (iJ (sv)), .ref mp, .int (iJ (pn)), .int (iJ (rf7)), .ref ml, .ref mm, .ref md, .ref mw, .ref mt, .int (iJ (tl)), .ref mb, .ref mi, .ref mg])), (ms, cJ cI 34 (s)), (mh, cJ cI 136 (h)), (mn, cJ cI 34 (sn)), (mp, cJ cI 60 (p)), (ml, cJ cI 99 (le)), (mm, cL cJ_ 99 (my)), (md, cJ cI 32 (hd7)), (mw, cJ cI 32 (ww)), (mt, cJ cI 33 (T)), (mb, cJ cI 30 (B)), (mi, cJ cI 30 (X7)), (mg, cJ cI 4 (sg))] [3, 4, 5, 6, 17, 18, 19, 20, 21, 22, 23, 24, 25, 26, 27, 28, 29, 30, 31, 32, 33, 34, 35, 36, 37, 38, 39, 40, 41] rfl (by decide) (by decide) hA [29, 30, 31, 0, 1, 2, 3, 32, 33, 34, 35, 36, 37, 38, 39, 40, 41, 4, 5, 6, 7, 8, 9, 10, 11, 12, 13, 14, 15, 16, 17, 18, 19, 20, 21, 22, 23, 24, 25, 26, 27, 28] (by decide) (fun u : (Nat → Nat) × (Nat → Nat) × (Nat → Int) × (Nat → Int) × (Nat → Int → Int) × Int => [(x0, .inr (5, [.ref h0, .ref t0, .ref n0, .ref i0, .ref d0, .ref r0, .ref p0, .int (iJ (hs)), .int (iJ (rf))])), (h0, .inr (2, [.ref h1, .int (iJ (n)), .int (iJ (q))])), (h1, cJ cI 32 (uJ g a1 0)), (t0, .inr (2, [.ref t1, .int (iJ (nt)), .int (iJ (qt))])), (t1, cJ cI 32 (gt)), (n0, .inr (2, [.ref n1, .int (iJ (ns)), .int (iJ (qs))])), (n1, cJ cI 32 (gs)), (i0, .inr (0, [.ref i1, .int (iJ (u.2.2.2.2.2))])), (i1, cR cP 4 (hF u.1)), ((u.1 0), .inr (2, [.ref (u.2.1 0), .int (iJ (u.2.2.1 0)), .int (iJ (u.2.2.2.1 0))])), ((u.2.1 0), cJ cI 32 (u.2.2.2.2.1 0)), ((u.1 1), .inr (2, [.ref (u.2.1 1), .int (iJ (u.2.2.1 1)), .int (iJ (u.2.2.2.1 1))])), ((u.2.1 1), cJ cI 32 (u.2.2.2.2.1 1)), ((u.1 2), .inr (2, [.ref (u.2.1 2), .int (iJ (u.2.2.1 2)), .int (iJ (u.2.2.2.1 2))])), ((u.2.1 2), cJ cI 32 (u.2.2.2.2.1 2)), ((u.1 3), .inr (2, [.ref (u.2.1 3), .int (iJ (u.2.2.1 3)), .int (iJ (u.2.2.2.1 3))])), ((u.2.1 3), cJ cI 32 (u.2.2.2.2.1 3)), (d0, .inr (1, [.ref d1, .int (iJ (np))])), (d1, cJ cI 60 (gp)), (r0, .inr (4, [.ref r1, .ref r2])), (r1, cJ cI 60 (S)), (r2, cJ cI 60 (X)), (p0, .inr (3, [.ref p1, .ref p2, .ref p3, .ref p4, .ref p5, .ref p6, .int (iJ (L_))])), (p1, cJ cI 32 (nrA)), (p2, cJ cI 32 (ow)), (p3, cJ cZ 32 (cA)), (p4, cJ cZ 32 (cU)), (p5, cJ cI 32 (hd)), (p6, cJ cI 132 (fw)), (m0, .inr (6, [.ref ms, .ref mh, .int (iJ (kp)), .ref mn, .int (iJ (sv)), .ref mp, .int (iJ (pn)), .int (iJ (rf7)), .ref ml, .ref mm, .ref md, .ref mw, .ref mt, .int (iJ (tl)), .ref mb, .ref mi, .ref mg])), (ms, cJ cI 34 (s)), (mh, cJ cI 136 (h)), (mn, cJ cI 34 (sn)), (mp, cJ cI 60 (p)), (ml, cJ cI 99 (le)), (mm, cL cJ_ 99 (my)), (md, cJ cI 32 (hd7)), (mw, cJ cI 32 (ww)), (mt, cJ cI 33 (T)), (mb, cJ cI 30 (B)), (mi, cJ cI 30 (X7)), (mg, cJ cI 4 (sg))]) (fun _ => rfl) ?_
  rintro ⟨xa2_1, ya2_2, kN2_3, kQ2_4, kG2_5, m2_6⟩ hp_7
  refine r_cv (ws2 := [(x0, .inr (5, [.ref h0, .ref t0, .ref n0, .ref i0, .ref d0, .ref r0, .ref p0, .int (iJ (hs)), .int (iJ (rf))])), (h0, .inr (2, [.ref h1, .int (iJ (n)), .int (iJ (q))])), (h1, cJ cI 32 (uJ g a1 0)), (t0, .inr (2, [.ref t1, .int (iJ (nt)), .int (iJ (qt))])), (t1, cJ cI 32 (gt)), (n0, .inr (2, [.ref n1, .int (iJ (ns)), .int (iJ (qs))])), (n1, cJ cI 32 (gs)), (i0, .inr (0, [.ref i1, .int (iJ (m2_6))])), (i1, cR cP 4 (hF xa2_1)), ((xa2_1 0), .inr (2, [.ref (ya2_2 0), .int (iJ (kN2_3 0)), .int (iJ (kQ2_4 0))])), ((ya2_2 0), cJ cI 32 (kG2_5 0)), ((xa2_1 1), .inr (2, [.ref (ya2_2 1), .int (iJ (kN2_3 1)), .int (iJ (kQ2_4 1))])), ((ya2_2 1), cJ cI 32 (kG2_5 1)), ((xa2_1 2), .inr (2, [.ref (ya2_2 2), .int (iJ (kN2_3 2)), .int (iJ (kQ2_4 2))])), ((ya2_2 2), cJ cI 32 (kG2_5 2)), ((xa2_1 3), .inr (2, [.ref (ya2_2 3), .int (iJ (kN2_3 3)), .int (iJ (kQ2_4 3))])), ((ya2_2 3), cJ cI 32 (kG2_5 3)), (d0, .inr (1, [.ref d1, .int (iJ (np))])), (d1, cJ cI 60 (gp)), (r0, .inr (4, [.ref r1, .ref r2])), (r1, cJ cI 60 (S)), (r2, cJ cI 60 (X)), (p0, .inr (3, [.ref p1, .ref p2, .ref p3, .ref p4, .ref p5, .ref p6, .int (iJ (L_))])), (p1, cJ cI 32 (nrA)), (p2, cJ cI 32 (ow)), (p3, cJ cZ 32 (cA)), (p4, cJ cZ 32 (cU)), (p5, cJ cI 32 (hd)), (p6, cJ cI 132 (fw)), (m0, .inr (6, [.ref ms, .ref mh, .int (iJ (kp)), .ref mn, .int (iJ (sv)), .ref mp, .int (iJ (pn)), .int (iJ (rf7)), .ref ml, .ref mm, .ref md, .ref mw, .ref mt, .int (iJ (tl)), .ref mb, .ref mi, .ref mg])), (ms, cJ cI 34 (s)), (mh, cJ cI 136 (h)), (mn, cJ cI 34 (sn)), (mp, cJ cI 60 (p)), (ml, cJ cI 99 (le)), (mm, cL cJ_ 99 (my)), (md, cJ cI 32 (hd7)), (mw, cJ cI 32 (ww)), (mt, cJ cI 33 (T)), (mb, cJ cI 30 (B)), (mi, cJ cI 30 (X7)), (mg, cJ cI 4 (sg))]) (st2 := [.int (iJ (n))]) rfl rfl rfl ?_
  have hpu := hp_7
  try dsimp only at hpu
  refine r_aload_n E 2 dL_law_234 rfl rfl ?_
  refine r_aload_n E 0 dL_law_235 rfl rfl ?_
  refine r_iload_n E 3 dL_law_236 rfl rfl ?_
  refine r_iconst E 1 rfl dL_law_237 ?_
  refine r_iadd E dL_law_238 ?_
  refine r_sld E hX hbl (Nat.not_le.mpr hbl) hL (i := (i_ + 1)) (by omega) a1 e1 dL_law_239 ?_
  refine r_vM E (st := [.int (iJ (n))]) (c_X7_restCh l D m0 ms mh mn mp ml mm md mw mt mb mi mg cI kp sv pn rf7 tl s h a1 (by first | assumption | omega | exact ⟨by omega, by omega⟩) (by first | assumption | omega | exact ⟨by omega, by omega⟩) (by rw [e_s0]; exact ha)) gL_law_X7_rest 1 kf_X7_rest ⟨rfl, rfl⟩ ⟨Nat.le_of_ble_eq_true rfl, Nat.le_of_ble_eq_true rfl⟩ dL_law_240 rfl 29 rfl rfl rfl rfl ⟨Nat.le_of_ble_eq_true rfl, Nat.le_of_ble_eq_true rfl⟩ [29, 30, 31] rfl (by decide) [0] rfl (Nat.le_of_ble_eq_true rfl) [(x0, .inr (5, [.ref h0, .ref t0, .ref n0, .ref i0, .ref d0, .ref r0, .ref p0, .int (iJ (hs)), .int (iJ (rf))])), (h0, .inr (2, [.ref h1, .int (iJ (n)), .int (iJ (q))])), (h1, cJ cI 32 (uJ g a1 0)), (t0, .inr (2, [.ref t1, .int (iJ (nt)), .int (iJ (qt))])), (t1, cJ cI 32 (gt)), (n0, .inr (2, [.ref n1, .int (iJ (ns)), .int (iJ (qs))])), (n1, cJ cI 32 (gs)), (i0, .inr (0, [.ref i1, .int (iJ (m2_6))])), (i1, cR cP 4 (hF xa2_1)), ((xa2_1 0), .inr (2, [.ref (ya2_2 0), .int (iJ (kN2_3 0)), .int (iJ (kQ2_4 0))])), ((ya2_2 0), cJ cI 32 (kG2_5 0)), ((xa2_1 1), .inr (2, [.ref (ya2_2 1), .int (iJ (kN2_3 1)), .int (iJ (kQ2_4 1))])), ((ya2_2 1), cJ cI 32 (kG2_5 1)), ((xa2_1 2), .inr (2, [.ref (ya2_2 2), .int (iJ (kN2_3 2)), .int (iJ (kQ2_4 2))])), ((ya2_2 2), cJ cI 32 (kG2_5 2)), ((xa2_1 3), .inr (2, [.ref (ya2_2 3), .int (iJ (kN2_3 3)), .int (iJ (kQ2_4 3))])), ((ya2_2 3), cJ cI 32 (kG2_5 3)), (d0, .inr (1, [.ref d1, .int (iJ (np))])), (d1, cJ cI 60 (gp)), (r0, .inr (4, [.ref r1, .ref r2])), (r1, cJ cI 60 (S)), (r2, cJ cI 60 (X)), (p0, .inr (3, [.ref p1, .ref p2, .ref p3, .ref p4, .ref p5, .ref p6, .int (iJ (L_))])), (p1, cJ cI 32 (nrA)), (p2, cJ cI 32 (ow)), (p3, cJ cZ 32 (cA)), (p4, cJ cZ 32 (cU)), (p5, cJ cI 32 (hd)), (p6, cJ cI 132 (fw)), (mn, cJ cI 34 (sn)), (mp, cJ cI 60 (p)), (ml, cJ cI 99 (le)), (mm, cL cJ_ 99 (my)), (md, cJ cI 32 (hd7)), (mw, cJ cI 32 (ww)), (mt, cJ cI 33 (T)), (mb, cJ cI 30 (B)), (mi, cJ cI 30 (X7)), (mg, cJ cI 4 (sg))] [0, 1, 2, 3, 4, 5, 6, 7, 8, 9, 10, 11, 12, 13, 14, 15, 16, 17, 18, 19, 20, 21, 22, 23, 24, 25, 26, 27, 28, 32, 33, 34, 35, 36, 37, 38, 39, 40, 41] rfl (by decide) (by decide) hA [0, 1, 2, 3, 4, 5, 6, 7, 8, 9, 10, 11, 12, 13, 14, 15, 16, 17, 18, 19, 20, 21, 22, 23, 24, 25, 26, 27, 28, 39, 40, 41, 29, 30, 31, 32, 33, 34, 35, 36, 37, 38] (by decide) (fun (_ : Unit) => [(x0, .inr (5, [.ref h0, .ref t0, .ref n0, .ref i0, .ref d0, .ref r0, .ref p0, .int (iJ (hs)), .int (iJ (rf))])), (h0, .inr (2, [.ref h1, .int (iJ (n)), .int (iJ (q))])), (h1, cJ cI 32 (uJ g a1 0)), (t0, .inr (2, [.ref t1, .int (iJ (nt)), .int (iJ (qt))])), (t1, cJ cI 32 (gt)), (n0, .inr (2, [.ref n1, .int (iJ (ns)), .int (iJ (qs))])), (n1, cJ cI 32 (gs)), (i0, .inr (0, [.ref i1, .int (iJ (m2_6))])), (i1, cR cP 4 (hF xa2_1)), ((xa2_1 0), .inr (2, [.ref (ya2_2 0), .int (iJ (kN2_3 0)), .int (iJ (kQ2_4 0))])), ((ya2_2 0), cJ cI 32 (kG2_5 0)), ((xa2_1 1), .inr (2, [.ref (ya2_2 1), .int (iJ (kN2_3 1)), .int (iJ (kQ2_4 1))])), ((ya2_2 1), cJ cI 32 (kG2_5 1)), ((xa2_1 2), .inr (2, [.ref (ya2_2 2), .int (iJ (kN2_3 2)), .int (iJ (kQ2_4 2))])), ((ya2_2 2), cJ cI 32 (kG2_5 2)), ((xa2_1 3), .inr (2, [.ref (ya2_2 3), .int (iJ (kN2_3 3)), .int (iJ (kQ2_4 3))])), ((ya2_2 3), cJ cI 32 (kG2_5 3)), (d0, .inr (1, [.ref d1, .int (iJ (np))])), (d1, cJ cI 60 (gp)), (r0, .inr (4, [.ref r1, .ref r2])), (r1, cJ cI 60 (S)), (r2, cJ cI 60 (X)), (p0, .inr (3, [.ref p1, .ref p2, .ref p3, .ref p4, .ref p5, .ref p6, .int (iJ (L_))])), (p1, cJ cI 32 (nrA)), (p2, cJ cI 32 (ow)), (p3, cJ cZ 32 (cA)), (p4, cJ cZ 32 (cU)), (p5, cJ cI 32 (hd)), (p6, cJ cI 132 (fw)), (m0, .inr (6, [.ref ms, .ref mh, .int (iJ (rcK kp)), .ref mn, .int (iJ (sv)), .ref mp, .int (iJ (pn)), .int (iJ (rf7)), .ref ml, .ref mm, .ref md, .ref mw, .ref mt, .int (iJ (tl)), .ref mb, .ref mi, .ref mg])), (ms, cJ cI 34 (uJ (uJ s 0 (s 0 + 0)) (2 + a1) 0)), (mh, cJ cI 136 (rcH s h kp)), (mn, cJ cI 34 (sn)), (mp, cJ cI 60 (p)), (ml, cJ cI 99 (le)), (mm, cL cJ_ 99 (my)), (md, cJ cI 32 (hd7)), (mw, cJ cI 32 (ww)), (mt, cJ cI 33 (T)), (mb, cJ cI 30 (B)), (mi, cJ cI 30 (X7)), (mg, cJ cI 4 (sg))]) (fun _ => rfl) ?_
  rintro ⟨⟩ hp_8
  refine r_top (b := n) e_s0 ?_
  refine r_same E 885 dL_law_243 (by decide) ?_
  refine r_lv [0, 1, 2, 3] [(0, .ref b_), (1, .ref x0), (2, .ref m0), (3, .int (iJ (i_)))] rfl ?_
  exact kk hs rf n q (uJ g a1 0) nt qt gt ns qs gs m2_6 xa2_1 ya2_2 kN2_3 kQ2_4 kG2_5 np gp S X L_ ow cA cU hd fw (rcK kp) sv pn rf7 tl (uJ (uJ s 0 (s 0 + 0)) (2 + a1) 0) (rcH s h kp) sn p le my hd7 ww T B X7 sg ⟨(iR.ch vK_0 ha), (iH.push iR hpu), iS, iP, iF, iT⟩
set_option maxHeartbeats 4000000 in
set_option maxRecDepth 100000 in
theorem cL_2Bad {p_ : Program} {l : Launch} {e_ : Env} {s_ : State} {m_ : MethodId} {ar_ : Array Value} {bw_ : List Frame} {mt_ : Method} {cd_ : Code} {D : va_G} {Q_ : State → Prop} {b_ : Nat} {i_ : Int} {x0 h0 t0 n0 i0 d0 r0 p0 h1 t1 n1 i1 d1 r1 r2 p1 p2 p3 p4 p5 p6 m0 ms mh mn mp ml mm md mw mt mb mi mg : Nat} {cI cJ_ cZ cP : ClassId} (E : EE p_ s_ m_ ar_ mt_ cd_ D vwCl [(cI, .int), (cJ_, .long), (cZ, .boolean), (cP, .object "LeanSticks$Piece")] 8 cL_law RL wsL_law) {Ln : Nat} {xs : Nat → Int32} (hX : va_X b_ Ln xs s_ s_.heap) (hbl : b_ < s_.heap.size) (hL : Ln ≤ 2560) (hi : 0 ≤ i_ ∧ i_ + 4 < (Ln : Int)) {a1 : Int} (e1 : XS xs (i_ + 1) = a1) (j1 : jb a1) {a2 : Int} (e2 : XS xs (i_ + 2) = a2) (j2 : jb a2) {hs : Int} {rf : Int} {n : Int} {q : Int} {g : Int → Int} {nt : Int} {qt : Int} {gt : Int → Int} {ns : Int} {qs : Int} {gs : Int → Int} {m : Int} {xa : Nat → Nat} {ya : Nat → Nat} {kN : Nat → Int} {kQ : Nat → Int} {kG : Nat → Int → Int} {np : Int} {gp : Int → Int} {S : Int → Int} {X : Int → Int} {L_ : Int} {ow : Int → Int} {cA : Int → Int} {cU : Int → Int} {hd : Int → Int} {fw : Int → Int} {kp : Int} {sv : Int} {pn : Int} {rf7 : Int} {tl : Int} {s : Int → Int} {h : Int → Int} {sn : Int → Int} {p : Int → Int} {le : Int → Int} {my : Int → Int} {hd7 : Int → Int} {ww : Int → Int} {T : Int → Int} {B : Int → Int} {X7 : Int → Int} {sg : Int → Int} (hI : IV g n q s m kN kQ kG kp h hs ns qs gs sv sn np gp pn p rf rf7 nt) (hk : ¬ ((0 ≤ a1 ∧ a1 ≤ n) ∧ (0 ≤ a2 ∧ a2 < n))) (kk : KK p_ l e_ s_ m_ ar_ bw_ mt_ cd_ D Q_ b_ i_ x0 h0 t0 n0 i0 d0 r0 p0 h1 t1 n1 i1 d1 r1 r2 p1 p2 p3 p4 p5 p6 m0 ms mh mn mp ml mm md mw mt mb mi mg cI cJ_ cZ cP) : GG p_ l e_ room_1 s_ m_ ar_ bw_ mt_ cd_ D vwCl (fun q => s_.heap.size ≤ q) (fun q => s_.heap.size ≤ q) s_.heap 8 42 1383 Q_ [(x0, .inr (5, [.ref h0, .ref t0, .ref n0, .ref i0, .ref d0, .ref r0, .ref p0, .int (iJ (hs)), .int (iJ (rf))])), (h0, .inr (2, [.ref h1, .int (iJ (n)), .int (iJ (q))])), (h1, cJ cI 32 (g)), (t0, .inr (2, [.ref t1, .int (iJ (nt)), .int (iJ (qt))])), (t1, cJ cI 32 (gt)), (n0, .inr (2, [.ref n1, .int (iJ (ns)), .int (iJ (qs))])), (n1, cJ cI 32 (gs)), (i0, .inr (0, [.ref i1, .int (iJ (m))])), (i1, cR cP 4 (hF xa)), ((xa 0), .inr (2, [.ref (ya 0), .int (iJ (kN 0)), .int (iJ (kQ 0))])), ((ya 0), cJ cI 32 (kG 0)), ((xa 1), .inr (2, [.ref (ya 1), .int (iJ (kN 1)), .int (iJ (kQ 1))])), ((ya 1), cJ cI 32 (kG 1)), ((xa 2), .inr (2, [.ref (ya 2), .int (iJ (kN 2)), .int (iJ (kQ 2))])), ((ya 2), cJ cI 32 (kG 2)), ((xa 3), .inr (2, [.ref (ya 3), .int (iJ (kN 3)), .int (iJ (kQ 3))])), ((ya 3), cJ cI 32 (kG 3)), (d0, .inr (1, [.ref d1, .int (iJ (np))])), (d1, cJ cI 60 (gp)), (r0, .inr (4, [.ref r1, .ref r2])), (r1, cJ cI 60 (S)), (r2, cJ cI 60 (X)), (p0, .inr (3, [.ref p1, .ref p2, .ref p3, .ref p4, .ref p5, .ref p6, .int (iJ (L_))])), (p1, cJ cI 32 (nrA)), (p2, cJ cI 32 (ow)), (p3, cJ cZ 32 (cA)), (p4, cJ cZ 32 (cU)), (p5, cJ cI 32 (hd)), (p6, cJ cI 132 (fw)), (m0, .inr (6, [.ref ms, .ref mh, .int (iJ (kp)), .ref mn, .int (iJ (sv)), .ref mp, .int (iJ (pn)), .int (iJ (rf7)), .ref ml, .ref mm, .ref md, .ref mw, .ref mt, .int (iJ (tl)), .ref mb, .ref mi, .ref mg])), (ms, cJ cI 34 (s)), (mh, cJ cI 136 (h)), (mn, cJ cI 34 (sn)), (mp, cJ cI 60 (p)), (ml, cJ cI 99 (le)), (mm, cL cJ_ 99 (my)), (md, cJ cI 32 (hd7)), (mw, cJ cI 32 (ww)), (mt, cJ cI 33 (T)), (mb, cJ cI 30 (B)), (mi, cJ cI 30 (X7)), (mg, cJ cI 4 (sg))] [(0, .ref b_), (1, .ref x0), (2, .ref m0), (3, .int (iJ i_))] 248 [] := by
  obtain ⟨iR, iH, iS, iP, iF, iT⟩ := hI
  have b_n := iR.1
  have b_q := iR.2.1
  have b_g := iR.hg
  have b_g3 := iR.hg3
  have b_s0 := iR.hs0
  have b_s1 := iR.hs1
  have b_sv := iR.hsv
  have b_m := iH.2.1
  have b_kN := iH.2.2.1
  have e_kp := iH.1
  have b_kp : 0 ≤ kp ∧ kp ≤ 4 := by rw [e_kp]; exact b_m
  have b_np := iP.2.1
  have e_pn := iP.1
  have b_pn : 0 ≤ pn ∧ pn ≤ 60 := by rw [e_pn]; exact b_np
  have b_pp : ∀ j : Int, 0 ≤ j → j < pn → 33 ≤ p j ∧ p j ≤ 126 := fun j t1 t2 => (iP.2.2 j t1 (by rw [← e_pn]; exact t2)).2
  have b_gp : ∀ j : Int, 0 ≤ j → j < np → 33 ≤ gp j ∧ gp j ≤ 126 := fun j t1 t2 => by rw [(iP.2.2 j t1 t2).1]; exact (iP.2.2 j t1 t2).2
  have b_ns := iS.2.2.1
  have e_sv := iS.1
  have e_s0 : s 0 = n := iR.2.2.1
  have e_s1 : s 1 = q := iR.2.2.2.1
  have hA : ∀ q : Nat, s_.heap.size ≤ q → (fun q : Nat => s_.heap.size ≤ q) q := fun _ t => t
  refine r_aload_n E 1 dL_law_248 rfl rfl ?_
  refine r_aload_n E 0 dL_law_249 rfl rfl ?_
  refine r_iload_n E 3 dL_law_250 rfl rfl ?_
  refine r_iconst E 1 rfl dL_law_251 ?_
  refine r_iadd E dL_law_252 ?_
  refine r_sld E hX hbl (Nat.not_le.mpr hbl) hL (i := (i_ + 1)) (by omega) a1 e1 dL_law_253 ?_
  refine r_aload_n E 0 dL_law_254 rfl rfl ?_
  refine r_iload_n E 3 dL_law_255 rfl rfl ?_
  refine r_iconst E 2 rfl dL_law_256 ?_
  refine r_iadd E dL_law_257 ?_
  refine r_sld E hX hbl (Nat.not_le.mpr hbl) hL (i := (i_ + 2)) (by omega) a2 e2 dL_law_258 ?_
  refine r_vP E (st := []) (c_X6_putBad l D x0 h0 t0 n0 i0 d0 r0 p0 hs rf h1 cI g n q a1 a2 (by first | assumption | omega | exact ⟨by omega, by omega⟩) (by first | assumption | omega | exact ⟨by omega, by omega⟩) (by first | assumption | omega | exact ⟨by omega, by omega⟩) hk) gL_law_X6_put 2 kf_X6_put ⟨rfl, rfl⟩ ⟨Nat.le_of_ble_eq_true rfl, Nat.le_of_ble_eq_true rfl⟩ dL_law_259 rfl 0 rfl rfl rfl rfl ⟨Nat.le_of_ble_eq_true rfl, Nat.le_of_ble_eq_true rfl⟩ [0, 1, 2] rfl (by decide) [0] rfl (Nat.le_of_ble_eq_true rfl) ?_
  refine r_aload_n E 2 dL_law_262 rfl rfl ?_
  refine r_aload_n E 0 dL_law_263 rfl rfl ?_
  refine r_iload_n E 3 dL_law_264 rfl rfl ?_
  refine r_iconst E 1 rfl dL_law_265 ?_
  refine r_iadd E dL_law_266 ?_
  refine r_sld E hX hbl (Nat.not_le.mpr hbl) hL (i := (i_ + 1)) (by omega) a1 e1 dL_law_267 ?_
  refine r_aload_n E 0 dL_law_268 rfl rfl ?_
  refine r_iload_n E 3 dL_law_269 rfl rfl ?_
  refine r_iconst E 2 rfl dL_law_270 ?_
  refine r_iadd E dL_law_271 ?_
  refine r_sld E hX hbl (Nat.not_le.mpr hbl) hL (i := (i_ + 2)) (by omega) a2 e2 dL_law_272 ?_
  refine r_vP E (st := [.int (iJ (-1))]) (c_X7_putBad l D m0 ms mh mn mp ml mm md mw mt mb mi mg cI kp sv pn rf7 tl s a1 a2 (by first | assumption | omega | exact ⟨by omega, by omega⟩) (by first | assumption | omega | exact ⟨by omega, by omega⟩) (by first | assumption | omega | exact ⟨by omega, by omega⟩) (by rw [e_s0]; exact hk)) gL_law_X7_put 2 kf_X7_put ⟨rfl, rfl⟩ ⟨Nat.le_of_ble_eq_true rfl, Nat.le_of_ble_eq_true rfl⟩ dL_law_273 rfl 29 rfl rfl rfl rfl ⟨Nat.le_of_ble_eq_true rfl, Nat.le_of_ble_eq_true rfl⟩ [29, 30] rfl (by decide) [0] rfl (Nat.le_of_ble_eq_true rfl) ?_
  refine r_top (b := -1) rfl ?_
  refine r_same E 885 dL_law_276 (by decide) ?_
  refine r_lv [0, 1, 2, 3] [(0, .ref b_), (1, .ref x0), (2, .ref m0), (3, .int (iJ (i_)))] rfl ?_
  exact kk hs rf n q g nt qt gt ns qs gs m xa ya kN kQ kG np gp S X L_ ow cA cU hd fw kp sv pn rf7 tl s h sn p le my hd7 ww T B X7 sg ⟨iR, iH, iS, iP, iF, iT⟩
set_option maxHeartbeats 4000000 in
set_option maxRecDepth 100000 in
theorem cL_2No {p_ : Program} {l : Launch} {e_ : Env} {s_ : State} {m_ : MethodId} {ar_ : Array Value} {bw_ : List Frame} {mt_ : Method} {cd_ : Code} {D : va_G} {Q_ : State → Prop} {b_ : Nat} {i_ : Int} {x0 h0 t0 n0 i0 d0 r0 p0 h1 t1 n1 i1 d1 r1 r2 p1 p2 p3 p4 p5 p6 m0 ms mh mn mp ml mm md mw mt mb mi mg : Nat} {cI cJ_ cZ cP : ClassId} (E : EE p_ s_ m_ ar_ mt_ cd_ D vwCl [(cI, .int), (cJ_, .long), (cZ, .boolean), (cP, .object "LeanSticks$Piece")] 8 cL_law RL wsL_law) {Ln : Nat} {xs : Nat → Int32} (hX : va_X b_ Ln xs s_ s_.heap) (hbl : b_ < s_.heap.size) (hL : Ln ≤ 2560) (hi : 0 ≤ i_ ∧ i_ + 4 < (Ln : Int)) {a1 : Int} (e1 : XS xs (i_ + 1) = a1) (j1 : jb a1) {a2 : Int} (e2 : XS xs (i_ + 2) = a2) (j2 : jb a2) {hs : Int} {rf : Int} {n : Int} {q : Int} {g : Int → Int} {nt : Int} {qt : Int} {gt : Int → Int} {ns : Int} {qs : Int} {gs : Int → Int} {m : Int} {xa : Nat → Nat} {ya : Nat → Nat} {kN : Nat → Int} {kQ : Nat → Int} {kG : Nat → Int → Int} {np : Int} {gp : Int → Int} {S : Int → Int} {X : Int → Int} {L_ : Int} {ow : Int → Int} {cA : Int → Int} {cU : Int → Int} {hd : Int → Int} {fw : Int → Int} {kp : Int} {sv : Int} {pn : Int} {rf7 : Int} {tl : Int} {s : Int → Int} {h : Int → Int} {sn : Int → Int} {p : Int → Int} {le : Int → Int} {my : Int → Int} {hd7 : Int → Int} {ww : Int → Int} {T : Int → Int} {B : Int → Int} {X7 : Int → Int} {sg : Int → Int} (hI : IV g n q s m kN kQ kG kp h hs ns qs gs sv sn np gp pn p rf rf7 nt) (hk : (0 ≤ a1 ∧ a1 ≤ n) ∧ (0 ≤ a2 ∧ a2 < n)) (hf : n = 32) (kk : KK p_ l e_ s_ m_ ar_ bw_ mt_ cd_ D Q_ b_ i_ x0 h0 t0 n0 i0 d0 r0 p0 h1 t1 n1 i1 d1 r1 r2 p1 p2 p3 p4 p5 p6 m0 ms mh mn mp ml mm md mw mt mb mi mg cI cJ_ cZ cP) : GG p_ l e_ room_1 s_ m_ ar_ bw_ mt_ cd_ D vwCl (fun q => s_.heap.size ≤ q) (fun q => s_.heap.size ≤ q) s_.heap 8 42 1383 Q_ [(x0, .inr (5, [.ref h0, .ref t0, .ref n0, .ref i0, .ref d0, .ref r0, .ref p0, .int (iJ (hs)), .int (iJ (rf))])), (h0, .inr (2, [.ref h1, .int (iJ (n)), .int (iJ (q))])), (h1, cJ cI 32 (g)), (t0, .inr (2, [.ref t1, .int (iJ (nt)), .int (iJ (qt))])), (t1, cJ cI 32 (gt)), (n0, .inr (2, [.ref n1, .int (iJ (ns)), .int (iJ (qs))])), (n1, cJ cI 32 (gs)), (i0, .inr (0, [.ref i1, .int (iJ (m))])), (i1, cR cP 4 (hF xa)), ((xa 0), .inr (2, [.ref (ya 0), .int (iJ (kN 0)), .int (iJ (kQ 0))])), ((ya 0), cJ cI 32 (kG 0)), ((xa 1), .inr (2, [.ref (ya 1), .int (iJ (kN 1)), .int (iJ (kQ 1))])), ((ya 1), cJ cI 32 (kG 1)), ((xa 2), .inr (2, [.ref (ya 2), .int (iJ (kN 2)), .int (iJ (kQ 2))])), ((ya 2), cJ cI 32 (kG 2)), ((xa 3), .inr (2, [.ref (ya 3), .int (iJ (kN 3)), .int (iJ (kQ 3))])), ((ya 3), cJ cI 32 (kG 3)), (d0, .inr (1, [.ref d1, .int (iJ (np))])), (d1, cJ cI 60 (gp)), (r0, .inr (4, [.ref r1, .ref r2])), (r1, cJ cI 60 (S)), (r2, cJ cI 60 (X)), (p0, .inr (3, [.ref p1, .ref p2, .ref p3, .ref p4, .ref p5, .ref p6, .int (iJ (L_))])), (p1, cJ cI 32 (nrA)), (p2, cJ cI 32 (ow)), (p3, cJ cZ 32 (cA)), (p4, cJ cZ 32 (cU)), (p5, cJ cI 32 (hd)), (p6, cJ cI 132 (fw)), (m0, .inr (6, [.ref ms, .ref mh, .int (iJ (kp)), .ref mn, .int (iJ (sv)), .ref mp, .int (iJ (pn)), .int (iJ (rf7)), .ref ml, .ref mm, .ref md, .ref mw, .ref mt, .int (iJ (tl)), .ref mb, .ref mi, .ref mg])), (ms, cJ cI 34 (s)), (mh, cJ cI 136 (h)), (mn, cJ cI 34 (sn)), (mp, cJ cI 60 (p)), (ml, cJ cI 99 (le)), (mm, cL cJ_ 99 (my)), (md, cJ cI 32 (hd7)), (mw, cJ cI 32 (ww)), (mt, cJ cI 33 (T)), (mb, cJ cI 30 (B)), (mi, cJ cI 30 (X7)), (mg, cJ cI 4 (sg))] [(0, .ref b_), (1, .ref x0), (2, .ref m0), (3, .int (iJ i_))] 248 [] := by
  obtain ⟨iR, iH, iS, iP, iF, iT⟩ := hI
  have b_n := iR.1
  have b_q := iR.2.1
  have b_g := iR.hg
  have b_g3 := iR.hg3
  have b_s0 := iR.hs0
  have b_s1 := iR.hs1
  have b_sv := iR.hsv
  have b_m := iH.2.1
  have b_kN := iH.2.2.1
  have e_kp := iH.1
  have b_kp : 0 ≤ kp ∧ kp ≤ 4 := by rw [e_kp]; exact b_m
  have b_np := iP.2.1
  have e_pn := iP.1
  have b_pn : 0 ≤ pn ∧ pn ≤ 60 := by rw [e_pn]; exact b_np
  have b_pp : ∀ j : Int, 0 ≤ j → j < pn → 33 ≤ p j ∧ p j ≤ 126 := fun j t1 t2 => (iP.2.2 j t1 (by rw [← e_pn]; exact t2)).2
  have b_gp : ∀ j : Int, 0 ≤ j → j < np → 33 ≤ gp j ∧ gp j ≤ 126 := fun j t1 t2 => by rw [(iP.2.2 j t1 t2).1]; exact (iP.2.2 j t1 t2).2
  have b_ns := iS.2.2.1
  have e_sv := iS.1
  have e_s0 : s 0 = n := iR.2.2.1
  have e_s1 : s 1 = q := iR.2.2.2.1
  have hA : ∀ q : Nat, s_.heap.size ≤ q → (fun q : Nat => s_.heap.size ≤ q) q := fun _ t => t
  refine r_aload_n E 1 dL_law_248 rfl rfl ?_
  refine r_aload_n E 0 dL_law_249 rfl rfl ?_
  refine r_iload_n E 3 dL_law_250 rfl rfl ?_
  refine r_iconst E 1 rfl dL_law_251 ?_
  refine r_iadd E dL_law_252 ?_
  refine r_sld E hX hbl (Nat.not_le.mpr hbl) hL (i := (i_ + 1)) (by omega) a1 e1 dL_law_253 ?_
  refine r_aload_n E 0 dL_law_254 rfl rfl ?_
  refine r_iload_n E 3 dL_law_255 rfl rfl ?_
  refine r_iconst E 2 rfl dL_law_256 ?_
  refine r_iadd E dL_law_257 ?_
  refine r_sld E hX hbl (Nat.not_le.mpr hbl) hL (i := (i_ + 2)) (by omega) a2 e2 dL_law_258 ?_
  refine r_vP E (st := []) (c_X6_putNo l D x0 h0 t0 n0 i0 d0 r0 p0 hs rf h1 cI g n q a1 a2 (by first | assumption | omega | exact ⟨by omega, by omega⟩) hk hf) gL_law_X6_put 2 kf_X6_put ⟨rfl, rfl⟩ ⟨Nat.le_of_ble_eq_true rfl, Nat.le_of_ble_eq_true rfl⟩ dL_law_259 rfl 0 rfl rfl rfl rfl ⟨Nat.le_of_ble_eq_true rfl, Nat.le_of_ble_eq_true rfl⟩ [0, 1, 2] rfl (by decide) [0] rfl (Nat.le_of_ble_eq_true rfl) ?_
  refine r_aload_n E 2 dL_law_262 rfl rfl ?_
  refine r_aload_n E 0 dL_law_263 rfl rfl ?_
  refine r_iload_n E 3 dL_law_264 rfl rfl ?_
  refine r_iconst E 1 rfl dL_law_265 ?_
  refine r_iadd E dL_law_266 ?_
  refine r_sld E hX hbl (Nat.not_le.mpr hbl) hL (i := (i_ + 1)) (by omega) a1 e1 dL_law_267 ?_
  refine r_aload_n E 0 dL_law_268 rfl rfl ?_
  refine r_iload_n E 3 dL_law_269 rfl rfl ?_
  refine r_iconst E 2 rfl dL_law_270 ?_
  refine r_iadd E dL_law_271 ?_
  refine r_sld E hX hbl (Nat.not_le.mpr hbl) hL (i := (i_ + 2)) (by omega) a2 e2 dL_law_272 ?_
  refine r_vP E (st := [.int (iJ (-3))]) (c_X7_putNo l D m0 ms mh mn mp ml mm md mw mt mb mi mg cI kp sv pn rf7 tl s a1 a2 (by first | assumption | omega | exact ⟨by omega, by omega⟩) (by rw [e_s0]; exact hk) (by rw [e_s0]; exact hf)) gL_law_X7_put 2 kf_X7_put ⟨rfl, rfl⟩ ⟨Nat.le_of_ble_eq_true rfl, Nat.le_of_ble_eq_true rfl⟩ dL_law_273 rfl 29 rfl rfl rfl rfl ⟨Nat.le_of_ble_eq_true rfl, Nat.le_of_ble_eq_true rfl⟩ [29, 30] rfl (by decide) [0] rfl (Nat.le_of_ble_eq_true rfl) ?_
  refine r_top (b := -3) rfl ?_
  refine r_same E 885 dL_law_276 (by decide) ?_
  refine r_lv [0, 1, 2, 3] [(0, .ref b_), (1, .ref x0), (2, .ref m0), (3, .int (iJ (i_)))] rfl ?_
  exact kk hs rf n q g nt qt gt ns qs gs m xa ya kN kQ kG np gp S X L_ ow cA cU hd fw kp sv pn rf7 tl s h sn p le my hd7 ww T B X7 sg ⟨iR, iH, iS, iP, iF, iT⟩
set_option maxHeartbeats 4000000 in
set_option maxRecDepth 100000 in
theorem cL_2Ok {p_ : Program} {l : Launch} {e_ : Env} {s_ : State} {m_ : MethodId} {ar_ : Array Value} {bw_ : List Frame} {mt_ : Method} {cd_ : Code} {D : va_G} {Q_ : State → Prop} {b_ : Nat} {i_ : Int} {x0 h0 t0 n0 i0 d0 r0 p0 h1 t1 n1 i1 d1 r1 r2 p1 p2 p3 p4 p5 p6 m0 ms mh mn mp ml mm md mw mt mb mi mg : Nat} {cI cJ_ cZ cP : ClassId} (E : EE p_ s_ m_ ar_ mt_ cd_ D vwCl [(cI, .int), (cJ_, .long), (cZ, .boolean), (cP, .object "LeanSticks$Piece")] 8 cL_law RL wsL_law) {Ln : Nat} {xs : Nat → Int32} (hX : va_X b_ Ln xs s_ s_.heap) (hbl : b_ < s_.heap.size) (hL : Ln ≤ 2560) (hi : 0 ≤ i_ ∧ i_ + 4 < (Ln : Int)) {a1 : Int} (e1 : XS xs (i_ + 1) = a1) (j1 : jb a1) {a2 : Int} (e2 : XS xs (i_ + 2) = a2) (j2 : jb a2) {hs : Int} {rf : Int} {n : Int} {q : Int} {g : Int → Int} {nt : Int} {qt : Int} {gt : Int → Int} {ns : Int} {qs : Int} {gs : Int → Int} {m : Int} {xa : Nat → Nat} {ya : Nat → Nat} {kN : Nat → Int} {kQ : Nat → Int} {kG : Nat → Int → Int} {np : Int} {gp : Int → Int} {S : Int → Int} {X : Int → Int} {L_ : Int} {ow : Int → Int} {cA : Int → Int} {cU : Int → Int} {hd : Int → Int} {fw : Int → Int} {kp : Int} {sv : Int} {pn : Int} {rf7 : Int} {tl : Int} {s : Int → Int} {h : Int → Int} {sn : Int → Int} {p : Int → Int} {le : Int → Int} {my : Int → Int} {hd7 : Int → Int} {ww : Int → Int} {T : Int → Int} {B : Int → Int} {X7 : Int → Int} {sg : Int → Int} (hI : IV g n q s m kN kQ kG kp h hs ns qs gs sv sn np gp pn p rf rf7 nt) (hk : (0 ≤ a1 ∧ a1 ≤ n) ∧ (0 ≤ a2 ∧ a2 < n)) (hf : n < 32) (kk : KK p_ l e_ s_ m_ ar_ bw_ mt_ cd_ D Q_ b_ i_ x0 h0 t0 n0 i0 d0 r0 p0 h1 t1 n1 i1 d1 r1 r2 p1 p2 p3 p4 p5 p6 m0 ms mh mn mp ml mm md mw mt mb mi mg cI cJ_ cZ cP) : GG p_ l e_ room_1 s_ m_ ar_ bw_ mt_ cd_ D vwCl (fun q => s_.heap.size ≤ q) (fun q => s_.heap.size ≤ q) s_.heap 8 42 1383 Q_ [(x0, .inr (5, [.ref h0, .ref t0, .ref n0, .ref i0, .ref d0, .ref r0, .ref p0, .int (iJ (hs)), .int (iJ (rf))])), (h0, .inr (2, [.ref h1, .int (iJ (n)), .int (iJ (q))])), (h1, cJ cI 32 (g)), (t0, .inr (2, [.ref t1, .int (iJ (nt)), .int (iJ (qt))])), (t1, cJ cI 32 (gt)), (n0, .inr (2, [.ref n1, .int (iJ (ns)), .int (iJ (qs))])), (n1, cJ cI 32 (gs)), (i0, .inr (0, [.ref i1, .int (iJ (m))])), (i1, cR cP 4 (hF xa)), ((xa 0), .inr (2, [.ref (ya 0), .int (iJ (kN 0)), .int (iJ (kQ 0))])), ((ya 0), cJ cI 32 (kG 0)), ((xa 1), .inr (2, [.ref (ya 1), .int (iJ (kN 1)), .int (iJ (kQ 1))])), ((ya 1), cJ cI 32 (kG 1)), ((xa 2), .inr (2, [.ref (ya 2), .int (iJ (kN 2)), .int (iJ (kQ 2))])), ((ya 2), cJ cI 32 (kG 2)), ((xa 3), .inr (2, [.ref (ya 3), .int (iJ (kN 3)), .int (iJ (kQ 3))])), ((ya 3), cJ cI 32 (kG 3)), (d0, .inr (1, [.ref d1, .int (iJ (np))])), (d1, cJ cI 60 (gp)), (r0, .inr (4, [.ref r1, .ref r2])), (r1, cJ cI 60 (S)), (r2, cJ cI 60 (X)), (p0, .inr (3, [.ref p1, .ref p2, .ref p3, .ref p4, .ref p5, .ref p6, .int (iJ (L_))])), (p1, cJ cI 32 (nrA)), (p2, cJ cI 32 (ow)), (p3, cJ cZ 32 (cA)), (p4, cJ cZ 32 (cU)), (p5, cJ cI 32 (hd)), (p6, cJ cI 132 (fw)), (m0, .inr (6, [.ref ms, .ref mh, .int (iJ (kp)), .ref mn, .int (iJ (sv)), .ref mp, .int (iJ (pn)), .int (iJ (rf7)), .ref ml, .ref mm, .ref md, .ref mw, .ref mt, .int (iJ (tl)), .ref mb, .ref mi, .ref mg])), (ms, cJ cI 34 (s)), (mh, cJ cI 136 (h)), (mn, cJ cI 34 (sn)), (mp, cJ cI 60 (p)), (ml, cJ cI 99 (le)), (mm, cL cJ_ 99 (my)), (md, cJ cI 32 (hd7)), (mw, cJ cI 32 (ww)), (mt, cJ cI 33 (T)), (mb, cJ cI 30 (B)), (mi, cJ cI 30 (X7)), (mg, cJ cI 4 (sg))] [(0, .ref b_), (1, .ref x0), (2, .ref m0), (3, .int (iJ i_))] 248 [] := by
  obtain ⟨iR, iH, iS, iP, iF, iT⟩ := hI
  have b_n := iR.1
  have b_q := iR.2.1
  have b_g := iR.hg
  have b_g3 := iR.hg3
  have b_s0 := iR.hs0
  have b_s1 := iR.hs1
  have b_sv := iR.hsv
  have b_m := iH.2.1
  have b_kN := iH.2.2.1
  have e_kp := iH.1
  have b_kp : 0 ≤ kp ∧ kp ≤ 4 := by rw [e_kp]; exact b_m
  have b_np := iP.2.1
  have e_pn := iP.1
  have b_pn : 0 ≤ pn ∧ pn ≤ 60 := by rw [e_pn]; exact b_np
  have b_pp : ∀ j : Int, 0 ≤ j → j < pn → 33 ≤ p j ∧ p j ≤ 126 := fun j t1 t2 => (iP.2.2 j t1 (by rw [← e_pn]; exact t2)).2
  have b_gp : ∀ j : Int, 0 ≤ j → j < np → 33 ≤ gp j ∧ gp j ≤ 126 := fun j t1 t2 => by rw [(iP.2.2 j t1 t2).1]; exact (iP.2.2 j t1 t2).2
  have b_ns := iS.2.2.1
  have e_sv := iS.1
  have e_s0 : s 0 = n := iR.2.2.1
  have e_s1 : s 1 = q := iR.2.2.2.1
  have hA : ∀ q : Nat, s_.heap.size ≤ q → (fun q : Nat => s_.heap.size ≤ q) q := fun _ t => t
  refine r_aload_n E 1 dL_law_248 rfl rfl ?_
  refine r_aload_n E 0 dL_law_249 rfl rfl ?_
  refine r_iload_n E 3 dL_law_250 rfl rfl ?_
  refine r_iconst E 1 rfl dL_law_251 ?_
  refine r_iadd E dL_law_252 ?_
  refine r_sld E hX hbl (Nat.not_le.mpr hbl) hL (i := (i_ + 1)) (by omega) a1 e1 dL_law_253 ?_
  refine r_aload_n E 0 dL_law_254 rfl rfl ?_
  refine r_iload_n E 3 dL_law_255 rfl rfl ?_
  refine r_iconst E 2 rfl dL_law_256 ?_
  refine r_iadd E dL_law_257 ?_
  refine r_sld E hX hbl (Nat.not_le.mpr hbl) hL (i := (i_ + 2)) (by omega) a2 e2 dL_law_258 ?_
  refine r_vM E (st := []) (c_X6_put l D x0 h0 t0 n0 i0 d0 r0 p0 hs rf h1 cI g n q i1 cP xa ya kN kQ kG m a1 a2 (by first | assumption | omega | exact ⟨by omega, by omega⟩) (by first | assumption | omega | exact ⟨by omega, by omega⟩) (by first | assumption | omega | exact ⟨by omega, by omega⟩) hk hf) gL_law_X6_put 2 kf_X6_put ⟨rfl, rfl⟩ ⟨Nat.le_of_ble_eq_true rfl, Nat.le_of_ble_eq_true rfl⟩ dL_law_259 rfl 0 rfl rfl rfl rfl ⟨Nat.le_of_ble_eq_true rfl, Nat.le_of_ble_eq_true rfl⟩ [0, 1, 2, 7, 8, 9, 10, 11, 12, 13, 14, 15, 16] rfl (by decide) [0, 3] rfl (Nat.le_of_ble_eq_true rfl) [(t0, .inr (2, [.ref t1, .int (iJ (nt)), .int (iJ (qt))])), (t1, cJ cI 32 (gt)), (n0, .inr (2, [.ref n1, .int (iJ (ns)), .int (iJ (qs))])), (n1, cJ cI 32 (gs)), (d0, .inr (1, [.ref d1, .int (iJ (np))])), (d1, cJ cI 60 (gp)), (r0, .inr (4, [.ref r1, .ref r2])), (r1, cJ cI 60 (S)), (r2, cJ cI 60 (X)), (p0, .inr (3, [.ref p1, .ref p2, .ref p3, .ref p4, .ref p5, .ref p6, .int (iJ (L_))])), (p1, cJ cI 32 (nrA)), (p2, cJ cI 32 (ow)), (p3, cJ cZ 32 (cA)), (p4, cJ cZ 32 (cU)), (p5, cJ cI 32 (hd)), (p6, cJ cI 132 (fw)), (m0, .inr (6, [.ref ms, .ref mh, .int (iJ (kp)), .ref mn, .int (iJ (sv)), .ref mp, .int (iJ (pn)), .int (iJ (rf7)), .ref ml, .ref mm, .ref md, .ref mw, .ref mt, .int (iJ (tl)), .ref mb, .ref mi, .ref mg])), (ms, cJ cI 34 (s)), (mh, cJ cI 136 (h)), (mn, cJ cI 34 (sn)), (mp, cJ cI 60 (p)), (ml, cJ cI 99 (le)), (mm, cL cJ_ 99 (my)), (md, cJ cI 32 (hd7)), (mw, cJ cI 32 (ww)), (mt, cJ cI 33 (T)), (mb, cJ cI 30 (B)), (mi, cJ cI 30 (X7)), (mg, cJ cI 4 (sg))] [3, 4, 5, 6, 17, 18, 19, 20, 21, 22, 23, 24, 25, 26, 27, 28, 29, 30, 31, 32, 33, 34, 35, 36, 37, 38, 39, 40, 41] rfl (by decide) (by decide) hA [29, 30, 31, 0, 1, 2, 3, 32, 33, 34, 35, 36, 37, 38, 39, 40, 41, 4, 5, 6, 7, 8, 9, 10, 11, 12, 13, 14, 15, 16, 17, 18, 19, 20, 21, 22, 23, 24, 25, 26, 27, 28] (by decide) (fun u : (Nat → Nat) × (Nat → Nat) × (Nat → Int) × (Nat → Int) × (Nat → Int → Int) × Int => [(x0, .inr (5, [.ref h0, .ref t0, .ref n0, .ref i0, .ref d0, .ref r0, .ref p0, .int (iJ (hs)), .int (iJ (rf))])), (h0, .inr (2, [.ref h1, .int (iJ ((n + 1))), .int (iJ (q))])), (h1, cJ cI 32 (pIn g n a1 (g a2))), (t0, .inr (2, [.ref t1, .int (iJ (nt)), .int (iJ (qt))])), (t1, cJ cI 32 (gt)), (n0, .inr (2, [.ref n1, .int (iJ (ns)), .int (iJ (qs))])), (n1, cJ cI 32 (gs)), (i0, .inr (0, [.ref i1, .int (iJ (u.2.2.2.2.2))])), (i1, cR cP 4 (hF u.1)), ((u.1 0), .inr (2, [.ref (u.2.1 0), .int (iJ (u.2.2.1 0)), .int (iJ (u.2.2.2.1 0))])), ((u.2.1 0), cJ cI 32 (u.2.2.2.2.1 0)), ((u.1 1), .inr (2, [.ref (u.2.1 1), .int (iJ (u.2.2.1 1)), .int (iJ (u.2.2.2.1 1))])), ((u.2.1 1), cJ cI 32 (u.2.2.2.2.1 1)), ((u.1 2), .inr (2, [.ref (u.2.1 2), .int (iJ (u.2.2.1 2)), .int (iJ (u.2.2.2.1 2))])), ((u.2.1 2), cJ cI 32 (u.2.2.2.2.1 2)), ((u.1 3), .inr (2, [.ref (u.2.1 3), .int (iJ (u.2.2.1 3)), .int (iJ (u.2.2.2.1 3))])), ((u.2.1 3), cJ cI 32 (u.2.2.2.2.1 3)), (d0, .inr (1, [.ref d1, .int (iJ (np))])), (d1, cJ cI 60 (gp)), (r0, .inr (4, [.ref r1, .ref r2])), (r1, cJ cI 60 (S)), (r2, cJ cI 60 (X)), (p0, .inr (3, [.ref p1, .ref p2, .ref p3, .ref p4, .ref p5, .ref p6, .int (iJ (L_))])), (p1, cJ cI 32 (nrA)), (p2, cJ cI 32 (ow)), (p3, cJ cZ 32 (cA)), (p4, cJ cZ 32 (cU)), (p5, cJ cI 32 (hd)), (p6, cJ cI 132 (fw)), (m0, .inr (6, [.ref ms, .ref mh, .int (iJ (kp)), .ref mn, .int (iJ (sv)), .ref mp, .int (iJ (pn)), .int (iJ (rf7)), .ref ml, .ref mm, .ref md, .ref mw, .ref mt, .int (iJ (tl)), .ref mb, .ref mi, .ref mg])), (ms, cJ cI 34 (s)), (mh, cJ cI 136 (h)), (mn, cJ cI 34 (sn)), (mp, cJ cI 60 (p)), (ml, cJ cI 99 (le)), (mm, cL cJ_ 99 (my)), (md, cJ cI 32 (hd7)), (mw, cJ cI 32 (ww)), (mt, cJ cI 33 (T)), (mb, cJ cI 30 (B)), (mi, cJ cI 30 (X7)), (mg, cJ cI 4 (sg))]) (fun _ => rfl) ?_
  rintro ⟨xa2_1, ya2_2, kN2_3, kQ2_4, kG2_5, m2_6⟩ hp_7
  refine r_cv (ws2 := [(x0, .inr (5, [.ref h0, .ref t0, .ref n0, .ref i0, .ref d0, .ref r0, .ref p0, .int (iJ (hs)), .int (iJ (rf))])), (h0, .inr (2, [.ref h1, .int (iJ ((n + 1))), .int (iJ (q))])), (h1, cJ cI 32 (pIn g n a1 (g a2))), (t0, .inr (2, [.ref t1, .int (iJ (nt)), .int (iJ (qt))])), (t1, cJ cI 32 (gt)), (n0, .inr (2, [.ref n1, .int (iJ (ns)), .int (iJ (qs))])), (n1, cJ cI 32 (gs)), (i0, .inr (0, [.ref i1, .int (iJ (m2_6))])), (i1, cR cP 4 (hF xa2_1)), ((xa2_1 0), .inr (2, [.ref (ya2_2 0), .int (iJ (kN2_3 0)), .int (iJ (kQ2_4 0))])), ((ya2_2 0), cJ cI 32 (kG2_5 0)), ((xa2_1 1), .inr (2, [.ref (ya2_2 1), .int (iJ (kN2_3 1)), .int (iJ (kQ2_4 1))])), ((ya2_2 1), cJ cI 32 (kG2_5 1)), ((xa2_1 2), .inr (2, [.ref (ya2_2 2), .int (iJ (kN2_3 2)), .int (iJ (kQ2_4 2))])), ((ya2_2 2), cJ cI 32 (kG2_5 2)), ((xa2_1 3), .inr (2, [.ref (ya2_2 3), .int (iJ (kN2_3 3)), .int (iJ (kQ2_4 3))])), ((ya2_2 3), cJ cI 32 (kG2_5 3)), (d0, .inr (1, [.ref d1, .int (iJ (np))])), (d1, cJ cI 60 (gp)), (r0, .inr (4, [.ref r1, .ref r2])), (r1, cJ cI 60 (S)), (r2, cJ cI 60 (X)), (p0, .inr (3, [.ref p1, .ref p2, .ref p3, .ref p4, .ref p5, .ref p6, .int (iJ (L_))])), (p1, cJ cI 32 (nrA)), (p2, cJ cI 32 (ow)), (p3, cJ cZ 32 (cA)), (p4, cJ cZ 32 (cU)), (p5, cJ cI 32 (hd)), (p6, cJ cI 132 (fw)), (m0, .inr (6, [.ref ms, .ref mh, .int (iJ (kp)), .ref mn, .int (iJ (sv)), .ref mp, .int (iJ (pn)), .int (iJ (rf7)), .ref ml, .ref mm, .ref md, .ref mw, .ref mt, .int (iJ (tl)), .ref mb, .ref mi, .ref mg])), (ms, cJ cI 34 (s)), (mh, cJ cI 136 (h)), (mn, cJ cI 34 (sn)), (mp, cJ cI 60 (p)), (ml, cJ cI 99 (le)), (mm, cL cJ_ 99 (my)), (md, cJ cI 32 (hd7)), (mw, cJ cI 32 (ww)), (mt, cJ cI 33 (T)), (mb, cJ cI 30 (B)), (mi, cJ cI 30 (X7)), (mg, cJ cI 4 (sg))]) (st2 := [.int (iJ (n + 1))]) rfl rfl rfl ?_
  have hpu := hp_7
  try dsimp only at hpu
  refine r_aload_n E 2 dL_law_262 rfl rfl ?_
  refine r_aload_n E 0 dL_law_263 rfl rfl ?_
  refine r_iload_n E 3 dL_law_264 rfl rfl ?_
  refine r_iconst E 1 rfl dL_law_265 ?_
  refine r_iadd E dL_law_266 ?_
  refine r_sld E hX hbl (Nat.not_le.mpr hbl) hL (i := (i_ + 1)) (by omega) a1 e1 dL_law_267 ?_
  refine r_aload_n E 0 dL_law_268 rfl rfl ?_
  refine r_iload_n E 3 dL_law_269 rfl rfl ?_
  refine r_iconst E 2 rfl dL_law_270 ?_
  refine r_iadd E dL_law_271 ?_
  refine r_sld E hX hbl (Nat.not_le.mpr hbl) hL (i := (i_ + 2)) (by omega) a2 e2 dL_law_272 ?_
  refine r_vM E (st := [.int (iJ (n + 1))]) (c_X7_put l D m0 ms mh mn mp ml mm md mw mt mb mi mg cI kp sv pn rf7 tl s h a1 a2 (by first | assumption | omega | exact ⟨by omega, by omega⟩) (by first | assumption | omega | exact ⟨by omega, by omega⟩) (by rw [e_s0]; exact hk) (by rw [e_s0]; exact hf)) gL_law_X7_put 2 kf_X7_put ⟨rfl, rfl⟩ ⟨Nat.le_of_ble_eq_true rfl, Nat.le_of_ble_eq_true rfl⟩ dL_law_273 rfl 29 rfl rfl rfl rfl ⟨Nat.le_of_ble_eq_true rfl, Nat.le_of_ble_eq_true rfl⟩ [29, 30, 31] rfl (by decide) [0] rfl (Nat.le_of_ble_eq_true rfl) [(x0, .inr (5, [.ref h0, .ref t0, .ref n0, .ref i0, .ref d0, .ref r0, .ref p0, .int (iJ (hs)), .int (iJ (rf))])), (h0, .inr (2, [.ref h1, .int (iJ ((n + 1))), .int (iJ (q))])), (h1, cJ cI 32 (pIn g n a1 (g a2))), (t0, .inr (2, [.ref t1, .int (iJ (nt)), .int (iJ (qt))])), (t1, cJ cI 32 (gt)), (n0, .inr (2, [.ref n1, .int (iJ (ns)), .int (iJ (qs))])), (n1, cJ cI 32 (gs)), (i0, .inr (0, [.ref i1, .int (iJ (m2_6))])), (i1, cR cP 4 (hF xa2_1)), ((xa2_1 0), .inr (2, [.ref (ya2_2 0), .int (iJ (kN2_3 0)), .int (iJ (kQ2_4 0))])), ((ya2_2 0), cJ cI 32 (kG2_5 0)), ((xa2_1 1), .inr (2, [.ref (ya2_2 1), .int (iJ (kN2_3 1)), .int (iJ (kQ2_4 1))])), ((ya2_2 1), cJ cI 32 (kG2_5 1)), ((xa2_1 2), .inr (2, [.ref (ya2_2 2), .int (iJ (kN2_3 2)), .int (iJ (kQ2_4 2))])), ((ya2_2 2), cJ cI 32 (kG2_5 2)), ((xa2_1 3), .inr (2, [.ref (ya2_2 3), .int (iJ (kN2_3 3)), .int (iJ (kQ2_4 3))])), ((ya2_2 3), cJ cI 32 (kG2_5 3)), (d0, .inr (1, [.ref d1, .int (iJ (np))])), (d1, cJ cI 60 (gp)), (r0, .inr (4, [.ref r1, .ref r2])), (r1, cJ cI 60 (S)), (r2, cJ cI 60 (X)), (p0, .inr (3, [.ref p1, .ref p2, .ref p3, .ref p4, .ref p5, .ref p6, .int (iJ (L_))])), (p1, cJ cI 32 (nrA)), (p2, cJ cI 32 (ow)), (p3, cJ cZ 32 (cA)), (p4, cJ cZ 32 (cU)), (p5, cJ cI 32 (hd)), (p6, cJ cI 132 (fw)), (mn, cJ cI 34 (sn)), (mp, cJ cI 60 (p)), (ml, cJ cI 99 (le)), (mm, cL cJ_ 99 (my)), (md, cJ cI 32 (hd7)), (mw, cJ cI 32 (ww)), (mt, cJ cI 33 (T)), (mb, cJ cI 30 (B)), (mi, cJ cI 30 (X7)), (mg, cJ cI 4 (sg))] [0, 1, 2, 3, 4, 5, 6, 7, 8, 9, 10, 11, 12, 13, 14, 15, 16, 17, 18, 19, 20, 21, 22, 23, 24, 25, 26, 27, 28, 32, 33, 34, 35, 36, 37, 38, 39, 40, 41] rfl (by decide) (by decide) hA [0, 1, 2, 3, 4, 5, 6, 7, 8, 9, 10, 11, 12, 13, 14, 15, 16, 17, 18, 19, 20, 21, 22, 23, 24, 25, 26, 27, 28, 39, 40, 41, 29, 30, 31, 32, 33, 34, 35, 36, 37, 38] (by decide) (fun (_ : Unit) => [(x0, .inr (5, [.ref h0, .ref t0, .ref n0, .ref i0, .ref d0, .ref r0, .ref p0, .int (iJ (hs)), .int (iJ (rf))])), (h0, .inr (2, [.ref h1, .int (iJ ((n + 1))), .int (iJ (q))])), (h1, cJ cI 32 (pIn g n a1 (g a2))), (t0, .inr (2, [.ref t1, .int (iJ (nt)), .int (iJ (qt))])), (t1, cJ cI 32 (gt)), (n0, .inr (2, [.ref n1, .int (iJ (ns)), .int (iJ (qs))])), (n1, cJ cI 32 (gs)), (i0, .inr (0, [.ref i1, .int (iJ (m2_6))])), (i1, cR cP 4 (hF xa2_1)), ((xa2_1 0), .inr (2, [.ref (ya2_2 0), .int (iJ (kN2_3 0)), .int (iJ (kQ2_4 0))])), ((ya2_2 0), cJ cI 32 (kG2_5 0)), ((xa2_1 1), .inr (2, [.ref (ya2_2 1), .int (iJ (kN2_3 1)), .int (iJ (kQ2_4 1))])), ((ya2_2 1), cJ cI 32 (kG2_5 1)), ((xa2_1 2), .inr (2, [.ref (ya2_2 2), .int (iJ (kN2_3 2)), .int (iJ (kQ2_4 2))])), ((ya2_2 2), cJ cI 32 (kG2_5 2)), ((xa2_1 3), .inr (2, [.ref (ya2_2 3), .int (iJ (kN2_3 3)), .int (iJ (kQ2_4 3))])), ((ya2_2 3), cJ cI 32 (kG2_5 3)), (d0, .inr (1, [.ref d1, .int (iJ (np))])), (d1, cJ cI 60 (gp)), (r0, .inr (4, [.ref r1, .ref r2])), (r1, cJ cI 60 (S)), (r2, cJ cI 60 (X)), (p0, .inr (3, [.ref p1, .ref p2, .ref p3, .ref p4, .ref p5, .ref p6, .int (iJ (L_))])), (p1, cJ cI 32 (nrA)), (p2, cJ cI 32 (ow)), (p3, cJ cZ 32 (cA)), (p4, cJ cZ 32 (cU)), (p5, cJ cI 32 (hd)), (p6, cJ cI 132 (fw)), (m0, .inr (6, [.ref ms, .ref mh, .int (iJ (rcK kp)), .ref mn, .int (iJ (sv)), .ref mp, .int (iJ (pn)), .int (iJ (rf7)), .ref ml, .ref mm, .ref md, .ref mw, .ref mt, .int (iJ (tl)), .ref mb, .ref mi, .ref mg])), (ms, cJ cI 34 (mpI s a1 (s (2 + a2)))), (mh, cJ cI 136 (rcH s h kp)), (mn, cJ cI 34 (sn)), (mp, cJ cI 60 (p)), (ml, cJ cI 99 (le)), (mm, cL cJ_ 99 (my)), (md, cJ cI 32 (hd7)), (mw, cJ cI 32 (ww)), (mt, cJ cI 33 (T)), (mb, cJ cI 30 (B)), (mi, cJ cI 30 (X7)), (mg, cJ cI 4 (sg))]) (fun _ => rfl) ?_
  rintro ⟨⟩ hp_8
  refine r_top (b := n + 1) (by rw [e_s0]) ?_
  refine r_same E 885 dL_law_276 (by decide) ?_
  refine r_lv [0, 1, 2, 3] [(0, .ref b_), (1, .ref x0), (2, .ref m0), (3, .int (iJ (i_)))] rfl ?_
  exact kk hs rf (n + 1) q (pIn g n a1 (g a2)) nt qt gt ns qs gs m2_6 xa2_1 ya2_2 kN2_3 kQ2_4 kG2_5 np gp S X L_ ow cA cU hd fw (rcK kp) sv pn rf7 tl (mpI s a1 (s (2 + a2))) (rcH s h kp) sn p le my hd7 ww T B X7 sg ⟨(iR.put hk.1 hk.2 hf), (iH.push iR hpu), iS, iP, iF, iT⟩
set_option maxHeartbeats 4000000 in
set_option maxRecDepth 100000 in
theorem cL_3Bad {p_ : Program} {l : Launch} {e_ : Env} {s_ : State} {m_ : MethodId} {ar_ : Array Value} {bw_ : List Frame} {mt_ : Method} {cd_ : Code} {D : va_G} {Q_ : State → Prop} {b_ : Nat} {i_ : Int} {x0 h0 t0 n0 i0 d0 r0 p0 h1 t1 n1 i1 d1 r1 r2 p1 p2 p3 p4 p5 p6 m0 ms mh mn mp ml mm md mw mt mb mi mg : Nat} {cI cJ_ cZ cP : ClassId} (E : EE p_ s_ m_ ar_ mt_ cd_ D vwCl [(cI, .int), (cJ_, .long), (cZ, .boolean), (cP, .object "LeanSticks$Piece")] 8 cL_law RL wsL_law) {Ln : Nat} {xs : Nat → Int32} (hX : va_X b_ Ln xs s_ s_.heap) (hbl : b_ < s_.heap.size) (hL : Ln ≤ 2560) (hi : 0 ≤ i_ ∧ i_ + 4 < (Ln : Int)) {a1 : Int} (e1 : XS xs (i_ + 1) = a1) (j1 : jb a1) {a2 : Int} (e2 : XS xs (i_ + 2) = a2) (j2 : jb a2) {hs : Int} {rf : Int} {n : Int} {q : Int} {g : Int → Int} {nt : Int} {qt : Int} {gt : Int → Int} {ns : Int} {qs : Int} {gs : Int → Int} {m : Int} {xa : Nat → Nat} {ya : Nat → Nat} {kN : Nat → Int} {kQ : Nat → Int} {kG : Nat → Int → Int} {np : Int} {gp : Int → Int} {S : Int → Int} {X : Int → Int} {L_ : Int} {ow : Int → Int} {cA : Int → Int} {cU : Int → Int} {hd : Int → Int} {fw : Int → Int} {kp : Int} {sv : Int} {pn : Int} {rf7 : Int} {tl : Int} {s : Int → Int} {h : Int → Int} {sn : Int → Int} {p : Int → Int} {le : Int → Int} {my : Int → Int} {hd7 : Int → Int} {ww : Int → Int} {T : Int → Int} {B : Int → Int} {X7 : Int → Int} {sg : Int → Int} (hI : IV g n q s m kN kQ kG kp h hs ns qs gs sv sn np gp pn p rf rf7 nt) (hk : ¬ ((0 ≤ a1 ∧ a1 < n) ∧ (0 ≤ a2 ∧ a2 < n) ∧ a1 ≤ a2)) (kk : KK p_ l e_ s_ m_ ar_ bw_ mt_ cd_ D Q_ b_ i_ x0 h0 t0 n0 i0 d0 r0 p0 h1 t1 n1 i1 d1 r1 r2 p1 p2 p3 p4 p5 p6 m0 ms mh mn mp ml mm md mw mt mb mi mg cI cJ_ cZ cP) : GG p_ l e_ room_1 s_ m_ ar_ bw_ mt_ cd_ D vwCl (fun q => s_.heap.size ≤ q) (fun q => s_.heap.size ≤ q) s_.heap 8 42 1383 Q_ [(x0, .inr (5, [.ref h0, .ref t0, .ref n0, .ref i0, .ref d0, .ref r0, .ref p0, .int (iJ (hs)), .int (iJ (rf))])), (h0, .inr (2, [.ref h1, .int (iJ (n)), .int (iJ (q))])), (h1, cJ cI 32 (g)), (t0, .inr (2, [.ref t1, .int (iJ (nt)), .int (iJ (qt))])), (t1, cJ cI 32 (gt)), (n0, .inr (2, [.ref n1, .int (iJ (ns)), .int (iJ (qs))])), (n1, cJ cI 32 (gs)), (i0, .inr (0, [.ref i1, .int (iJ (m))])), (i1, cR cP 4 (hF xa)), ((xa 0), .inr (2, [.ref (ya 0), .int (iJ (kN 0)), .int (iJ (kQ 0))])), ((ya 0), cJ cI 32 (kG 0)), ((xa 1), .inr (2, [.ref (ya 1), .int (iJ (kN 1)), .int (iJ (kQ 1))])), ((ya 1), cJ cI 32 (kG 1)), ((xa 2), .inr (2, [.ref (ya 2), .int (iJ (kN 2)), .int (iJ (kQ 2))])), ((ya 2), cJ cI 32 (kG 2)), ((xa 3), .inr (2, [.ref (ya 3), .int (iJ (kN 3)), .int (iJ (kQ 3))])), ((ya 3), cJ cI 32 (kG 3)), (d0, .inr (1, [.ref d1, .int (iJ (np))])), (d1, cJ cI 60 (gp)), (r0, .inr (4, [.ref r1, .ref r2])), (r1, cJ cI 60 (S)), (r2, cJ cI 60 (X)), (p0, .inr (3, [.ref p1, .ref p2, .ref p3, .ref p4, .ref p5, .ref p6, .int (iJ (L_))])), (p1, cJ cI 32 (nrA)), (p2, cJ cI 32 (ow)), (p3, cJ cZ 32 (cA)), (p4, cJ cZ 32 (cU)), (p5, cJ cI 32 (hd)), (p6, cJ cI 132 (fw)), (m0, .inr (6, [.ref ms, .ref mh, .int (iJ (kp)), .ref mn, .int (iJ (sv)), .ref mp, .int (iJ (pn)), .int (iJ (rf7)), .ref ml, .ref mm, .ref md, .ref mw, .ref mt, .int (iJ (tl)), .ref mb, .ref mi, .ref mg])), (ms, cJ cI 34 (s)), (mh, cJ cI 136 (h)), (mn, cJ cI 34 (sn)), (mp, cJ cI 60 (p)), (ml, cJ cI 99 (le)), (mm, cL cJ_ 99 (my)), (md, cJ cI 32 (hd7)), (mw, cJ cI 32 (ww)), (mt, cJ cI 33 (T)), (mb, cJ cI 30 (B)), (mi, cJ cI 30 (X7)), (mg, cJ cI 4 (sg))] [(0, .ref b_), (1, .ref x0), (2, .ref m0), (3, .int (iJ i_))] 281 [] := by
  obtain ⟨iR, iH, iS, iP, iF, iT⟩ := hI
  have b_n := iR.1
  have b_q := iR.2.1
  have b_g := iR.hg
  have b_g3 := iR.hg3
  have b_s0 := iR.hs0
  have b_s1 := iR.hs1
  have b_sv := iR.hsv
  have b_m := iH.2.1
  have b_kN := iH.2.2.1
  have e_kp := iH.1
  have b_kp : 0 ≤ kp ∧ kp ≤ 4 := by rw [e_kp]; exact b_m
  have b_np := iP.2.1
  have e_pn := iP.1
  have b_pn : 0 ≤ pn ∧ pn ≤ 60 := by rw [e_pn]; exact b_np
  have b_pp : ∀ j : Int, 0 ≤ j → j < pn → 33 ≤ p j ∧ p j ≤ 126 := fun j t1 t2 => (iP.2.2 j t1 (by rw [← e_pn]; exact t2)).2
  have b_gp : ∀ j : Int, 0 ≤ j → j < np → 33 ≤ gp j ∧ gp j ≤ 126 := fun j t1 t2 => by rw [(iP.2.2 j t1 t2).1]; exact (iP.2.2 j t1 t2).2
  have b_ns := iS.2.2.1
  have e_sv := iS.1
  have e_s0 : s 0 = n := iR.2.2.1
  have e_s1 : s 1 = q := iR.2.2.2.1
  have hA : ∀ q : Nat, s_.heap.size ≤ q → (fun q : Nat => s_.heap.size ≤ q) q := fun _ t => t
  refine r_aload_n E 1 dL_law_281 rfl rfl ?_
  refine r_aload_n E 0 dL_law_282 rfl rfl ?_
  refine r_iload_n E 3 dL_law_283 rfl rfl ?_
  refine r_iconst E 1 rfl dL_law_284 ?_
  refine r_iadd E dL_law_285 ?_
  refine r_sld E hX hbl (Nat.not_le.mpr hbl) hL (i := (i_ + 1)) (by omega) a1 e1 dL_law_286 ?_
  refine r_aload_n E 0 dL_law_287 rfl rfl ?_
  refine r_iload_n E 3 dL_law_288 rfl rfl ?_
  refine r_iconst E 2 rfl dL_law_289 ?_
  refine r_iadd E dL_law_290 ?_
  refine r_sld E hX hbl (Nat.not_le.mpr hbl) hL (i := (i_ + 2)) (by omega) a2 e2 dL_law_291 ?_
  refine r_vP E (st := []) (c_X6_cutBad l D x0 h0 t0 n0 i0 d0 r0 p0 hs rf h1 cI g n q a1 a2 (by first | assumption | omega | exact ⟨by omega, by omega⟩) (by first | assumption | omega | exact ⟨by omega, by omega⟩) (by first | assumption | omega | exact ⟨by omega, by omega⟩) hk) gL_law_X6_cut 2 kf_X6_cut ⟨rfl, rfl⟩ ⟨Nat.le_of_ble_eq_true rfl, Nat.le_of_ble_eq_true rfl⟩ dL_law_292 rfl 0 rfl rfl rfl rfl ⟨Nat.le_of_ble_eq_true rfl, Nat.le_of_ble_eq_true rfl⟩ [0, 1, 2] rfl (by decide) [0] rfl (Nat.le_of_ble_eq_true rfl) ?_
  refine r_aload_n E 2 dL_law_295 rfl rfl ?_
  refine r_aload_n E 0 dL_law_296 rfl rfl ?_
  refine r_iload_n E 3 dL_law_297 rfl rfl ?_
  refine r_iconst E 1 rfl dL_law_298 ?_
  refine r_iadd E dL_law_299 ?_
  refine r_sld E hX hbl (Nat.not_le.mpr hbl) hL (i := (i_ + 1)) (by omega) a1 e1 dL_law_300 ?_
  refine r_aload_n E 0 dL_law_301 rfl rfl ?_
  refine r_iload_n E 3 dL_law_302 rfl rfl ?_
  refine r_iconst E 2 rfl dL_law_303 ?_
  refine r_iadd E dL_law_304 ?_
  refine r_sld E hX hbl (Nat.not_le.mpr hbl) hL (i := (i_ + 2)) (by omega) a2 e2 dL_law_305 ?_
  refine r_vP E (st := [.int (iJ (-1))]) (c_X7_cutBad l D m0 ms mh mn mp ml mm md mw mt mb mi mg cI kp sv pn rf7 tl s a1 a2 (by first | assumption | omega | exact ⟨by omega, by omega⟩) (by first | assumption | omega | exact ⟨by omega, by omega⟩) (by first | assumption | omega | exact ⟨by omega, by omega⟩) (by rw [e_s0]; exact hk)) gL_law_X7_cut 2 kf_X7_cut ⟨rfl, rfl⟩ ⟨Nat.le_of_ble_eq_true rfl, Nat.le_of_ble_eq_true rfl⟩ dL_law_306 rfl 29 rfl rfl rfl rfl ⟨Nat.le_of_ble_eq_true rfl, Nat.le_of_ble_eq_true rfl⟩ [29, 30] rfl (by decide) [0] rfl (Nat.le_of_ble_eq_true rfl) ?_
  refine r_top (b := -1) rfl ?_
  refine r_same E 885 dL_law_309 (by decide) ?_
  refine r_lv [0, 1, 2, 3] [(0, .ref b_), (1, .ref x0), (2, .ref m0), (3, .int (iJ (i_)))] rfl ?_
  exact kk hs rf n q g nt qt gt ns qs gs m xa ya kN kQ kG np gp S X L_ ow cA cU hd fw kp sv pn rf7 tl s h sn p le my hd7 ww T B X7 sg ⟨iR, iH, iS, iP, iF, iT⟩
set_option maxHeartbeats 4000000 in
set_option maxRecDepth 100000 in
theorem cL_3Ok {p_ : Program} {l : Launch} {e_ : Env} {s_ : State} {m_ : MethodId} {ar_ : Array Value} {bw_ : List Frame} {mt_ : Method} {cd_ : Code} {D : va_G} {Q_ : State → Prop} {b_ : Nat} {i_ : Int} {x0 h0 t0 n0 i0 d0 r0 p0 h1 t1 n1 i1 d1 r1 r2 p1 p2 p3 p4 p5 p6 m0 ms mh mn mp ml mm md mw mt mb mi mg : Nat} {cI cJ_ cZ cP : ClassId} (E : EE p_ s_ m_ ar_ mt_ cd_ D vwCl [(cI, .int), (cJ_, .long), (cZ, .boolean), (cP, .object "LeanSticks$Piece")] 8 cL_law RL wsL_law) {Ln : Nat} {xs : Nat → Int32} (hX : va_X b_ Ln xs s_ s_.heap) (hbl : b_ < s_.heap.size) (hL : Ln ≤ 2560) (hi : 0 ≤ i_ ∧ i_ + 4 < (Ln : Int)) {a1 : Int} (e1 : XS xs (i_ + 1) = a1) (j1 : jb a1) {a2 : Int} (e2 : XS xs (i_ + 2) = a2) (j2 : jb a2) {hs : Int} {rf : Int} {n : Int} {q : Int} {g : Int → Int} {nt : Int} {qt : Int} {gt : Int → Int} {ns : Int} {qs : Int} {gs : Int → Int} {m : Int} {xa : Nat → Nat} {ya : Nat → Nat} {kN : Nat → Int} {kQ : Nat → Int} {kG : Nat → Int → Int} {np : Int} {gp : Int → Int} {S : Int → Int} {X : Int → Int} {L_ : Int} {ow : Int → Int} {cA : Int → Int} {cU : Int → Int} {hd : Int → Int} {fw : Int → Int} {kp : Int} {sv : Int} {pn : Int} {rf7 : Int} {tl : Int} {s : Int → Int} {h : Int → Int} {sn : Int → Int} {p : Int → Int} {le : Int → Int} {my : Int → Int} {hd7 : Int → Int} {ww : Int → Int} {T : Int → Int} {B : Int → Int} {X7 : Int → Int} {sg : Int → Int} (hI : IV g n q s m kN kQ kG kp h hs ns qs gs sv sn np gp pn p rf rf7 nt) (hk : 0 ≤ a1 ∧ a1 ≤ a2 ∧ a2 < n) (kk : KK p_ l e_ s_ m_ ar_ bw_ mt_ cd_ D Q_ b_ i_ x0 h0 t0 n0 i0 d0 r0 p0 h1 t1 n1 i1 d1 r1 r2 p1 p2 p3 p4 p5 p6 m0 ms mh mn mp ml mm md mw mt mb mi mg cI cJ_ cZ cP) : GG p_ l e_ room_1 s_ m_ ar_ bw_ mt_ cd_ D vwCl (fun q => s_.heap.size ≤ q) (fun q => s_.heap.size ≤ q) s_.heap 8 42 1383 Q_ [(x0, .inr (5, [.ref h0, .ref t0, .ref n0, .ref i0, .ref d0, .ref r0, .ref p0, .int (iJ (hs)), .int (iJ (rf))])), (h0, .inr (2, [.ref h1, .int (iJ (n)), .int (iJ (q))])), (h1, cJ cI 32 (g)), (t0, .inr (2, [.ref t1, .int (iJ (nt)), .int (iJ (qt))])), (t1, cJ cI 32 (gt)), (n0, .inr (2, [.ref n1, .int (iJ (ns)), .int (iJ (qs))])), (n1, cJ cI 32 (gs)), (i0, .inr (0, [.ref i1, .int (iJ (m))])), (i1, cR cP 4 (hF xa)), ((xa 0), .inr (2, [.ref (ya 0), .int (iJ (kN 0)), .int (iJ (kQ 0))])), ((ya 0), cJ cI 32 (kG 0)), ((xa 1), .inr (2, [.ref (ya 1), .int (iJ (kN 1)), .int (iJ (kQ 1))])), ((ya 1), cJ cI 32 (kG 1)), ((xa 2), .inr (2, [.ref (ya 2), .int (iJ (kN 2)), .int (iJ (kQ 2))])), ((ya 2), cJ cI 32 (kG 2)), ((xa 3), .inr (2, [.ref (ya 3), .int (iJ (kN 3)), .int (iJ (kQ 3))])), ((ya 3), cJ cI 32 (kG 3)), (d0, .inr (1, [.ref d1, .int (iJ (np))])), (d1, cJ cI 60 (gp)), (r0, .inr (4, [.ref r1, .ref r2])), (r1, cJ cI 60 (S)), (r2, cJ cI 60 (X)), (p0, .inr (3, [.ref p1, .ref p2, .ref p3, .ref p4, .ref p5, .ref p6, .int (iJ (L_))])), (p1, cJ cI 32 (nrA)), (p2, cJ cI 32 (ow)), (p3, cJ cZ 32 (cA)), (p4, cJ cZ 32 (cU)), (p5, cJ cI 32 (hd)), (p6, cJ cI 132 (fw)), (m0, .inr (6, [.ref ms, .ref mh, .int (iJ (kp)), .ref mn, .int (iJ (sv)), .ref mp, .int (iJ (pn)), .int (iJ (rf7)), .ref ml, .ref mm, .ref md, .ref mw, .ref mt, .int (iJ (tl)), .ref mb, .ref mi, .ref mg])), (ms, cJ cI 34 (s)), (mh, cJ cI 136 (h)), (mn, cJ cI 34 (sn)), (mp, cJ cI 60 (p)), (ml, cJ cI 99 (le)), (mm, cL cJ_ 99 (my)), (md, cJ cI 32 (hd7)), (mw, cJ cI 32 (ww)), (mt, cJ cI 33 (T)), (mb, cJ cI 30 (B)), (mi, cJ cI 30 (X7)), (mg, cJ cI 4 (sg))] [(0, .ref b_), (1, .ref x0), (2, .ref m0), (3, .int (iJ i_))] 281 [] := by
  obtain ⟨iR, iH, iS, iP, iF, iT⟩ := hI
  have b_n := iR.1
  have b_q := iR.2.1
  have b_g := iR.hg
  have b_g3 := iR.hg3
  have b_s0 := iR.hs0
  have b_s1 := iR.hs1
  have b_sv := iR.hsv
  have b_m := iH.2.1
  have b_kN := iH.2.2.1
  have e_kp := iH.1
  have b_kp : 0 ≤ kp ∧ kp ≤ 4 := by rw [e_kp]; exact b_m
  have b_np := iP.2.1
  have e_pn := iP.1
  have b_pn : 0 ≤ pn ∧ pn ≤ 60 := by rw [e_pn]; exact b_np
  have b_pp : ∀ j : Int, 0 ≤ j → j < pn → 33 ≤ p j ∧ p j ≤ 126 := fun j t1 t2 => (iP.2.2 j t1 (by rw [← e_pn]; exact t2)).2
  have b_gp : ∀ j : Int, 0 ≤ j → j < np → 33 ≤ gp j ∧ gp j ≤ 126 := fun j t1 t2 => by rw [(iP.2.2 j t1 t2).1]; exact (iP.2.2 j t1 t2).2
  have b_ns := iS.2.2.1
  have e_sv := iS.1
  have e_s0 : s 0 = n := iR.2.2.1
  have e_s1 : s 1 = q := iR.2.2.2.1
  have hA : ∀ q : Nat, s_.heap.size ≤ q → (fun q : Nat => s_.heap.size ≤ q) q := fun _ t => t
  refine r_aload_n E 1 dL_law_281 rfl rfl ?_
  refine r_aload_n E 0 dL_law_282 rfl rfl ?_
  refine r_iload_n E 3 dL_law_283 rfl rfl ?_
  refine r_iconst E 1 rfl dL_law_284 ?_
  refine r_iadd E dL_law_285 ?_
  refine r_sld E hX hbl (Nat.not_le.mpr hbl) hL (i := (i_ + 1)) (by omega) a1 e1 dL_law_286 ?_
  refine r_aload_n E 0 dL_law_287 rfl rfl ?_
  refine r_iload_n E 3 dL_law_288 rfl rfl ?_
  refine r_iconst E 2 rfl dL_law_289 ?_
  refine r_iadd E dL_law_290 ?_
  refine r_sld E hX hbl (Nat.not_le.mpr hbl) hL (i := (i_ + 2)) (by omega) a2 e2 dL_law_291 ?_
  refine r_vM E (st := []) (c_X6_cut l D x0 h0 t0 n0 i0 d0 r0 p0 hs rf h1 cI g n q i1 cP xa ya kN kQ kG m a1 a2 (by first | assumption | omega | exact ⟨by omega, by omega⟩) (by first | assumption | omega | exact ⟨by omega, by omega⟩) (by first | assumption | omega | exact ⟨by omega, by omega⟩) hk) gL_law_X6_cut 2 kf_X6_cut ⟨rfl, rfl⟩ ⟨Nat.le_of_ble_eq_true rfl, Nat.le_of_ble_eq_true rfl⟩ dL_law_292 rfl 0 rfl rfl rfl rfl ⟨Nat.le_of_ble_eq_true rfl, Nat.le_of_ble_eq_true rfl⟩ [0, 1, 2, 7, 8, 9, 10, 11, 12, 13, 14, 15, 16] rfl (by decide) [0, 3] rfl (Nat.le_of_ble_eq_true rfl) [(t0, .inr (2, [.ref t1, .int (iJ (nt)), .int (iJ (qt))])), (t1, cJ cI 32 (gt)), (n0, .inr (2, [.ref n1, .int (iJ (ns)), .int (iJ (qs))])), (n1, cJ cI 32 (gs)), (d0, .inr (1, [.ref d1, .int (iJ (np))])), (d1, cJ cI 60 (gp)), (r0, .inr (4, [.ref r1, .ref r2])), (r1, cJ cI 60 (S)), (r2, cJ cI 60 (X)), (p0, .inr (3, [.ref p1, .ref p2, .ref p3, .ref p4, .ref p5, .ref p6, .int (iJ (L_))])), (p1, cJ cI 32 (nrA)), (p2, cJ cI 32 (ow)), (p3, cJ cZ 32 (cA)), (p4, cJ cZ 32 (cU)), (p5, cJ cI 32 (hd)), (p6, cJ cI 132 (fw)), (m0, .inr (6, [.ref ms, .ref mh, .int (iJ (kp)), .ref mn, .int (iJ (sv)), .ref mp, .int (iJ (pn)), .int (iJ (rf7)), .ref ml, .ref mm, .ref md, .ref mw, .ref mt, .int (iJ (tl)), .ref mb, .ref mi, .ref mg])), (ms, cJ cI 34 (s)), (mh, cJ cI 136 (h)), (mn, cJ cI 34 (sn)), (mp, cJ cI 60 (p)), (ml, cJ cI 99 (le)), (mm, cL cJ_ 99 (my)), (md, cJ cI 32 (hd7)), (mw, cJ cI 32 (ww)), (mt, cJ cI 33 (T)), (mb, cJ cI 30 (B)), (mi, cJ cI 30 (X7)), (mg, cJ cI 4 (sg))] [3, 4, 5, 6, 17, 18, 19, 20, 21, 22, 23, 24, 25, 26, 27, 28, 29, 30, 31, 32, 33, 34, 35, 36, 37, 38, 39, 40, 41] rfl (by decide) (by decide) hA [29, 30, 31, 0, 1, 2, 3, 32, 33, 34, 35, 36, 37, 38, 39, 40, 41, 4, 5, 6, 7, 8, 9, 10, 11, 12, 13, 14, 15, 16, 17, 18, 19, 20, 21, 22, 23, 24, 25, 26, 27, 28] (by decide) (fun u : (Nat → Nat) × (Nat → Nat) × (Nat → Int) × (Nat → Int) × (Nat → Int → Int) × Int => [(x0, .inr (5, [.ref h0, .ref t0, .ref n0, .ref i0, .ref d0, .ref r0, .ref p0, .int (iJ (hs)), .int (iJ (rf))])), (h0, .inr (2, [.ref h1, .int (iJ ((n - (a2 - a1 + 1)))), .int (iJ (q))])), (h1, cJ cI 32 (pRm g n a1 a2)), (t0, .inr (2, [.ref t1, .int (iJ (nt)), .int (iJ (qt))])), (t1, cJ cI 32 (gt)), (n0, .inr (2, [.ref n1, .int (iJ (ns)), .int (iJ (qs))])), (n1, cJ cI 32 (gs)), (i0, .inr (0, [.ref i1, .int (iJ (u.2.2.2.2.2))])), (i1, cR cP 4 (hF u.1)), ((u.1 0), .inr (2, [.ref (u.2.1 0), .int (iJ (u.2.2.1 0)), .int (iJ (u.2.2.2.1 0))])), ((u.2.1 0), cJ cI 32 (u.2.2.2.2.1 0)), ((u.1 1), .inr (2, [.ref (u.2.1 1), .int (iJ (u.2.2.1 1)), .int (iJ (u.2.2.2.1 1))])), ((u.2.1 1), cJ cI 32 (u.2.2.2.2.1 1)), ((u.1 2), .inr (2, [.ref (u.2.1 2), .int (iJ (u.2.2.1 2)), .int (iJ (u.2.2.2.1 2))])), ((u.2.1 2), cJ cI 32 (u.2.2.2.2.1 2)), ((u.1 3), .inr (2, [.ref (u.2.1 3), .int (iJ (u.2.2.1 3)), .int (iJ (u.2.2.2.1 3))])), ((u.2.1 3), cJ cI 32 (u.2.2.2.2.1 3)), (d0, .inr (1, [.ref d1, .int (iJ (np))])), (d1, cJ cI 60 (gp)), (r0, .inr (4, [.ref r1, .ref r2])), (r1, cJ cI 60 (S)), (r2, cJ cI 60 (X)), (p0, .inr (3, [.ref p1, .ref p2, .ref p3, .ref p4, .ref p5, .ref p6, .int (iJ (L_))])), (p1, cJ cI 32 (nrA)), (p2, cJ cI 32 (ow)), (p3, cJ cZ 32 (cA)), (p4, cJ cZ 32 (cU)), (p5, cJ cI 32 (hd)), (p6, cJ cI 132 (fw)), (m0, .inr (6, [.ref ms, .ref mh, .int (iJ (kp)), .ref mn, .int (iJ (sv)), .ref mp, .int (iJ (pn)), .int (iJ (rf7)), .ref ml, .ref mm, .ref md, .ref mw, .ref mt, .int (iJ (tl)), .ref mb, .ref mi, .ref mg])), (ms, cJ cI 34 (s)), (mh, cJ cI 136 (h)), (mn, cJ cI 34 (sn)), (mp, cJ cI 60 (p)), (ml, cJ cI 99 (le)), (mm, cL cJ_ 99 (my)), (md, cJ cI 32 (hd7)), (mw, cJ cI 32 (ww)), (mt, cJ cI 33 (T)), (mb, cJ cI 30 (B)), (mi, cJ cI 30 (X7)), (mg, cJ cI 4 (sg))]) (fun _ => rfl) ?_
  rintro ⟨xa2_1, ya2_2, kN2_3, kQ2_4, kG2_5, m2_6⟩ hp_7
  refine r_cv (ws2 := [(x0, .inr (5, [.ref h0, .ref t0, .ref n0, .ref i0, .ref d0, .ref r0, .ref p0, .int (iJ (hs)), .int (iJ (rf))])), (h0, .inr (2, [.ref h1, .int (iJ ((n - (a2 - a1 + 1)))), .int (iJ (q))])), (h1, cJ cI 32 (pRm g n a1 a2)), (t0, .inr (2, [.ref t1, .int (iJ (nt)), .int (iJ (qt))])), (t1, cJ cI 32 (gt)), (n0, .inr (2, [.ref n1, .int (iJ (ns)), .int (iJ (qs))])), (n1, cJ cI 32 (gs)), (i0, .inr (0, [.ref i1, .int (iJ (m2_6))])), (i1, cR cP 4 (hF xa2_1)), ((xa2_1 0), .inr (2, [.ref (ya2_2 0), .int (iJ (kN2_3 0)), .int (iJ (kQ2_4 0))])), ((ya2_2 0), cJ cI 32 (kG2_5 0)), ((xa2_1 1), .inr (2, [.ref (ya2_2 1), .int (iJ (kN2_3 1)), .int (iJ (kQ2_4 1))])), ((ya2_2 1), cJ cI 32 (kG2_5 1)), ((xa2_1 2), .inr (2, [.ref (ya2_2 2), .int (iJ (kN2_3 2)), .int (iJ (kQ2_4 2))])), ((ya2_2 2), cJ cI 32 (kG2_5 2)), ((xa2_1 3), .inr (2, [.ref (ya2_2 3), .int (iJ (kN2_3 3)), .int (iJ (kQ2_4 3))])), ((ya2_2 3), cJ cI 32 (kG2_5 3)), (d0, .inr (1, [.ref d1, .int (iJ (np))])), (d1, cJ cI 60 (gp)), (r0, .inr (4, [.ref r1, .ref r2])), (r1, cJ cI 60 (S)), (r2, cJ cI 60 (X)), (p0, .inr (3, [.ref p1, .ref p2, .ref p3, .ref p4, .ref p5, .ref p6, .int (iJ (L_))])), (p1, cJ cI 32 (nrA)), (p2, cJ cI 32 (ow)), (p3, cJ cZ 32 (cA)), (p4, cJ cZ 32 (cU)), (p5, cJ cI 32 (hd)), (p6, cJ cI 132 (fw)), (m0, .inr (6, [.ref ms, .ref mh, .int (iJ (kp)), .ref mn, .int (iJ (sv)), .ref mp, .int (iJ (pn)), .int (iJ (rf7)), .ref ml, .ref mm, .ref md, .ref mw, .ref mt, .int (iJ (tl)), .ref mb, .ref mi, .ref mg])), (ms, cJ cI 34 (s)), (mh, cJ cI 136 (h)), (mn, cJ cI 34 (sn)), (mp, cJ cI 60 (p)), (ml, cJ cI 99 (le)), (mm, cL cJ_ 99 (my)), (md, cJ cI 32 (hd7)), (mw, cJ cI 32 (ww)), (mt, cJ cI 33 (T)), (mb, cJ cI 30 (B)), (mi, cJ cI 30 (X7)), (mg, cJ cI 4 (sg))]) (st2 := [.int (iJ (n - (a2 - a1 + 1)))]) rfl rfl rfl ?_
  have hpu := hp_7
  try dsimp only at hpu
  refine r_aload_n E 2 dL_law_295 rfl rfl ?_
  refine r_aload_n E 0 dL_law_296 rfl rfl ?_
  refine r_iload_n E 3 dL_law_297 rfl rfl ?_
  refine r_iconst E 1 rfl dL_law_298 ?_
  refine r_iadd E dL_law_299 ?_
  refine r_sld E hX hbl (Nat.not_le.mpr hbl) hL (i := (i_ + 1)) (by omega) a1 e1 dL_law_300 ?_
  refine r_aload_n E 0 dL_law_301 rfl rfl ?_
  refine r_iload_n E 3 dL_law_302 rfl rfl ?_
  refine r_iconst E 2 rfl dL_law_303 ?_
  refine r_iadd E dL_law_304 ?_
  refine r_sld E hX hbl (Nat.not_le.mpr hbl) hL (i := (i_ + 2)) (by omega) a2 e2 dL_law_305 ?_
  refine r_vM E (st := [.int (iJ (n - (a2 - a1 + 1)))]) (c_X7_cut l D m0 ms mh mn mp ml mm md mw mt mb mi mg cI kp sv pn rf7 tl s h a1 a2 (by first | assumption | omega | exact ⟨by omega, by omega⟩) (by first | assumption | omega | exact ⟨by omega, by omega⟩) (by rw [e_s0]; exact hk)) gL_law_X7_cut 2 kf_X7_cut ⟨rfl, rfl⟩ ⟨Nat.le_of_ble_eq_true rfl, Nat.le_of_ble_eq_true rfl⟩ dL_law_306 rfl 29 rfl rfl rfl rfl ⟨Nat.le_of_ble_eq_true rfl, Nat.le_of_ble_eq_true rfl⟩ [29, 30, 31] rfl (by decide) [0] rfl (Nat.le_of_ble_eq_true rfl) [(x0, .inr (5, [.ref h0, .ref t0, .ref n0, .ref i0, .ref d0, .ref r0, .ref p0, .int (iJ (hs)), .int (iJ (rf))])), (h0, .inr (2, [.ref h1, .int (iJ ((n - (a2 - a1 + 1)))), .int (iJ (q))])), (h1, cJ cI 32 (pRm g n a1 a2)), (t0, .inr (2, [.ref t1, .int (iJ (nt)), .int (iJ (qt))])), (t1, cJ cI 32 (gt)), (n0, .inr (2, [.ref n1, .int (iJ (ns)), .int (iJ (qs))])), (n1, cJ cI 32 (gs)), (i0, .inr (0, [.ref i1, .int (iJ (m2_6))])), (i1, cR cP 4 (hF xa2_1)), ((xa2_1 0), .inr (2, [.ref (ya2_2 0), .int (iJ (kN2_3 0)), .int (iJ (kQ2_4 0))])), ((ya2_2 0), cJ cI 32 (kG2_5 0)), ((xa2_1 1), .inr (2, [.ref (ya2_2 1), .int (iJ (kN2_3 1)), .int (iJ (kQ2_4 1))])), ((ya2_2 1), cJ cI 32 (kG2_5 1)), ((xa2_1 2), .inr (2, [.ref (ya2_2 2), .int (iJ (kN2_3 2)), .int (iJ (kQ2_4 2))])), ((ya2_2 2), cJ cI 32 (kG2_5 2)), ((xa2_1 3), .inr (2, [.ref (ya2_2 3), .int (iJ (kN2_3 3)), .int (iJ (kQ2_4 3))])), ((ya2_2 3), cJ cI 32 (kG2_5 3)), (d0, .inr (1, [.ref d1, .int (iJ (np))])), (d1, cJ cI 60 (gp)), (r0, .inr (4, [.ref r1, .ref r2])), (r1, cJ cI 60 (S)), (r2, cJ cI 60 (X)), (p0, .inr (3, [.ref p1, .ref p2, .ref p3, .ref p4, .ref p5, .ref p6, .int (iJ (L_))])), (p1, cJ cI 32 (nrA)), (p2, cJ cI 32 (ow)), (p3, cJ cZ 32 (cA)), (p4, cJ cZ 32 (cU)), (p5, cJ cI 32 (hd)), (p6, cJ cI 132 (fw)), (mn, cJ cI 34 (sn)), (mp, cJ cI 60 (p)), (ml, cJ cI 99 (le)), (mm, cL cJ_ 99 (my)), (md, cJ cI 32 (hd7)), (mw, cJ cI 32 (ww)), (mt, cJ cI 33 (T)), (mb, cJ cI 30 (B)), (mi, cJ cI 30 (X7)), (mg, cJ cI 4 (sg))] [0, 1, 2, 3, 4, 5, 6, 7, 8, 9, 10, 11, 12, 13, 14, 15, 16, 17, 18, 19, 20, 21, 22, 23, 24, 25, 26, 27, 28, 32, 33, 34, 35, 36, 37, 38, 39, 40, 41] rfl (by decide) (by decide) hA [0, 1, 2, 3, 4, 5, 6, 7, 8, 9, 10, 11, 12, 13, 14, 15, 16, 17, 18, 19, 20, 21, 22, 23, 24, 25, 26, 27, 28, 39, 40, 41, 29, 30, 31, 32, 33, 34, 35, 36, 37, 38] (by decide) (fun (_ : Unit) => [(x0, .inr (5, [.ref h0, .ref t0, .ref n0, .ref i0, .ref d0, .ref r0, .ref p0, .int (iJ (hs)), .int (iJ (rf))])), (h0, .inr (2, [.ref h1, .int (iJ ((n - (a2 - a1 + 1)))), .int (iJ (q))])), (h1, cJ cI 32 (pRm g n a1 a2)), (t0, .inr (2, [.ref t1, .int (iJ (nt)), .int (iJ (qt))])), (t1, cJ cI 32 (gt)), (n0, .inr (2, [.ref n1, .int (iJ (ns)), .int (iJ (qs))])), (n1, cJ cI 32 (gs)), (i0, .inr (0, [.ref i1, .int (iJ (m2_6))])), (i1, cR cP 4 (hF xa2_1)), ((xa2_1 0), .inr (2, [.ref (ya2_2 0), .int (iJ (kN2_3 0)), .int (iJ (kQ2_4 0))])), ((ya2_2 0), cJ cI 32 (kG2_5 0)), ((xa2_1 1), .inr (2, [.ref (ya2_2 1), .int (iJ (kN2_3 1)), .int (iJ (kQ2_4 1))])), ((ya2_2 1), cJ cI 32 (kG2_5 1)), ((xa2_1 2), .inr (2, [.ref (ya2_2 2), .int (iJ (kN2_3 2)), .int (iJ (kQ2_4 2))])), ((ya2_2 2), cJ cI 32 (kG2_5 2)), ((xa2_1 3), .inr (2, [.ref (ya2_2 3), .int (iJ (kN2_3 3)), .int (iJ (kQ2_4 3))])), ((ya2_2 3), cJ cI 32 (kG2_5 3)), (d0, .inr (1, [.ref d1, .int (iJ (np))])), (d1, cJ cI 60 (gp)), (r0, .inr (4, [.ref r1, .ref r2])), (r1, cJ cI 60 (S)), (r2, cJ cI 60 (X)), (p0, .inr (3, [.ref p1, .ref p2, .ref p3, .ref p4, .ref p5, .ref p6, .int (iJ (L_))])), (p1, cJ cI 32 (nrA)), (p2, cJ cI 32 (ow)), (p3, cJ cZ 32 (cA)), (p4, cJ cZ 32 (cU)), (p5, cJ cI 32 (hd)), (p6, cJ cI 132 (fw)), (m0, .inr (6, [.ref ms, .ref mh, .int (iJ (rcK kp)), .ref mn, .int (iJ (sv)), .ref mp, .int (iJ (pn)), .int (iJ (rf7)), .ref ml, .ref mm, .ref md, .ref mw, .ref mt, .int (iJ (tl)), .ref mb, .ref mi, .ref mg])), (ms, cJ cI 34 (mcU s a1 a2)), (mh, cJ cI 136 (rcH s h kp)), (mn, cJ cI 34 (sn)), (mp, cJ cI 60 (p)), (ml, cJ cI 99 (le)), (mm, cL cJ_ 99 (my)), (md, cJ cI 32 (hd7)), (mw, cJ cI 32 (ww)), (mt, cJ cI 33 (T)), (mb, cJ cI 30 (B)), (mi, cJ cI 30 (X7)), (mg, cJ cI 4 (sg))]) (fun _ => rfl) ?_
  rintro ⟨⟩ hp_8
  refine r_top (b := n - (a2 - a1 + 1)) (by rw [e_s0]) ?_
  refine r_same E 885 dL_law_309 (by decide) ?_
  refine r_lv [0, 1, 2, 3] [(0, .ref b_), (1, .ref x0), (2, .ref m0), (3, .int (iJ (i_)))] rfl ?_
  exact kk hs rf (n - (a2 - a1 + 1)) q (pRm g n a1 a2) nt qt gt ns qs gs m2_6 xa2_1 ya2_2 kN2_3 kQ2_4 kG2_5 np gp S X L_ ow cA cU hd fw (rcK kp) sv pn rf7 tl (mcU s a1 a2) (rcH s h kp) sn p le my hd7 ww T B X7 sg ⟨(iR.cut hk), (iH.push iR hpu), iS, iP, iF, iT⟩
