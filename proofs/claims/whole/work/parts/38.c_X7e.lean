theorem kf_X7_layFrom : KF yX7_layFrom 2 wsX7_layFrom cX7_layFrom 6 none := ⟨rfl, by decide +kernel, by decide +kernel, by decide +kernel⟩
def rm_X7_layFrom : Room := { frames := 6, cells := 0, slots := 0, locals := 140 }
set_option maxRecDepth 20000 in
theorem in_X7_layFrom_X7 : ∀ w ∈ u_ws RX7 TX7 17, w ∈ wsX7_layFrom := by decide +kernel
set_option maxRecDepth 20000 in
theorem lk_X7_layFrom_22 : Cond.fieldLink RX7 22 (TX7 8).1 (TX7 8).2.1 (TX7 8).2.2.1 ∈ wsX7_layFrom := by decide +kernel
set_option maxRecDepth 20000 in
theorem lk_X7_layFrom_25 : Cond.fieldLink RX7 25 (TX7 9).1 (TX7 9).2.1 (TX7 9).2.2.1 ∈ wsX7_layFrom := by decide +kernel
set_option maxHeartbeats 1000000 in
set_option maxRecDepth 100000 in
theorem c_X7_layFrom (l : Launch) (D : va_G) (m0 : Nat) (ms : Nat) (mh : Nat) (mn : Nat) (mp : Nat) (ml : Nat) (mm : Nat) (md : Nat) (mw : Nat) (mt : Nat) (mb : Nat) (mi : Nat) (mg : Nat) (cI : ClassId) (kp : Int) (sv : Int) (pn : Int) (rf : Int) (tl : Int) (cJ_ : ClassId) (s : Int → Int) (le : Int → Int) (my : Int → Int) (a : Int) (b : Int) (hs1 : 1 ≤ s 1 ∧ s 1 ≤ 4) (ha : 0 ≤ a ∧ a ≤ 31) (hca : 0 ≤ s (2 + a) ∧ s (2 + a) ≤ 24) (hcp : 0 < a → 0 ≤ s (2 + (a - 1)) ∧ s (2 + (a - 1)) ≤ 24) (hb : 0 ≤ b ∧ b ≤ 2) (hl : ∀ j : Int, 3 * a + 3 ≤ j → j < 3 * a + 6 → 0 ≤ le j ∧ le j ≤ 1000) : MV (S := Unit) l yX7_layFrom wsX7_layFrom rm_X7_layFrom D vwCl [.ref m0, .int (iJ (a)), .int (iJ (b))] [(m0, .inr (6, [.ref ms, .ref mh, .int (iJ (kp)), .ref mn, .int (iJ (sv)), .ref mp, .int (iJ (pn)), .int (iJ (rf)), .ref ml, .ref mm, .ref md, .ref mw, .ref mt, .int (iJ (tl)), .ref mb, .ref mi, .ref mg])), (ms, cJ cI 34 (s)), (ml, cJ cI 99 (le)), (mm, cL cJ_ 99 (my))] [(cI, .int), (cJ_, .long)] (fun (_ : Unit) => True) (fun (_ : Unit) => [(m0, .inr (6, [.ref ms, .ref mh, .int (iJ (kp)), .ref mn, .int (iJ (sv)), .ref mp, .int (iJ (pn)), .int (iJ (rf)), .ref ml, .ref mm, .ref md, .ref mw, .ref mt, .int (iJ (tl)), .ref mb, .ref mi, .ref mg])), (ms, cJ cI 34 (s)), (ml, cJ cI 99 (uJ le (3 * a + b) (lfV s le a b))), (mm, cL cJ_ 99 (uJ my (3 * a + b) (lmV s my a b)))]) := by
  refine MV.mk (cc := cX7_layFrom) (maxL := 6) (ret := none) (by decide) rfl (Nat.le_of_ble_eq_true rfl) rfl RX7 rfl ?_
  intro p_ e_ s_ m_ ar_ bw_ mt_ cd_ B_ Q_ hA E hr hQ
  refine r_iconst E 3 rfl dX7_layFrom_0 ?_
  refine r_iload_n E 1 dX7_layFrom_1 rfl rfl ?_
  refine r_imul E dX7_layFrom_2 ?_
  refine r_iload_n E 2 dX7_layFrom_3 rfl rfl ?_
  refine r_iadd E dX7_layFrom_4 ?_
  refine r_istore_n E [(3, .int (iJ (((3 * a) + b)))), (0, .ref m0), (1, .int (iJ (a))), (2, .int (iJ (b)))] dX7_layFrom_5 rfl (by decide) rfl ?_
  refine r_aload_n E 1 dX7_layFrom_6 rfl rfl ?_
  refine r_get E 6 0 8 dX7_layFrom_7 in_X7_layFrom_X7 lk_X7_layFrom_22 rfl rfl (by decide) rfl ?_
  refine r_iload_n E 0 dX7_layFrom_10 rfl rfl ?_
  refine r_sipush E 1000 rfl dX7_layFrom_11 ?_
  refine r_iast E (i := ((3 * a) + b)) 2 0 dX7_layFrom_14 rfl rfl (by decide) ⟨by omega, by omega⟩ [(m0, .inr (6, [.ref ms, .ref mh, .int (iJ (kp)), .ref mn, .int (iJ (sv)), .ref mp, .int (iJ (pn)), .int (iJ (rf)), .ref ml, .ref mm, .ref md, .ref mw, .ref mt, .int (iJ (tl)), .ref mb, .ref mi, .ref mg])), (ms, cJ cI 34 (s)), (ml, cJ cI 99 (uJ le ((3 * a) + b) 1000)), (mm, cL cJ_ 99 (my))] rfl ?_
  refine r_aload_n E 1 dX7_layFrom_15 rfl rfl ?_
  refine r_get E 6 0 9 dX7_layFrom_16 in_X7_layFrom_X7 lk_X7_layFrom_25 rfl rfl (by decide) rfl ?_
  refine r_iload_n E 0 dX7_layFrom_19 rfl rfl ?_
  refine r_lconst E 0 rfl dX7_layFrom_20 ?_
  refine r_last E (i := ((3 * a) + b)) 3 1 dX7_layFrom_21 rfl rfl (by decide) ⟨by omega, by omega⟩ [(m0, .inr (6, [.ref ms, .ref mh, .int (iJ (kp)), .ref mn, .int (iJ (sv)), .ref mp, .int (iJ (pn)), .int (iJ (rf)), .ref ml, .ref mm, .ref md, .ref mw, .ref mt, .int (iJ (tl)), .ref mb, .ref mi, .ref mg])), (ms, cJ cI 34 (s)), (ml, cJ cI 99 (uJ le ((3 * a) + b) 1000)), (mm, cL cJ_ 99 (uJ my ((3 * a) + b) 0))] rfl ?_
  refine r_aload_n E 1 dX7_layFrom_22 rfl rfl ?_
  refine r_iload_n E 2 dX7_layFrom_23 rfl rfl ?_
  refine r_vP E (st := []) (c_X7_isStroke l D m0 ms mh mn mp ml mm md mw mt mb mi mg cI kp sv pn rf tl s a (by first | assumption | omega | exact ⟨by omega, by omega⟩) (by first | assumption | omega | exact ⟨by omega, by omega⟩)) gX7_layFrom_X7_isStroke 1 kf_X7_isStroke ⟨rfl, rfl⟩ ⟨by decide, by decide⟩ dX7_layFrom_24 rfl 0 rfl rfl rfl rfl ⟨Nat.zero_le _, Nat.zero_le _⟩ [0, 1] rfl (by decide) [0] rfl (Nat.le_of_ble_eq_true rfl) ?_
  refine r_ifne_n E 59 dX7_layFrom_27 (by decide) (fun c_27 => ?_) (fun c_27 => ?_)
  · refine r_iconst E 0 rfl dX7_layFrom_59 ?_
    refine r_istore E [(4, .int (iJ (0))), (3, .int (iJ (((3 * a) + b)))), (0, .ref m0), (1, .int (iJ (a))), (2, .int (iJ (b)))] dX7_layFrom_60 (by decide) rfl ?_
    have loop_62 : ∀ (N : Nat) (k : Int) (G : Int → Int) (M : Int → Int), (0 ≤ k ∧ k ≤ 2) → (G = uJ le (3 * a + b) (lfF s a b (fun h => le (3 * a + 3 + h)) k.toNat)) → (M = uJ my (3 * a + b) (lmF s a b (fun h => my (3 * a + 3 + h)) k.toNat)) → (2 - k).toNat < N → GG p_ l e_ rm_X7_layFrom s_ m_ ar_ bw_ mt_ cd_ D vwCl B_ B_ s_.heap 6 0 0 Q_ [(m0, .inr (6, [.ref ms, .ref mh, .int (iJ (kp)), .ref mn, .int (iJ (sv)), .ref mp, .int (iJ (pn)), .int (iJ (rf)), .ref ml, .ref mm, .ref md, .ref mw, .ref mt, .int (iJ (tl)), .ref mb, .ref mi, .ref mg])), (ms, cJ cI 34 (s)), (ml, cJ cI 99 (G)), (mm, cL cJ_ 99 (M))] [(0, .ref m0), (1, .int (iJ (a))), (2, .int (iJ (b))), (3, .int (iJ (((3 * a) + b)))), (4, .int (iJ (k)))] 62 [] := by
      intro N; induction N with
      | zero => intro k G M hk hG hM hN; exact absurd hN (Nat.not_lt_zero _)
      | succ N ih62 =>
        intro k G M hk hG hM hN
        refine r_iload E 4 dX7_layFrom_62 rfl ?_
        refine r_iconst E 2 rfl dX7_layFrom_64 ?_
        refine r_icmp_ge E 162 dX7_layFrom_65 (by decide) ⟨by omega, by omega⟩ ⟨by omega, by omega⟩ (fun c_65 => ?_) (fun c_65 => ?_)
        · exact r_retMV E () hr dX7_layFrom_162 trivial (by
                have ek : k.toNat = 2 := by omega
                unfold lfV lmV; rw [if_neg c_27, if_neg c_27, hG, hM, ek]) hQ
        · refine r_aload_n E 0 dX7_layFrom_68 rfl rfl ?_
          refine r_iload_n E 1 dX7_layFrom_69 rfl rfl ?_
          refine r_iload_n E 2 dX7_layFrom_70 rfl rfl ?_
          refine r_iload E 4 dX7_layFrom_71 rfl ?_
          refine r_vP E (st := []) (c_X7_can l D m0 ms mh mn mp ml mm md mw mt mb mi mg cI kp sv pn rf tl s a b k (by first | assumption | omega | exact ⟨by omega, by omega⟩) (by first | assumption | omega | exact ⟨by omega, by omega⟩) (by first | assumption | omega | exact ⟨by omega, by omega⟩) (by first | assumption | omega | exact ⟨by omega, by omega⟩) (by first | assumption | omega | exact ⟨by omega, by omega⟩) (by first | assumption | omega | exact ⟨by omega, by omega⟩)) gX7_layFrom_X7_can 3 kf_X7_can ⟨rfl, rfl⟩ ⟨by decide, by decide⟩ dX7_layFrom_73 rfl 0 rfl rfl rfl rfl ⟨Nat.zero_le _, Nat.zero_le _⟩ [0, 1] rfl (by decide) [0] rfl (Nat.le_of_ble_eq_true rfl) ?_
          refine r_ifeq_b E 156 dX7_layFrom_76 (by decide) (fun c_76 => ?_) (fun c_76 => ?_)
          · refine r_iinc E (k := 4) [(4, .int (iJ ((k + 1)))), (0, .ref m0), (1, .int (iJ (a))), (2, .int (iJ (b))), (3, .int (iJ (((3 * a) + b))))] dX7_layFrom_156 rfl (by decide) rfl ?_
            refine r_goto E 62 dX7_layFrom_159 (by decide) ?_
            refine r_lv [1, 2, 3, 4, 0] [(0, .ref m0), (1, .int (iJ (a))), (2, .int (iJ (b))), (3, .int (iJ (((3 * a) + b)))), (4, .int (iJ ((k + 1))))] rfl ?_
            exact ih62 (k + 1) G M ⟨by omega, by omega⟩ (by
                  rw [lfF_s _ _ _ _ (by omega), hG]; try rw [uJ_u]
                  first
                  | (rw [if_neg (fun z => c_76 z.1)]; done)
                  | (rw [if_pos c_95]; first | (rw [if_pos ⟨c_76, by omega⟩]; done) | (rw [if_neg (fun z => absurd z.2 (by omega))]; done))
                  | (rw [if_neg c_95]; first | (rw [if_pos ⟨c_76, by omega⟩]; done) | (rw [if_neg (fun z => absurd z.2 (by omega))]; done))) (by
                  rw [lmF_s _ _ _ _ (by omega), hM]; try rw [uJ_u]
                  first | (rw [if_neg c_76, Int.add_zero]; done) | (rw [if_pos c_76]; done)) (by omega)
          · have f_l := hl (3 * a + 3 + k) (by omega) (by omega)
            refine r_aload_n E 0 dX7_layFrom_79 rfl rfl ?_
            refine r_get E 6 0 8 dX7_layFrom_80 in_X7_layFrom_X7 lk_X7_layFrom_22 rfl rfl (by decide) rfl ?_
            refine r_iconst E 3 rfl dX7_layFrom_83 ?_
            refine r_iload_n E 1 dX7_layFrom_84 rfl rfl ?_
            refine r_imul E dX7_layFrom_85 ?_
            refine r_iconst E 3 rfl dX7_layFrom_86 ?_
            refine r_iadd E dX7_layFrom_87 ?_
            refine r_iload E 4 dX7_layFrom_88 rfl ?_
            refine r_iadd E dX7_layFrom_90 ?_
            refine r_iald E (i := (((3 * a) + 3) + k)) 2 0 dX7_layFrom_91 rfl rfl (by decide) ⟨by omega, by omega⟩ ?_
            refine r_top (b := (le (3 * a + 3 + k))) (by rw [hG]; exact uJ_n (by omega)) ?_
            refine r_iload E 4 dX7_layFrom_92 rfl ?_
            refine r_iload_n E 2 dX7_layFrom_94 rfl rfl ?_
            refine r_icmp_ne E 102 dX7_layFrom_95 (by decide) ⟨by omega, by omega⟩ ⟨by omega, by omega⟩ (fun c_95 => ?_) (fun c_95 => ?_)
            · refine r_iconst E 0 rfl dX7_layFrom_102 ?_
              refine r_iadd E dX7_layFrom_103 ?_
              refine r_istore E [(5, .int (iJ (((le (3 * a + 3 + k)) + 0)))), (0, .ref m0), (1, .int (iJ (a))), (2, .int (iJ (b))), (3, .int (iJ (((3 * a) + b)))), (4, .int (iJ (k)))] dX7_layFrom_104 (by decide) rfl ?_
              have f_f := lfF_in (s := s) (a := a) (b := b) (F := fun h => le (3 * a + 3 + h)) k.toNat (fun h h0 h1 => hl _ (by omega) (by omega))
              refine r_aload_n E 1 dX7_layFrom_106 rfl rfl ?_
              refine r_get E 6 0 8 dX7_layFrom_107 in_X7_layFrom_X7 lk_X7_layFrom_22 rfl rfl (by decide) rfl ?_
              refine r_iload_n E 4 dX7_layFrom_110 rfl rfl ?_
              refine r_iload E 0 dX7_layFrom_111 rfl ?_
              refine r_aload_n E 1 dX7_layFrom_113 rfl rfl ?_
              refine r_get E 6 0 8 dX7_layFrom_114 in_X7_layFrom_X7 lk_X7_layFrom_22 rfl rfl (by decide) rfl ?_
              refine r_iload_n E 4 dX7_layFrom_117 rfl rfl ?_
              refine r_iald E (i := ((3 * a) + b)) 2 0 dX7_layFrom_118 rfl rfl (by decide) ⟨by omega, by omega⟩ ?_
              refine r_top (b := (lfF s a b (fun h => le (3 * a + 3 + h)) k.toNat)) (by rw [hG]; exact uJ_s _ _ _) ?_
              refine r_icmp_ge E 127 dX7_layFrom_119 (by decide) ⟨by omega, by omega⟩ ⟨by omega, by omega⟩ (fun c_119 => ?_) (fun c_119 => ?_)
              · refine r_aload_n E 1 dX7_layFrom_127 rfl rfl ?_
                refine r_get E 6 0 8 dX7_layFrom_128 in_X7_layFrom_X7 lk_X7_layFrom_22 rfl rfl (by decide) rfl ?_
                refine r_iload_n E 4 dX7_layFrom_131 rfl rfl ?_
                refine r_iald E (i := ((3 * a) + b)) 2 0 dX7_layFrom_132 rfl rfl (by decide) ⟨by omega, by omega⟩ ?_
                refine r_top (b := (lfF s a b (fun h => le (3 * a + 3 + h)) k.toNat)) (by rw [hG]; exact uJ_s _ _ _) ?_
                refine r_iast E (i := ((3 * a) + b)) 2 0 dX7_layFrom_133 rfl rfl (by decide) ⟨by omega, by omega⟩ [(m0, .inr (6, [.ref ms, .ref mh, .int (iJ (kp)), .ref mn, .int (iJ (sv)), .ref mp, .int (iJ (pn)), .int (iJ (rf)), .ref ml, .ref mm, .ref md, .ref mw, .ref mt, .int (iJ (tl)), .ref mb, .ref mi, .ref mg])), (ms, cJ cI 34 (s)), (ml, cJ cI 99 (uJ G ((3 * a) + b) (lfF s a b (fun h => le (3 * a + 3 + h)) k.toNat))), (mm, cL cJ_ 99 (M))] rfl ?_
                refine r_aload_n E 1 dX7_layFrom_134 rfl rfl ?_
                refine r_get E 6 0 9 dX7_layFrom_135 in_X7_layFrom_X7 lk_X7_layFrom_25 rfl rfl (by decide) rfl ?_
                refine r_iload_n E 4 dX7_layFrom_138 rfl rfl ?_
                refine r_dup2 E dX7_layFrom_139 rfl rfl ?_
                refine r_lald E (i := ((3 * a) + b)) 3 1 dX7_layFrom_140 rfl rfl (by decide) ⟨by omega, by omega⟩ ?_
                refine r_topL (b := lmF s a b (fun h => my (3 * a + 3 + h)) k.toNat) (by rw [hM]; exact uJ_s _ _ _) ?_
                refine r_aload_n E 1 dX7_layFrom_141 rfl rfl ?_
                refine r_get E 6 0 9 dX7_layFrom_142 in_X7_layFrom_X7 lk_X7_layFrom_25 rfl rfl (by decide) rfl ?_
                refine r_iconst E 3 rfl dX7_layFrom_145 ?_
                refine r_iload_n E 2 dX7_layFrom_146 rfl rfl ?_
                refine r_imul E dX7_layFrom_147 ?_
                refine r_iconst E 3 rfl dX7_layFrom_148 ?_
                refine r_iadd E dX7_layFrom_149 ?_
                refine r_iload E 5 dX7_layFrom_150 rfl ?_
                refine r_iadd E dX7_layFrom_152 ?_
                refine r_lald E (i := (((3 * a) + 3) + k)) 3 1 dX7_layFrom_153 rfl rfl (by decide) ⟨by omega, by omega⟩ ?_
                refine r_topL (b := my (3 * a + 3 + k)) (by rw [hM]; exact uJ_n (by omega)) ?_
                refine r_ladd E dX7_layFrom_154 ?_
                refine r_last E (i := ((3 * a) + b)) 3 1 dX7_layFrom_155 rfl rfl (by decide) ⟨by omega, by omega⟩ [(m0, .inr (6, [.ref ms, .ref mh, .int (iJ (kp)), .ref mn, .int (iJ (sv)), .ref mp, .int (iJ (pn)), .int (iJ (rf)), .ref ml, .ref mm, .ref md, .ref mw, .ref mt, .int (iJ (tl)), .ref mb, .ref mi, .ref mg])), (ms, cJ cI 34 (s)), (ml, cJ cI 99 (uJ G ((3 * a) + b) (lfF s a b (fun h => le (3 * a + 3 + h)) k.toNat))), (mm, cL cJ_ 99 (uJ M ((3 * a) + b) ((lmF s a b (fun h => my (3 * a + 3 + h)) k.toNat) + (my (3 * a + 3 + k)))))] rfl ?_
                refine r_iinc E (k := 5) [(4, .int (iJ ((k + 1)))), (5, .int (iJ (((le (3 * a + 3 + k)) + 0)))), (0, .ref m0), (1, .int (iJ (a))), (2, .int (iJ (b))), (3, .int (iJ (((3 * a) + b))))] dX7_layFrom_156 rfl (by decide) rfl ?_
                refine r_goto E 62 dX7_layFrom_159 (by decide) ?_
                refine r_lv [2, 3, 4, 5, 0] [(0, .ref m0), (1, .int (iJ (a))), (2, .int (iJ (b))), (3, .int (iJ (((3 * a) + b)))), (4, .int (iJ ((k + 1))))] rfl ?_
                exact ih62 (k + 1) (uJ G ((3 * a) + b) (lfF s a b (fun h => le (3 * a + 3 + h)) k.toNat)) (uJ M ((3 * a) + b) ((lmF s a b (fun h => my (3 * a + 3 + h)) k.toNat) + (my (3 * a + 3 + k)))) ⟨by omega, by omega⟩ (by
                      rw [lfF_s _ _ _ _ (by omega), hG]; try rw [uJ_u]
                      first
                      | (rw [if_neg (fun z => c_76 z.1)]; done)
                      | (rw [if_pos c_95]; first | (rw [if_pos ⟨c_76, by omega⟩]; done) | (rw [if_neg (fun z => absurd z.2 (by omega))]; done))
                      | (rw [if_neg c_95]; first | (rw [if_pos ⟨c_76, by omega⟩]; done) | (rw [if_neg (fun z => absurd z.2 (by omega))]; done))) (by
                      rw [lmF_s _ _ _ _ (by omega), hM]; try rw [uJ_u]
                      first | (rw [if_neg c_76, Int.add_zero]; done) | (rw [if_pos c_76]; done)) (by omega)
              · refine r_iload E 0 dX7_layFrom_122 rfl ?_
                refine r_goto E 133 dX7_layFrom_124 (by decide) ?_
                refine r_iast E (i := ((3 * a) + b)) 2 0 dX7_layFrom_133 rfl rfl (by decide) ⟨by omega, by omega⟩ [(m0, .inr (6, [.ref ms, .ref mh, .int (iJ (kp)), .ref mn, .int (iJ (sv)), .ref mp, .int (iJ (pn)), .int (iJ (rf)), .ref ml, .ref mm, .ref md, .ref mw, .ref mt, .int (iJ (tl)), .ref mb, .ref mi, .ref mg])), (ms, cJ cI 34 (s)), (ml, cJ cI 99 (uJ G ((3 * a) + b) ((le (3 * a + 3 + k)) + 0))), (mm, cL cJ_ 99 (M))] rfl ?_
                refine r_aload_n E 1 dX7_layFrom_134 rfl rfl ?_
                refine r_get E 6 0 9 dX7_layFrom_135 in_X7_layFrom_X7 lk_X7_layFrom_25 rfl rfl (by decide) rfl ?_
                refine r_iload_n E 4 dX7_layFrom_138 rfl rfl ?_
                refine r_dup2 E dX7_layFrom_139 rfl rfl ?_
                refine r_lald E (i := ((3 * a) + b)) 3 1 dX7_layFrom_140 rfl rfl (by decide) ⟨by omega, by omega⟩ ?_
                refine r_topL (b := lmF s a b (fun h => my (3 * a + 3 + h)) k.toNat) (by rw [hM]; exact uJ_s _ _ _) ?_
                refine r_aload_n E 1 dX7_layFrom_141 rfl rfl ?_
                refine r_get E 6 0 9 dX7_layFrom_142 in_X7_layFrom_X7 lk_X7_layFrom_25 rfl rfl (by decide) rfl ?_
                refine r_iconst E 3 rfl dX7_layFrom_145 ?_
                refine r_iload_n E 2 dX7_layFrom_146 rfl rfl ?_
                refine r_imul E dX7_layFrom_147 ?_
                refine r_iconst E 3 rfl dX7_layFrom_148 ?_
                refine r_iadd E dX7_layFrom_149 ?_
                refine r_iload E 5 dX7_layFrom_150 rfl ?_
                refine r_iadd E dX7_layFrom_152 ?_
                refine r_lald E (i := (((3 * a) + 3) + k)) 3 1 dX7_layFrom_153 rfl rfl (by decide) ⟨by omega, by omega⟩ ?_
                refine r_topL (b := my (3 * a + 3 + k)) (by rw [hM]; exact uJ_n (by omega)) ?_
                refine r_ladd E dX7_layFrom_154 ?_
                refine r_last E (i := ((3 * a) + b)) 3 1 dX7_layFrom_155 rfl rfl (by decide) ⟨by omega, by omega⟩ [(m0, .inr (6, [.ref ms, .ref mh, .int (iJ (kp)), .ref mn, .int (iJ (sv)), .ref mp, .int (iJ (pn)), .int (iJ (rf)), .ref ml, .ref mm, .ref md, .ref mw, .ref mt, .int (iJ (tl)), .ref mb, .ref mi, .ref mg])), (ms, cJ cI 34 (s)), (ml, cJ cI 99 (uJ G ((3 * a) + b) ((le (3 * a + 3 + k)) + 0))), (mm, cL cJ_ 99 (uJ M ((3 * a) + b) ((lmF s a b (fun h => my (3 * a + 3 + h)) k.toNat) + (my (3 * a + 3 + k)))))] rfl ?_
                refine r_iinc E (k := 5) [(4, .int (iJ ((k + 1)))), (5, .int (iJ (((le (3 * a + 3 + k)) + 0)))), (0, .ref m0), (1, .int (iJ (a))), (2, .int (iJ (b))), (3, .int (iJ (((3 * a) + b))))] dX7_layFrom_156 rfl (by decide) rfl ?_
                refine r_goto E 62 dX7_layFrom_159 (by decide) ?_
                refine r_lv [2, 3, 4, 5, 0] [(0, .ref m0), (1, .int (iJ (a))), (2, .int (iJ (b))), (3, .int (iJ (((3 * a) + b)))), (4, .int (iJ ((k + 1))))] rfl ?_
                exact ih62 (k + 1) (uJ G ((3 * a) + b) ((le (3 * a + 3 + k)) + 0)) (uJ M ((3 * a) + b) ((lmF s a b (fun h => my (3 * a + 3 + h)) k.toNat) + (my (3 * a + 3 + k)))) ⟨by omega, by omega⟩ (by
                      rw [lfF_s _ _ _ _ (by omega), hG]; try rw [uJ_u]
                      first
                      | (rw [if_neg (fun z => c_76 z.1)]; done)
                      | (rw [if_pos c_95]; first | (rw [if_pos ⟨c_76, by omega⟩]; done) | (rw [if_neg (fun z => absurd z.2 (by omega))]; done))
                      | (rw [if_neg c_95]; first | (rw [if_pos ⟨c_76, by omega⟩]; done) | (rw [if_neg (fun z => absurd z.2 (by omega))]; done))) (by
                      rw [lmF_s _ _ _ _ (by omega), hM]; try rw [uJ_u]
                      first | (rw [if_neg c_76, Int.add_zero]; done) | (rw [if_pos c_76]; done)) (by omega)
            · refine r_iconst E 1 rfl dX7_layFrom_98 ?_
              refine r_goto E 103 dX7_layFrom_99 (by decide) ?_
              refine r_iadd E dX7_layFrom_103 ?_
              refine r_istore E [(5, .int (iJ (((le (3 * a + 3 + k)) + 1)))), (0, .ref m0), (1, .int (iJ (a))), (2, .int (iJ (b))), (3, .int (iJ (((3 * a) + b)))), (4, .int (iJ (k)))] dX7_layFrom_104 (by decide) rfl ?_
              have f_f := lfF_in (s := s) (a := a) (b := b) (F := fun h => le (3 * a + 3 + h)) k.toNat (fun h h0 h1 => hl _ (by omega) (by omega))
              refine r_aload_n E 1 dX7_layFrom_106 rfl rfl ?_
              refine r_get E 6 0 8 dX7_layFrom_107 in_X7_layFrom_X7 lk_X7_layFrom_22 rfl rfl (by decide) rfl ?_
              refine r_iload_n E 4 dX7_layFrom_110 rfl rfl ?_
              refine r_iload E 0 dX7_layFrom_111 rfl ?_
              refine r_aload_n E 1 dX7_layFrom_113 rfl rfl ?_
              refine r_get E 6 0 8 dX7_layFrom_114 in_X7_layFrom_X7 lk_X7_layFrom_22 rfl rfl (by decide) rfl ?_
              refine r_iload_n E 4 dX7_layFrom_117 rfl rfl ?_
              refine r_iald E (i := ((3 * a) + b)) 2 0 dX7_layFrom_118 rfl rfl (by decide) ⟨by omega, by omega⟩ ?_
              refine r_top (b := (lfF s a b (fun h => le (3 * a + 3 + h)) k.toNat)) (by rw [hG]; exact uJ_s _ _ _) ?_
              refine r_icmp_ge E 127 dX7_layFrom_119 (by decide) ⟨by omega, by omega⟩ ⟨by omega, by omega⟩ (fun c_119 => ?_) (fun c_119 => ?_)
              · refine r_aload_n E 1 dX7_layFrom_127 rfl rfl ?_
                refine r_get E 6 0 8 dX7_layFrom_128 in_X7_layFrom_X7 lk_X7_layFrom_22 rfl rfl (by decide) rfl ?_
                refine r_iload_n E 4 dX7_layFrom_131 rfl rfl ?_
                refine r_iald E (i := ((3 * a) + b)) 2 0 dX7_layFrom_132 rfl rfl (by decide) ⟨by omega, by omega⟩ ?_
                refine r_top (b := (lfF s a b (fun h => le (3 * a + 3 + h)) k.toNat)) (by rw [hG]; exact uJ_s _ _ _) ?_
                refine r_iast E (i := ((3 * a) + b)) 2 0 dX7_layFrom_133 rfl rfl (by decide) ⟨by omega, by omega⟩ [(m0, .inr (6, [.ref ms, .ref mh, .int (iJ (kp)), .ref mn, .int (iJ (sv)), .ref mp, .int (iJ (pn)), .int (iJ (rf)), .ref ml, .ref mm, .ref md, .ref mw, .ref mt, .int (iJ (tl)), .ref mb, .ref mi, .ref mg])), (ms, cJ cI 34 (s)), (ml, cJ cI 99 (uJ G ((3 * a) + b) (lfF s a b (fun h => le (3 * a + 3 + h)) k.toNat))), (mm, cL cJ_ 99 (M))] rfl ?_
                refine r_aload_n E 1 dX7_layFrom_134 rfl rfl ?_
                refine r_get E 6 0 9 dX7_layFrom_135 in_X7_layFrom_X7 lk_X7_layFrom_25 rfl rfl (by decide) rfl ?_
                refine r_iload_n E 4 dX7_layFrom_138 rfl rfl ?_
                refine r_dup2 E dX7_layFrom_139 rfl rfl ?_
                refine r_lald E (i := ((3 * a) + b)) 3 1 dX7_layFrom_140 rfl rfl (by decide) ⟨by omega, by omega⟩ ?_
                refine r_topL (b := lmF s a b (fun h => my (3 * a + 3 + h)) k.toNat) (by rw [hM]; exact uJ_s _ _ _) ?_
                refine r_aload_n E 1 dX7_layFrom_141 rfl rfl ?_
                refine r_get E 6 0 9 dX7_layFrom_142 in_X7_layFrom_X7 lk_X7_layFrom_25 rfl rfl (by decide) rfl ?_
                refine r_iconst E 3 rfl dX7_layFrom_145 ?_
                refine r_iload_n E 2 dX7_layFrom_146 rfl rfl ?_
                refine r_imul E dX7_layFrom_147 ?_
                refine r_iconst E 3 rfl dX7_layFrom_148 ?_
                refine r_iadd E dX7_layFrom_149 ?_
                refine r_iload E 5 dX7_layFrom_150 rfl ?_
                refine r_iadd E dX7_layFrom_152 ?_
                refine r_lald E (i := (((3 * a) + 3) + k)) 3 1 dX7_layFrom_153 rfl rfl (by decide) ⟨by omega, by omega⟩ ?_
                refine r_topL (b := my (3 * a + 3 + k)) (by rw [hM]; exact uJ_n (by omega)) ?_
                refine r_ladd E dX7_layFrom_154 ?_
                refine r_last E (i := ((3 * a) + b)) 3 1 dX7_layFrom_155 rfl rfl (by decide) ⟨by omega, by omega⟩ [(m0, .inr (6, [.ref ms, .ref mh, .int (iJ (kp)), .ref mn, .int (iJ (sv)), .ref mp, .int (iJ (pn)), .int (iJ (rf)), .ref ml, .ref mm, .ref md, .ref mw, .ref mt, .int (iJ (tl)), .ref mb, .ref mi, .ref mg])), (ms, cJ cI 34 (s)), (ml, cJ cI 99 (uJ G ((3 * a) + b) (lfF s a b (fun h => le (3 * a + 3 + h)) k.toNat))), (mm, cL cJ_ 99 (uJ M ((3 * a) + b) ((lmF s a b (fun h => my (3 * a + 3 + h)) k.toNat) + (my (3 * a + 3 + k)))))] rfl ?_
                refine r_iinc E (k := 5) [(4, .int (iJ ((k + 1)))), (5, .int (iJ (((le (3 * a + 3 + k)) + 1)))), (0, .ref m0), (1, .int (iJ (a))), (2, .int (iJ (b))), (3, .int (iJ (((3 * a) + b))))] dX7_layFrom_156 rfl (by decide) rfl ?_
                refine r_goto E 62 dX7_layFrom_159 (by decide) ?_
                refine r_lv [2, 3, 4, 5, 0] [(0, .ref m0), (1, .int (iJ (a))), (2, .int (iJ (b))), (3, .int (iJ (((3 * a) + b)))), (4, .int (iJ ((k + 1))))] rfl ?_
                exact ih62 (k + 1) (uJ G ((3 * a) + b) (lfF s a b (fun h => le (3 * a + 3 + h)) k.toNat)) (uJ M ((3 * a) + b) ((lmF s a b (fun h => my (3 * a + 3 + h)) k.toNat) + (my (3 * a + 3 + k)))) ⟨by omega, by omega⟩ (by
                      rw [lfF_s _ _ _ _ (by omega), hG]; try rw [uJ_u]
                      first
                      | (rw [if_neg (fun z => c_76 z.1)]; done)
                      | (rw [if_pos c_95]; first | (rw [if_pos ⟨c_76, by omega⟩]; done) | (rw [if_neg (fun z => absurd z.2 (by omega))]; done))
                      | (rw [if_neg c_95]; first | (rw [if_pos ⟨c_76, by omega⟩]; done) | (rw [if_neg (fun z => absurd z.2 (by omega))]; done))) (by
                      rw [lmF_s _ _ _ _ (by omega), hM]; try rw [uJ_u]
                      first | (rw [if_neg c_76, Int.add_zero]; done) | (rw [if_pos c_76]; done)) (by omega)
              · refine r_iload E 0 dX7_layFrom_122 rfl ?_
                refine r_goto E 133 dX7_layFrom_124 (by decide) ?_
                refine r_iast E (i := ((3 * a) + b)) 2 0 dX7_layFrom_133 rfl rfl (by decide) ⟨by omega, by omega⟩ [(m0, .inr (6, [.ref ms, .ref mh, .int (iJ (kp)), .ref mn, .int (iJ (sv)), .ref mp, .int (iJ (pn)), .int (iJ (rf)), .ref ml, .ref mm, .ref md, .ref mw, .ref mt, .int (iJ (tl)), .ref mb, .ref mi, .ref mg])), (ms, cJ cI 34 (s)), (ml, cJ cI 99 (uJ G ((3 * a) + b) ((le (3 * a + 3 + k)) + 1))), (mm, cL cJ_ 99 (M))] rfl ?_
                refine r_aload_n E 1 dX7_layFrom_134 rfl rfl ?_
                refine r_get E 6 0 9 dX7_layFrom_135 in_X7_layFrom_X7 lk_X7_layFrom_25 rfl rfl (by decide) rfl ?_
                refine r_iload_n E 4 dX7_layFrom_138 rfl rfl ?_
                refine r_dup2 E dX7_layFrom_139 rfl rfl ?_
                refine r_lald E (i := ((3 * a) + b)) 3 1 dX7_layFrom_140 rfl rfl (by decide) ⟨by omega, by omega⟩ ?_
                refine r_topL (b := lmF s a b (fun h => my (3 * a + 3 + h)) k.toNat) (by rw [hM]; exact uJ_s _ _ _) ?_
                refine r_aload_n E 1 dX7_layFrom_141 rfl rfl ?_
                refine r_get E 6 0 9 dX7_layFrom_142 in_X7_layFrom_X7 lk_X7_layFrom_25 rfl rfl (by decide) rfl ?_
                refine r_iconst E 3 rfl dX7_layFrom_145 ?_
                refine r_iload_n E 2 dX7_layFrom_146 rfl rfl ?_
                refine r_imul E dX7_layFrom_147 ?_
                refine r_iconst E 3 rfl dX7_layFrom_148 ?_
                refine r_iadd E dX7_layFrom_149 ?_
                refine r_iload E 5 dX7_layFrom_150 rfl ?_
                refine r_iadd E dX7_layFrom_152 ?_
                refine r_lald E (i := (((3 * a) + 3) + k)) 3 1 dX7_layFrom_153 rfl rfl (by decide) ⟨by omega, by omega⟩ ?_
                refine r_topL (b := my (3 * a + 3 + k)) (by rw [hM]; exact uJ_n (by omega)) ?_
                refine r_ladd E dX7_layFrom_154 ?_
                refine r_last E (i := ((3 * a) + b)) 3 1 dX7_layFrom_155 rfl rfl (by decide) ⟨by omega, by omega⟩ [(m0, .inr (6, [.ref ms, .ref mh, .int (iJ (kp)), .ref mn, .int (iJ (sv)), .ref mp, .int (iJ (pn)), .int (iJ (rf)), .ref ml, .ref mm, .ref md, .ref mw, .ref mt, .int (iJ (tl)), .ref mb, .ref mi, .ref mg])), (ms, cJ cI 34 (s)), (ml, cJ cI 99 (uJ G ((3 * a) + b) ((le (3 * a + 3 + k)) + 1))), (mm, cL cJ_ 99 (uJ M ((3 * a) + b) ((lmF s a b (fun h => my (3 * a + 3 + h)) k.toNat) + (my (3 * a + 3 + k)))))] rfl ?_
                refine r_iinc E (k := 5) [(4, .int (iJ ((k + 1)))), (5, .int (iJ (((le (3 * a + 3 + k)) + 1)))), (0, .ref m0), (1, .int (iJ (a))), (2, .int (iJ (b))), (3, .int (iJ (((3 * a) + b))))] dX7_layFrom_156 rfl (by decide) rfl ?_
                refine r_goto E 62 dX7_layFrom_159 (by decide) ?_
                refine r_lv [2, 3, 4, 5, 0] [(0, .ref m0), (1, .int (iJ (a))), (2, .int (iJ (b))), (3, .int (iJ (((3 * a) + b)))), (4, .int (iJ ((k + 1))))] rfl ?_
                exact ih62 (k + 1) (uJ G ((3 * a) + b) ((le (3 * a + 3 + k)) + 1)) (uJ M ((3 * a) + b) ((lmF s a b (fun h => my (3 * a + 3 + h)) k.toNat) + (my (3 * a + 3 + k)))) ⟨by omega, by omega⟩ (by
                      rw [lfF_s _ _ _ _ (by omega), hG]; try rw [uJ_u]
                      first
                      | (rw [if_neg (fun z => c_76 z.1)]; done)
                      | (rw [if_pos c_95]; first | (rw [if_pos ⟨c_76, by omega⟩]; done) | (rw [if_neg (fun z => absurd z.2 (by omega))]; done))
                      | (rw [if_neg c_95]; first | (rw [if_pos ⟨c_76, by omega⟩]; done) | (rw [if_neg (fun z => absurd z.2 (by omega))]; done))) (by
                      rw [lmF_s _ _ _ _ (by omega), hM]; try rw [uJ_u]
                      first | (rw [if_neg c_76, Int.add_zero]; done) | (rw [if_pos c_76]; done)) (by omega)
    refine r_lv [2, 3, 4, 1, 0] [(0, .ref m0), (1, .int (iJ (a))), (2, .int (iJ (b))), (3, .int (iJ (((3 * a) + b)))), (4, .int (iJ (0)))] rfl ?_
    exact loop_62 _ 0 (uJ le ((3 * a) + b) 1000) (uJ my ((3 * a) + b) 0) ⟨by omega, by omega⟩ rfl rfl (Nat.lt_succ_self _)
  · refine r_aload_n E 1 dX7_layFrom_30 rfl rfl ?_
    refine r_get E 6 0 8 dX7_layFrom_31 in_X7_layFrom_X7 lk_X7_layFrom_22 rfl rfl (by decide) rfl ?_
    refine r_iload_n E 0 dX7_layFrom_34 rfl rfl ?_
    refine r_aload_n E 1 dX7_layFrom_35 rfl rfl ?_
    refine r_get E 6 0 8 dX7_layFrom_36 in_X7_layFrom_X7 lk_X7_layFrom_22 rfl rfl (by decide) rfl ?_
    refine r_iload_n E 0 dX7_layFrom_39 rfl rfl ?_
    refine r_iconst E 3 rfl dX7_layFrom_40 ?_
    refine r_iadd E dX7_layFrom_41 ?_
    refine r_iald E (i := (((3 * a) + b) + 3)) 2 0 dX7_layFrom_42 rfl rfl (by decide) ⟨by omega, by omega⟩ ?_
    refine r_top (b := (le (3 * a + b + 3))) (uJ_n (by omega)) ?_
    refine r_iast E (i := ((3 * a) + b)) 2 0 dX7_layFrom_43 rfl rfl (by decide) ⟨by omega, by omega⟩ [(m0, .inr (6, [.ref ms, .ref mh, .int (iJ (kp)), .ref mn, .int (iJ (sv)), .ref mp, .int (iJ (pn)), .int (iJ (rf)), .ref ml, .ref mm, .ref md, .ref mw, .ref mt, .int (iJ (tl)), .ref mb, .ref mi, .ref mg])), (ms, cJ cI 34 (s)), (ml, cJ cI 99 (uJ (uJ le ((3 * a) + b) 1000) ((3 * a) + b) (le (3 * a + b + 3)))), (mm, cL cJ_ 99 (uJ my ((3 * a) + b) 0))] rfl ?_
    refine r_aload_n E 1 dX7_layFrom_44 rfl rfl ?_
    refine r_get E 6 0 9 dX7_layFrom_45 in_X7_layFrom_X7 lk_X7_layFrom_25 rfl rfl (by decide) rfl ?_
    refine r_iload_n E 0 dX7_layFrom_48 rfl rfl ?_
    refine r_aload_n E 1 dX7_layFrom_49 rfl rfl ?_
    refine r_get E 6 0 9 dX7_layFrom_50 in_X7_layFrom_X7 lk_X7_layFrom_25 rfl rfl (by decide) rfl ?_
    refine r_iload_n E 0 dX7_layFrom_53 rfl rfl ?_
    refine r_iconst E 3 rfl dX7_layFrom_54 ?_
    refine r_iadd E dX7_layFrom_55 ?_
    refine r_lald E (i := (((3 * a) + b) + 3)) 3 1 dX7_layFrom_56 rfl rfl (by decide) ⟨by omega, by omega⟩ ?_
    refine r_topL (b := my (3 * a + b + 3)) (uJ_n (by omega)) ?_
    refine r_last E (i := ((3 * a) + b)) 3 1 dX7_layFrom_57 rfl rfl (by decide) ⟨by omega, by omega⟩ [(m0, .inr (6, [.ref ms, .ref mh, .int (iJ (kp)), .ref mn, .int (iJ (sv)), .ref mp, .int (iJ (pn)), .int (iJ (rf)), .ref ml, .ref mm, .ref md, .ref mw, .ref mt, .int (iJ (tl)), .ref mb, .ref mi, .ref mg])), (ms, cJ cI 34 (s)), (ml, cJ cI 99 (uJ (uJ le ((3 * a) + b) 1000) ((3 * a) + b) (le (3 * a + b + 3)))), (mm, cL cJ_ 99 (uJ (uJ my ((3 * a) + b) 0) ((3 * a) + b) (my (3 * a + b + 3))))] rfl ?_
    exact r_retMV E () hr dX7_layFrom_58 trivial (by
          unfold lfV lmV; rw [if_pos c_27, if_pos c_27, uJ_u, uJ_u]) hQ
theorem kf_X7_lay : KF yX7_lay 1 wsX7_lay cX7_lay 5 none := ⟨rfl, by decide +kernel, by decide +kernel, by decide +kernel⟩
def rm_X7_lay : Room := { frames := 7, cells := 0, slots := 0, locals := 165 }
set_option maxRecDepth 20000 in
theorem in_X7_lay_X7 : ∀ w ∈ u_ws RX7 TX7 17, w ∈ wsX7_lay := by decide +kernel
set_option maxRecDepth 20000 in
theorem lk_X7_lay_7 : Cond.fieldLink RX7 7 (TX7 0).1 (TX7 0).2.1 (TX7 0).2.2.1 ∈ wsX7_lay := by decide +kernel
set_option maxRecDepth 20000 in
theorem lk_X7_lay_22 : Cond.fieldLink RX7 22 (TX7 8).1 (TX7 8).2.1 (TX7 8).2.2.1 ∈ wsX7_lay := by decide +kernel
set_option maxRecDepth 20000 in
theorem lk_X7_lay_25 : Cond.fieldLink RX7 25 (TX7 9).1 (TX7 9).2.1 (TX7 9).2.2.1 ∈ wsX7_lay := by decide +kernel
set_option maxHeartbeats 1000000 in
set_option maxRecDepth 100000 in
theorem c_X7_lay (l : Launch) (D : va_G) (m0 : Nat) (ms : Nat) (mh : Nat) (mn : Nat) (mp : Nat) (ml : Nat) (mm : Nat) (md : Nat) (mw : Nat) (mt : Nat) (mb : Nat) (mi : Nat) (mg : Nat) (cI : ClassId) (kp : Int) (sv : Int) (pn : Int) (rf : Int) (tl : Int) (cJ_ : ClassId) (s : Int → Int) (le : Int → Int) (my : Int → Int) (nx : Int) (hs0 : 0 ≤ s 0 ∧ s 0 ≤ 32) (hs1 : 1 ≤ s 1 ∧ s 1 ≤ 4) (hsv : ∀ j : Int, 0 ≤ j → j < s 0 → 0 ≤ s (2 + j) ∧ s (2 + j) ≤ 24) (hnx : nx = -4 ∨ (0 ≤ nx ∧ nx ≤ 1 ∧ 1 ≤ s 0)) : MV (S := (Int → Int) × (Int → Int)) l yX7_lay wsX7_lay rm_X7_lay D vwCl [.ref m0, .int (iJ (nx))] [(m0, .inr (6, [.ref ms, .ref mh, .int (iJ (kp)), .ref mn, .int (iJ (sv)), .ref mp, .int (iJ (pn)), .int (iJ (rf)), .ref ml, .ref mm, .ref md, .ref mw, .ref mt, .int (iJ (tl)), .ref mb, .ref mi, .ref mg])), (ms, cJ cI 34 (s)), (ml, cJ cI 99 (le)), (mm, cL cJ_ 99 (my))] [(cI, .int), (cJ_, .long)] (fun (u : (Int → Int) × (Int → Int)) => (∀ a b : Int, 0 ≤ a → a ≤ s 0 → 0 ≤ b → b ≤ 2 → u.1 (3 * a + b) = lsS s nx a b ∧ u.2 (3 * a + b) = mnS s nx a b)) (fun (u : (Int → Int) × (Int → Int)) => [(m0, .inr (6, [.ref ms, .ref mh, .int (iJ (kp)), .ref mn, .int (iJ (sv)), .ref mp, .int (iJ (pn)), .int (iJ (rf)), .ref ml, .ref mm, .ref md, .ref mw, .ref mt, .int (iJ (tl)), .ref mb, .ref mi, .ref mg])), (ms, cJ cI 34 (s)), (ml, cJ cI 99 (u.1)), (mm, cL cJ_ 99 (u.2))]) := by
  refine MV.mk (cc := cX7_lay) (maxL := 5) (ret := none) (by decide) rfl (Nat.le_of_ble_eq_true rfl) rfl RX7 rfl ?_
  intro p_ e_ s_ m_ ar_ bw_ mt_ cd_ B_ Q_ hA E hr hQ
  refine r_aload_n E 0 dX7_lay_0 rfl rfl ?_
  refine r_get E 6 0 0 dX7_lay_1 in_X7_lay_X7 lk_X7_lay_7 rfl rfl (by decide) rfl ?_
  refine r_iconst E 0 rfl dX7_lay_4 ?_
  refine r_iald E (i := 0) 1 0 dX7_lay_5 rfl rfl (by decide) ⟨by omega, by omega⟩ ?_
  refine r_istore_n E [(2, .int (iJ (s 0))), (0, .ref m0), (1, .int (iJ (nx)))] dX7_lay_6 rfl (by decide) rfl ?_
  refine r_iconst E 0 rfl dX7_lay_7 ?_
  refine r_istore_n E [(3, .int (iJ (0))), (2, .int (iJ (s 0))), (0, .ref m0), (1, .int (iJ (nx)))] dX7_lay_8 rfl (by decide) rfl ?_
  have loop_9 : ∀ (N : Nat) (k : Int) (G : Int → Int) (M : Int → Int), (0 ≤ k ∧ k ≤ 3) → (∀ b : Int, 0 ≤ b → b < k → G (3 * s 0 + b) = lsS s nx (s 0) b ∧ M (3 * s 0 + b) = mnS s nx (s 0) b) → (3 - k).toNat < N → GG p_ l e_ rm_X7_lay s_ m_ ar_ bw_ mt_ cd_ D vwCl B_ B_ s_.heap 5 0 0 Q_ [(m0, .inr (6, [.ref ms, .ref mh, .int (iJ (kp)), .ref mn, .int (iJ (sv)), .ref mp, .int (iJ (pn)), .int (iJ (rf)), .ref ml, .ref mm, .ref md, .ref mw, .ref mt, .int (iJ (tl)), .ref mb, .ref mi, .ref mg])), (ms, cJ cI 34 (s)), (ml, cJ cI 99 (G)), (mm, cL cJ_ 99 (M))] [(0, .ref m0), (1, .int (iJ (nx))), (2, .int (iJ (s 0))), (3, .int (iJ (k)))] 9 [] := by
    intro N; induction N with
    | zero => intro k G M hk hG hN; exact absurd hN (Nat.not_lt_zero _)
    | succ N ih9 =>
      intro k G M hk hG hN
      refine r_iload_n E 3 dX7_lay_9 rfl rfl ?_
      refine r_iconst E 3 rfl dX7_lay_10 ?_
      refine r_icmp_ge E 93 dX7_lay_11 (by decide) ⟨by omega, by omega⟩ ⟨by omega, by omega⟩ (fun c_11 => ?_) (fun c_11 => ?_)
      · refine r_iload_n E 2 dX7_lay_93 rfl rfl ?_
        refine r_iconst E 1 rfl dX7_lay_94 ?_
        refine r_isub E dX7_lay_95 ?_
        refine r_istore_n E [(3, .int (iJ (((s 0) - 1)))), (0, .ref m0), (1, .int (iJ (nx))), (2, .int (iJ (s 0)))] dX7_lay_96 rfl (by decide) rfl ?_
        have loop_97 : ∀ (N : Nat) (a : Int) (G2 : Int → Int) (M2 : Int → Int), (-1 ≤ a ∧ a < s 0) → (∀ x b : Int, a < x → x ≤ s 0 → 0 ≤ b → b ≤ 2 → G2 (3 * x + b) = lsS s nx x b ∧ M2 (3 * x + b) = mnS s nx x b) → (a + 1).toNat < N → GG p_ l e_ rm_X7_lay s_ m_ ar_ bw_ mt_ cd_ D vwCl B_ B_ s_.heap 5 0 0 Q_ [(m0, .inr (6, [.ref ms, .ref mh, .int (iJ (kp)), .ref mn, .int (iJ (sv)), .ref mp, .int (iJ (pn)), .int (iJ (rf)), .ref ml, .ref mm, .ref md, .ref mw, .ref mt, .int (iJ (tl)), .ref mb, .ref mi, .ref mg])), (ms, cJ cI 34 (s)), (ml, cJ cI 99 (G2)), (mm, cL cJ_ 99 (M2))] [(0, .ref m0), (1, .int (iJ (nx))), (2, .int (iJ (s 0))), (3, .int (iJ (a)))] 97 [] := by
          intro N; induction N with
          | zero => intro a G2 M2 ha hG2 hN; exact absurd hN (Nat.not_lt_zero _)
          | succ N ih97 =>
            intro a G2 M2 ha hG2 hN
            refine r_iload_n E 3 dX7_lay_97 rfl rfl ?_
            refine r_if_lt E 129 dX7_lay_98 (by decide) ⟨by omega, by omega⟩ (fun c_98 => ?_) (fun c_98 => ?_)
            · exact r_retMV E (G2, M2) hr dX7_lay_129 (fun x b h1 h2 h3 h4 => hG2 x b (by omega) h2 h3 h4) rfl hQ
            · refine r_iconst E 0 rfl dX7_lay_101 ?_
              refine r_istore E [(4, .int (iJ (0))), (0, .ref m0), (1, .int (iJ (nx))), (2, .int (iJ (s 0))), (3, .int (iJ (a)))] dX7_lay_102 (by decide) rfl ?_
              have loop_104 : ∀ (N : Nat) (b : Int) (G3 : Int → Int) (M3 : Int → Int), (0 ≤ b ∧ b ≤ 3) → (∀ x y : Int, a ≤ x → x ≤ s 0 → 0 ≤ y → y ≤ 2 → (a < x ∨ y < b) → G3 (3 * x + y) = lsS s nx x y ∧ M3 (3 * x + y) = mnS s nx x y) → (3 - b).toNat < N → GG p_ l e_ rm_X7_lay s_ m_ ar_ bw_ mt_ cd_ D vwCl B_ B_ s_.heap 5 0 0 Q_ [(m0, .inr (6, [.ref ms, .ref mh, .int (iJ (kp)), .ref mn, .int (iJ (sv)), .ref mp, .int (iJ (pn)), .int (iJ (rf)), .ref ml, .ref mm, .ref md, .ref mw, .ref mt, .int (iJ (tl)), .ref mb, .ref mi, .ref mg])), (ms, cJ cI 34 (s)), (ml, cJ cI 99 (G3)), (mm, cL cJ_ 99 (M3))] [(0, .ref m0), (1, .int (iJ (nx))), (2, .int (iJ (s 0))), (3, .int (iJ (a))), (4, .int (iJ (b)))] 104 [] := by
                intro N; induction N with
                | zero => intro b G3 M3 hb hG3 hN; exact absurd hN (Nat.not_lt_zero _)
                | succ N ih104 =>
                  intro b G3 M3 hb hG3 hN
                  refine r_iload E 4 dX7_lay_104 rfl ?_
                  refine r_iconst E 3 rfl dX7_lay_106 ?_
                  refine r_icmp_ge E 123 dX7_lay_107 (by decide) ⟨by omega, by omega⟩ ⟨by omega, by omega⟩ (fun c_107 => ?_) (fun c_107 => ?_)
                  · refine r_iinc E (k := 3) [(3, .int (iJ ((a + (-1))))), (0, .ref m0), (1, .int (iJ (nx))), (2, .int (iJ (s 0))), (4, .int (iJ (b)))] dX7_lay_123 rfl (by decide) rfl ?_
                    refine r_goto E 97 dX7_lay_126 (by decide) ?_
                    refine r_lv [1, 2, 3, 0] [(0, .ref m0), (1, .int (iJ (nx))), (2, .int (iJ (s 0))), (3, .int (iJ ((a + (-1)))))] rfl ?_
                    exact ih97 (a + (-1)) G3 M3 ⟨by omega, by omega⟩ (fun x b h1 h2 h3 h4 => hG3 x b (by omega) h2 h3 h4 (by omega)) (by omega)
                  · refine r_aload_n E 0 dX7_lay_110 rfl rfl ?_
                    refine r_iload_n E 3 dX7_lay_111 rfl rfl ?_
                    refine r_iload E 4 dX7_lay_112 rfl ?_
                    refine r_vV E (st := []) (c_X7_layFrom l D m0 ms mh mn mp ml mm md mw mt mb mi mg cI kp sv pn rf tl cJ_ s G3 M3 a b (by first | assumption | omega | exact ⟨by omega, by omega⟩) (by first | assumption | omega | exact ⟨by omega, by omega⟩) (hsv a (by omega) (by omega)) (fun _ => hsv (a - 1) (by omega) (by omega)) (by first | assumption | omega | exact ⟨by omega, by omega⟩) (fun j h1 h2 => by
                          have := hG3 (a + 1) (j - 3 * a - 3) (by omega) (by omega) (by omega) (by omega) (Or.inl (by omega))
                          rw [show 3 * (a + 1) + (j - 3 * a - 3) = j by omega] at this
                          rw [this.1]; exact lsS_in)) gX7_lay_X7_layFrom 2 kf_X7_layFrom ⟨rfl, rfl⟩ ⟨by decide, by decide⟩ dX7_lay_114 rfl 0 rfl rfl rfl rfl ⟨Nat.zero_le _, Nat.zero_le _⟩ [0, 1, 2, 3] rfl (by decide) [0, 1] rfl (Nat.le_of_ble_eq_true rfl) [] [] rfl (by decide) (by decide) hA [0, 1, 2, 3] (by decide) (fun (_ : Unit) => [(m0, .inr (6, [.ref ms, .ref mh, .int (iJ (kp)), .ref mn, .int (iJ (sv)), .ref mp, .int (iJ (pn)), .int (iJ (rf)), .ref ml, .ref mm, .ref md, .ref mw, .ref mt, .int (iJ (tl)), .ref mb, .ref mi, .ref mg])), (ms, cJ cI 34 (s)), (ml, cJ cI 99 (uJ G3 (3 * a + b) (lfV s G3 a b))), (mm, cL cJ_ 99 (uJ M3 (3 * a + b) (lmV s M3 a b)))]) (fun _ => rfl) ?_
                    rintro ⟨⟩ hp_1
                    refine r_iinc E (k := 4) [(4, .int (iJ ((b + 1)))), (0, .ref m0), (1, .int (iJ (nx))), (2, .int (iJ (s 0))), (3, .int (iJ (a)))] dX7_lay_117 rfl (by decide) rfl ?_
                    refine r_goto E 104 dX7_lay_120 (by decide) ?_
                    refine r_lv [1, 2, 3, 4, 0] [(0, .ref m0), (1, .int (iJ (nx))), (2, .int (iJ (s 0))), (3, .int (iJ (a))), (4, .int (iJ ((b + 1))))] rfl ?_
                    exact ih104 (b + 1) (uJ G3 (3 * a + b) (lfV s G3 a b)) (uJ M3 (3 * a + b) (lmV s M3 a b)) ⟨by omega, by omega⟩ (fun x y h1 h2 h3 h4 h5 => by
                          by_cases q0 : x = a ∧ y = b
                          · obtain ⟨rfl, rfl⟩ := q0
                            rw [uJ_s, uJ_s, lsS_s _ _ _ (by omega), mnS_s _ _ _ (by omega)]; unfold lfV lmV
                            have f0 := hG3 (x + 1) y (by omega) (by omega) h3 h4 (Or.inl (by omega))
                            rw [show 3 * (x + 1) + y = 3 * x + y + 3 by omega] at f0
                            have f1 : ∀ h : Int, 0 ≤ h → h < ((2 : Nat) : Int) → G3 (3 * x + 3 + h) = lsS s nx (x + 1) h ∧ M3 (3 * x + 3 + h) = mnS s nx (x + 1) h := fun h g0 g1 => by
                              have := hG3 (x + 1) h (by omega) (by omega) g0 (by omega) (Or.inl (by omega))
                              rwa [show 3 * (x + 1) + h = 3 * x + 3 + h by omega] at this
                            by_cases z : s (2 + x) = 0
                            · rw [if_pos z, if_pos z, if_pos z, if_pos z]; exact f0
                            · rw [if_neg z, if_neg z, if_neg z, if_neg z]; exact ⟨lfF_cg 2 (fun h g0 g1 => (f1 h g0 g1).1), lmF_cg 2 (fun h g0 g1 => (f1 h g0 g1).2)⟩
                          · rw [uJ_n (by omega), uJ_n (by omega)]; exact hG3 x y h1 h2 h3 h4 (by omega)) (by omega)
              refine r_lv [1, 2, 3, 4, 0] [(0, .ref m0), (1, .int (iJ (nx))), (2, .int (iJ (s 0))), (3, .int (iJ (a))), (4, .int (iJ (0)))] rfl ?_
              exact loop_104 _ 0 G2 M2 ⟨by omega, by omega⟩ (fun x y h1 h2 h3 h4 h5 => hG2 x y (by omega) h2 h3 h4) (Nat.lt_succ_self _)
        refine r_lv [1, 2, 3, 0] [(0, .ref m0), (1, .int (iJ (nx))), (2, .int (iJ (s 0))), (3, .int (iJ (((s 0) - 1))))] rfl ?_
        exact loop_97 _ ((s 0) - 1) G M ⟨by omega, by omega⟩ (fun x b h1 h2 h3 h4 => by
              have e : x = s 0 := by omega
              rw [e]; exact hG b h3 (by omega)) (Nat.lt_succ_self _)
      · have K_43 : ∀ (v : Int), (v = b2 (bsW s nx k) ∧ 0 ≤ v ∧ v ≤ 1) → GG p_ l e_ rm_X7_lay s_ m_ ar_ bw_ mt_ cd_ D vwCl B_ B_ s_.heap 5 0 0 Q_ [(m0, .inr (6, [.ref ms, .ref mh, .int (iJ (kp)), .ref mn, .int (iJ (sv)), .ref mp, .int (iJ (pn)), .int (iJ (rf)), .ref ml, .ref mm, .ref md, .ref mw, .ref mt, .int (iJ (tl)), .ref mb, .ref mi, .ref mg])), (ms, cJ cI 34 (s)), (ml, cJ cI 99 (G)), (mm, cL cJ_ 99 (M))] [(0, .ref m0), (1, .int (iJ (nx))), (2, .int (iJ (s 0))), (3, .int (iJ (k)))] 43 [.int (iJ (v))] := by
          intro v hv
          refine r_istore E [(4, .int (iJ (v))), (0, .ref m0), (1, .int (iJ (nx))), (2, .int (iJ (s 0))), (3, .int (iJ (k)))] dX7_lay_43 (by decide) rfl ?_
          refine r_aload_n E 1 dX7_lay_45 rfl rfl ?_
          refine r_get E 6 0 8 dX7_lay_46 in_X7_lay_X7 lk_X7_lay_22 rfl rfl (by decide) rfl ?_
          refine r_iconst E 3 rfl dX7_lay_49 ?_
          refine r_iload_n E 3 dX7_lay_50 rfl rfl ?_
          refine r_imul E dX7_lay_51 ?_
          refine r_iload_n E 4 dX7_lay_52 rfl rfl ?_
          refine r_iadd E dX7_lay_53 ?_
          refine r_iload E 0 dX7_lay_54 rfl ?_
          refine r_if_eq E 65 dX7_lay_56 (by decide) ⟨by omega, by omega⟩ (fun c_56 => ?_) (fun c_56 => ?_)
          · refine r_iconst E 0 rfl dX7_lay_65 ?_
            refine r_iast E (i := ((3 * (s 0)) + k)) 2 0 dX7_lay_66 rfl rfl (by decide) ⟨by omega, by omega⟩ [(m0, .inr (6, [.ref ms, .ref mh, .int (iJ (kp)), .ref mn, .int (iJ (sv)), .ref mp, .int (iJ (pn)), .int (iJ (rf)), .ref ml, .ref mm, .ref md, .ref mw, .ref mt, .int (iJ (tl)), .ref mb, .ref mi, .ref mg])), (ms, cJ cI 34 (s)), (ml, cJ cI 99 (uJ G ((3 * (s 0)) + k) 0)), (mm, cL cJ_ 99 (M))] rfl ?_
            refine r_aload_n E 1 dX7_lay_67 rfl rfl ?_
            refine r_get E 6 0 9 dX7_lay_68 in_X7_lay_X7 lk_X7_lay_25 rfl rfl (by decide) rfl ?_
            refine r_iconst E 3 rfl dX7_lay_71 ?_
            refine r_iload_n E 3 dX7_lay_72 rfl rfl ?_
            refine r_imul E dX7_lay_73 ?_
            refine r_iload_n E 4 dX7_lay_74 rfl rfl ?_
            refine r_iadd E dX7_lay_75 ?_
            refine r_iload E 0 dX7_lay_76 rfl ?_
            refine r_if_eq E 85 dX7_lay_78 (by decide) ⟨by omega, by omega⟩ (fun c_78 => ?_) (fun c_78 => ?_)
            · refine r_lconst E 1 rfl dX7_lay_85 ?_
              refine r_last E (i := ((3 * (s 0)) + k)) 3 1 dX7_lay_86 rfl rfl (by decide) ⟨by omega, by omega⟩ [(m0, .inr (6, [.ref ms, .ref mh, .int (iJ (kp)), .ref mn, .int (iJ (sv)), .ref mp, .int (iJ (pn)), .int (iJ (rf)), .ref ml, .ref mm, .ref md, .ref mw, .ref mt, .int (iJ (tl)), .ref mb, .ref mi, .ref mg])), (ms, cJ cI 34 (s)), (ml, cJ cI 99 (uJ G ((3 * (s 0)) + k) 0)), (mm, cL cJ_ 99 (uJ M ((3 * (s 0)) + k) 1))] rfl ?_
              refine r_iinc E (k := 4) [(3, .int (iJ ((k + 1)))), (4, .int (iJ (v))), (0, .ref m0), (1, .int (iJ (nx))), (2, .int (iJ (s 0)))] dX7_lay_87 rfl (by decide) rfl ?_
              refine r_goto E 9 dX7_lay_90 (by decide) ?_
              refine r_lv [2, 3, 4, 0] [(0, .ref m0), (1, .int (iJ (nx))), (2, .int (iJ (s 0))), (3, .int (iJ ((k + 1))))] rfl ?_
              exact ih9 (k + 1) (uJ G ((3 * (s 0)) + k) 0) (uJ M ((3 * (s 0)) + k) 1) ⟨by omega, by omega⟩ (fun b h1 h2 => by
                    by_cases q0 : b = k
                    · subst q0; rw [uJ_s, uJ_s, lsS_e, mnS_e]
                      by_cases z : bsW s nx b
                      · rw [b2_t z] at hv; first | (rw [if_pos z, if_pos z]; exact ⟨by omega, by omega⟩) | omega
                      · rw [b2_f z] at hv; first | (rw [if_neg z, if_neg z]; exact ⟨by omega, by omega⟩) | omega
                    · rw [uJ_n (by omega), uJ_n (by omega)]; exact hG b h1 (by omega)) (by omega)
            · refine r_lconst E 0 rfl dX7_lay_81 ?_
              refine r_goto E 86 dX7_lay_82 (by decide) ?_
              refine r_last E (i := ((3 * (s 0)) + k)) 3 1 dX7_lay_86 rfl rfl (by decide) ⟨by omega, by omega⟩ [(m0, .inr (6, [.ref ms, .ref mh, .int (iJ (kp)), .ref mn, .int (iJ (sv)), .ref mp, .int (iJ (pn)), .int (iJ (rf)), .ref ml, .ref mm, .ref md, .ref mw, .ref mt, .int (iJ (tl)), .ref mb, .ref mi, .ref mg])), (ms, cJ cI 34 (s)), (ml, cJ cI 99 (uJ G ((3 * (s 0)) + k) 0)), (mm, cL cJ_ 99 (uJ M ((3 * (s 0)) + k) 0))] rfl ?_
              refine r_iinc E (k := 4) [(3, .int (iJ ((k + 1)))), (4, .int (iJ (v))), (0, .ref m0), (1, .int (iJ (nx))), (2, .int (iJ (s 0)))] dX7_lay_87 rfl (by decide) rfl ?_
              refine r_goto E 9 dX7_lay_90 (by decide) ?_
              refine r_lv [2, 3, 4, 0] [(0, .ref m0), (1, .int (iJ (nx))), (2, .int (iJ (s 0))), (3, .int (iJ ((k + 1))))] rfl ?_
              exact ih9 (k + 1) (uJ G ((3 * (s 0)) + k) 0) (uJ M ((3 * (s 0)) + k) 0) ⟨by omega, by omega⟩ (fun b h1 h2 => by
                    by_cases q0 : b = k
                    · subst q0; rw [uJ_s, uJ_s, lsS_e, mnS_e]
                      by_cases z : bsW s nx b
                      · rw [b2_t z] at hv; first | (rw [if_pos z, if_pos z]; exact ⟨by omega, by omega⟩) | omega
                      · rw [b2_f z] at hv; first | (rw [if_neg z, if_neg z]; exact ⟨by omega, by omega⟩) | omega
                    · rw [uJ_n (by omega), uJ_n (by omega)]; exact hG b h1 (by omega)) (by omega)
          · refine r_sipush E 1000 rfl dX7_lay_59 ?_
            refine r_goto E 66 dX7_lay_62 (by decide) ?_
            refine r_iast E (i := ((3 * (s 0)) + k)) 2 0 dX7_lay_66 rfl rfl (by decide) ⟨by omega, by omega⟩ [(m0, .inr (6, [.ref ms, .ref mh, .int (iJ (kp)), .ref mn, .int (iJ (sv)), .ref mp, .int (iJ (pn)), .int (iJ (rf)), .ref ml, .ref mm, .ref md, .ref mw, .ref mt, .int (iJ (tl)), .ref mb, .ref mi, .ref mg])), (ms, cJ cI 34 (s)), (ml, cJ cI 99 (uJ G ((3 * (s 0)) + k) 1000)), (mm, cL cJ_ 99 (M))] rfl ?_
            refine r_aload_n E 1 dX7_lay_67 rfl rfl ?_
            refine r_get E 6 0 9 dX7_lay_68 in_X7_lay_X7 lk_X7_lay_25 rfl rfl (by decide) rfl ?_
            refine r_iconst E 3 rfl dX7_lay_71 ?_
            refine r_iload_n E 3 dX7_lay_72 rfl rfl ?_
            refine r_imul E dX7_lay_73 ?_
            refine r_iload_n E 4 dX7_lay_74 rfl rfl ?_
            refine r_iadd E dX7_lay_75 ?_
            refine r_iload E 0 dX7_lay_76 rfl ?_
            refine r_if_eq E 85 dX7_lay_78 (by decide) ⟨by omega, by omega⟩ (fun c_78 => ?_) (fun c_78 => ?_)
            · refine r_lconst E 1 rfl dX7_lay_85 ?_
              refine r_last E (i := ((3 * (s 0)) + k)) 3 1 dX7_lay_86 rfl rfl (by decide) ⟨by omega, by omega⟩ [(m0, .inr (6, [.ref ms, .ref mh, .int (iJ (kp)), .ref mn, .int (iJ (sv)), .ref mp, .int (iJ (pn)), .int (iJ (rf)), .ref ml, .ref mm, .ref md, .ref mw, .ref mt, .int (iJ (tl)), .ref mb, .ref mi, .ref mg])), (ms, cJ cI 34 (s)), (ml, cJ cI 99 (uJ G ((3 * (s 0)) + k) 1000)), (mm, cL cJ_ 99 (uJ M ((3 * (s 0)) + k) 1))] rfl ?_
              refine r_iinc E (k := 4) [(3, .int (iJ ((k + 1)))), (4, .int (iJ (v))), (0, .ref m0), (1, .int (iJ (nx))), (2, .int (iJ (s 0)))] dX7_lay_87 rfl (by decide) rfl ?_
              refine r_goto E 9 dX7_lay_90 (by decide) ?_
              refine r_lv [2, 3, 4, 0] [(0, .ref m0), (1, .int (iJ (nx))), (2, .int (iJ (s 0))), (3, .int (iJ ((k + 1))))] rfl ?_
              exact ih9 (k + 1) (uJ G ((3 * (s 0)) + k) 1000) (uJ M ((3 * (s 0)) + k) 1) ⟨by omega, by omega⟩ (fun b h1 h2 => by
                    by_cases q0 : b = k
                    · subst q0; rw [uJ_s, uJ_s, lsS_e, mnS_e]
                      by_cases z : bsW s nx b
                      · rw [b2_t z] at hv; first | (rw [if_pos z, if_pos z]; exact ⟨by omega, by omega⟩) | omega
                      · rw [b2_f z] at hv; first | (rw [if_neg z, if_neg z]; exact ⟨by omega, by omega⟩) | omega
                    · rw [uJ_n (by omega), uJ_n (by omega)]; exact hG b h1 (by omega)) (by omega)
            · refine r_lconst E 0 rfl dX7_lay_81 ?_
              refine r_goto E 86 dX7_lay_82 (by decide) ?_
              refine r_last E (i := ((3 * (s 0)) + k)) 3 1 dX7_lay_86 rfl rfl (by decide) ⟨by omega, by omega⟩ [(m0, .inr (6, [.ref ms, .ref mh, .int (iJ (kp)), .ref mn, .int (iJ (sv)), .ref mp, .int (iJ (pn)), .int (iJ (rf)), .ref ml, .ref mm, .ref md, .ref mw, .ref mt, .int (iJ (tl)), .ref mb, .ref mi, .ref mg])), (ms, cJ cI 34 (s)), (ml, cJ cI 99 (uJ G ((3 * (s 0)) + k) 1000)), (mm, cL cJ_ 99 (uJ M ((3 * (s 0)) + k) 0))] rfl ?_
              refine r_iinc E (k := 4) [(3, .int (iJ ((k + 1)))), (4, .int (iJ (v))), (0, .ref m0), (1, .int (iJ (nx))), (2, .int (iJ (s 0)))] dX7_lay_87 rfl (by decide) rfl ?_
              refine r_goto E 9 dX7_lay_90 (by decide) ?_
              refine r_lv [2, 3, 4, 0] [(0, .ref m0), (1, .int (iJ (nx))), (2, .int (iJ (s 0))), (3, .int (iJ ((k + 1))))] rfl ?_
              exact ih9 (k + 1) (uJ G ((3 * (s 0)) + k) 1000) (uJ M ((3 * (s 0)) + k) 0) ⟨by omega, by omega⟩ (fun b h1 h2 => by
                    by_cases q0 : b = k
                    · subst q0; rw [uJ_s, uJ_s, lsS_e, mnS_e]
                      by_cases z : bsW s nx b
                      · rw [b2_t z] at hv; first | (rw [if_pos z, if_pos z]; exact ⟨by omega, by omega⟩) | omega
                      · rw [b2_f z] at hv; first | (rw [if_neg z, if_neg z]; exact ⟨by omega, by omega⟩) | omega
                    · rw [uJ_n (by omega), uJ_n (by omega)]; exact hG b h1 (by omega)) (by omega)
        refine r_iload_n E 1 dX7_lay_14 rfl rfl ?_
        refine r_bipush E (-4) rfl dX7_lay_15 ?_
        refine r_icmp_eq E 42 dX7_lay_17 (by decide) ⟨by omega, by omega⟩ ⟨by omega, by omega⟩ (fun c_17 => ?_) (fun c_17 => ?_)
        · refine r_iconst E 0 rfl dX7_lay_42 ?_
          refine r_lv [0, 1, 2, 3] [(0, .ref m0), (1, .int (iJ (nx))), (2, .int (iJ (s 0))), (3, .int (iJ (k)))] rfl ?_
          exact K_43 0 (by
                refine ⟨?_, by omega, by omega⟩
                first
                | exact (b2_t ⟨⟨by omega, by omega⟩, by omega⟩).symm
                | exact (b2_f (fun z => by first | omega | exact absurd z.1.1 (by omega) | exact absurd z.1.2 (by omega) | exact absurd z.2 (by omega))).symm)
        · refine r_iload_n E 3 dX7_lay_20 rfl rfl ?_
          refine r_iconst E 2 rfl dX7_lay_21 ?_
          refine r_icmp_ge E 42 dX7_lay_22 (by decide) ⟨by omega, by omega⟩ ⟨by omega, by omega⟩ (fun c_22 => ?_) (fun c_22 => ?_)
          · refine r_iconst E 0 rfl dX7_lay_42 ?_
            refine r_lv [0, 1, 2, 3] [(0, .ref m0), (1, .int (iJ (nx))), (2, .int (iJ (s 0))), (3, .int (iJ (k)))] rfl ?_
            exact K_43 0 (by
                  refine ⟨?_, by omega, by omega⟩
                  first
                  | exact (b2_t ⟨⟨by omega, by omega⟩, by omega⟩).symm
                  | exact (b2_f (fun z => by first | omega | exact absurd z.1.1 (by omega) | exact absurd z.1.2 (by omega) | exact absurd z.2 (by omega))).symm)
          · refine r_aload_n E 0 dX7_lay_25 rfl rfl ?_
            refine r_iload_n E 2 dX7_lay_26 rfl rfl ?_
            refine r_iconst E 1 rfl dX7_lay_27 ?_
            refine r_isub E dX7_lay_28 ?_
            refine r_iload_n E 3 dX7_lay_29 rfl rfl ?_
            refine r_iconst E 0 rfl dX7_lay_30 ?_
            refine r_iload_n E 1 dX7_lay_31 rfl rfl ?_
            have f_x := hsv (s 0 - 1) (by omega) (by omega)
            have f_y := hsv 0 (by omega) (by omega)
            refine r_vP E (st := []) (c_X7_areClashing l D m0 ms mh mn mp ml mm md mw mt mb mi mg cI kp sv pn rf tl s ((s 0) - 1) k 0 nx (by first | assumption | omega | exact ⟨by omega, by omega⟩) (by first | assumption | omega | exact ⟨by omega, by omega⟩) (by first | assumption | omega | exact ⟨by omega, by omega⟩) (by first | assumption | omega | exact ⟨by omega, by omega⟩) (by first | assumption | omega | exact ⟨by omega, by omega⟩) (by first | assumption | omega | exact ⟨by omega, by omega⟩) (by first | assumption | omega | exact ⟨by omega, by omega⟩)) gX7_lay_X7_areClashing 4 kf_X7_areClashing ⟨rfl, rfl⟩ ⟨by decide, by decide⟩ dX7_lay_32 rfl 0 rfl rfl rfl rfl ⟨Nat.zero_le _, Nat.zero_le _⟩ [0, 1] rfl (by decide) [0] rfl (Nat.le_of_ble_eq_true rfl) ?_
            have f_z := mCl_01 (s 1) (s (2 + (s 0 - 1))) k (s (2 + 0)) nx
            refine r_if_eq E 42 dX7_lay_35 (by decide) ⟨by omega, by omega⟩ (fun c_35 => ?_) (fun c_35 => ?_)
            · refine r_iconst E 0 rfl dX7_lay_42 ?_
              refine r_lv [0, 1, 2, 3] [(0, .ref m0), (1, .int (iJ (nx))), (2, .int (iJ (s 0))), (3, .int (iJ (k)))] rfl ?_
              exact K_43 0 (by
                    refine ⟨?_, by omega, by omega⟩
                    first
                    | exact (b2_t ⟨⟨by omega, by omega⟩, by omega⟩).symm
                    | exact (b2_f (fun z => by first | omega | exact absurd z.1.1 (by omega) | exact absurd z.1.2 (by omega) | exact absurd z.2 (by omega))).symm)
            · refine r_iconst E 1 rfl dX7_lay_38 ?_
              refine r_goto E 43 dX7_lay_39 (by decide) ?_
              refine r_lv [0, 1, 2, 3] [(0, .ref m0), (1, .int (iJ (nx))), (2, .int (iJ (s 0))), (3, .int (iJ (k)))] rfl ?_
              exact K_43 1 (by
                    refine ⟨?_, by omega, by omega⟩
                    first
                    | exact (b2_t ⟨⟨by omega, by omega⟩, by omega⟩).symm
                    | exact (b2_f (fun z => by first | omega | exact absurd z.1.1 (by omega) | exact absurd z.1.2 (by omega) | exact absurd z.2 (by omega))).symm)
  refine r_lv [2, 3, 1, 0] [(0, .ref m0), (1, .int (iJ (nx))), (2, .int (iJ (s 0))), (3, .int (iJ (0)))] rfl ?_
  exact loop_9 _ 0 le my ⟨by omega, by omega⟩ (fun b h1 h2 => absurd h2 (by omega)) (Nat.lt_succ_self _)
