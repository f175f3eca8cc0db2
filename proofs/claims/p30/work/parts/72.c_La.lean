theorem kf_L_low : KF yL_low 2 wsL_low cL_low 2 (some .int) := ⟨rfl, by decide +kernel, by decide +kernel, by decide +kernel⟩
def rm_L_low : Room := { frames := 0, cells := 0, slots := 0, locals := 0 }
set_option maxRecDepth 20000 in
theorem ck_L_low_8 : Cond.constant RL 8 (iJ 2147483647) ∈ wsL_low := by decide +kernel
set_option maxHeartbeats 1000000 in
set_option maxRecDepth 100000 in
theorem c_L_low (l : Launch) (D : va_G) (v : Int) (n : Int) (hv : jb v) (hn : 1 ≤ n ∧ n < 2147483648) : MP l yL_low wsL_low rm_L_low D vwCl [.int (iJ (v)), .int (iJ (n))] [] [] (lowV v n) := by
  refine MP.mk (cc := cL_low) (maxL := 2) (ret := (some .int)) (by decide) rfl (Nat.le_of_ble_eq_true rfl) rfl RL rfl ?_
  intro p_ e_ s_ m_ ar_ bw_ mt_ cd_ Q_ E hr hQ
  refine r_iload_n E 0 dL_low_0 rfl rfl ?_
  refine r_ldc E 2147483647 dL_low_1 ck_L_low_8 ?_
  refine r_iand E (v % 2147483648) (iJ_m31 v hv) dL_low_3 ?_
  refine r_iload_n E 1 dL_low_4 rfl rfl ?_
  refine r_irem E ⟨by omega, by omega⟩ ⟨by omega, by omega⟩ dL_low_5 ?_
  exact r_retP E hr dL_low_6 rfl hQ
theorem kf_L_blows : KF yL_blows 4 wsL_blows cL_blows 6 (some .int) := ⟨rfl, by decide +kernel, by decide +kernel, by decide +kernel⟩
def rm_L_blows : Room := { frames := 7, cells := 0, slots := 0, locals := 167 }
set_option maxHeartbeats 1000000 in
set_option maxRecDepth 100000 in
theorem c_L_blows (l : Launch) (D : va_G) (x0 : Nat) (h0 : Nat) (t0 : Nat) (n0 : Nat) (i0 : Nat) (d0 : Nat) (r0 : Nat) (p0 : Nat) (hs : Int) (rf : Int) (h1 : Nat) (cI : ClassId) (g : Int → Int) (n : Int) (q : Int) (d1 : Nat) (gp : Int → Int) (np : Int) (i1 : Nat) (m : Int) (a : Int) (y : Int) (f : Int) (hn : 0 ≤ n ∧ n ≤ 9) (hq : 1 ≤ q ∧ q ≤ 4) (hv : ∀ j : Int, 0 ≤ j → j < n → vK (g j)) (ha : 0 ≤ a ∧ a < n) (hy : jb y) (hf : jb f) : MP l yL_blows wsL_blows rm_L_blows D vwCl [.ref x0, .int (iJ (a)), .int (iJ (y)), .int (iJ (f))] [(x0, .inr (5, [.ref h0, .ref t0, .ref n0, .ref i0, .ref d0, .ref r0, .ref p0, .int (iJ (hs)), .int (iJ (rf))])), (h0, .inr (2, [.ref h1, .int (iJ (n)), .int (iJ (q))])), (h1, cJ cI 32 (g)), (d0, .inr (1, [.ref d1, .int (iJ (np))])), (d1, cJ cI 60 (gp)), (i0, .inr (0, [.ref i1, .int (iJ (m))]))] [(cI, .int)] (blV (g a) y f) := by
  refine MP.mk (cc := cL_blows) (maxL := 6) (ret := (some .int)) (by decide) rfl (Nat.le_of_ble_eq_true rfl) rfl RL rfl ?_
  intro p_ e_ s_ m_ ar_ bw_ mt_ cd_ Q_ E hr hQ
  have hn32 : 0 ≤ n ∧ n ≤ 32 := ⟨hn.1, by omega⟩
  have hg : ∀ j : Int, 0 ≤ j → j < n → 0 ≤ g j ∧ g j < 64 := fun j a b => (hv j a b).1
  have hg3 : ∀ j : Int, 0 ≤ j → j < n → ¬ g j / 2 % 4 = 3 := fun j a b => (hv j a b).2.1
  refine r_aload_n E 0 dL_blows_0 rfl rfl ?_
  refine r_iload_n E 1 dL_blows_1 rfl rfl ?_
  refine r_iconst E 2 rfl dL_blows_2 ?_
  refine r_vP E (st := []) (c_X6_stepR l D x0 h0 t0 n0 i0 d0 r0 p0 hs rf h1 cI g n q a 2 (by first | assumption | omega | exact ⟨by omega, by omega⟩) (by first | assumption | omega | exact ⟨by omega, by omega⟩) (by first | assumption | omega | exact ⟨by omega, by omega⟩) (by first | assumption | omega | exact ⟨by omega, by omega⟩) (by first | assumption | omega | exact ⟨by omega, by omega⟩)) gL_blows_X6_step 2 kf_X6_step ⟨rfl, rfl⟩ ⟨by decide, by decide⟩ dL_blows_3 rfl 0 rfl rfl rfl rfl ⟨Nat.zero_le _, Nat.zero_le _⟩ [0, 1, 2] rfl (by decide) [0] rfl (Nat.le_of_ble_eq_true rfl) ?_
  refine r_top (b := g a / 16 % 4) rfl ?_
  refine r_istore E [(4, .int (iJ (g a / 16 % 4))), (0, .ref x0), (1, .int (iJ (a))), (2, .int (iJ (y))), (3, .int (iJ (f)))] dL_blows_6 (by decide) rfl ?_
  have K_54 : ∀ (v : Int), (v = (if y = f then 16 + (if g a / 16 % 4 = 3 then 64 else 0) else if g a / 16 % 4 = 1 then 8 else if g a / 16 % 4 = 2 then 12 else 0)) → GG p_ l e_ rm_L_blows s_ m_ ar_ bw_ mt_ cd_ D vwCl (fun _ => True) (fun _ => False) s_.heap 6 0 0 Q_ [(x0, .inr (5, [.ref h0, .ref t0, .ref n0, .ref i0, .ref d0, .ref r0, .ref p0, .int (iJ (hs)), .int (iJ (rf))])), (h0, .inr (2, [.ref h1, .int (iJ (n)), .int (iJ (q))])), (h1, cJ cI 32 (g)), (d0, .inr (1, [.ref d1, .int (iJ (np))])), (d1, cJ cI 60 (gp)), (i0, .inr (0, [.ref i1, .int (iJ (m))]))] [(0, .ref x0), (1, .int (iJ (a))), (2, .int (iJ (y))), (3, .int (iJ (f))), (4, .int (iJ (g a / 16 % 4)))] 54 [.int (iJ (v))] := by
    intro v hvv
    refine r_istore E [(5, .int (iJ (v))), (0, .ref x0), (1, .int (iJ (a))), (2, .int (iJ (y))), (3, .int (iJ (f))), (4, .int (iJ (g a / 16 % 4)))] dL_blows_54 (by decide) rfl ?_
    refine r_aload_n E 1 dL_blows_56 rfl rfl ?_
    refine r_iload_n E 2 dL_blows_57 rfl rfl ?_
    refine r_iconst E 0 rfl dL_blows_58 ?_
    refine r_vP E (st := []) (c_X6_stepR l D x0 h0 t0 n0 i0 d0 r0 p0 hs rf h1 cI g n q a 0 (by first | assumption | omega | exact ⟨by omega, by omega⟩) (by first | assumption | omega | exact ⟨by omega, by omega⟩) (by first | assumption | omega | exact ⟨by omega, by omega⟩) (by first | assumption | omega | exact ⟨by omega, by omega⟩) (by first | assumption | omega | exact ⟨by omega, by omega⟩)) gL_blows_X6_step 2 kf_X6_step ⟨rfl, rfl⟩ ⟨by decide, by decide⟩ dL_blows_59 rfl 0 rfl rfl rfl rfl ⟨Nat.zero_le _, Nat.zero_le _⟩ [0, 1, 2] rfl (by decide) [0] rfl (Nat.le_of_ble_eq_true rfl) ?_
    refine r_top (b := ohV (g a)) rfl ?_
    have f_o := ohV_in (g a)
    refine r_bipush E (-4) rfl dL_blows_62 ?_
    refine r_icmp_ne E 71 dL_blows_64 (by decide) ⟨by omega, by omega⟩ ⟨by omega, by omega⟩ (fun c_64 => ?_) (fun c_64 => ?_)
    · refine r_iload E 0 dL_blows_71 rfl ?_
      exact r_retP E hr dL_blows_73 (by unfold blV; first | (rw [if_pos (f_o.1.mp c_64)]; done) | (rw [if_neg (fun z => c_64 (f_o.1.mpr z))]; exact hvv)) hQ
    · refine r_iconst E 0 rfl dL_blows_67 ?_
      refine r_goto E 73 dL_blows_68 (by decide) ?_
      exact r_retP E hr dL_blows_73 (by unfold blV; first | (rw [if_pos (f_o.1.mp c_64)]; done) | (rw [if_neg (fun z => c_64 (f_o.1.mpr z))]; exact hvv)) hQ
  refine r_iload_n E 3 dL_blows_8 rfl rfl ?_
  refine r_iload_n E 4 dL_blows_9 rfl rfl ?_
  refine r_icmp_ne E 31 dL_blows_10 (by decide) hy hf (fun c_10 => ?_) (fun c_10 => ?_)
  · refine r_iload E 0 dL_blows_31 rfl ?_
    refine r_iconst E 1 rfl dL_blows_33 ?_
    refine r_icmp_ne E 42 dL_blows_34 (by decide) ⟨by omega, by omega⟩ ⟨by omega, by omega⟩ (fun c_34 => ?_) (fun c_34 => ?_)
    · refine r_iload E 0 dL_blows_42 rfl ?_
      refine r_iconst E 2 rfl dL_blows_44 ?_
      refine r_icmp_ne E 53 dL_blows_45 (by decide) ⟨by omega, by omega⟩ ⟨by omega, by omega⟩ (fun c_45 => ?_) (fun c_45 => ?_)
      · refine r_iconst E 0 rfl dL_blows_53 ?_
        refine r_lv [1, 2, 3, 4, 0] [(0, .ref x0), (1, .int (iJ (a))), (2, .int (iJ (y))), (3, .int (iJ (f))), (4, .int (iJ (g a / 16 % 4)))] rfl ?_
        exact K_54 0 (by first | (rw [if_pos c_10, if_pos c_18]; rfl) | (rw [if_pos c_10, if_neg c_18]; rfl) | (rw [if_neg c_10, if_pos c_34]; done) | (rw [if_neg c_10, if_neg c_34, if_pos c_45]; done) | (rw [if_neg c_10, if_neg c_34, if_neg c_45]; done))
      · refine r_bipush E 12 rfl dL_blows_48 ?_
        refine r_goto E 54 dL_blows_50 (by decide) ?_
        refine r_lv [1, 2, 3, 4, 0] [(0, .ref x0), (1, .int (iJ (a))), (2, .int (iJ (y))), (3, .int (iJ (f))), (4, .int (iJ (g a / 16 % 4)))] rfl ?_
        exact K_54 12 (by first | (rw [if_pos c_10, if_pos c_18]; rfl) | (rw [if_pos c_10, if_neg c_18]; rfl) | (rw [if_neg c_10, if_pos c_34]; done) | (rw [if_neg c_10, if_neg c_34, if_pos c_45]; done) | (rw [if_neg c_10, if_neg c_34, if_neg c_45]; done))
    · refine r_bipush E 8 rfl dL_blows_37 ?_
      refine r_goto E 54 dL_blows_39 (by decide) ?_
      refine r_lv [1, 2, 3, 4, 0] [(0, .ref x0), (1, .int (iJ (a))), (2, .int (iJ (y))), (3, .int (iJ (f))), (4, .int (iJ (g a / 16 % 4)))] rfl ?_
      exact K_54 8 (by first | (rw [if_pos c_10, if_pos c_18]; rfl) | (rw [if_pos c_10, if_neg c_18]; rfl) | (rw [if_neg c_10, if_pos c_34]; done) | (rw [if_neg c_10, if_neg c_34, if_pos c_45]; done) | (rw [if_neg c_10, if_neg c_34, if_neg c_45]; done))
  · refine r_bipush E 16 rfl dL_blows_13 ?_
    refine r_iload E 0 dL_blows_15 rfl ?_
    refine r_iconst E 3 rfl dL_blows_17 ?_
    refine r_icmp_ne E 26 dL_blows_18 (by decide) ⟨by omega, by omega⟩ ⟨by omega, by omega⟩ (fun c_18 => ?_) (fun c_18 => ?_)
    · refine r_iconst E 0 rfl dL_blows_26 ?_
      refine r_ior E 16 (by decide) dL_blows_27 ?_
      refine r_goto E 54 dL_blows_28 (by decide) ?_
      refine r_lv [1, 2, 3, 4, 0] [(0, .ref x0), (1, .int (iJ (a))), (2, .int (iJ (y))), (3, .int (iJ (f))), (4, .int (iJ (g a / 16 % 4)))] rfl ?_
      exact K_54 16 (by first | (rw [if_pos c_10, if_pos c_18]; rfl) | (rw [if_pos c_10, if_neg c_18]; rfl) | (rw [if_neg c_10, if_pos c_34]; done) | (rw [if_neg c_10, if_neg c_34, if_pos c_45]; done) | (rw [if_neg c_10, if_neg c_34, if_neg c_45]; done))
    · refine r_bipush E 64 rfl dL_blows_21 ?_
      refine r_goto E 27 dL_blows_23 (by decide) ?_
      refine r_ior E 80 (by decide) dL_blows_27 ?_
      refine r_goto E 54 dL_blows_28 (by decide) ?_
      refine r_lv [1, 2, 3, 4, 0] [(0, .ref x0), (1, .int (iJ (a))), (2, .int (iJ (y))), (3, .int (iJ (f))), (4, .int (iJ (g a / 16 % 4)))] rfl ?_
      exact K_54 80 (by first | (rw [if_pos c_10, if_pos c_18]; rfl) | (rw [if_pos c_10, if_neg c_18]; rfl) | (rw [if_neg c_10, if_pos c_34]; done) | (rw [if_neg c_10, if_neg c_34, if_pos c_45]; done) | (rw [if_neg c_10, if_neg c_34, if_neg c_45]; done))
theorem kf_L_clash : KF yL_clash 5 wsL_clash cL_clash 10 (some .boolean) := ⟨rfl, by decide +kernel, by decide +kernel, by decide +kernel⟩
def rm_L_clash : Room := { frames := 8, cells := 0, slots := 0, locals := 192 }
set_option maxHeartbeats 1000000 in
set_option maxRecDepth 100000 in
theorem c_L_clash (l : Launch) (D : va_G) (x0 : Nat) (h0 : Nat) (t0 : Nat) (n0 : Nat) (i0 : Nat) (d0 : Nat) (r0 : Nat) (p0 : Nat) (hs : Int) (rf : Int) (h1 : Nat) (cI : ClassId) (g : Int → Int) (n : Int) (q : Int) (d1 : Nat) (gp : Int → Int) (np : Int) (i1 : Nat) (m : Int) (a : Int) (y : Int) (b : Int) (z : Int) (hn : 0 ≤ n ∧ n ≤ 9) (hq : 1 ≤ q ∧ q ≤ 4) (hv : ∀ j : Int, 0 ≤ j → j < n → vK (g j)) (ha : 0 ≤ a ∧ a < n) (hb : 0 ≤ b ∧ b < n) (hy : y = 0 ∨ y = 1) (hz : z = 0 ∨ z = 1) : MP l yL_clash wsL_clash rm_L_clash D vwCl [.ref x0, .int (iJ (a)), .int (iJ (y)), .int (iJ (b)), .int (iJ (z))] [(x0, .inr (5, [.ref h0, .ref t0, .ref n0, .ref i0, .ref d0, .ref r0, .ref p0, .int (iJ (hs)), .int (iJ (rf))])), (h0, .inr (2, [.ref h1, .int (iJ (n)), .int (iJ (q))])), (h1, cJ cI 32 (g)), (d0, .inr (1, [.ref d1, .int (iJ (np))])), (d1, cJ cI 60 (gp)), (i0, .inr (0, [.ref i1, .int (iJ (m))]))] [(cI, .int)] (b2 (cnD q (g a) (g b) (b2 (y = z)))) := by
  refine MP.mk (cc := cL_clash) (maxL := 10) (ret := (some .boolean)) (by decide) rfl (Nat.le_of_ble_eq_true rfl) rfl RL rfl ?_
  intro p_ e_ s_ m_ ar_ bw_ mt_ cd_ Q_ E hr hQ
  have hn32 : 0 ≤ n ∧ n ≤ 32 := ⟨hn.1, by omega⟩
  have hg : ∀ j : Int, 0 ≤ j → j < n → 0 ≤ g j ∧ g j < 64 := fun j a b => (hv j a b).1
  have hg3 : ∀ j : Int, 0 ≤ j → j < n → ¬ g j / 2 % 4 = 3 := fun j a b => (hv j a b).2.1
  refine r_iconst E 0 rfl dL_clash_0 ?_
  refine r_istore E [(5, .int (iJ (0))), (0, .ref x0), (1, .int (iJ (a))), (2, .int (iJ (y))), (3, .int (iJ (b))), (4, .int (iJ (z)))] dL_clash_1 (by decide) rfl ?_
  refine r_iconst E 0 rfl dL_clash_3 ?_
  refine r_istore E [(6, .int (iJ (0))), (5, .int (iJ (0))), (0, .ref x0), (1, .int (iJ (a))), (2, .int (iJ (y))), (3, .int (iJ (b))), (4, .int (iJ (z)))] dL_clash_4 (by decide) rfl ?_
  have loop_6 : ∀ (N : Nat) (f : Int) (x : Int), (0 ≤ f ∧ f ≤ 2) → (x = clO q (g a) y (g b) z f.toNat) → (2 - f).toNat < N → GG p_ l e_ rm_L_clash s_ m_ ar_ bw_ mt_ cd_ D vwCl (fun _ => True) (fun _ => False) s_.heap 10 0 0 Q_ [(x0, .inr (5, [.ref h0, .ref t0, .ref n0, .ref i0, .ref d0, .ref r0, .ref p0, .int (iJ (hs)), .int (iJ (rf))])), (h0, .inr (2, [.ref h1, .int (iJ (n)), .int (iJ (q))])), (h1, cJ cI 32 (g)), (d0, .inr (1, [.ref d1, .int (iJ (np))])), (d1, cJ cI 60 (gp)), (i0, .inr (0, [.ref i1, .int (iJ (m))]))] [(0, .ref x0), (1, .int (iJ (a))), (2, .int (iJ (y))), (3, .int (iJ (b))), (4, .int (iJ (z))), (5, .int (iJ (x))), (6, .int (iJ (f)))] 6 [] := by
    intro N; induction N with
    | zero => intro f x hf hx hN; exact absurd hN (Nat.not_lt_zero _)
    | succ N ih6 =>
      intro f x hf hx hN
      refine r_iload E 6 dL_clash_6 rfl ?_
      refine r_iconst E 2 rfl dL_clash_8 ?_
      refine r_icmp_ge E 108 dL_clash_9 (by decide) ⟨by omega, by omega⟩ ⟨by omega, by omega⟩ (fun c_9 => ?_) (fun c_9 => ?_)
      · refine r_iload E 5 dL_clash_108 rfl ?_
        exact r_retPZ E hr dL_clash_110 (clO_01 hx) (by
              have e : f = 2 := by omega
              rw [hx, e]; exact cl_cn hq (hv a ha.1 ha.2) (hv b hb.1 hb.2) hy hz) hQ
      · refine r_aload_n E 0 dL_clash_12 rfl rfl ?_
        refine r_iload_n E 1 dL_clash_13 rfl rfl ?_
        refine r_iload_n E 2 dL_clash_14 rfl rfl ?_
        refine r_iload E 6 dL_clash_15 rfl ?_
        refine r_sP E (st := []) (c_L_blows l D x0 h0 t0 n0 i0 d0 r0 p0 hs rf h1 cI g n q d1 gp np i1 m a y f (by first | assumption | omega | exact ⟨by omega, by omega⟩) (by first | assumption | omega | exact ⟨by omega, by omega⟩) (by first | assumption | omega | exact ⟨by omega, by omega⟩) (by first | assumption | omega | exact ⟨by omega, by omega⟩) (by first | assumption | omega | exact ⟨by omega, by omega⟩) (by first | assumption | omega | exact ⟨by omega, by omega⟩)) gL_clash_L_blows 4 kf_L_blows ⟨rfl, rfl⟩ ⟨by decide, by decide⟩ dL_clash_17 rfl rfl ⟨Nat.zero_le _, Nat.zero_le _⟩ [0, 1, 2, 3, 4, 5] rfl (by decide) [0] rfl (Nat.le_of_ble_eq_true rfl) ?_
        refine r_istore E [(7, .int (iJ (blV (g a) y f))), (0, .ref x0), (1, .int (iJ (a))), (2, .int (iJ (y))), (3, .int (iJ (b))), (4, .int (iJ (z))), (5, .int (iJ (x))), (6, .int (iJ (f)))] dL_clash_20 (by decide) rfl ?_
        have f_A := blV_in (g a) y f
        refine r_aload_n E 1 dL_clash_22 rfl rfl ?_
        refine r_iload_n E 4 dL_clash_23 rfl rfl ?_
        refine r_iload E 5 dL_clash_24 rfl ?_
        refine r_iload E 7 dL_clash_26 rfl ?_
        refine r_sP E (st := []) (c_L_blows l D x0 h0 t0 n0 i0 d0 r0 p0 hs rf h1 cI g n q d1 gp np i1 m b z f (by first | assumption | omega | exact ⟨by omega, by omega⟩) (by first | assumption | omega | exact ⟨by omega, by omega⟩) (by first | assumption | omega | exact ⟨by omega, by omega⟩) (by first | assumption | omega | exact ⟨by omega, by omega⟩) (by first | assumption | omega | exact ⟨by omega, by omega⟩) (by first | assumption | omega | exact ⟨by omega, by omega⟩)) gL_clash_L_blows 4 kf_L_blows ⟨rfl, rfl⟩ ⟨by decide, by decide⟩ dL_clash_28 rfl rfl ⟨Nat.zero_le _, Nat.zero_le _⟩ [0, 1, 2, 3, 4, 5] rfl (by decide) [0] rfl (Nat.le_of_ble_eq_true rfl) ?_
        have f_B := blV_in (g b) z f
        have f_B4 : 0 ≤ blV (g b) z f * p2 4 ∧ blV (g b) z f * p2 4 ≤ 1280 := blp_4 f_B
        refine r_iconst E 4 rfl dL_clash_31 ?_
        refine r_ishl E (blV (g b) z f * p2 4) (sh_a ⟨by omega, by omega⟩ ⟨by omega, by omega⟩) dL_clash_32 ?_
        refine r_istore E [(8, .int (iJ ((blV (g b) z f * p2 4)))), (7, .int (iJ (blV (g a) y f))), (0, .ref x0), (1, .int (iJ (a))), (2, .int (iJ (y))), (3, .int (iJ (b))), (4, .int (iJ (z))), (5, .int (iJ (x))), (6, .int (iJ (f)))] dL_clash_33 (by decide) rfl ?_
        refine r_iconst E 1 rfl dL_clash_35 ?_
        refine r_aload_n E 2 dL_clash_36 rfl rfl ?_
        refine r_bipush E 11 rfl dL_clash_37 ?_
        refine r_vP E (st := [.int (iJ (1))]) (c_X6_count l D x0 h0 t0 n0 i0 d0 r0 p0 hs rf h1 cI g n q d1 gp np i1 m 11 (by first | assumption | omega | exact ⟨by omega, by omega⟩) (by first | assumption | omega | exact ⟨by omega, by omega⟩) (by first | assumption | omega | exact ⟨by omega, by omega⟩)) gL_clash_X6_count 1 kf_X6_count ⟨rfl, rfl⟩ ⟨by decide, by decide⟩ dL_clash_39 rfl 0 rfl rfl rfl rfl ⟨Nat.zero_le _, Nat.zero_le _⟩ [0, 1, 2, 3, 4, 5] rfl (by decide) [0] rfl (Nat.le_of_ble_eq_true rfl) ?_
        refine r_top (b := q) rfl ?_
        refine r_isub E dL_clash_42 ?_
        refine r_istore E [(9, .int (iJ ((1 - q)))), (8, .int (iJ ((blV (g b) z f * p2 4)))), (7, .int (iJ (blV (g a) y f))), (0, .ref x0), (1, .int (iJ (a))), (2, .int (iJ (y))), (3, .int (iJ (b))), (4, .int (iJ (z))), (5, .int (iJ (x))), (6, .int (iJ (f)))] dL_clash_43 (by decide) rfl ?_
        have loop_45 : ∀ (N : Nat) (o : Int) (w : Int), (1 - q ≤ o ∧ o ≤ q) → (w = clI (blV (g a) y f) (blV (g b) z f * p2 4) q (o - (1 - q)).toNat x) → (q - o).toNat < N → GG p_ l e_ rm_L_clash s_ m_ ar_ bw_ mt_ cd_ D vwCl (fun _ => True) (fun _ => False) s_.heap 10 0 0 Q_ [(x0, .inr (5, [.ref h0, .ref t0, .ref n0, .ref i0, .ref d0, .ref r0, .ref p0, .int (iJ (hs)), .int (iJ (rf))])), (h0, .inr (2, [.ref h1, .int (iJ (n)), .int (iJ (q))])), (h1, cJ cI 32 (g)), (d0, .inr (1, [.ref d1, .int (iJ (np))])), (d1, cJ cI 60 (gp)), (i0, .inr (0, [.ref i1, .int (iJ (m))]))] [(0, .ref x0), (1, .int (iJ (a))), (2, .int (iJ (y))), (3, .int (iJ (b))), (4, .int (iJ (z))), (5, .int (iJ (w))), (6, .int (iJ (f))), (7, .int (iJ (blV (g a) y f))), (8, .int (iJ ((blV (g b) z f * p2 4)))), (9, .int (iJ (o)))] 45 [] := by
          intro N; induction N with
          | zero => intro o w ho hw hN; exact absurd hN (Nat.not_lt_zero _)
          | succ N ih45 =>
            intro o w ho hw hN
            refine r_iload E 9 dL_clash_45 rfl ?_
            refine r_aload_n E 0 dL_clash_47 rfl rfl ?_
            refine r_bipush E 11 rfl dL_clash_48 ?_
            refine r_vP E (st := [.int (iJ (o))]) (c_X6_count l D x0 h0 t0 n0 i0 d0 r0 p0 hs rf h1 cI g n q d1 gp np i1 m 11 (by first | assumption | omega | exact ⟨by omega, by omega⟩) (by first | assumption | omega | exact ⟨by omega, by omega⟩) (by first | assumption | omega | exact ⟨by omega, by omega⟩)) gL_clash_X6_count 1 kf_X6_count ⟨rfl, rfl⟩ ⟨by decide, by decide⟩ dL_clash_50 rfl 0 rfl rfl rfl rfl ⟨Nat.zero_le _, Nat.zero_le _⟩ [0, 1, 2, 3, 4, 5] rfl (by decide) [0] rfl (Nat.le_of_ble_eq_true rfl) ?_
            refine r_top (b := q) rfl ?_
            refine r_icmp_ge E 102 dL_clash_53 (by decide) ⟨by omega, by omega⟩ ⟨by omega, by omega⟩ (fun c_53 => ?_) (fun c_53 => ?_)
            · refine r_iinc E (k := 6) [(6, .int (iJ ((f + 1)))), (0, .ref x0), (1, .int (iJ (a))), (2, .int (iJ (y))), (3, .int (iJ (b))), (4, .int (iJ (z))), (5, .int (iJ (w))), (7, .int (iJ (blV (g a) y f))), (8, .int (iJ ((blV (g b) z f * p2 4)))), (9, .int (iJ (o)))] dL_clash_102 rfl (by decide) rfl ?_
              refine r_goto E 6 dL_clash_105 (by decide) ?_
              refine r_lv [1, 2, 3, 4, 5, 6, 0] [(0, .ref x0), (1, .int (iJ (a))), (2, .int (iJ (y))), (3, .int (iJ (b))), (4, .int (iJ (z))), (5, .int (iJ (w))), (6, .int (iJ ((f + 1))))] rfl ?_
              exact ih6 (f + 1) w ⟨by omega, by omega⟩ (by
                    have e_o : o = q := by omega
                    rw [clO_s _ _ _ _ _ (by omega), ← hx, hw, e_o, show q - (1 - q) = 2 * q - 1 by omega]) (by omega)
            · have f_y := clI_01 (blV (g a) y f) (blV (g b) z f * p2 4) q (o - (1 - q)).toNat x (clO_01 hx)
              rw [← hw] at f_y
              have K_94 : ∀ (u : Int), (u = (if ¬ w = 0 ∨ clS (blV (g a) y f) (blV (g b) z f * p2 4) o then 1 else 0)) → GG p_ l e_ rm_L_clash s_ m_ ar_ bw_ mt_ cd_ D vwCl (fun _ => True) (fun _ => False) s_.heap 10 0 0 Q_ [(x0, .inr (5, [.ref h0, .ref t0, .ref n0, .ref i0, .ref d0, .ref r0, .ref p0, .int (iJ (hs)), .int (iJ (rf))])), (h0, .inr (2, [.ref h1, .int (iJ (n)), .int (iJ (q))])), (h1, cJ cI 32 (g)), (d0, .inr (1, [.ref d1, .int (iJ (np))])), (d1, cJ cI 60 (gp)), (i0, .inr (0, [.ref i1, .int (iJ (m))]))] [(0, .ref x0), (1, .int (iJ (a))), (2, .int (iJ (y))), (3, .int (iJ (b))), (4, .int (iJ (z))), (5, .int (iJ (w))), (6, .int (iJ (f))), (7, .int (iJ (blV (g a) y f))), (8, .int (iJ ((blV (g b) z f * p2 4)))), (9, .int (iJ (o)))] 94 [.int (iJ (u))] := by
                intro u hu
                refine r_istore E [(5, .int (iJ (u))), (0, .ref x0), (1, .int (iJ (a))), (2, .int (iJ (y))), (3, .int (iJ (b))), (4, .int (iJ (z))), (6, .int (iJ (f))), (7, .int (iJ (blV (g a) y f))), (8, .int (iJ ((blV (g b) z f * p2 4)))), (9, .int (iJ (o)))] dL_clash_94 (by decide) rfl ?_
                refine r_iinc E (k := 9) [(9, .int (iJ ((o + 1)))), (5, .int (iJ (u))), (0, .ref x0), (1, .int (iJ (a))), (2, .int (iJ (y))), (3, .int (iJ (b))), (4, .int (iJ (z))), (6, .int (iJ (f))), (7, .int (iJ (blV (g a) y f))), (8, .int (iJ ((blV (g b) z f * p2 4))))] dL_clash_96 rfl (by decide) rfl ?_
                refine r_goto E 45 dL_clash_99 (by decide) ?_
                refine r_lv [2, 3, 4, 5, 6, 1, 7, 8, 9, 0] [(0, .ref x0), (1, .int (iJ (a))), (2, .int (iJ (y))), (3, .int (iJ (b))), (4, .int (iJ (z))), (5, .int (iJ (u))), (6, .int (iJ (f))), (7, .int (iJ (blV (g a) y f))), (8, .int (iJ ((blV (g b) z f * p2 4)))), (9, .int (iJ ((o + 1))))] rfl ?_
                exact ih45 (o + 1) u ⟨by omega, by omega⟩ (by rw [clI_s _ _ _ _ ho.1, ← hw]; exact hu) (by omega)
              refine r_iload E 5 dL_clash_56 rfl ?_
              refine r_if_ne E 89 dL_clash_58 (by decide) ⟨by omega, by omega⟩ (fun c_58 => ?_) (fun c_58 => ?_)
              · refine r_iconst E 1 rfl dL_clash_89 ?_
                refine r_goto E 94 dL_clash_90 (by decide) ?_
                refine r_lv [0, 1, 2, 3, 4, 5, 6, 7, 8, 9] [(0, .ref x0), (1, .int (iJ (a))), (2, .int (iJ (y))), (3, .int (iJ (b))), (4, .int (iJ (z))), (5, .int (iJ (w))), (6, .int (iJ (f))), (7, .int (iJ (blV (g a) y f))), (8, .int (iJ ((blV (g b) z f * p2 4)))), (9, .int (iJ (o)))] rfl ?_
                exact K_94 1 (by
                      first
                      | (rw [if_pos (Or.inl c_58)]; done)
                      | (rw [if_pos (Or.inr (by unfold clS; rw [if_pos (show o < 0 by omega)]; exact c_86))]; done)
                      | (rw [if_pos (Or.inr (by unfold clS; rw [if_neg (show ¬ o < 0 by omega)]; exact c_86))]; done)
                      | (rw [if_neg (fun t => t.elim (fun t => t c_58) (fun t => by unfold clS at t; rw [if_pos (show o < 0 by omega)] at t; exact t c_86))]; done)
                      | (rw [if_neg (fun t => t.elim (fun t => t c_58) (fun t => by unfold clS at t; rw [if_neg (show ¬ o < 0 by omega)] at t; exact t c_86))]; done))
              · refine r_iload E 9 dL_clash_61 rfl ?_
                refine r_if_ge E 78 dL_clash_63 (by decide) ⟨by omega, by omega⟩ (fun c_63 => ?_) (fun c_63 => ?_)
                · have f_P := blp_r (A := blV (g a) y f) (j := o) f_A
                  have f_N := anI_in (x := blV (g a) y f / p2 o) (y := blV (g b) z f * p2 4) f_P.1
                  refine r_iload E 7 dL_clash_78 rfl ?_
                  refine r_iload E 9 dL_clash_80 rfl ?_
                  refine r_ishr E (blV (g a) y f / p2 o) (sh_r ⟨by omega, by omega⟩ ⟨by omega, by omega⟩) dL_clash_82 ?_
                  refine r_iload E 8 dL_clash_83 rfl ?_
                  refine r_iand E (anI (blV (g a) y f / p2 o) (blV (g b) z f * p2 4)) (iJ_an ⟨by omega, by omega⟩ ⟨by omega, by omega⟩) dL_clash_85 ?_
                  refine r_if_eq E 93 dL_clash_86 (by decide) ⟨by omega, by omega⟩ (fun c_86 => ?_) (fun c_86 => ?_)
                  · refine r_iconst E 0 rfl dL_clash_93 ?_
                    refine r_lv [0, 1, 2, 3, 4, 5, 6, 7, 8, 9] [(0, .ref x0), (1, .int (iJ (a))), (2, .int (iJ (y))), (3, .int (iJ (b))), (4, .int (iJ (z))), (5, .int (iJ (w))), (6, .int (iJ (f))), (7, .int (iJ (blV (g a) y f))), (8, .int (iJ ((blV (g b) z f * p2 4)))), (9, .int (iJ (o)))] rfl ?_
                    exact K_94 0 (by
                          first
                          | (rw [if_pos (Or.inl c_58)]; done)
                          | (rw [if_pos (Or.inr (by unfold clS; rw [if_pos (show o < 0 by omega)]; exact c_86))]; done)
                          | (rw [if_pos (Or.inr (by unfold clS; rw [if_neg (show ¬ o < 0 by omega)]; exact c_86))]; done)
                          | (rw [if_neg (fun t => t.elim (fun t => t c_58) (fun t => by unfold clS at t; rw [if_pos (show o < 0 by omega)] at t; exact t c_86))]; done)
                          | (rw [if_neg (fun t => t.elim (fun t => t c_58) (fun t => by unfold clS at t; rw [if_neg (show ¬ o < 0 by omega)] at t; exact t c_86))]; done))
                  · refine r_iconst E 1 rfl dL_clash_89 ?_
                    refine r_goto E 94 dL_clash_90 (by decide) ?_
                    refine r_lv [0, 1, 2, 3, 4, 5, 6, 7, 8, 9] [(0, .ref x0), (1, .int (iJ (a))), (2, .int (iJ (y))), (3, .int (iJ (b))), (4, .int (iJ (z))), (5, .int (iJ (w))), (6, .int (iJ (f))), (7, .int (iJ (blV (g a) y f))), (8, .int (iJ ((blV (g b) z f * p2 4)))), (9, .int (iJ (o)))] rfl ?_
                    exact K_94 1 (by
                          first
                          | (rw [if_pos (Or.inl c_58)]; done)
                          | (rw [if_pos (Or.inr (by unfold clS; rw [if_pos (show o < 0 by omega)]; exact c_86))]; done)
                          | (rw [if_pos (Or.inr (by unfold clS; rw [if_neg (show ¬ o < 0 by omega)]; exact c_86))]; done)
                          | (rw [if_neg (fun t => t.elim (fun t => t c_58) (fun t => by unfold clS at t; rw [if_pos (show o < 0 by omega)] at t; exact t c_86))]; done)
                          | (rw [if_neg (fun t => t.elim (fun t => t c_58) (fun t => by unfold clS at t; rw [if_neg (show ¬ o < 0 by omega)] at t; exact t c_86))]; done))
                · have f_P := blp_l (A := blV (g a) y f) (j := - o) f_A ⟨by omega, by omega⟩
                  have f_N := anI_in (x := blV (g a) y f * p2 (- o)) (y := blV (g b) z f * p2 4) f_P.1
                  refine r_iload E 7 dL_clash_66 rfl ?_
                  refine r_iload E 9 dL_clash_68 rfl ?_
                  refine r_ineg E dL_clash_70 ?_
                  refine r_ishl E (blV (g a) y f * p2 (- o)) (sh_a ⟨by omega, by omega⟩ ⟨by omega, by omega⟩) dL_clash_71 ?_
                  refine r_iload E 8 dL_clash_72 rfl ?_
                  refine r_iand E (anI (blV (g a) y f * p2 (- o)) (blV (g b) z f * p2 4)) (iJ_an ⟨by omega, by omega⟩ ⟨by omega, by omega⟩) dL_clash_74 ?_
                  refine r_goto E 86 dL_clash_75 (by decide) ?_
                  refine r_if_eq E 93 dL_clash_86 (by decide) ⟨by omega, by omega⟩ (fun c_86 => ?_) (fun c_86 => ?_)
                  · refine r_iconst E 0 rfl dL_clash_93 ?_
                    refine r_lv [0, 1, 2, 3, 4, 5, 6, 7, 8, 9] [(0, .ref x0), (1, .int (iJ (a))), (2, .int (iJ (y))), (3, .int (iJ (b))), (4, .int (iJ (z))), (5, .int (iJ (w))), (6, .int (iJ (f))), (7, .int (iJ (blV (g a) y f))), (8, .int (iJ ((blV (g b) z f * p2 4)))), (9, .int (iJ (o)))] rfl ?_
                    exact K_94 0 (by
                          first
                          | (rw [if_pos (Or.inl c_58)]; done)
                          | (rw [if_pos (Or.inr (by unfold clS; rw [if_pos (show o < 0 by omega)]; exact c_86))]; done)
                          | (rw [if_pos (Or.inr (by unfold clS; rw [if_neg (show ¬ o < 0 by omega)]; exact c_86))]; done)
                          | (rw [if_neg (fun t => t.elim (fun t => t c_58) (fun t => by unfold clS at t; rw [if_pos (show o < 0 by omega)] at t; exact t c_86))]; done)
                          | (rw [if_neg (fun t => t.elim (fun t => t c_58) (fun t => by unfold clS at t; rw [if_neg (show ¬ o < 0 by omega)] at t; exact t c_86))]; done))
                  · refine r_iconst E 1 rfl dL_clash_89 ?_
                    refine r_goto E 94 dL_clash_90 (by decide) ?_
                    refine r_lv [0, 1, 2, 3, 4, 5, 6, 7, 8, 9] [(0, .ref x0), (1, .int (iJ (a))), (2, .int (iJ (y))), (3, .int (iJ (b))), (4, .int (iJ (z))), (5, .int (iJ (w))), (6, .int (iJ (f))), (7, .int (iJ (blV (g a) y f))), (8, .int (iJ ((blV (g b) z f * p2 4)))), (9, .int (iJ (o)))] rfl ?_
                    exact K_94 1 (by
                          first
                          | (rw [if_pos (Or.inl c_58)]; done)
                          | (rw [if_pos (Or.inr (by unfold clS; rw [if_pos (show o < 0 by omega)]; exact c_86))]; done)
                          | (rw [if_pos (Or.inr (by unfold clS; rw [if_neg (show ¬ o < 0 by omega)]; exact c_86))]; done)
                          | (rw [if_neg (fun t => t.elim (fun t => t c_58) (fun t => by unfold clS at t; rw [if_pos (show o < 0 by omega)] at t; exact t c_86))]; done)
                          | (rw [if_neg (fun t => t.elim (fun t => t c_58) (fun t => by unfold clS at t; rw [if_neg (show ¬ o < 0 by omega)] at t; exact t c_86))]; done))
        refine r_lv [3, 4, 5, 6, 7, 8, 9, 2, 1, 0] [(0, .ref x0), (1, .int (iJ (a))), (2, .int (iJ (y))), (3, .int (iJ (b))), (4, .int (iJ (z))), (5, .int (iJ (x))), (6, .int (iJ (f))), (7, .int (iJ (blV (g a) y f))), (8, .int (iJ ((blV (g b) z f * p2 4)))), (9, .int (iJ ((1 - q))))] rfl ?_
        exact loop_45 _ (1 - q) x ⟨by omega, by omega⟩ (by rw [show (1 : Int) - q - (1 - q) = 0 by omega]; rfl) (Nat.lt_succ_self _)
  refine r_lv [2, 3, 4, 5, 6, 1, 0] [(0, .ref x0), (1, .int (iJ (a))), (2, .int (iJ (y))), (3, .int (iJ (b))), (4, .int (iJ (z))), (5, .int (iJ (0))), (6, .int (iJ (0)))] rfl ?_
  exact loop_6 _ 0 0 ⟨by omega, by omega⟩ rfl (Nat.lt_succ_self _)
theorem kf_L_can : KF yL_can 3 wsL_can cL_can 7 (some .boolean) := ⟨rfl, by decide +kernel, by decide +kernel, by decide +kernel⟩
def rm_L_can : Room := { frames := 9, cells := 0, slots := 0, locals := 221 }
set_option maxHeartbeats 1000000 in
set_option maxRecDepth 100000 in
theorem c_L_can (l : Launch) (D : va_G) (x0 : Nat) (h0 : Nat) (t0 : Nat) (n0 : Nat) (i0 : Nat) (d0 : Nat) (r0 : Nat) (p0 : Nat) (hs : Int) (rf : Int) (h1 : Nat) (cI : ClassId) (g : Int → Int) (n : Int) (q : Int) (d1 : Nat) (gp : Int → Int) (np : Int) (i1 : Nat) (m : Int) (H : Int) (ov : Int) (hn : 0 ≤ n ∧ n ≤ 9) (hq : 1 ≤ q ∧ q ≤ 4) (hv : ∀ j : Int, 0 ≤ j → j < n → vK (g j)) (hH : 0 ≤ H ∧ H < 2147483648) (hov : ov = 0 ∨ ov = 1) : MP l yL_can wsL_can rm_L_can D vwCl [.ref x0, .int (iJ (H)), .int (iJ (ov))] [(x0, .inr (5, [.ref h0, .ref t0, .ref n0, .ref i0, .ref d0, .ref r0, .ref p0, .int (iJ (hs)), .int (iJ (rf))])), (h0, .inr (2, [.ref h1, .int (iJ (n)), .int (iJ (q))])), (h1, cJ cI 32 (g)), (d0, .inr (1, [.ref d1, .int (iJ (np))])), (d1, cJ cI 60 (gp)), (i0, .inr (0, [.ref i1, .int (iJ (m))]))] [(cI, .int)] (caV g n q (btV H) ov) := by
  refine MP.mk (cc := cL_can) (maxL := 7) (ret := (some .boolean)) (by decide) rfl (Nat.le_of_ble_eq_true rfl) rfl RL rfl ?_
  intro p_ e_ s_ m_ ar_ bw_ mt_ cd_ Q_ E hr hQ
  have hn32 : 0 ≤ n ∧ n ≤ 32 := ⟨hn.1, by omega⟩
  have hg : ∀ j : Int, 0 ≤ j → j < n → 0 ≤ g j ∧ g j < 64 := fun j a b => (hv j a b).1
  have hg3 : ∀ j : Int, 0 ≤ j → j < n → ¬ g j / 2 % 4 = 3 := fun j a b => (hv j a b).2.1
  refine r_aload_n E 0 dL_can_0 rfl rfl ?_
  refine r_iconst E 0 rfl dL_can_1 ?_
  refine r_vP E (st := []) (c_X6_count l D x0 h0 t0 n0 i0 d0 r0 p0 hs rf h1 cI g n q d1 gp np i1 m 0 (by first | assumption | omega | exact ⟨by omega, by omega⟩) (by first | assumption | omega | exact ⟨by omega, by omega⟩) (by first | assumption | omega | exact ⟨by omega, by omega⟩)) gL_can_X6_count 1 kf_X6_count ⟨rfl, rfl⟩ ⟨by decide, by decide⟩ dL_can_2 rfl 0 rfl rfl rfl rfl ⟨Nat.zero_le _, Nat.zero_le _⟩ [0, 1, 2, 3, 4, 5] rfl (by decide) [0] rfl (Nat.le_of_ble_eq_true rfl) ?_
  refine r_top (b := n) rfl ?_
  refine r_istore_n E [(3, .int (iJ (n))), (0, .ref x0), (1, .int (iJ (H))), (2, .int (iJ (ov)))] dL_can_5 rfl (by decide) rfl ?_
  refine r_iconst E 1 rfl dL_can_6 ?_
  refine r_istore E [(4, .int (iJ (1))), (3, .int (iJ (n))), (0, .ref x0), (1, .int (iJ (H))), (2, .int (iJ (ov)))] dL_can_7 (by decide) rfl ?_
  refine r_iconst E 0 rfl dL_can_9 ?_
  refine r_istore E [(5, .int (iJ (0))), (4, .int (iJ (1))), (3, .int (iJ (n))), (0, .ref x0), (1, .int (iJ (H))), (2, .int (iJ (ov)))] dL_can_10 (by decide) rfl ?_
  have loop_12 : ∀ (N : Nat) (k : Int) (x : Int), (0 ≤ k ∧ k ≤ n) → ((x = 1 ∧ caN g n q (btV H) ov (n - k).toNat k = caV g n q (btV H) ov) ∨ (x = 0 ∧ caV g n q (btV H) ov = 0)) → (n - k).toNat < N → GG p_ l e_ rm_L_can s_ m_ ar_ bw_ mt_ cd_ D vwCl (fun _ => True) (fun _ => False) s_.heap 7 0 0 Q_ [(x0, .inr (5, [.ref h0, .ref t0, .ref n0, .ref i0, .ref d0, .ref r0, .ref p0, .int (iJ (hs)), .int (iJ (rf))])), (h0, .inr (2, [.ref h1, .int (iJ (n)), .int (iJ (q))])), (h1, cJ cI 32 (g)), (d0, .inr (1, [.ref d1, .int (iJ (np))])), (d1, cJ cI 60 (gp)), (i0, .inr (0, [.ref i1, .int (iJ (m))]))] [(0, .ref x0), (1, .int (iJ (H))), (2, .int (iJ (ov))), (3, .int (iJ (n))), (4, .int (iJ (x))), (5, .int (iJ (k)))] 12 [] := by
    intro N; induction N with
    | zero => intro k x hk hx hN; exact absurd hN (Nat.not_lt_zero _)
    | succ N ih12 =>
      intro k x hk hx hN
      refine r_iload E 5 dL_can_12 rfl ?_
      refine r_iload_n E 3 dL_can_14 rfl rfl ?_
      refine r_icmp_ge E 86 dL_can_15 (by decide) ⟨by omega, by omega⟩ ⟨by omega, by omega⟩ (fun c_15 => ?_) (fun c_15 => ?_)
      · refine r_iload E 4 dL_can_86 rfl ?_
        exact r_retPZ E hr dL_can_88 (by rcases hx with y | y; exact Or.inr y.1; exact Or.inl y.1) (by
              rcases hx with y | y
              · rw [y.1, ← y.2, show (n - k).toNat = 0 by omega]; rfl
              · rw [y.1, y.2]) hQ
      · refine r_iload E 4 dL_can_18 rfl ?_
        refine r_if_eq E 86 dL_can_20 (by decide) ⟨by omega, by omega⟩ (fun c_20 => ?_) (fun c_20 => ?_)
        · refine r_iload E 4 dL_can_86 rfl ?_
          exact r_retPZ E hr dL_can_88 (by rcases hx with y | y; exact Or.inr y.1; exact Or.inl y.1) (by
                rcases hx with y | y
                · rw [y.1, ← y.2, show (n - k).toNat = 0 by omega]; rfl
                · rw [y.1, y.2]) hQ
        · have K_39 : ∀ (u : Int), ((k + 1 < n ∧ u = k + 1) ∨ (¬ k + 1 < n ∧ u = 0)) → GG p_ l e_ rm_L_can s_ m_ ar_ bw_ mt_ cd_ D vwCl (fun _ => True) (fun _ => False) s_.heap 7 0 0 Q_ [(x0, .inr (5, [.ref h0, .ref t0, .ref n0, .ref i0, .ref d0, .ref r0, .ref p0, .int (iJ (hs)), .int (iJ (rf))])), (h0, .inr (2, [.ref h1, .int (iJ (n)), .int (iJ (q))])), (h1, cJ cI 32 (g)), (d0, .inr (1, [.ref d1, .int (iJ (np))])), (d1, cJ cI 60 (gp)), (i0, .inr (0, [.ref i1, .int (iJ (m))]))] [(0, .ref x0), (1, .int (iJ (H))), (2, .int (iJ (ov))), (3, .int (iJ (n))), (4, .int (iJ (x))), (5, .int (iJ (k)))] 39 [.int (iJ (u))] := by
            intro u hu
            refine r_istore E [(6, .int (iJ (u))), (0, .ref x0), (1, .int (iJ (H))), (2, .int (iJ (ov))), (3, .int (iJ (n))), (4, .int (iJ (x))), (5, .int (iJ (k)))] dL_can_39 (by decide) rfl ?_
            have e_c : caP g n q (btV H) ov k ↔ ((ov = 0 ∧ ¬ k + 1 < n) ∨ ¬ cnD q (g k) (g u) (b2 (btV H k = btV H u))) := caP_u hu
            have K_78 : ∀ (v : Int), (v = b2 (caP g n q (btV H) ov k)) → GG p_ l e_ rm_L_can s_ m_ ar_ bw_ mt_ cd_ D vwCl (fun _ => True) (fun _ => False) s_.heap 7 0 0 Q_ [(x0, .inr (5, [.ref h0, .ref t0, .ref n0, .ref i0, .ref d0, .ref r0, .ref p0, .int (iJ (hs)), .int (iJ (rf))])), (h0, .inr (2, [.ref h1, .int (iJ (n)), .int (iJ (q))])), (h1, cJ cI 32 (g)), (d0, .inr (1, [.ref d1, .int (iJ (np))])), (d1, cJ cI 60 (gp)), (i0, .inr (0, [.ref i1, .int (iJ (m))]))] [(0, .ref x0), (1, .int (iJ (H))), (2, .int (iJ (ov))), (3, .int (iJ (n))), (4, .int (iJ (x))), (5, .int (iJ (k))), (6, .int (iJ (u)))] 78 [.int (iJ (v))] := by
              intro v hw
              refine r_istore E [(4, .int (iJ (v))), (0, .ref x0), (1, .int (iJ (H))), (2, .int (iJ (ov))), (3, .int (iJ (n))), (5, .int (iJ (k))), (6, .int (iJ (u)))] dL_can_78 (by decide) rfl ?_
              refine r_iinc E (k := 5) [(5, .int (iJ ((k + 1)))), (4, .int (iJ (v))), (0, .ref x0), (1, .int (iJ (H))), (2, .int (iJ (ov))), (3, .int (iJ (n))), (6, .int (iJ (u)))] dL_can_80 rfl (by decide) rfl ?_
              refine r_goto E 12 dL_can_83 (by decide) ?_
              refine r_lv [2, 3, 4, 5, 1, 0] [(0, .ref x0), (1, .int (iJ (H))), (2, .int (iJ (ov))), (3, .int (iJ (n))), (4, .int (iJ (v))), (5, .int (iJ ((k + 1))))] rfl ?_
              exact ih12 (k + 1) v ⟨by omega, by omega⟩ (by
                    rcases hx with y | y
                    · rw [caN_s g q (btV H) ov (show k < n by omega)] at y
                      by_cases t : caP g n q (btV H) ov k
                      · rw [if_pos t] at y; rw [hw, b2_t t]; exact Or.inl ⟨rfl, y.2⟩
                      · rw [if_neg t] at y; rw [hw, b2_f t]; exact Or.inr ⟨rfl, y.2.symm⟩
                    · exact absurd y.1 c_20) (by omega)
            refine r_iload_n E 3 dL_can_41 rfl rfl ?_
            refine r_if_ne E 50 dL_can_42 (by decide) ⟨by omega, by omega⟩ (fun c_42 => ?_) (fun c_42 => ?_)
            · refine r_aload_n E 1 dL_can_50 rfl rfl ?_
              refine r_iload E 6 dL_can_51 rfl ?_
              refine r_iload_n E 2 dL_can_53 rfl rfl ?_
              refine r_iload E 6 dL_can_54 rfl ?_
              refine r_ishr E (H / p2 k) (sh_r ⟨by omega, by omega⟩ ⟨by omega, by omega⟩) dL_can_56 ?_
              refine r_iconst E 1 rfl dL_can_57 ?_
              refine r_iand E (btV H k) (bt_1 (j := k) ⟨by omega, by omega⟩) dL_can_58 ?_
              refine r_iload E 0 dL_can_59 rfl ?_
              refine r_iload_n E 2 dL_can_61 rfl rfl ?_
              refine r_iload E 0 dL_can_62 rfl ?_
              refine r_ishr E (H / p2 u) (sh_r ⟨by omega, by omega⟩ ⟨by omega, by omega⟩) dL_can_64 ?_
              refine r_iconst E 1 rfl dL_can_65 ?_
              refine r_iand E (btV H u) (bt_1 (j := u) ⟨by omega, by omega⟩) dL_can_66 ?_
              refine r_sP E (st := []) (c_L_clash l D x0 h0 t0 n0 i0 d0 r0 p0 hs rf h1 cI g n q d1 gp np i1 m k (btV H k) u (btV H u) (by first | assumption | omega | exact ⟨by omega, by omega⟩) (by first | assumption | omega | exact ⟨by omega, by omega⟩) (by first | assumption | omega | exact ⟨by omega, by omega⟩) (by first | assumption | omega | exact ⟨by omega, by omega⟩) (by first | assumption | omega | exact ⟨by omega, by omega⟩) (btV_01 H k) (btV_01 H u)) gL_can_L_clash 5 kf_L_clash ⟨rfl, rfl⟩ ⟨by decide, by decide⟩ dL_can_67 rfl rfl ⟨Nat.zero_le _, Nat.zero_le _⟩ [0, 1, 2, 3, 4, 5] rfl (by decide) [0] rfl (Nat.le_of_ble_eq_true rfl) ?_
              refine r_ifne_b E 77 dL_can_70 (by decide) (fun c_70 => ?_) (fun c_70 => ?_)
              · refine r_iconst E 0 rfl dL_can_77 ?_
                refine r_lv [1, 2, 3, 4, 5, 6, 0] [(0, .ref x0), (1, .int (iJ (H))), (2, .int (iJ (ov))), (3, .int (iJ (n))), (4, .int (iJ (x))), (5, .int (iJ (k))), (6, .int (iJ (u)))] rfl ?_
                exact K_78 0 (by
                      first
                      | exact (b2_t (e_c.mpr (Or.inl ⟨by omega, by omega⟩))).symm
                      | exact (b2_t (e_c.mpr (Or.inr c_70))).symm
                      | exact (b2_f (fun t => (e_c.mp t).elim (fun y => by omega) (fun y => y c_70))).symm)
              · refine r_iconst E 1 rfl dL_can_73 ?_
                refine r_goto E 78 dL_can_74 (by decide) ?_
                refine r_lv [1, 2, 3, 4, 5, 6, 0] [(0, .ref x0), (1, .int (iJ (H))), (2, .int (iJ (ov))), (3, .int (iJ (n))), (4, .int (iJ (x))), (5, .int (iJ (k))), (6, .int (iJ (u)))] rfl ?_
                exact K_78 1 (by
                      first
                      | exact (b2_t (e_c.mpr (Or.inl ⟨by omega, by omega⟩))).symm
                      | exact (b2_t (e_c.mpr (Or.inr c_70))).symm
                      | exact (b2_f (fun t => (e_c.mp t).elim (fun y => by omega) (fun y => y c_70))).symm)
            · refine r_iload E 0 dL_can_45 rfl ?_
              refine r_if_eq E 73 dL_can_47 (by decide) ⟨by omega, by omega⟩ (fun c_47 => ?_) (fun c_47 => ?_)
              · refine r_iconst E 1 rfl dL_can_73 ?_
                refine r_goto E 78 dL_can_74 (by decide) ?_
                refine r_lv [1, 2, 3, 4, 5, 6, 0] [(0, .ref x0), (1, .int (iJ (H))), (2, .int (iJ (ov))), (3, .int (iJ (n))), (4, .int (iJ (x))), (5, .int (iJ (k))), (6, .int (iJ (u)))] rfl ?_
                exact K_78 1 (by
                      first
                      | exact (b2_t (e_c.mpr (Or.inl ⟨by omega, by omega⟩))).symm
                      | exact (b2_t (e_c.mpr (Or.inr c_70))).symm
                      | exact (b2_f (fun t => (e_c.mp t).elim (fun y => by omega) (fun y => y c_70))).symm)
              · refine r_aload_n E 1 dL_can_50 rfl rfl ?_
                refine r_iload E 6 dL_can_51 rfl ?_
                refine r_iload_n E 2 dL_can_53 rfl rfl ?_
                refine r_iload E 6 dL_can_54 rfl ?_
                refine r_ishr E (H / p2 k) (sh_r ⟨by omega, by omega⟩ ⟨by omega, by omega⟩) dL_can_56 ?_
                refine r_iconst E 1 rfl dL_can_57 ?_
                refine r_iand E (btV H k) (bt_1 (j := k) ⟨by omega, by omega⟩) dL_can_58 ?_
                refine r_iload E 0 dL_can_59 rfl ?_
                refine r_iload_n E 2 dL_can_61 rfl rfl ?_
                refine r_iload E 0 dL_can_62 rfl ?_
                refine r_ishr E (H / p2 u) (sh_r ⟨by omega, by omega⟩ ⟨by omega, by omega⟩) dL_can_64 ?_
                refine r_iconst E 1 rfl dL_can_65 ?_
                refine r_iand E (btV H u) (bt_1 (j := u) ⟨by omega, by omega⟩) dL_can_66 ?_
                refine r_sP E (st := []) (c_L_clash l D x0 h0 t0 n0 i0 d0 r0 p0 hs rf h1 cI g n q d1 gp np i1 m k (btV H k) u (btV H u) (by first | assumption | omega | exact ⟨by omega, by omega⟩) (by first | assumption | omega | exact ⟨by omega, by omega⟩) (by first | assumption | omega | exact ⟨by omega, by omega⟩) (by first | assumption | omega | exact ⟨by omega, by omega⟩) (by first | assumption | omega | exact ⟨by omega, by omega⟩) (btV_01 H k) (btV_01 H u)) gL_can_L_clash 5 kf_L_clash ⟨rfl, rfl⟩ ⟨by decide, by decide⟩ dL_can_67 rfl rfl ⟨Nat.zero_le _, Nat.zero_le _⟩ [0, 1, 2, 3, 4, 5] rfl (by decide) [0] rfl (Nat.le_of_ble_eq_true rfl) ?_
                refine r_ifne_b E 77 dL_can_70 (by decide) (fun c_70 => ?_) (fun c_70 => ?_)
                · refine r_iconst E 0 rfl dL_can_77 ?_
                  refine r_lv [1, 2, 3, 4, 5, 6, 0] [(0, .ref x0), (1, .int (iJ (H))), (2, .int (iJ (ov))), (3, .int (iJ (n))), (4, .int (iJ (x))), (5, .int (iJ (k))), (6, .int (iJ (u)))] rfl ?_
                  exact K_78 0 (by
                        first
                        | exact (b2_t (e_c.mpr (Or.inl ⟨by omega, by omega⟩))).symm
                        | exact (b2_t (e_c.mpr (Or.inr c_70))).symm
                        | exact (b2_f (fun t => (e_c.mp t).elim (fun y => by omega) (fun y => y c_70))).symm)
                · refine r_iconst E 1 rfl dL_can_73 ?_
                  refine r_goto E 78 dL_can_74 (by decide) ?_
                  refine r_lv [1, 2, 3, 4, 5, 6, 0] [(0, .ref x0), (1, .int (iJ (H))), (2, .int (iJ (ov))), (3, .int (iJ (n))), (4, .int (iJ (x))), (5, .int (iJ (k))), (6, .int (iJ (u)))] rfl ?_
                  exact K_78 1 (by
                        first
                        | exact (b2_t (e_c.mpr (Or.inl ⟨by omega, by omega⟩))).symm
                        | exact (b2_t (e_c.mpr (Or.inr c_70))).symm
                        | exact (b2_f (fun t => (e_c.mp t).elim (fun y => by omega) (fun y => y c_70))).symm)
          refine r_iload E 5 dL_can_23 rfl ?_
          refine r_iconst E 1 rfl dL_can_25 ?_
          refine r_iadd E dL_can_26 ?_
          refine r_iload_n E 3 dL_can_27 rfl rfl ?_
          refine r_icmp_ge E 38 dL_can_28 (by decide) ⟨by omega, by omega⟩ ⟨by omega, by omega⟩ (fun c_28 => ?_) (fun c_28 => ?_)
          · refine r_iconst E 0 rfl dL_can_38 ?_
            refine r_lv [0, 1, 2, 3, 4, 5] [(0, .ref x0), (1, .int (iJ (H))), (2, .int (iJ (ov))), (3, .int (iJ (n))), (4, .int (iJ (x))), (5, .int (iJ (k)))] rfl ?_
            exact K_39 0 (by omega)
          · refine r_iload E 5 dL_can_31 rfl ?_
            refine r_iconst E 1 rfl dL_can_33 ?_
            refine r_iadd E dL_can_34 ?_
            refine r_goto E 39 dL_can_35 (by decide) ?_
            refine r_lv [0, 1, 2, 3, 4, 5] [(0, .ref x0), (1, .int (iJ (H))), (2, .int (iJ (ov))), (3, .int (iJ (n))), (4, .int (iJ (x))), (5, .int (iJ (k)))] rfl ?_
            exact K_39 (k + 1) (by omega)
  refine r_lv [3, 4, 5, 2, 1, 0] [(0, .ref x0), (1, .int (iJ (H))), (2, .int (iJ (ov))), (3, .int (iJ (n))), (4, .int (iJ (1))), (5, .int (iJ (0)))] rfl ?_
  exact loop_12 _ 0 1 ⟨by omega, by omega⟩ (Or.inl ⟨rfl, by rw [Int.sub_zero]; rfl⟩) (Nat.lt_succ_self _)
theorem kf_L_repeated : KF yL_repeated 2 wsL_repeated cL_repeated 5 (some .int) := ⟨rfl, by decide +kernel, by decide +kernel, by decide +kernel⟩
def rm_L_repeated : Room := { frames := 7, cells := 0, slots := 0, locals := 167 }
set_option maxHeartbeats 1000000 in
set_option maxRecDepth 100000 in
theorem c_L_repeated (l : Launch) (D : va_G) (x0 : Nat) (h0 : Nat) (t0 : Nat) (n0 : Nat) (i0 : Nat) (d0 : Nat) (r0 : Nat) (p0 : Nat) (hs : Int) (rf : Int) (h1 : Nat) (cI : ClassId) (g : Int → Int) (n : Int) (q : Int) (d1 : Nat) (gp : Int → Int) (np : Int) (i1 : Nat) (m : Int) (H : Int) (hn : 0 ≤ n ∧ n ≤ 9) (hq : 1 ≤ q ∧ q ≤ 4) (hv : ∀ j : Int, 0 ≤ j → j < n → vK (g j)) (hH : 0 ≤ H ∧ H < 2147483648) : MP l yL_repeated wsL_repeated rm_L_repeated D vwCl [.ref x0, .int (iJ (H))] [(x0, .inr (5, [.ref h0, .ref t0, .ref n0, .ref i0, .ref d0, .ref r0, .ref p0, .int (iJ (hs)), .int (iJ (rf))])), (h0, .inr (2, [.ref h1, .int (iJ (n)), .int (iJ (q))])), (h1, cJ cI 32 (g)), (d0, .inr (1, [.ref d1, .int (iJ (np))])), (d1, cJ cI 60 (gp)), (i0, .inr (0, [.ref i1, .int (iJ (m))]))] [(cI, .int)] (rpV g n (btV H)) := by
  refine MP.mk (cc := cL_repeated) (maxL := 5) (ret := (some .int)) (by decide) rfl (Nat.le_of_ble_eq_true rfl) rfl RL rfl ?_
  intro p_ e_ s_ m_ ar_ bw_ mt_ cd_ Q_ E hr hQ
  have hn32 : 0 ≤ n ∧ n ≤ 32 := ⟨hn.1, by omega⟩
  have hg : ∀ j : Int, 0 ≤ j → j < n → 0 ≤ g j ∧ g j < 64 := fun j a b => (hv j a b).1
  have hg3 : ∀ j : Int, 0 ≤ j → j < n → ¬ g j / 2 % 4 = 3 := fun j a b => (hv j a b).2.1
  refine r_iconst E 0 rfl dL_repeated_0 ?_
  refine r_istore_n E [(2, .int (iJ (0))), (0, .ref x0), (1, .int (iJ (H)))] dL_repeated_1 rfl (by decide) rfl ?_
  refine r_iconst E (-1) rfl dL_repeated_2 ?_
  refine r_istore_n E [(3, .int (iJ ((-1)))), (2, .int (iJ (0))), (0, .ref x0), (1, .int (iJ (H)))] dL_repeated_3 rfl (by decide) rfl ?_
  refine r_iconst E 0 rfl dL_repeated_4 ?_
  refine r_istore E [(4, .int (iJ (0))), (3, .int (iJ ((-1)))), (2, .int (iJ (0))), (0, .ref x0), (1, .int (iJ (H)))] dL_repeated_5 (by decide) rfl ?_
  have loop_7 : ∀ (N : Nat) (k : Int) (x : Int) (y : Int), (0 ≤ k ∧ k ≤ n) → (x = (rpS g (btV H) k.toNat).1) → (y = (rpS g (btV H) k.toNat).2) → (n - k).toNat < N → GG p_ l e_ rm_L_repeated s_ m_ ar_ bw_ mt_ cd_ D vwCl (fun _ => True) (fun _ => False) s_.heap 5 0 0 Q_ [(x0, .inr (5, [.ref h0, .ref t0, .ref n0, .ref i0, .ref d0, .ref r0, .ref p0, .int (iJ (hs)), .int (iJ (rf))])), (h0, .inr (2, [.ref h1, .int (iJ (n)), .int (iJ (q))])), (h1, cJ cI 32 (g)), (d0, .inr (1, [.ref d1, .int (iJ (np))])), (d1, cJ cI 60 (gp)), (i0, .inr (0, [.ref i1, .int (iJ (m))]))] [(0, .ref x0), (1, .int (iJ (H))), (2, .int (iJ (x))), (3, .int (iJ (y))), (4, .int (iJ (k)))] 7 [] := by
    intro N; induction N with
    | zero => intro k x y hk hx hy hN; exact absurd hN (Nat.not_lt_zero _)
    | succ N ih7 =>
      intro k x y hk hx hy hN
      refine r_iload E 4 dL_repeated_7 rfl ?_
      refine r_aload_n E 0 dL_repeated_9 rfl rfl ?_
      refine r_iconst E 0 rfl dL_repeated_10 ?_
      refine r_vP E (st := [.int (iJ (k))]) (c_X6_count l D x0 h0 t0 n0 i0 d0 r0 p0 hs rf h1 cI g n q d1 gp np i1 m 0 (by first | assumption | omega | exact ⟨by omega, by omega⟩) (by first | assumption | omega | exact ⟨by omega, by omega⟩) (by first | assumption | omega | exact ⟨by omega, by omega⟩)) gL_repeated_X6_count 1 kf_X6_count ⟨rfl, rfl⟩ ⟨by decide, by decide⟩ dL_repeated_11 rfl 0 rfl rfl rfl rfl ⟨Nat.zero_le _, Nat.zero_le _⟩ [0, 1, 2, 3, 4, 5] rfl (by decide) [0] rfl (Nat.le_of_ble_eq_true rfl) ?_
      refine r_top (b := n) rfl ?_
      refine r_icmp_ge E 60 dL_repeated_14 (by decide) ⟨by omega, by omega⟩ ⟨by omega, by omega⟩ (fun c_14 => ?_) (fun c_14 => ?_)
      · refine r_iload_n E 2 dL_repeated_60 rfl rfl ?_
        exact r_retP E hr dL_repeated_61 (by
              have e : k = n := by omega
              rw [hx, e]; rfl) hQ
      · refine r_aload_n E 0 dL_repeated_17 rfl rfl ?_
        refine r_iload E 4 dL_repeated_18 rfl ?_
        refine r_iconst E 0 rfl dL_repeated_20 ?_
        refine r_vP E (st := []) (c_X6_stepR l D x0 h0 t0 n0 i0 d0 r0 p0 hs rf h1 cI g n q k 0 (by first | assumption | omega | exact ⟨by omega, by omega⟩) (by first | assumption | omega | exact ⟨by omega, by omega⟩) (by first | assumption | omega | exact ⟨by omega, by omega⟩) (by first | assumption | omega | exact ⟨by omega, by omega⟩) (by first | assumption | omega | exact ⟨by omega, by omega⟩)) gL_repeated_X6_step 2 kf_X6_step ⟨rfl, rfl⟩ ⟨by decide, by decide⟩ dL_repeated_21 rfl 0 rfl rfl rfl rfl ⟨Nat.zero_le _, Nat.zero_le _⟩ [0, 1, 2] rfl (by decide) [0] rfl (Nat.le_of_ble_eq_true rfl) ?_
        refine r_top (b := ohV (g k)) rfl ?_
        have f_o := ohV_in (g k)
        have f_r := rpS_2 g (fun j => btV_01 H j) k.toNat
        rw [← hy] at f_r
        have f_b := btV_01 H k
        refine r_bipush E (-4) rfl dL_repeated_24 ?_
        refine r_icmp_eq E 54 dL_repeated_26 (by decide) ⟨by omega, by omega⟩ ⟨by omega, by omega⟩ (fun c_26 => ?_) (fun c_26 => ?_)
        · refine r_iinc E (k := 4) [(4, .int (iJ ((k + 1)))), (0, .ref x0), (1, .int (iJ (H))), (2, .int (iJ (x))), (3, .int (iJ (y)))] dL_repeated_54 rfl (by decide) rfl ?_
          refine r_goto E 7 dL_repeated_57 (by decide) ?_
          refine r_lv [1, 2, 3, 4, 0] [(0, .ref x0), (1, .int (iJ (H))), (2, .int (iJ (x))), (3, .int (iJ (y))), (4, .int (iJ ((k + 1))))] rfl ?_
          exact ih7 (k + 1) x y ⟨by omega, by omega⟩ (by
                rw [rpS_s g (btV H) (by omega)]
                first
                | (rw [if_pos (f_o.1.mp c_26)]; exact hx)
                | (rw [if_neg (fun t => c_26 (f_o.1.mpr t))]; show _ = (rpS g (btV H) k.toNat).1 + (if btV H k = (rpS g (btV H) k.toNat).2 then 1 else 0); rw [← hx, ← hy]; rfl)) (by
                rw [rpS_s g (btV H) (by omega)]
                first
                | (rw [if_pos (f_o.1.mp c_26)]; exact hy)
                | (rw [if_neg (fun t => c_26 (f_o.1.mpr t))])) (by omega)
        · refine r_iload_n E 2 dL_repeated_29 rfl rfl ?_
          refine r_iload_n E 1 dL_repeated_30 rfl rfl ?_
          refine r_iload E 4 dL_repeated_31 rfl ?_
          refine r_ishr E (H / p2 k) (sh_r ⟨by omega, by omega⟩ ⟨by omega, by omega⟩) dL_repeated_33 ?_
          refine r_iconst E 1 rfl dL_repeated_34 ?_
          refine r_iand E (btV H k) (bt_1 (j := k) ⟨by omega, by omega⟩) dL_repeated_35 ?_
          refine r_iload_n E 3 dL_repeated_36 rfl rfl ?_
          refine r_dm_ine E dL_repeated_37 dL_repeated_40 dL_repeated_41 dL_repeated_44 ⟨by omega, by omega⟩ ⟨by omega, by omega⟩ ?_
          refine r_iadd E dL_repeated_45 ?_
          refine r_istore_n E [(2, .int (iJ ((x + (b2 ((btV H k) = y)))))), (0, .ref x0), (1, .int (iJ (H))), (3, .int (iJ (y))), (4, .int (iJ (k)))] dL_repeated_46 rfl (by decide) rfl ?_
          refine r_iload_n E 2 dL_repeated_47 rfl rfl ?_
          refine r_iload E 4 dL_repeated_48 rfl ?_
          refine r_ishr E (H / p2 k) (sh_r ⟨by omega, by omega⟩ ⟨by omega, by omega⟩) dL_repeated_50 ?_
          refine r_iconst E 1 rfl dL_repeated_51 ?_
          refine r_iand E (btV H k) (bt_1 (j := k) ⟨by omega, by omega⟩) dL_repeated_52 ?_
          refine r_istore_n E [(3, .int (iJ ((btV H k)))), (2, .int (iJ ((x + (b2 ((btV H k) = y)))))), (0, .ref x0), (1, .int (iJ (H))), (4, .int (iJ (k)))] dL_repeated_53 rfl (by decide) rfl ?_
          refine r_iinc E (k := 4) [(4, .int (iJ ((k + 1)))), (3, .int (iJ ((btV H k)))), (2, .int (iJ ((x + (b2 ((btV H k) = y)))))), (0, .ref x0), (1, .int (iJ (H)))] dL_repeated_54 rfl (by decide) rfl ?_
          refine r_goto E 7 dL_repeated_57 (by decide) ?_
          refine r_lv [3, 4, 2, 1, 0] [(0, .ref x0), (1, .int (iJ (H))), (2, .int (iJ ((x + (b2 ((btV H k) = y)))))), (3, .int (iJ ((btV H k)))), (4, .int (iJ ((k + 1))))] rfl ?_
          exact ih7 (k + 1) (x + (b2 ((btV H k) = y))) (btV H k) ⟨by omega, by omega⟩ (by
                rw [rpS_s g (btV H) (by omega)]
                first
                | (rw [if_pos (f_o.1.mp c_26)]; exact hx)
                | (rw [if_neg (fun t => c_26 (f_o.1.mpr t))]; show _ = (rpS g (btV H) k.toNat).1 + (if btV H k = (rpS g (btV H) k.toNat).2 then 1 else 0); rw [← hx, ← hy]; rfl)) (by
                rw [rpS_s g (btV H) (by omega)]
                first
                | (rw [if_pos (f_o.1.mp c_26)]; exact hy)
                | (rw [if_neg (fun t => c_26 (f_o.1.mpr t))])) (by omega)
  refine r_lv [3, 4, 2, 1, 0] [(0, .ref x0), (1, .int (iJ (H))), (2, .int (iJ (0))), (3, .int (iJ ((-1)))), (4, .int (iJ (0)))] rfl ?_
  exact loop_7 _ 0 0 (-1) ⟨by omega, by omega⟩ rfl rfl (Nat.lt_succ_self _)
def rm_L_cell : Room := { frames := 0, cells := 0, slots := 0, locals := 0 }
theorem ck_L_cell_7 : Cond.constant RL 7 (iJ 40503) ∈ wsL_cell := by decide +kernel
set_option maxHeartbeats 4000000 in
set_option maxRecDepth 100000 in
theorem c_L_cell (l : Launch) (D : va_G) (b Ln : Nat) (xs : Nat → Int32) (k : Int) (hL : Ln ≤ 260) (hk : 0 ≤ k ∧ k ≤ 1000) : MX l yL_cell wsL_cell rm_L_cell D vwCl [.ref b, .int (iJ k)] b Ln xs (ceV Ln xs k) := by
  refine MX.mk (cc := cL_cell) (maxL := 2) (ret := (some .int)) (lv := [(0, .ref b), (1, .int (iJ k))]) (by decide) rfl (Nat.le_of_ble_eq_true rfl) rfl RL rfl ?_
  intro p_ e_ s_ m_ ar_ bw_ mt_ cd_ Q_ hX hbl E hr hQ
  refine r_iload_n E 1 dL_cell_0 rfl rfl ?_
  refine r_aload_n E 0 dL_cell_1 rfl rfl ?_
  refine r_slen E hX hbl (fun t => t) dL_cell_2 ?_
  refine r_icmp_ge E 12 dL_cell_3 (by decide) ⟨by omega, by omega⟩ ⟨by omega, by omega⟩ (fun c_3 => ?_) (fun c_3 => ?_)
  · refine r_ldc E 40503 dL_cell_12 ck_L_cell_7 ?_
    refine r_iload_n E 1 dL_cell_14 rfl rfl ?_
    refine r_imul E dL_cell_15 ?_
    refine r_sipush E 977 rfl dL_cell_16 ?_
    refine r_iadd E dL_cell_19 ?_
    exact r_retP E hr dL_cell_20 (by unfold ceV; rw [if_neg (by omega)]) hQ
  · refine r_aload_n E 0 dL_cell_6 rfl rfl ?_
    refine r_iload_n E 1 dL_cell_7 rfl rfl ?_
    refine r_sld E hX hbl (fun t => t) hL (i := k) ⟨by omega, by omega⟩ (xs k.toNat).toInt rfl dL_cell_8 ?_
    refine r_goto E 20 dL_cell_9 (by decide) ?_
    exact r_retP E hr dL_cell_20 (by unfold ceV; rw [if_pos (by omega)]) hQ
theorem kf_L_cell : KF yL_cell 2 wsL_cell cL_cell 2 (some .int) := ⟨rfl, by decide +kernel, by decide +kernel, by decide +kernel⟩
