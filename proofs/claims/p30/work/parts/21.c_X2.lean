theorem kf_X2_hasStep : KF yX2_hasStep 1 wsX2_hasStep cX2_hasStep 2 (some .boolean) := ⟨rfl, by decide +kernel, by decide +kernel, by decide +kernel⟩
def rm_X2_hasStep : Room := { frames := 0, cells := 0, slots := 0, locals := 0 }
set_option maxRecDepth 20000 in
theorem in_X2_hasStep_X2 : ∀ w ∈ u_ws RX2 TX2 3, w ∈ wsX2_hasStep := by decide +kernel
set_option maxRecDepth 20000 in
theorem lk_X2_hasStep_15 : Cond.fieldLink RX2 15 (TX2 1).1 (TX2 1).2.1 (TX2 1).2.2.1 ∈ wsX2_hasStep := by decide +kernel
set_option maxHeartbeats 1000000 in
set_option maxRecDepth 100000 in
theorem c_X2_hasStep (l : Launch) (D : va_G) (h0 : Nat) (h1 : Nat) (cI : ClassId) (g : Int → Int) (n : Int) (q : Int) (a : Int) (hn : 0 ≤ n ∧ n ≤ 32) (ha : jb a) : MP l yX2_hasStep wsX2_hasStep rm_X2_hasStep D vwCl [.ref h0, .int (iJ (a))] [(h0, .inr (2, [.ref h1, .int (iJ (n)), .int (iJ (q))])), (h1, cJ cI 32 (g))] [(cI, .int)] (b2 (0 ≤ a ∧ a < n)) := by
  refine MP.mk (cc := cX2_hasStep) (maxL := 2) (ret := (some .boolean)) (by decide) rfl (Nat.le_of_ble_eq_true rfl) rfl RX2 rfl ?_
  intro p_ e_ s_ m_ ar_ bw_ mt_ cd_ Q_ E hr hQ
  refine r_iload_n E 1 dX2_hasStep_0 rfl rfl ?_
  refine r_if_lt E 16 dX2_hasStep_1 (by decide) ha (fun c_1 => ?_) (fun c_1 => ?_)
  · refine r_iconst E 0 rfl dX2_hasStep_16 ?_
    exact r_retPZ E hr dX2_hasStep_17 (by omega) (by first | rfl | exact (b2_t (by first | omega | assumption)).symm | exact (b2_f (by first | omega | assumption)).symm | omega | assumption) hQ
  · refine r_iload_n E 1 dX2_hasStep_4 rfl rfl ?_
    refine r_aload_n E 0 dX2_hasStep_5 rfl rfl ?_
    refine r_get E 2 0 1 dX2_hasStep_6 in_X2_hasStep_X2 lk_X2_hasStep_15 rfl rfl (by decide) rfl ?_
    refine r_icmp_ge E 16 dX2_hasStep_9 (by decide) ha ⟨by omega, by omega⟩ (fun c_9 => ?_) (fun c_9 => ?_)
    · refine r_iconst E 0 rfl dX2_hasStep_16 ?_
      exact r_retPZ E hr dX2_hasStep_17 (by omega) (by first | rfl | exact (b2_t (by first | omega | assumption)).symm | exact (b2_f (by first | omega | assumption)).symm | omega | assumption) hQ
    · refine r_iconst E 1 rfl dX2_hasStep_12 ?_
      refine r_goto E 17 dX2_hasStep_13 (by decide) ?_
      exact r_retPZ E hr dX2_hasStep_17 (by omega) (by first | rfl | exact (b2_t (by first | omega | assumption)).symm | exact (b2_f (by first | omega | assumption)).symm | omega | assumption) hQ
theorem kf_X2_hasGap : KF yX2_hasGap 1 wsX2_hasGap cX2_hasGap 2 (some .boolean) := ⟨rfl, by decide +kernel, by decide +kernel, by decide +kernel⟩
def rm_X2_hasGap : Room := { frames := 0, cells := 0, slots := 0, locals := 0 }
set_option maxRecDepth 20000 in
theorem in_X2_hasGap_X2 : ∀ w ∈ u_ws RX2 TX2 3, w ∈ wsX2_hasGap := by decide +kernel
set_option maxRecDepth 20000 in
theorem lk_X2_hasGap_15 : Cond.fieldLink RX2 15 (TX2 1).1 (TX2 1).2.1 (TX2 1).2.2.1 ∈ wsX2_hasGap := by decide +kernel
set_option maxHeartbeats 1000000 in
set_option maxRecDepth 100000 in
theorem c_X2_hasGap (l : Launch) (D : va_G) (h0 : Nat) (h1 : Nat) (cI : ClassId) (g : Int → Int) (n : Int) (q : Int) (a : Int) (hn : 0 ≤ n ∧ n ≤ 32) (ha : jb a) : MP l yX2_hasGap wsX2_hasGap rm_X2_hasGap D vwCl [.ref h0, .int (iJ (a))] [(h0, .inr (2, [.ref h1, .int (iJ (n)), .int (iJ (q))])), (h1, cJ cI 32 (g))] [(cI, .int)] (b2 (0 ≤ a ∧ a ≤ n)) := by
  refine MP.mk (cc := cX2_hasGap) (maxL := 2) (ret := (some .boolean)) (by decide) rfl (Nat.le_of_ble_eq_true rfl) rfl RX2 rfl ?_
  intro p_ e_ s_ m_ ar_ bw_ mt_ cd_ Q_ E hr hQ
  refine r_iload_n E 1 dX2_hasGap_0 rfl rfl ?_
  refine r_if_lt E 16 dX2_hasGap_1 (by decide) ha (fun c_1 => ?_) (fun c_1 => ?_)
  · refine r_iconst E 0 rfl dX2_hasGap_16 ?_
    exact r_retPZ E hr dX2_hasGap_17 (by omega) (by first | rfl | exact (b2_t (by first | omega | assumption)).symm | exact (b2_f (by first | omega | assumption)).symm | omega | assumption) hQ
  · refine r_iload_n E 1 dX2_hasGap_4 rfl rfl ?_
    refine r_aload_n E 0 dX2_hasGap_5 rfl rfl ?_
    refine r_get E 2 0 1 dX2_hasGap_6 in_X2_hasGap_X2 lk_X2_hasGap_15 rfl rfl (by decide) rfl ?_
    refine r_icmp_gt E 16 dX2_hasGap_9 (by decide) ha ⟨by omega, by omega⟩ (fun c_9 => ?_) (fun c_9 => ?_)
    · refine r_iconst E 0 rfl dX2_hasGap_16 ?_
      exact r_retPZ E hr dX2_hasGap_17 (by omega) (by first | rfl | exact (b2_t (by first | omega | assumption)).symm | exact (b2_f (by first | omega | assumption)).symm | omega | assumption) hQ
    · refine r_iconst E 1 rfl dX2_hasGap_12 ?_
      refine r_goto E 17 dX2_hasGap_13 (by decide) ?_
      exact r_retPZ E hr dX2_hasGap_17 (by omega) (by first | rfl | exact (b2_t (by first | omega | assumption)).symm | exact (b2_f (by first | omega | assumption)).symm | omega | assumption) hQ
theorem kf_X2_isFull : KF yX2_isFull 0 wsX2_isFull cX2_isFull 1 (some .boolean) := ⟨rfl, by decide +kernel, by decide +kernel, by decide +kernel⟩
def rm_X2_isFull : Room := { frames := 0, cells := 0, slots := 0, locals := 0 }
set_option maxRecDepth 20000 in
theorem in_X2_isFull_X2 : ∀ w ∈ u_ws RX2 TX2 3, w ∈ wsX2_isFull := by decide +kernel
set_option maxRecDepth 20000 in
theorem lk_X2_isFull_15 : Cond.fieldLink RX2 15 (TX2 1).1 (TX2 1).2.1 (TX2 1).2.2.1 ∈ wsX2_isFull := by decide +kernel
set_option maxRecDepth 20000 in
theorem lk_X2_isFull_9 : Cond.fieldLink RX2 9 (TX2 0).1 (TX2 0).2.1 (TX2 0).2.2.1 ∈ wsX2_isFull := by decide +kernel
set_option maxHeartbeats 1000000 in
set_option maxRecDepth 100000 in
theorem c_X2_isFull (l : Launch) (D : va_G) (h0 : Nat) (h1 : Nat) (cI : ClassId) (g : Int → Int) (n : Int) (q : Int) (hn : 0 ≤ n ∧ n ≤ 32) : MP l yX2_isFull wsX2_isFull rm_X2_isFull D vwCl [.ref h0] [(h0, .inr (2, [.ref h1, .int (iJ (n)), .int (iJ (q))])), (h1, cJ cI 32 (g))] [(cI, .int)] (b2 (32 ≤ n)) := by
  refine MP.mk (cc := cX2_isFull) (maxL := 1) (ret := (some .boolean)) (by decide) rfl (Nat.le_of_ble_eq_true rfl) rfl RX2 rfl ?_
  intro p_ e_ s_ m_ ar_ bw_ mt_ cd_ Q_ E hr hQ
  refine r_aload_n E 0 dX2_isFull_0 rfl rfl ?_
  refine r_get E 2 0 1 dX2_isFull_1 in_X2_isFull_X2 lk_X2_isFull_15 rfl rfl (by decide) rfl ?_
  refine r_aload_n E 0 dX2_isFull_4 rfl rfl ?_
  refine r_get E 2 0 0 dX2_isFull_5 in_X2_isFull_X2 lk_X2_isFull_9 rfl rfl (by decide) rfl ?_
  refine r_alen E 1 0 32 dX2_isFull_8 rfl rfl rfl ?_
  refine r_top (b := 32) (by rfl) ?_
  refine r_icmp_lt E 16 dX2_isFull_9 (by decide) ⟨by omega, by omega⟩ ⟨by omega, by omega⟩ (fun c_9 => ?_) (fun c_9 => ?_)
  · refine r_iconst E 0 rfl dX2_isFull_16 ?_
    exact r_retPZ E hr dX2_isFull_17 (by omega) (by first | rfl | exact (b2_t (by first | omega | assumption)).symm | exact (b2_f (by first | omega | assumption)).symm | omega | assumption) hQ
  · refine r_iconst E 1 rfl dX2_isFull_12 ?_
    refine r_goto E 17 dX2_isFull_13 (by decide) ?_
    exact r_retPZ E hr dX2_isFull_17 (by omega) (by first | rfl | exact (b2_t (by first | omega | assumption)).symm | exact (b2_f (by first | omega | assumption)).symm | omega | assumption) hQ
theorem kf_X2_at : KF yX2_at 1 wsX2_at cX2_at 2 (some .int) := ⟨rfl, by decide +kernel, by decide +kernel, by decide +kernel⟩
def rm_X2_at : Room := { frames := 1, cells := 0, slots := 0, locals := 21 }
set_option maxRecDepth 20000 in
theorem in_X2_at_X2 : ∀ w ∈ u_ws RX2 TX2 3, w ∈ wsX2_at := by decide +kernel
set_option maxRecDepth 20000 in
theorem lk_X2_at_9 : Cond.fieldLink RX2 9 (TX2 0).1 (TX2 0).2.1 (TX2 0).2.2.1 ∈ wsX2_at := by decide +kernel
set_option maxHeartbeats 1000000 in
set_option maxRecDepth 100000 in
theorem c_X2_at (l : Launch) (D : va_G) (h0 : Nat) (h1 : Nat) (cI : ClassId) (g : Int → Int) (n : Int) (q : Int) (a : Int) (hn : 0 ≤ n ∧ n ≤ 32) (ha : jb a) : MP l yX2_at wsX2_at rm_X2_at D vwCl [.ref h0, .int (iJ (a))] [(h0, .inr (2, [.ref h1, .int (iJ (n)), .int (iJ (q))])), (h1, cJ cI 32 (g))] [(cI, .int)] (pAt g n a) := by
  refine MP.mk (cc := cX2_at) (maxL := 2) (ret := (some .int)) (by decide) rfl (Nat.le_of_ble_eq_true rfl) rfl RX2 rfl ?_
  intro p_ e_ s_ m_ ar_ bw_ mt_ cd_ Q_ E hr hQ
  refine r_aload_n E 0 dX2_at_0 rfl rfl ?_
  refine r_iload_n E 1 dX2_at_1 rfl rfl ?_
  refine r_vP E (st := []) (c_X2_hasStep l D h0 h1 cI g n q a (by first | assumption | omega | exact ⟨by omega, by omega⟩) (by first | assumption | omega | exact ⟨by omega, by omega⟩)) gX2_at_X2_hasStep 1 kf_X2_hasStep ⟨rfl, rfl⟩ ⟨by decide, by decide⟩ dX2_at_2 rfl 0 rfl rfl rfl rfl ⟨Nat.zero_le _, Nat.zero_le _⟩ [0, 1] rfl (by decide) [0] rfl (Nat.le_of_ble_eq_true rfl) ?_
  refine r_ifeq_b E 17 dX2_at_5 (by decide) (fun c_5 => ?_) (fun c_5 => ?_)
  · refine r_iconst E 0 rfl dX2_at_17 ?_
    exact r_retP E hr dX2_at_18 (by unfold pAt; first | rw [if_pos c_5] | rw [if_neg c_5]) hQ
  · refine r_aload_n E 0 dX2_at_8 rfl rfl ?_
    refine r_get E 2 0 0 dX2_at_9 in_X2_at_X2 lk_X2_at_9 rfl rfl (by decide) rfl ?_
    refine r_iload_n E 1 dX2_at_12 rfl rfl ?_
    refine r_iald E (i := a) 1 0 dX2_at_13 rfl rfl (by decide) ⟨by omega, by omega⟩ ?_
    refine r_goto E 18 dX2_at_14 (by decide) ?_
    exact r_retP E hr dX2_at_18 (by unfold pAt; first | rw [if_pos c_5] | rw [if_neg c_5]) hQ
theorem kf_X2_change : KF yX2_change 2 wsX2_change cX2_change 3 none := ⟨rfl, by decide +kernel, by decide +kernel, by decide +kernel⟩
def rm_X2_change : Room := { frames := 1, cells := 0, slots := 0, locals := 21 }
set_option maxRecDepth 20000 in
theorem in_X2_change_X2 : ∀ w ∈ u_ws RX2 TX2 3, w ∈ wsX2_change := by decide +kernel
set_option maxRecDepth 20000 in
theorem lk_X2_change_9 : Cond.fieldLink RX2 9 (TX2 0).1 (TX2 0).2.1 (TX2 0).2.2.1 ∈ wsX2_change := by decide +kernel
set_option maxHeartbeats 1000000 in
set_option maxRecDepth 100000 in
theorem c_X2_change (l : Launch) (D : va_G) (h0 : Nat) (h1 : Nat) (cI : ClassId) (g : Int → Int) (n : Int) (q : Int) (a : Int) (v : Int) (hn : 0 ≤ n ∧ n ≤ 32) (ha : 0 ≤ a ∧ a < n) : MV (S := Unit) l yX2_change wsX2_change rm_X2_change D vwCl [.ref h0, .int (iJ (a)), .int (iJ (v))] [(h0, .inr (2, [.ref h1, .int (iJ (n)), .int (iJ (q))])), (h1, cJ cI 32 (g))] [(cI, .int)] (fun (_ : Unit) => True) (fun (_ : Unit) => [(h0, .inr (2, [.ref h1, .int (iJ (n)), .int (iJ (q))])), (h1, cJ cI 32 (uJ g a v))]) := by
  refine MV.mk (cc := cX2_change) (maxL := 3) (ret := none) (by decide) rfl (Nat.le_of_ble_eq_true rfl) rfl RX2 rfl ?_
  intro p_ e_ s_ m_ ar_ bw_ mt_ cd_ B_ Q_ hA E hr hQ
  refine r_aload_n E 0 dX2_change_0 rfl rfl ?_
  refine r_iload_n E 1 dX2_change_1 rfl rfl ?_
  refine r_vP E (st := []) (c_X2_hasStep l D h0 h1 cI g n q a (by first | assumption | omega | exact ⟨by omega, by omega⟩) (by first | assumption | omega | exact ⟨by omega, by omega⟩)) gX2_change_X2_hasStep 1 kf_X2_hasStep ⟨rfl, rfl⟩ ⟨by decide, by decide⟩ dX2_change_2 rfl 0 rfl rfl rfl rfl ⟨Nat.zero_le _, Nat.zero_le _⟩ [0, 1] rfl (by decide) [0] rfl (Nat.le_of_ble_eq_true rfl) ?_
  refine r_ifeq_b E 15 dX2_change_5 (by decide) (fun c_5 => absurd c_5 (by omega)) (fun c_5 => ?_)
  refine r_aload_n E 0 dX2_change_8 rfl rfl ?_
  refine r_get E 2 0 0 dX2_change_9 in_X2_change_X2 lk_X2_change_9 rfl rfl (by decide) rfl ?_
  refine r_iload_n E 1 dX2_change_12 rfl rfl ?_
  refine r_iload_n E 2 dX2_change_13 rfl rfl ?_
  refine r_iast E (i := a) 1 0 dX2_change_14 rfl rfl (by decide) ⟨by omega, by omega⟩ [(h0, .inr (2, [.ref h1, .int (iJ (n)), .int (iJ (q))])), (h1, cJ cI 32 (uJ g a v))] rfl ?_
  exact r_retMV E () hr dX2_change_15 trivial rfl hQ
set_option maxHeartbeats 1000000 in
set_option maxRecDepth 100000 in
theorem c_X2_changeNo (l : Launch) (D : va_G) (h0 : Nat) (h1 : Nat) (cI : ClassId) (g : Int → Int) (n : Int) (q : Int) (a : Int) (v : Int) (hn : 0 ≤ n ∧ n ≤ 32) (ha : ¬ (0 ≤ a ∧ a < n) ∧ jb a) : MV (S := Unit) l yX2_change wsX2_change rm_X2_change D vwCl [.ref h0, .int (iJ (a)), .int (iJ (v))] [(h0, .inr (2, [.ref h1, .int (iJ (n)), .int (iJ (q))])), (h1, cJ cI 32 (g))] [(cI, .int)] (fun (_ : Unit) => True) (fun (_ : Unit) => [(h0, .inr (2, [.ref h1, .int (iJ (n)), .int (iJ (q))])), (h1, cJ cI 32 (g))]) := by
  refine MV.mk (cc := cX2_change) (maxL := 3) (ret := none) (by decide) rfl (Nat.le_of_ble_eq_true rfl) rfl RX2 rfl ?_
  intro p_ e_ s_ m_ ar_ bw_ mt_ cd_ B_ Q_ hA E hr hQ
  refine r_aload_n E 0 dX2_change_0 rfl rfl ?_
  refine r_iload_n E 1 dX2_change_1 rfl rfl ?_
  refine r_vP E (st := []) (c_X2_hasStep l D h0 h1 cI g n q a (by first | assumption | omega | exact ⟨by omega, by omega⟩) ha.2) gX2_change_X2_hasStep 1 kf_X2_hasStep ⟨rfl, rfl⟩ ⟨by decide, by decide⟩ dX2_change_2 rfl 0 rfl rfl rfl rfl ⟨Nat.zero_le _, Nat.zero_le _⟩ [0, 1] rfl (by decide) [0] rfl (Nat.le_of_ble_eq_true rfl) ?_
  refine r_ifeq_b E 15 dX2_change_5 (by decide) (fun c_5 => ?_) (fun c_5 => absurd c_5 (by omega))
  exact r_retMV E () hr dX2_change_15 trivial rfl hQ
theorem kf_X2_add : KF yX2_add 1 wsX2_add cX2_add 2 (some .boolean) := ⟨rfl, by decide +kernel, by decide +kernel, by decide +kernel⟩
def rm_X2_add : Room := { frames := 1, cells := 0, slots := 0, locals := 20 }
set_option maxRecDepth 20000 in
theorem in_X2_add_X2 : ∀ w ∈ u_ws RX2 TX2 3, w ∈ wsX2_add := by decide +kernel
set_option maxRecDepth 20000 in
theorem lk_X2_add_9 : Cond.fieldLink RX2 9 (TX2 0).1 (TX2 0).2.1 (TX2 0).2.2.1 ∈ wsX2_add := by decide +kernel
set_option maxRecDepth 20000 in
theorem lk_X2_add_15 : Cond.fieldLink RX2 15 (TX2 1).1 (TX2 1).2.1 (TX2 1).2.2.1 ∈ wsX2_add := by decide +kernel
set_option maxHeartbeats 1000000 in
set_option maxRecDepth 100000 in
theorem c_X2_add (l : Launch) (D : va_G) (h0 : Nat) (h1 : Nat) (cI : ClassId) (g : Int → Int) (n : Int) (q : Int) (v : Int) (hn : 0 ≤ n ∧ n ≤ 32) (hf : n < 32) : MM (S := Unit) l yX2_add wsX2_add rm_X2_add D vwCl [.ref h0, .int (iJ (v))] [(h0, .inr (2, [.ref h1, .int (iJ (n)), .int (iJ (q))])), (h1, cJ cI 32 (g))] [(cI, .int)] (fun (_ : Unit) => 1) (fun (_ : Unit) => True) (fun (_ : Unit) => [(h0, .inr (2, [.ref h1, .int (iJ ((n + 1))), .int (iJ (q))])), (h1, cJ cI 32 (uJ g n v))]) := by
  refine MM.mk (cc := cX2_add) (maxL := 2) (ret := (some .boolean)) (by decide) rfl (Nat.le_of_ble_eq_true rfl) rfl RX2 rfl ?_
  intro p_ e_ s_ m_ ar_ bw_ mt_ cd_ B_ Q_ hA E hr hQ
  refine r_aload_n E 0 dX2_add_0 rfl rfl ?_
  refine r_vP E (st := []) (c_X2_isFull l D h0 h1 cI g n q (by first | assumption | omega | exact ⟨by omega, by omega⟩)) gX2_add_X2_isFull 0 kf_X2_isFull ⟨rfl, rfl⟩ ⟨by decide, by decide⟩ dX2_add_1 rfl 0 rfl rfl rfl rfl ⟨Nat.zero_le _, Nat.zero_le _⟩ [0, 1] rfl (by decide) [0] rfl (Nat.le_of_ble_eq_true rfl) ?_
  refine r_ifeq_b E 9 dX2_add_4 (by decide) (fun c_4 => ?_) (fun c_4 => absurd c_4 (by omega))
  refine r_aload_n E 0 dX2_add_9 rfl rfl ?_
  refine r_get E 2 0 0 dX2_add_10 in_X2_add_X2 lk_X2_add_9 rfl rfl (by decide) rfl ?_
  refine r_aload_n E 0 dX2_add_13 rfl rfl ?_
  refine r_get E 2 0 1 dX2_add_14 in_X2_add_X2 lk_X2_add_15 rfl rfl (by decide) rfl ?_
  refine r_iload_n E 1 dX2_add_17 rfl rfl ?_
  refine r_iast E (i := n) 1 0 dX2_add_18 rfl rfl (by decide) ⟨by omega, by omega⟩ [(h0, .inr (2, [.ref h1, .int (iJ (n)), .int (iJ (q))])), (h1, cJ cI 32 (uJ g n v))] rfl ?_
  refine r_aload_n E 0 dX2_add_19 rfl rfl ?_
  refine r_dup E dX2_add_20 rfl ?_
  refine r_get E 2 0 1 dX2_add_21 in_X2_add_X2 lk_X2_add_15 rfl rfl (by decide) rfl ?_
  refine r_iconst E 1 rfl dX2_add_24 ?_
  refine r_iadd E dX2_add_25 ?_
  refine r_put E (ty := .int) 2 0 1 tyX2 tyX2_ok nmX2 dX2_add_26 in_X2_add_X2 lk_X2_add_15 rfl rfl (by decide) rfl (by decide +kernel) rfl rfl (Nat.le_of_ble_eq_true rfl) [(h0, .inr (2, [.ref h1, .int (iJ ((n + 1))), .int (iJ (q))])), (h1, cJ cI 32 (uJ g n v))] rfl ?_
  refine r_iconst E 1 rfl dX2_add_29 ?_
  exact r_retMZ E () hr dX2_add_30 (by omega) rfl trivial rfl hQ
set_option maxHeartbeats 1000000 in
set_option maxRecDepth 100000 in
theorem c_X2_addNo (l : Launch) (D : va_G) (h0 : Nat) (h1 : Nat) (cI : ClassId) (g : Int → Int) (n : Int) (q : Int) (v : Int) (hn : 0 ≤ n ∧ n ≤ 32) (hf : n = 32) : MM (S := Unit) l yX2_add wsX2_add rm_X2_add D vwCl [.ref h0, .int (iJ (v))] [(h0, .inr (2, [.ref h1, .int (iJ (n)), .int (iJ (q))])), (h1, cJ cI 32 (g))] [(cI, .int)] (fun (_ : Unit) => 0) (fun (_ : Unit) => True) (fun (_ : Unit) => [(h0, .inr (2, [.ref h1, .int (iJ (n)), .int (iJ (q))])), (h1, cJ cI 32 (g))]) := by
  refine MM.mk (cc := cX2_add) (maxL := 2) (ret := (some .boolean)) (by decide) rfl (Nat.le_of_ble_eq_true rfl) rfl RX2 rfl ?_
  intro p_ e_ s_ m_ ar_ bw_ mt_ cd_ B_ Q_ hA E hr hQ
  refine r_aload_n E 0 dX2_add_0 rfl rfl ?_
  refine r_vP E (st := []) (c_X2_isFull l D h0 h1 cI g n q (by first | assumption | omega | exact ⟨by omega, by omega⟩)) gX2_add_X2_isFull 0 kf_X2_isFull ⟨rfl, rfl⟩ ⟨by decide, by decide⟩ dX2_add_1 rfl 0 rfl rfl rfl rfl ⟨Nat.zero_le _, Nat.zero_le _⟩ [0, 1] rfl (by decide) [0] rfl (Nat.le_of_ble_eq_true rfl) ?_
  refine r_ifeq_b E 9 dX2_add_4 (by decide) (fun c_4 => absurd c_4 (by omega)) (fun c_4 => ?_)
  refine r_iconst E 0 rfl dX2_add_7 ?_
  exact r_retMZ E () hr dX2_add_8 (by omega) rfl trivial rfl hQ
theorem kf_X2_insert : KF yX2_insert 2 wsX2_insert cX2_insert 4 none := ⟨rfl, by decide +kernel, by decide +kernel, by decide +kernel⟩
def rm_X2_insert : Room := { frames := 2, cells := 0, slots := 0, locals := 41 }
set_option maxRecDepth 20000 in
theorem in_X2_insert_X2 : ∀ w ∈ u_ws RX2 TX2 3, w ∈ wsX2_insert := by decide +kernel
set_option maxRecDepth 20000 in
theorem lk_X2_insert_15 : Cond.fieldLink RX2 15 (TX2 1).1 (TX2 1).2.1 (TX2 1).2.2.1 ∈ wsX2_insert := by decide +kernel
set_option maxRecDepth 20000 in
theorem lk_X2_insert_9 : Cond.fieldLink RX2 9 (TX2 0).1 (TX2 0).2.1 (TX2 0).2.2.1 ∈ wsX2_insert := by decide +kernel
set_option maxHeartbeats 1000000 in
set_option maxRecDepth 100000 in
theorem c_X2_insert (l : Launch) (D : va_G) (h0 : Nat) (h1 : Nat) (cI : ClassId) (g : Int → Int) (n : Int) (q : Int) (a : Int) (v : Int) (hn : 0 ≤ n ∧ n ≤ 32) (ha : 0 ≤ a ∧ a ≤ n) (hf : n < 32) : MV (S := Unit) l yX2_insert wsX2_insert rm_X2_insert D vwCl [.ref h0, .int (iJ (a)), .int (iJ (v))] [(h0, .inr (2, [.ref h1, .int (iJ (n)), .int (iJ (q))])), (h1, cJ cI 32 (g))] [(cI, .int)] (fun (_ : Unit) => True) (fun (_ : Unit) => [(h0, .inr (2, [.ref h1, .int (iJ ((n + 1))), .int (iJ (q))])), (h1, cJ cI 32 (pIn g n a v))]) := by
  refine MV.mk (cc := cX2_insert) (maxL := 4) (ret := none) (by decide) rfl (Nat.le_of_ble_eq_true rfl) rfl RX2 rfl ?_
  intro p_ e_ s_ m_ ar_ bw_ mt_ cd_ B_ Q_ hA E hr hQ
  refine r_aload_n E 0 dX2_insert_0 rfl rfl ?_
  refine r_iload_n E 1 dX2_insert_1 rfl rfl ?_
  refine r_vP E (st := []) (c_X2_hasGap l D h0 h1 cI g n q a (by first | assumption | omega | exact ⟨by omega, by omega⟩) (by first | assumption | omega | exact ⟨by omega, by omega⟩)) gX2_insert_X2_hasGap 1 kf_X2_hasGap ⟨rfl, rfl⟩ ⟨by decide, by decide⟩ dX2_insert_2 rfl 0 rfl rfl rfl rfl ⟨Nat.zero_le _, Nat.zero_le _⟩ [0, 1] rfl (by decide) [0] rfl (Nat.le_of_ble_eq_true rfl) ?_
  refine r_ifeq_b E 16 dX2_insert_5 (by decide) (fun c_5 => absurd c_5 (by omega)) (fun c_5 => ?_)
  refine r_aload_n E 0 dX2_insert_8 rfl rfl ?_
  refine r_iload_n E 2 dX2_insert_9 rfl rfl ?_
  refine r_vM E (st := []) (c_X2_add l D h0 h1 cI g n q v (by first | assumption | omega | exact ⟨by omega, by omega⟩) (by first | assumption | omega | exact ⟨by omega, by omega⟩)) gX2_insert_X2_add 1 kf_X2_add ⟨rfl, rfl⟩ ⟨by decide, by decide⟩ dX2_insert_10 rfl 0 rfl rfl rfl rfl ⟨Nat.zero_le _, Nat.zero_le _⟩ [0, 1] rfl (by decide) [0] rfl (Nat.le_of_ble_eq_true rfl) [] [] rfl (by decide) (by decide) hA [0, 1] (by decide) (fun (_ : Unit) => [(h0, .inr (2, [.ref h1, .int (iJ ((n + 1))), .int (iJ (q))])), (h1, cJ cI 32 (uJ g n v))]) (fun _ => rfl) ?_
  rintro ⟨⟩ hp_1
  refine r_if_ne E 17 dX2_insert_13 (by decide) ⟨by omega, by omega⟩ (fun c_13 => ?_) (fun c_13 => absurd c_13 (by decide))
  refine r_aload_n E 0 dX2_insert_17 rfl rfl ?_
  refine r_get E 2 0 1 dX2_insert_18 in_X2_insert_X2 lk_X2_insert_15 rfl rfl (by decide) rfl ?_
  refine r_iconst E 1 rfl dX2_insert_21 ?_
  refine r_isub E dX2_insert_22 ?_
  refine r_istore_n E [(3, .int (iJ (((n + 1) - 1)))), (0, .ref h0), (1, .int (iJ (a))), (2, .int (iJ (v)))] dX2_insert_23 rfl (by decide) rfl ?_
  have loop_24 : ∀ (N : Nat) (k : Int) (G : Int → Int), (a ≤ k ∧ k ≤ n) → (∀ j : Int, G j = if k < j ∧ j ≤ n then g (j - 1) else uJ g n v j) → (k - a).toNat < N → GG p_ l e_ rm_X2_insert s_ m_ ar_ bw_ mt_ cd_ D vwCl B_ B_ s_.heap 4 0 0 Q_ [(h0, .inr (2, [.ref h1, .int (iJ ((n + 1))), .int (iJ (q))])), (h1, cJ cI 32 (G))] [(0, .ref h0), (1, .int (iJ (a))), (2, .int (iJ (v))), (3, .int (iJ (k)))] 24 [] := by
    intro N; induction N with
    | zero => intro k G hk hG hN; exact absurd hN (Nat.not_lt_zero _)
    | succ N ih24 =>
      intro k G hk hG hN
      refine r_iload_n E 3 dX2_insert_24 rfl rfl ?_
      refine r_iload_n E 1 dX2_insert_25 rfl rfl ?_
      refine r_icmp_le E 49 dX2_insert_26 (by decide) ⟨by omega, by omega⟩ ⟨by omega, by omega⟩ (fun c_26 => ?_) (fun c_26 => ?_)
      · refine r_aload_n E 0 dX2_insert_49 rfl rfl ?_
        refine r_get E 2 0 0 dX2_insert_50 in_X2_insert_X2 lk_X2_insert_9 rfl rfl (by decide) rfl ?_
        refine r_iload_n E 1 dX2_insert_53 rfl rfl ?_
        refine r_iload_n E 2 dX2_insert_54 rfl rfl ?_
        refine r_iast E (i := a) 1 0 dX2_insert_55 rfl rfl (by decide) ⟨by omega, by omega⟩ [(h0, .inr (2, [.ref h1, .int (iJ ((n + 1))), .int (iJ (q))])), (h1, cJ cI 32 (uJ G a v))] rfl ?_
        exact r_retMV E () hr dX2_insert_56 trivial (by
                  have e : uJ G a v = pIn g n a v := by
                    funext j; unfold pIn; by_cases q : j = a
                    · subst q; rw [uJ_s, if_pos rfl]
                    · rw [uJ_n q, if_neg q, hG]; by_cases q2 : a < j ∧ j ≤ n
                      · rw [if_pos (by omega), if_pos q2]
                      · rw [if_neg (by omega), if_neg q2]; exact uJ_n (by omega)
                  rw [e]) hQ
      · refine r_aload_n E 0 dX2_insert_29 rfl rfl ?_
        refine r_get E 2 0 0 dX2_insert_30 in_X2_insert_X2 lk_X2_insert_9 rfl rfl (by decide) rfl ?_
        refine r_iload_n E 3 dX2_insert_33 rfl rfl ?_
        refine r_aload_n E 0 dX2_insert_34 rfl rfl ?_
        refine r_get E 2 0 0 dX2_insert_35 in_X2_insert_X2 lk_X2_insert_9 rfl rfl (by decide) rfl ?_
        refine r_iload_n E 3 dX2_insert_38 rfl rfl ?_
        refine r_iconst E 1 rfl dX2_insert_39 ?_
        refine r_isub E dX2_insert_40 ?_
        refine r_iald E (i := (k - 1)) 1 0 dX2_insert_41 rfl rfl (by decide) ⟨by omega, by omega⟩ ?_
        refine r_iast E (i := k) 1 0 dX2_insert_42 rfl rfl (by decide) ⟨by omega, by omega⟩ [(h0, .inr (2, [.ref h1, .int (iJ ((n + 1))), .int (iJ (q))])), (h1, cJ cI 32 (uJ G k (G (k - 1))))] rfl ?_
        refine r_iinc E (k := 3) [(3, .int (iJ ((k + (-1))))), (0, .ref h0), (1, .int (iJ (a))), (2, .int (iJ (v)))] dX2_insert_43 rfl (by decide) rfl ?_
        refine r_goto E 24 dX2_insert_46 (by decide) ?_
        refine r_lv [1, 2, 3, 0] [(0, .ref h0), (1, .int (iJ (a))), (2, .int (iJ (v))), (3, .int (iJ ((k + (-1)))))] rfl ?_
        exact ih24 (k + (-1)) (uJ G k (G (k - 1))) ⟨by omega, by omega⟩ (fun j => by
                      by_cases q : j = k
                      · subst q; rw [uJ_s, if_pos (by omega), hG, if_neg (by omega), uJ_n (by omega)]
                      · rw [uJ_n q, hG]; by_cases q2 : k < j ∧ j ≤ n
                        · rw [if_pos q2, if_pos (by omega)]
                        · rw [if_neg q2, if_neg (by omega)]) (by omega)
  refine r_lv [1, 2, 3, 0] [(0, .ref h0), (1, .int (iJ (a))), (2, .int (iJ (v))), (3, .int (iJ (((n + 1) - 1))))] rfl ?_
  exact loop_24 _ ((n + 1) - 1) (uJ g n v) ⟨by omega, by omega⟩ (fun j => by rw [if_neg (by omega)]) (Nat.lt_succ_self _)
theorem kf_X2_remove : KF yX2_remove 2 wsX2_remove cX2_remove 5 none := ⟨rfl, by decide +kernel, by decide +kernel, by decide +kernel⟩
def rm_X2_remove : Room := { frames := 1, cells := 0, slots := 0, locals := 21 }
set_option maxRecDepth 20000 in
theorem in_X2_remove_X2 : ∀ w ∈ u_ws RX2 TX2 3, w ∈ wsX2_remove := by decide +kernel
set_option maxRecDepth 20000 in
theorem lk_X2_remove_15 : Cond.fieldLink RX2 15 (TX2 1).1 (TX2 1).2.1 (TX2 1).2.2.1 ∈ wsX2_remove := by decide +kernel
set_option maxRecDepth 20000 in
theorem lk_X2_remove_9 : Cond.fieldLink RX2 9 (TX2 0).1 (TX2 0).2.1 (TX2 0).2.2.1 ∈ wsX2_remove := by decide +kernel
set_option maxHeartbeats 1000000 in
set_option maxRecDepth 100000 in
theorem c_X2_remove (l : Launch) (D : va_G) (h0 : Nat) (h1 : Nat) (cI : ClassId) (g : Int → Int) (n : Int) (q : Int) (a : Int) (b : Int) (hn : 0 ≤ n ∧ n ≤ 32) (ha : 0 ≤ a ∧ a ≤ b ∧ b < n) : MV (S := Unit) l yX2_remove wsX2_remove rm_X2_remove D vwCl [.ref h0, .int (iJ (a)), .int (iJ (b))] [(h0, .inr (2, [.ref h1, .int (iJ (n)), .int (iJ (q))])), (h1, cJ cI 32 (g))] [(cI, .int)] (fun (_ : Unit) => True) (fun (_ : Unit) => [(h0, .inr (2, [.ref h1, .int (iJ ((n - (b - a + 1)))), .int (iJ (q))])), (h1, cJ cI 32 (pRm g n a b))]) := by
  refine MV.mk (cc := cX2_remove) (maxL := 5) (ret := none) (by decide) rfl (Nat.le_of_ble_eq_true rfl) rfl RX2 rfl ?_
  intro p_ e_ s_ m_ ar_ bw_ mt_ cd_ B_ Q_ hA E hr hQ
  refine r_aload_n E 0 dX2_remove_0 rfl rfl ?_
  refine r_iload_n E 1 dX2_remove_1 rfl rfl ?_
  refine r_vP E (st := []) (c_X2_hasStep l D h0 h1 cI g n q a (by first | assumption | omega | exact ⟨by omega, by omega⟩) (by first | assumption | omega | exact ⟨by omega, by omega⟩)) gX2_remove_X2_hasStep 1 kf_X2_hasStep ⟨rfl, rfl⟩ ⟨by decide, by decide⟩ dX2_remove_2 rfl 0 rfl rfl rfl rfl ⟨Nat.zero_le _, Nat.zero_le _⟩ [0, 1] rfl (by decide) [0] rfl (Nat.le_of_ble_eq_true rfl) ?_
  refine r_ifeq_b E 21 dX2_remove_5 (by decide) (fun c_5 => absurd c_5 (by omega)) (fun c_5 => ?_)
  refine r_aload_n E 0 dX2_remove_8 rfl rfl ?_
  refine r_iload_n E 2 dX2_remove_9 rfl rfl ?_
  refine r_vP E (st := []) (c_X2_hasStep l D h0 h1 cI g n q b (by first | assumption | omega | exact ⟨by omega, by omega⟩) (by first | assumption | omega | exact ⟨by omega, by omega⟩)) gX2_remove_X2_hasStep 1 kf_X2_hasStep ⟨rfl, rfl⟩ ⟨by decide, by decide⟩ dX2_remove_10 rfl 0 rfl rfl rfl rfl ⟨Nat.zero_le _, Nat.zero_le _⟩ [0, 1] rfl (by decide) [0] rfl (Nat.le_of_ble_eq_true rfl) ?_
  refine r_ifeq_b E 21 dX2_remove_13 (by decide) (fun c_13 => absurd c_13 (by omega)) (fun c_13 => ?_)
  refine r_iload_n E 2 dX2_remove_16 rfl rfl ?_
  refine r_iload_n E 1 dX2_remove_17 rfl rfl ?_
  refine r_icmp_ge E 22 dX2_remove_18 (by decide) ⟨by omega, by omega⟩ ⟨by omega, by omega⟩ (fun c_18 => ?_) (fun c_18 => absurd c_18 (by omega))
  refine r_iload_n E 2 dX2_remove_22 rfl rfl ?_
  refine r_iload_n E 1 dX2_remove_23 rfl rfl ?_
  refine r_isub E dX2_remove_24 ?_
  refine r_iconst E 1 rfl dX2_remove_25 ?_
  refine r_iadd E dX2_remove_26 ?_
  refine r_istore_n E [(3, .int (iJ (((b - a) + 1)))), (0, .ref h0), (1, .int (iJ (a))), (2, .int (iJ (b)))] dX2_remove_27 rfl (by decide) rfl ?_
  refine r_iload_n E 2 dX2_remove_28 rfl rfl ?_
  refine r_istore E [(4, .int (iJ (a))), (3, .int (iJ (((b - a) + 1)))), (0, .ref h0), (1, .int (iJ (a))), (2, .int (iJ (b)))] dX2_remove_29 (by decide) rfl ?_
  have loop_31 : ∀ (N : Nat) (k : Int) (G : Int → Int), (a ≤ k ∧ k + (b - a + 1) ≤ n) → (∀ j : Int, G j = if a ≤ j ∧ j < k then g (j + (b - a + 1)) else g j) → (n - k).toNat < N → GG p_ l e_ rm_X2_remove s_ m_ ar_ bw_ mt_ cd_ D vwCl B_ B_ s_.heap 5 0 0 Q_ [(h0, .inr (2, [.ref h1, .int (iJ (n)), .int (iJ (q))])), (h1, cJ cI 32 (G))] [(0, .ref h0), (1, .int (iJ (a))), (2, .int (iJ (b))), (3, .int (iJ (((b - a) + 1)))), (4, .int (iJ (k)))] 31 [] := by
    intro N; induction N with
    | zero => intro k G hk hG hN; exact absurd hN (Nat.not_lt_zero _)
    | succ N ih31 =>
      intro k G hk hG hN
      refine r_iload E 4 dX2_remove_31 rfl ?_
      refine r_iload_n E 3 dX2_remove_33 rfl rfl ?_
      refine r_iadd E dX2_remove_34 ?_
      refine r_aload_n E 0 dX2_remove_35 rfl rfl ?_
      refine r_get E 2 0 1 dX2_remove_36 in_X2_remove_X2 lk_X2_remove_15 rfl rfl (by decide) rfl ?_
      refine r_icmp_ge E 64 dX2_remove_39 (by decide) ⟨by omega, by omega⟩ ⟨by omega, by omega⟩ (fun c_39 => ?_) (fun c_39 => ?_)
      · refine r_aload_n E 0 dX2_remove_64 rfl rfl ?_
        refine r_dup E dX2_remove_65 rfl ?_
        refine r_get E 2 0 1 dX2_remove_66 in_X2_remove_X2 lk_X2_remove_15 rfl rfl (by decide) rfl ?_
        refine r_iload_n E 3 dX2_remove_69 rfl rfl ?_
        refine r_isub E dX2_remove_70 ?_
        refine r_put E (ty := .int) 2 0 1 tyX2 tyX2_ok nmX2 dX2_remove_71 in_X2_remove_X2 lk_X2_remove_15 rfl rfl (by decide) rfl (by decide +kernel) rfl rfl (Nat.le_of_ble_eq_true rfl) [(h0, .inr (2, [.ref h1, .int (iJ ((n - ((b - a) + 1)))), .int (iJ (q))])), (h1, cJ cI 32 (G))] rfl ?_
        exact r_retMV E () hr dX2_remove_74 trivial (by
                  have e : G = pRm g n a b := by
                    funext j; unfold pRm; rw [hG]; by_cases q : a ≤ j ∧ j < k
                    · rw [if_pos q, if_pos (by omega)]
                    · rw [if_neg q, if_neg (by omega)]
                  rw [e]) hQ
      · refine r_aload_n E 0 dX2_remove_42 rfl rfl ?_
        refine r_get E 2 0 0 dX2_remove_43 in_X2_remove_X2 lk_X2_remove_9 rfl rfl (by decide) rfl ?_
        refine r_iload E 4 dX2_remove_46 rfl ?_
        refine r_aload_n E 0 dX2_remove_48 rfl rfl ?_
        refine r_get E 2 0 0 dX2_remove_49 in_X2_remove_X2 lk_X2_remove_9 rfl rfl (by decide) rfl ?_
        refine r_iload E 4 dX2_remove_52 rfl ?_
        refine r_iload_n E 3 dX2_remove_54 rfl rfl ?_
        refine r_iadd E dX2_remove_55 ?_
        refine r_iald E (i := (k + ((b - a) + 1))) 1 0 dX2_remove_56 rfl rfl (by decide) ⟨by omega, by omega⟩ ?_
        refine r_iast E (i := k) 1 0 dX2_remove_57 rfl rfl (by decide) ⟨by omega, by omega⟩ [(h0, .inr (2, [.ref h1, .int (iJ (n)), .int (iJ (q))])), (h1, cJ cI 32 (uJ G k (G (k + ((b - a) + 1)))))] rfl ?_
        refine r_iinc E (k := 4) [(4, .int (iJ ((k + 1)))), (0, .ref h0), (1, .int (iJ (a))), (2, .int (iJ (b))), (3, .int (iJ (((b - a) + 1))))] dX2_remove_58 rfl (by decide) rfl ?_
        refine r_goto E 31 dX2_remove_61 (by decide) ?_
        refine r_lv [1, 2, 3, 4, 0] [(0, .ref h0), (1, .int (iJ (a))), (2, .int (iJ (b))), (3, .int (iJ (((b - a) + 1)))), (4, .int (iJ ((k + 1))))] rfl ?_
        exact ih31 (k + 1) (uJ G k (G (k + ((b - a) + 1)))) ⟨by omega, by omega⟩ (fun j => by
                      by_cases q : j = k
                      · subst q; rw [uJ_s, if_pos (by omega), hG, if_neg (by omega)]
                      · rw [uJ_n q, hG]; by_cases q2 : a ≤ j ∧ j < k
                        · rw [if_pos q2, if_pos (by omega)]
                        · rw [if_neg q2, if_neg (by omega)]) (by omega)
  refine r_lv [2, 3, 4, 1, 0] [(0, .ref h0), (1, .int (iJ (a))), (2, .int (iJ (b))), (3, .int (iJ (((b - a) + 1)))), (4, .int (iJ (a)))] rfl ?_
  exact loop_31 _ a g ⟨by omega, by omega⟩ (fun j => by rw [if_neg (by omega)]) (Nat.lt_succ_self _)
theorem kf_X2_copySteps : KF yX2_copySteps 1 wsX2_copySteps cX2_copySteps 3 none := ⟨rfl, by decide +kernel, by decide +kernel, by decide +kernel⟩
def rm_X2_copySteps : Room := { frames := 0, cells := 0, slots := 0, locals := 0 }
set_option maxRecDepth 20000 in
theorem in_X2_copySteps_X2 : ∀ w ∈ u_ws RX2 TX2 3, w ∈ wsX2_copySteps := by decide +kernel
set_option maxRecDepth 20000 in
theorem lk_X2_copySteps_15 : Cond.fieldLink RX2 15 (TX2 1).1 (TX2 1).2.1 (TX2 1).2.2.1 ∈ wsX2_copySteps := by decide +kernel
set_option maxRecDepth 20000 in
theorem lk_X2_copySteps_9 : Cond.fieldLink RX2 9 (TX2 0).1 (TX2 0).2.1 (TX2 0).2.2.1 ∈ wsX2_copySteps := by decide +kernel
set_option maxHeartbeats 1000000 in
set_option maxRecDepth 100000 in
theorem c_X2_copySteps (l : Launch) (D : va_G) (h0 : Nat) (h1 : Nat) (cI : ClassId) (g : Int → Int) (n : Int) (q : Int) (h2 : Nat) (h3 : Nat) (g2 : Int → Int) (n2 : Int) (q2 : Int) (hn : 0 ≤ n ∧ n ≤ 32) (hn2 : 0 ≤ n2 ∧ n2 ≤ 32) : MV (S := Unit) l yX2_copySteps wsX2_copySteps rm_X2_copySteps D vwCl [.ref h0, .ref h2] [(h0, .inr (2, [.ref h1, .int (iJ (n)), .int (iJ (q))])), (h1, cJ cI 32 (g)), (h2, .inr (2, [.ref h3, .int (iJ (n2)), .int (iJ (q2))])), (h3, cJ cI 32 (g2))] [(cI, .int)] (fun (_ : Unit) => True) (fun (_ : Unit) => [(h0, .inr (2, [.ref h1, .int (iJ (n2)), .int (iJ (q))])), (h1, cJ cI 32 (pCp g g2 n2)), (h2, .inr (2, [.ref h3, .int (iJ (n2)), .int (iJ (q2))])), (h3, cJ cI 32 (g2))]) := by
  refine MV.mk (cc := cX2_copySteps) (maxL := 3) (ret := none) (by decide) rfl (Nat.le_of_ble_eq_true rfl) rfl RX2 rfl ?_
  intro p_ e_ s_ m_ ar_ bw_ mt_ cd_ B_ Q_ hA E hr hQ
  refine r_aload_n E 0 dX2_copySteps_0 rfl rfl ?_
  refine r_aload_n E 1 dX2_copySteps_1 rfl rfl ?_
  refine r_get E 2 2 1 dX2_copySteps_2 in_X2_copySteps_X2 lk_X2_copySteps_15 rfl rfl (by decide) rfl ?_
  refine r_put E (ty := .int) 2 0 1 tyX2 tyX2_ok nmX2 dX2_copySteps_5 in_X2_copySteps_X2 lk_X2_copySteps_15 rfl rfl (by decide) rfl (by decide +kernel) rfl rfl (Nat.le_of_ble_eq_true rfl) [(h0, .inr (2, [.ref h1, .int (iJ (n2)), .int (iJ (q))])), (h1, cJ cI 32 (g)), (h2, .inr (2, [.ref h3, .int (iJ (n2)), .int (iJ (q2))])), (h3, cJ cI 32 (g2))] rfl ?_
  refine r_iconst E 0 rfl dX2_copySteps_8 ?_
  refine r_istore_n E [(2, .int (iJ (0))), (0, .ref h0), (1, .ref h2)] dX2_copySteps_9 rfl (by decide) rfl ?_
  have loop_10 : ∀ (N : Nat) (k : Int) (G : Int → Int), (0 ≤ k ∧ k ≤ n2) → (∀ j : Int, G j = if 0 ≤ j ∧ j < k then g2 j else g j) → (n2 - k).toNat < N → GG p_ l e_ rm_X2_copySteps s_ m_ ar_ bw_ mt_ cd_ D vwCl B_ B_ s_.heap 3 0 0 Q_ [(h0, .inr (2, [.ref h1, .int (iJ (n2)), .int (iJ (q))])), (h1, cJ cI 32 (G)), (h2, .inr (2, [.ref h3, .int (iJ (n2)), .int (iJ (q2))])), (h3, cJ cI 32 (g2))] [(0, .ref h0), (1, .ref h2), (2, .int (iJ (k)))] 10 [] := by
    intro N; induction N with
    | zero => intro k G hk hG hN; exact absurd hN (Nat.not_lt_zero _)
    | succ N ih10 =>
      intro k G hk hG hN
      refine r_iload_n E 2 dX2_copySteps_10 rfl rfl ?_
      refine r_aload_n E 0 dX2_copySteps_11 rfl rfl ?_
      refine r_get E 2 0 1 dX2_copySteps_12 in_X2_copySteps_X2 lk_X2_copySteps_15 rfl rfl (by decide) rfl ?_
      refine r_icmp_ge E 36 dX2_copySteps_15 (by decide) ⟨by omega, by omega⟩ ⟨by omega, by omega⟩ (fun c_15 => ?_) (fun c_15 => ?_)
      · exact r_retMV E () hr dX2_copySteps_36 trivial (by
                  have e : G = pCp g g2 n2 := by
                    funext j; unfold pCp; rw [hG]; by_cases q : 0 ≤ j ∧ j < k
                    · rw [if_pos q, if_pos (by omega)]
                    · rw [if_neg q, if_neg (by omega)]
                  rw [e]) hQ
      · refine r_aload_n E 0 dX2_copySteps_18 rfl rfl ?_
        refine r_get E 2 0 0 dX2_copySteps_19 in_X2_copySteps_X2 lk_X2_copySteps_9 rfl rfl (by decide) rfl ?_
        refine r_iload_n E 2 dX2_copySteps_22 rfl rfl ?_
        refine r_aload_n E 1 dX2_copySteps_23 rfl rfl ?_
        refine r_get E 2 2 0 dX2_copySteps_24 in_X2_copySteps_X2 lk_X2_copySteps_9 rfl rfl (by decide) rfl ?_
        refine r_iload_n E 2 dX2_copySteps_27 rfl rfl ?_
        refine r_iald E (i := k) 3 0 dX2_copySteps_28 rfl rfl (by decide) ⟨by omega, by omega⟩ ?_
        refine r_iast E (i := k) 1 0 dX2_copySteps_29 rfl rfl (by decide) ⟨by omega, by omega⟩ [(h0, .inr (2, [.ref h1, .int (iJ (n2)), .int (iJ (q))])), (h1, cJ cI 32 (uJ G k (g2 k))), (h2, .inr (2, [.ref h3, .int (iJ (n2)), .int (iJ (q2))])), (h3, cJ cI 32 (g2))] rfl ?_
        refine r_iinc E (k := 2) [(2, .int (iJ ((k + 1)))), (0, .ref h0), (1, .ref h2)] dX2_copySteps_30 rfl (by decide) rfl ?_
        refine r_goto E 10 dX2_copySteps_33 (by decide) ?_
        refine r_lv [1, 2, 0] [(0, .ref h0), (1, .ref h2), (2, .int (iJ ((k + 1))))] rfl ?_
        exact ih10 (k + 1) (uJ G k (g2 k)) ⟨by omega, by omega⟩ (fun j => by
                      by_cases q : j = k
                      · subst q; rw [uJ_s, if_pos (by omega)]
                      · rw [uJ_n q, hG]; by_cases q2 : 0 ≤ j ∧ j < k
                        · rw [if_pos q2, if_pos (by omega)]
                        · rw [if_neg q2, if_neg (by omega)]) (by omega)
  refine r_lv [1, 2, 0] [(0, .ref h0), (1, .ref h2), (2, .int (iJ (0)))] rfl ?_
  exact loop_10 _ 0 g ⟨by omega, by omega⟩ (fun j => by rw [if_neg (by omega)]) (Nat.lt_succ_self _)
theorem kf_X2_copy : KF yX2_copy 1 wsX2_copy cX2_copy 2 none := ⟨rfl, by decide +kernel, by decide +kernel, by decide +kernel⟩
def rm_X2_copy : Room := { frames := 1, cells := 0, slots := 0, locals := 22 }
set_option maxRecDepth 20000 in
theorem in_X2_copy_X2 : ∀ w ∈ u_ws RX2 TX2 3, w ∈ wsX2_copy := by decide +kernel
set_option maxRecDepth 20000 in
theorem lk_X2_copy_19 : Cond.fieldLink RX2 19 (TX2 2).1 (TX2 2).2.1 (TX2 2).2.2.1 ∈ wsX2_copy := by decide +kernel
set_option maxHeartbeats 1000000 in
set_option maxRecDepth 100000 in
theorem c_X2_copy (l : Launch) (D : va_G) (h0 : Nat) (h1 : Nat) (cI : ClassId) (g : Int → Int) (n : Int) (q : Int) (h2 : Nat) (h3 : Nat) (g2 : Int → Int) (n2 : Int) (q2 : Int) (hn : 0 ≤ n ∧ n ≤ 32) (hn2 : 0 ≤ n2 ∧ n2 ≤ 32) : MV (S := Unit) l yX2_copy wsX2_copy rm_X2_copy D vwCl [.ref h0, .ref h2] [(h0, .inr (2, [.ref h1, .int (iJ (n)), .int (iJ (q))])), (h1, cJ cI 32 (g)), (h2, .inr (2, [.ref h3, .int (iJ (n2)), .int (iJ (q2))])), (h3, cJ cI 32 (g2))] [(cI, .int)] (fun (_ : Unit) => True) (fun (_ : Unit) => [(h0, .inr (2, [.ref h1, .int (iJ (n2)), .int (iJ (q2))])), (h1, cJ cI 32 (pCp g g2 n2)), (h2, .inr (2, [.ref h3, .int (iJ (n2)), .int (iJ (q2))])), (h3, cJ cI 32 (g2))]) := by
  refine MV.mk (cc := cX2_copy) (maxL := 2) (ret := none) (by decide) rfl (Nat.le_of_ble_eq_true rfl) rfl RX2 rfl ?_
  intro p_ e_ s_ m_ ar_ bw_ mt_ cd_ B_ Q_ hA E hr hQ
  refine r_aload_n E 0 dX2_copy_0 rfl rfl ?_
  refine r_aload_n E 1 dX2_copy_1 rfl rfl ?_
  refine r_vV E (st := []) (c_X2_copySteps l D h0 h1 cI g n q h2 h3 g2 n2 q2 (by first | assumption | omega | exact ⟨by omega, by omega⟩) (by first | assumption | omega | exact ⟨by omega, by omega⟩)) gX2_copy_X2_copySteps 1 kf_X2_copySteps ⟨rfl, rfl⟩ ⟨by decide, by decide⟩ dX2_copy_2 rfl 0 rfl rfl rfl rfl ⟨Nat.zero_le _, Nat.zero_le _⟩ [0, 1, 2, 3] rfl (by decide) [0] rfl (Nat.le_of_ble_eq_true rfl) [] [] rfl (by decide) (by decide) hA [0, 1, 2, 3] (by decide) (fun (_ : Unit) => [(h0, .inr (2, [.ref h1, .int (iJ (n2)), .int (iJ (q))])), (h1, cJ cI 32 (pCp g g2 n2)), (h2, .inr (2, [.ref h3, .int (iJ (n2)), .int (iJ (q2))])), (h3, cJ cI 32 (g2))]) (fun _ => rfl) ?_
  rintro ⟨⟩ hp_1
  refine r_aload_n E 0 dX2_copy_5 rfl rfl ?_
  refine r_aload_n E 1 dX2_copy_6 rfl rfl ?_
  refine r_get E 2 2 2 dX2_copy_7 in_X2_copy_X2 lk_X2_copy_19 rfl rfl (by decide) rfl ?_
  refine r_put E (ty := .int) 2 0 2 tyX2 tyX2_ok nmX2 dX2_copy_10 in_X2_copy_X2 lk_X2_copy_19 rfl rfl (by decide) rfl (by decide +kernel) rfl rfl (Nat.le_of_ble_eq_true rfl) [(h0, .inr (2, [.ref h1, .int (iJ (n2)), .int (iJ (q2))])), (h1, cJ cI 32 (pCp g g2 n2)), (h2, .inr (2, [.ref h3, .int (iJ (n2)), .int (iJ (q2))])), (h3, cJ cI 32 (g2))] rfl ?_
  exact r_retMV E () hr dX2_copy_13 trivial rfl hQ
theorem kf_X2_strokes : KF yX2_strokes 0 wsX2_strokes cX2_strokes 3 (some .int) := ⟨rfl, by decide +kernel, by decide +kernel, by decide +kernel⟩
def rm_X2_strokes : Room := { frames := 1, cells := 0, slots := 0, locals := 20 }
set_option maxRecDepth 20000 in
theorem in_X2_strokes_X2 : ∀ w ∈ u_ws RX2 TX2 3, w ∈ wsX2_strokes := by decide +kernel
set_option maxRecDepth 20000 in
theorem lk_X2_strokes_15 : Cond.fieldLink RX2 15 (TX2 1).1 (TX2 1).2.1 (TX2 1).2.2.1 ∈ wsX2_strokes := by decide +kernel
set_option maxRecDepth 20000 in
theorem lk_X2_strokes_9 : Cond.fieldLink RX2 9 (TX2 0).1 (TX2 0).2.1 (TX2 0).2.2.1 ∈ wsX2_strokes := by decide +kernel
set_option maxHeartbeats 1000000 in
set_option maxRecDepth 100000 in
theorem c_X2_strokes (l : Launch) (D : va_G) (h0 : Nat) (h1 : Nat) (cI : ClassId) (g : Int → Int) (n : Int) (q : Int) (hn : 0 ≤ n ∧ n ≤ 32) (hg : ∀ j : Int, 0 ≤ j → j < n → 0 ≤ g j ∧ g j < 64) : MP l yX2_strokes wsX2_strokes rm_X2_strokes D vwCl [.ref h0] [(h0, .inr (2, [.ref h1, .int (iJ (n)), .int (iJ (q))])), (h1, cJ cI 32 (g))] [(cI, .int)] (sm (fun j => b2 (¬ g j = 0)) n) := by
  refine MP.mk (cc := cX2_strokes) (maxL := 3) (ret := (some .int)) (by decide) rfl (Nat.le_of_ble_eq_true rfl) rfl RX2 rfl ?_
  intro p_ e_ s_ m_ ar_ bw_ mt_ cd_ Q_ E hr hQ
  refine r_iconst E 0 rfl dX2_strokes_0 ?_
  refine r_istore_n E [(1, .int (iJ (0))), (0, .ref h0)] dX2_strokes_1 rfl (by decide) rfl ?_
  refine r_iconst E 0 rfl dX2_strokes_2 ?_
  refine r_istore_n E [(2, .int (iJ (0))), (1, .int (iJ (0))), (0, .ref h0)] dX2_strokes_3 rfl (by decide) rfl ?_
  have loop_4 : ∀ (N : Nat) (k : Int) (sum : Int), (0 ≤ k ∧ k ≤ n) → (sum = sm (fun j => b2 (¬ g j = 0)) k) → (n - k).toNat < N → GG p_ l e_ rm_X2_strokes s_ m_ ar_ bw_ mt_ cd_ D vwCl (fun _ => True) (fun _ => False) s_.heap 3 0 0 Q_ [(h0, .inr (2, [.ref h1, .int (iJ (n)), .int (iJ (q))])), (h1, cJ cI 32 (g))] [(0, .ref h0), (1, .int (iJ (sum))), (2, .int (iJ (k)))] 4 [] := by
    intro N; induction N with
    | zero => intro k sum hk hs hN; exact absurd hN (Nat.not_lt_zero _)
    | succ N ih4 =>
      intro k sum hk hs hN
      refine r_iload_n E 2 dX2_strokes_4 rfl rfl ?_
      refine r_aload_n E 0 dX2_strokes_5 rfl rfl ?_
      refine r_get E 2 0 1 dX2_strokes_6 in_X2_strokes_X2 lk_X2_strokes_15 rfl rfl (by decide) rfl ?_
      refine r_icmp_ge E 38 dX2_strokes_9 (by decide) ⟨by omega, by omega⟩ ⟨by omega, by omega⟩ (fun c_9 => ?_) (fun c_9 => ?_)
      · refine r_iload_n E 1 dX2_strokes_38 rfl rfl ?_
        exact r_retP E hr dX2_strokes_39 (by
              have e : k = n := by omega
              rw [hs, e]; try rfl) hQ
      · refine r_iload_n E 1 dX2_strokes_12 rfl rfl ?_
        refine r_aload_n E 0 dX2_strokes_13 rfl rfl ?_
        refine r_get E 2 0 0 dX2_strokes_14 in_X2_strokes_X2 lk_X2_strokes_9 rfl rfl (by decide) rfl ?_
        refine r_iload_n E 2 dX2_strokes_17 rfl rfl ?_
        refine r_iald E (i := k) 1 0 dX2_strokes_18 rfl rfl (by decide) ⟨by omega, by omega⟩ ?_
        have f_1 := hg k (by omega) (by omega)
        refine r_sP E (st := [.int (iJ (sum))]) (c_X5_isStroke l D (g k) (by first | assumption | omega | exact ⟨by omega, by omega⟩)) gX2_strokes_X5_isStroke 1 kf_X5_isStroke ⟨rfl, rfl⟩ ⟨by decide, by decide⟩ dX2_strokes_19 rfl rfl ⟨Nat.zero_le _, Nat.zero_le _⟩ [] rfl (by decide) [] rfl (Nat.le_of_ble_eq_true rfl) ?_
        refine r_ifeq_n E 29 dX2_strokes_22 (by decide) (fun c_22 => ?_) (fun c_22 => ?_)
        · refine r_iconst E 0 rfl dX2_strokes_29 ?_
          refine r_iadd E dX2_strokes_30 ?_
          refine r_istore_n E [(1, .int (iJ ((sum + 0)))), (0, .ref h0), (2, .int (iJ (k)))] dX2_strokes_31 rfl (by decide) rfl ?_
          refine r_iinc E (k := 2) [(2, .int (iJ ((k + 1)))), (1, .int (iJ ((sum + 0)))), (0, .ref h0)] dX2_strokes_32 rfl (by decide) rfl ?_
          refine r_goto E 4 dX2_strokes_35 (by decide) ?_
          refine r_lv [2, 1, 0] [(0, .ref h0), (1, .int (iJ ((sum + 0)))), (2, .int (iJ ((k + 1))))] rfl ?_
          exact ih4 (k + 1) (sum + 0) ⟨by omega, by omega⟩ (by rw [sm_s _ (by omega), hs]; simp [b2, c_22]) (by omega)
        · refine r_iconst E 1 rfl dX2_strokes_25 ?_
          refine r_goto E 30 dX2_strokes_26 (by decide) ?_
          refine r_iadd E dX2_strokes_30 ?_
          refine r_istore_n E [(1, .int (iJ ((sum + 1)))), (0, .ref h0), (2, .int (iJ (k)))] dX2_strokes_31 rfl (by decide) rfl ?_
          refine r_iinc E (k := 2) [(2, .int (iJ ((k + 1)))), (1, .int (iJ ((sum + 1)))), (0, .ref h0)] dX2_strokes_32 rfl (by decide) rfl ?_
          refine r_goto E 4 dX2_strokes_35 (by decide) ?_
          refine r_lv [2, 1, 0] [(0, .ref h0), (1, .int (iJ ((sum + 1)))), (2, .int (iJ ((k + 1))))] rfl ?_
          exact ih4 (k + 1) (sum + 1) ⟨by omega, by omega⟩ (by rw [sm_s _ (by omega), hs]; simp [b2, c_22]) (by omega)
  refine r_lv [2, 1, 0] [(0, .ref h0), (1, .int (iJ (0))), (2, .int (iJ (0)))] rfl ?_
  exact loop_4 _ 0 0 ⟨by omega, by omega⟩ (sm_0 _).symm (Nat.lt_succ_self _)
theorem kf_X2_strokesOf : KF yX2_strokesOf 1 wsX2_strokesOf cX2_strokesOf 5 (some .int) := ⟨rfl, by decide +kernel, by decide +kernel, by decide +kernel⟩
def rm_X2_strokesOf : Room := { frames := 1, cells := 0, slots := 0, locals := 20 }
set_option maxRecDepth 20000 in
theorem in_X2_strokesOf_X2 : ∀ w ∈ u_ws RX2 TX2 3, w ∈ wsX2_strokesOf := by decide +kernel
set_option maxRecDepth 20000 in
theorem lk_X2_strokesOf_15 : Cond.fieldLink RX2 15 (TX2 1).1 (TX2 1).2.1 (TX2 1).2.2.1 ∈ wsX2_strokesOf := by decide +kernel
set_option maxRecDepth 20000 in
theorem lk_X2_strokesOf_9 : Cond.fieldLink RX2 9 (TX2 0).1 (TX2 0).2.1 (TX2 0).2.2.1 ∈ wsX2_strokesOf := by decide +kernel
set_option maxHeartbeats 1000000 in
set_option maxRecDepth 100000 in
theorem c_X2_strokesOf (l : Launch) (D : va_G) (h0 : Nat) (h1 : Nat) (cI : ClassId) (g : Int → Int) (n : Int) (q : Int) (a : Int) (hn : 0 ≤ n ∧ n ≤ 32) (hg : ∀ j : Int, 0 ≤ j → j < n → 0 ≤ g j ∧ g j < 64) (ha : jb a) : MP l yX2_strokesOf wsX2_strokesOf rm_X2_strokesOf D vwCl [.ref h0, .int (iJ (a))] [(h0, .inr (2, [.ref h1, .int (iJ (n)), .int (iJ (q))])), (h1, cJ cI 32 (g))] [(cI, .int)] (sm (fun j => b2 (¬ g j = 0 ∧ g j / 2 % 4 = a)) n) := by
  refine MP.mk (cc := cX2_strokesOf) (maxL := 5) (ret := (some .int)) (by decide) rfl (Nat.le_of_ble_eq_true rfl) rfl RX2 rfl ?_
  intro p_ e_ s_ m_ ar_ bw_ mt_ cd_ Q_ E hr hQ
  refine r_iconst E 0 rfl dX2_strokesOf_0 ?_
  refine r_istore_n E [(2, .int (iJ (0))), (0, .ref h0), (1, .int (iJ (a)))] dX2_strokesOf_1 rfl (by decide) rfl ?_
  refine r_iconst E 0 rfl dX2_strokesOf_2 ?_
  refine r_istore_n E [(3, .int (iJ (0))), (2, .int (iJ (0))), (0, .ref h0), (1, .int (iJ (a)))] dX2_strokesOf_3 rfl (by decide) rfl ?_
  have loop_4 : ∀ (N : Nat) (k : Int) (sum : Int), (0 ≤ k ∧ k ≤ n) → (sum = sm (fun j => b2 (¬ g j = 0 ∧ g j / 2 % 4 = a)) k) → (n - k).toNat < N → GG p_ l e_ rm_X2_strokesOf s_ m_ ar_ bw_ mt_ cd_ D vwCl (fun _ => True) (fun _ => False) s_.heap 5 0 0 Q_ [(h0, .inr (2, [.ref h1, .int (iJ (n)), .int (iJ (q))])), (h1, cJ cI 32 (g))] [(0, .ref h0), (1, .int (iJ (a))), (2, .int (iJ (sum))), (3, .int (iJ (k)))] 4 [] := by
    intro N; induction N with
    | zero => intro k sum hk hs hN; exact absurd hN (Nat.not_lt_zero _)
    | succ N ih4 =>
      intro k sum hk hs hN
      refine r_iload_n E 3 dX2_strokesOf_4 rfl rfl ?_
      refine r_aload_n E 0 dX2_strokesOf_5 rfl rfl ?_
      refine r_get E 2 0 1 dX2_strokesOf_6 in_X2_strokesOf_X2 lk_X2_strokesOf_15 rfl rfl (by decide) rfl ?_
      refine r_icmp_ge E 51 dX2_strokesOf_9 (by decide) ⟨by omega, by omega⟩ ⟨by omega, by omega⟩ (fun c_9 => ?_) (fun c_9 => ?_)
      · refine r_iload_n E 2 dX2_strokesOf_51 rfl rfl ?_
        exact r_retP E hr dX2_strokesOf_52 (by
              have e : k = n := by omega
              rw [hs, e]; try rfl) hQ
      · refine r_aload_n E 0 dX2_strokesOf_12 rfl rfl ?_
        refine r_get E 2 0 0 dX2_strokesOf_13 in_X2_strokesOf_X2 lk_X2_strokesOf_9 rfl rfl (by decide) rfl ?_
        refine r_iload_n E 3 dX2_strokesOf_16 rfl rfl ?_
        refine r_iald E (i := k) 1 0 dX2_strokesOf_17 rfl rfl (by decide) ⟨by omega, by omega⟩ ?_
        have f_1 := hg k (by omega) (by omega)
        refine r_istore E [(4, .int (iJ (g k))), (0, .ref h0), (1, .int (iJ (a))), (2, .int (iJ (sum))), (3, .int (iJ (k)))] dX2_strokesOf_18 (by decide) rfl ?_
        refine r_iload_n E 3 dX2_strokesOf_20 rfl rfl ?_
        refine r_iload E 0 dX2_strokesOf_21 rfl ?_
        refine r_sP E (st := [.int (iJ (sum))]) (c_X5_isStroke l D (g k) (by first | assumption | omega | exact ⟨by omega, by omega⟩)) gX2_strokesOf_X5_isStroke 1 kf_X5_isStroke ⟨rfl, rfl⟩ ⟨by decide, by decide⟩ dX2_strokesOf_23 rfl rfl ⟨Nat.zero_le _, Nat.zero_le _⟩ [] rfl (by decide) [] rfl (Nat.le_of_ble_eq_true rfl) ?_
        refine r_ifeq_n E 42 dX2_strokesOf_26 (by decide) (fun c_26 => ?_) (fun c_26 => ?_)
        · refine r_iconst E 0 rfl dX2_strokesOf_42 ?_
          refine r_iadd E dX2_strokesOf_43 ?_
          refine r_istore_n E [(2, .int (iJ ((sum + 0)))), (4, .int (iJ (g k))), (0, .ref h0), (1, .int (iJ (a))), (3, .int (iJ (k)))] dX2_strokesOf_44 rfl (by decide) rfl ?_
          refine r_iinc E (k := 4) [(3, .int (iJ ((k + 1)))), (2, .int (iJ ((sum + 0)))), (4, .int (iJ (g k))), (0, .ref h0), (1, .int (iJ (a)))] dX2_strokesOf_45 rfl (by decide) rfl ?_
          refine r_goto E 4 dX2_strokesOf_48 (by decide) ?_
          refine r_lv [3, 4, 1, 0] [(0, .ref h0), (1, .int (iJ (a))), (2, .int (iJ ((sum + 0)))), (3, .int (iJ ((k + 1))))] rfl ?_
          exact ih4 (k + 1) (sum + 0) ⟨by omega, by omega⟩ (by rw [sm_s _ (by omega), hs]; first | (simp [b2, c_26, c_35]; done) | simp [b2, c_26]) (by omega)
        · refine r_iload E 0 dX2_strokesOf_29 rfl ?_
          refine r_sP E (st := [.int (iJ (sum))]) (c_X5_hand l D (g k) (by first | assumption | omega | exact ⟨by omega, by omega⟩)) gX2_strokesOf_X5_hand 1 kf_X5_hand ⟨rfl, rfl⟩ ⟨by decide, by decide⟩ dX2_strokesOf_31 rfl rfl ⟨Nat.zero_le _, Nat.zero_le _⟩ [] rfl (by decide) [] rfl (Nat.le_of_ble_eq_true rfl) ?_
          refine r_iload_n E 2 dX2_strokesOf_34 rfl rfl ?_
          refine r_icmp_ne E 42 dX2_strokesOf_35 (by decide) ⟨by omega, by omega⟩ ha (fun c_35 => ?_) (fun c_35 => ?_)
          · refine r_iconst E 0 rfl dX2_strokesOf_42 ?_
            refine r_iadd E dX2_strokesOf_43 ?_
            refine r_istore_n E [(2, .int (iJ ((sum + 0)))), (4, .int (iJ (g k))), (0, .ref h0), (1, .int (iJ (a))), (3, .int (iJ (k)))] dX2_strokesOf_44 rfl (by decide) rfl ?_
            refine r_iinc E (k := 4) [(3, .int (iJ ((k + 1)))), (2, .int (iJ ((sum + 0)))), (4, .int (iJ (g k))), (0, .ref h0), (1, .int (iJ (a)))] dX2_strokesOf_45 rfl (by decide) rfl ?_
            refine r_goto E 4 dX2_strokesOf_48 (by decide) ?_
            refine r_lv [3, 4, 1, 0] [(0, .ref h0), (1, .int (iJ (a))), (2, .int (iJ ((sum + 0)))), (3, .int (iJ ((k + 1))))] rfl ?_
            exact ih4 (k + 1) (sum + 0) ⟨by omega, by omega⟩ (by rw [sm_s _ (by omega), hs]; first | (simp [b2, c_26, c_35]; done) | simp [b2, c_26]) (by omega)
          · refine r_iconst E 1 rfl dX2_strokesOf_38 ?_
            refine r_goto E 43 dX2_strokesOf_39 (by decide) ?_
            refine r_iadd E dX2_strokesOf_43 ?_
            refine r_istore_n E [(2, .int (iJ ((sum + 1)))), (4, .int (iJ (g k))), (0, .ref h0), (1, .int (iJ (a))), (3, .int (iJ (k)))] dX2_strokesOf_44 rfl (by decide) rfl ?_
            refine r_iinc E (k := 4) [(3, .int (iJ ((k + 1)))), (2, .int (iJ ((sum + 1)))), (4, .int (iJ (g k))), (0, .ref h0), (1, .int (iJ (a)))] dX2_strokesOf_45 rfl (by decide) rfl ?_
            refine r_goto E 4 dX2_strokesOf_48 (by decide) ?_
            refine r_lv [3, 4, 1, 0] [(0, .ref h0), (1, .int (iJ (a))), (2, .int (iJ ((sum + 1)))), (3, .int (iJ ((k + 1))))] rfl ?_
            exact ih4 (k + 1) (sum + 1) ⟨by omega, by omega⟩ (by rw [sm_s _ (by omega), hs]; first | (simp [b2, c_26, c_35]; done) | simp [b2, c_26]) (by omega)
  refine r_lv [2, 3, 1, 0] [(0, .ref h0), (1, .int (iJ (a))), (2, .int (iJ (0))), (3, .int (iJ (0)))] rfl ?_
  exact loop_4 _ 0 0 ⟨by omega, by omega⟩ (sm_0 _).symm (Nat.lt_succ_self _)
theorem kf_X2_strokesWith : KF yX2_strokesWith 1 wsX2_strokesWith cX2_strokesWith 5 (some .int) := ⟨rfl, by decide +kernel, by decide +kernel, by decide +kernel⟩
def rm_X2_strokesWith : Room := { frames := 1, cells := 0, slots := 0, locals := 20 }
set_option maxRecDepth 20000 in
theorem in_X2_strokesWith_X2 : ∀ w ∈ u_ws RX2 TX2 3, w ∈ wsX2_strokesWith := by decide +kernel
set_option maxRecDepth 20000 in
theorem lk_X2_strokesWith_15 : Cond.fieldLink RX2 15 (TX2 1).1 (TX2 1).2.1 (TX2 1).2.2.1 ∈ wsX2_strokesWith := by decide +kernel
set_option maxRecDepth 20000 in
theorem lk_X2_strokesWith_9 : Cond.fieldLink RX2 9 (TX2 0).1 (TX2 0).2.1 (TX2 0).2.2.1 ∈ wsX2_strokesWith := by decide +kernel
set_option maxHeartbeats 1000000 in
set_option maxRecDepth 100000 in
theorem c_X2_strokesWith (l : Launch) (D : va_G) (h0 : Nat) (h1 : Nat) (cI : ClassId) (g : Int → Int) (n : Int) (q : Int) (a : Int) (hn : 0 ≤ n ∧ n ≤ 32) (hg : ∀ j : Int, 0 ≤ j → j < n → 0 ≤ g j ∧ g j < 64) (ha : jb a) : MP l yX2_strokesWith wsX2_strokesWith rm_X2_strokesWith D vwCl [.ref h0, .int (iJ (a))] [(h0, .inr (2, [.ref h1, .int (iJ (n)), .int (iJ (q))])), (h1, cJ cI 32 (g))] [(cI, .int)] (sm (fun j => b2 (¬ g j = 0 ∧ g j / 16 % 4 = a)) n) := by
  refine MP.mk (cc := cX2_strokesWith) (maxL := 5) (ret := (some .int)) (by decide) rfl (Nat.le_of_ble_eq_true rfl) rfl RX2 rfl ?_
  intro p_ e_ s_ m_ ar_ bw_ mt_ cd_ Q_ E hr hQ
  refine r_iconst E 0 rfl dX2_strokesWith_0 ?_
  refine r_istore_n E [(2, .int (iJ (0))), (0, .ref h0), (1, .int (iJ (a)))] dX2_strokesWith_1 rfl (by decide) rfl ?_
  refine r_iconst E 0 rfl dX2_strokesWith_2 ?_
  refine r_istore_n E [(3, .int (iJ (0))), (2, .int (iJ (0))), (0, .ref h0), (1, .int (iJ (a)))] dX2_strokesWith_3 rfl (by decide) rfl ?_
  have loop_4 : ∀ (N : Nat) (k : Int) (sum : Int), (0 ≤ k ∧ k ≤ n) → (sum = sm (fun j => b2 (¬ g j = 0 ∧ g j / 16 % 4 = a)) k) → (n - k).toNat < N → GG p_ l e_ rm_X2_strokesWith s_ m_ ar_ bw_ mt_ cd_ D vwCl (fun _ => True) (fun _ => False) s_.heap 5 0 0 Q_ [(h0, .inr (2, [.ref h1, .int (iJ (n)), .int (iJ (q))])), (h1, cJ cI 32 (g))] [(0, .ref h0), (1, .int (iJ (a))), (2, .int (iJ (sum))), (3, .int (iJ (k)))] 4 [] := by
    intro N; induction N with
    | zero => intro k sum hk hs hN; exact absurd hN (Nat.not_lt_zero _)
    | succ N ih4 =>
      intro k sum hk hs hN
      refine r_iload_n E 3 dX2_strokesWith_4 rfl rfl ?_
      refine r_aload_n E 0 dX2_strokesWith_5 rfl rfl ?_
      refine r_get E 2 0 1 dX2_strokesWith_6 in_X2_strokesWith_X2 lk_X2_strokesWith_15 rfl rfl (by decide) rfl ?_
      refine r_icmp_ge E 51 dX2_strokesWith_9 (by decide) ⟨by omega, by omega⟩ ⟨by omega, by omega⟩ (fun c_9 => ?_) (fun c_9 => ?_)
      · refine r_iload_n E 2 dX2_strokesWith_51 rfl rfl ?_
        exact r_retP E hr dX2_strokesWith_52 (by
              have e : k = n := by omega
              rw [hs, e]; try rfl) hQ
      · refine r_aload_n E 0 dX2_strokesWith_12 rfl rfl ?_
        refine r_get E 2 0 0 dX2_strokesWith_13 in_X2_strokesWith_X2 lk_X2_strokesWith_9 rfl rfl (by decide) rfl ?_
        refine r_iload_n E 3 dX2_strokesWith_16 rfl rfl ?_
        refine r_iald E (i := k) 1 0 dX2_strokesWith_17 rfl rfl (by decide) ⟨by omega, by omega⟩ ?_
        have f_1 := hg k (by omega) (by omega)
        refine r_istore E [(4, .int (iJ (g k))), (0, .ref h0), (1, .int (iJ (a))), (2, .int (iJ (sum))), (3, .int (iJ (k)))] dX2_strokesWith_18 (by decide) rfl ?_
        refine r_iload_n E 3 dX2_strokesWith_20 rfl rfl ?_
        refine r_iload E 0 dX2_strokesWith_21 rfl ?_
        refine r_sP E (st := [.int (iJ (sum))]) (c_X5_isStroke l D (g k) (by first | assumption | omega | exact ⟨by omega, by omega⟩)) gX2_strokesWith_X5_isStroke 1 kf_X5_isStroke ⟨rfl, rfl⟩ ⟨by decide, by decide⟩ dX2_strokesWith_23 rfl rfl ⟨Nat.zero_le _, Nat.zero_le _⟩ [] rfl (by decide) [] rfl (Nat.le_of_ble_eq_true rfl) ?_
        refine r_ifeq_n E 42 dX2_strokesWith_26 (by decide) (fun c_26 => ?_) (fun c_26 => ?_)
        · refine r_iconst E 0 rfl dX2_strokesWith_42 ?_
          refine r_iadd E dX2_strokesWith_43 ?_
          refine r_istore_n E [(2, .int (iJ ((sum + 0)))), (4, .int (iJ (g k))), (0, .ref h0), (1, .int (iJ (a))), (3, .int (iJ (k)))] dX2_strokesWith_44 rfl (by decide) rfl ?_
          refine r_iinc E (k := 4) [(3, .int (iJ ((k + 1)))), (2, .int (iJ ((sum + 0)))), (4, .int (iJ (g k))), (0, .ref h0), (1, .int (iJ (a)))] dX2_strokesWith_45 rfl (by decide) rfl ?_
          refine r_goto E 4 dX2_strokesWith_48 (by decide) ?_
          refine r_lv [3, 4, 1, 0] [(0, .ref h0), (1, .int (iJ (a))), (2, .int (iJ ((sum + 0)))), (3, .int (iJ ((k + 1))))] rfl ?_
          exact ih4 (k + 1) (sum + 0) ⟨by omega, by omega⟩ (by rw [sm_s _ (by omega), hs]; first | (simp [b2, c_26, c_35]; done) | simp [b2, c_26]) (by omega)
        · refine r_iload E 0 dX2_strokesWith_29 rfl ?_
          refine r_sP E (st := [.int (iJ (sum))]) (c_X5_ornament l D (g k) (by first | assumption | omega | exact ⟨by omega, by omega⟩)) gX2_strokesWith_X5_ornament 1 kf_X5_ornament ⟨rfl, rfl⟩ ⟨by decide, by decide⟩ dX2_strokesWith_31 rfl rfl ⟨Nat.zero_le _, Nat.zero_le _⟩ [] rfl (by decide) [] rfl (Nat.le_of_ble_eq_true rfl) ?_
          refine r_iload_n E 2 dX2_strokesWith_34 rfl rfl ?_
          refine r_icmp_ne E 42 dX2_strokesWith_35 (by decide) ⟨by omega, by omega⟩ ha (fun c_35 => ?_) (fun c_35 => ?_)
          · refine r_iconst E 0 rfl dX2_strokesWith_42 ?_
            refine r_iadd E dX2_strokesWith_43 ?_
            refine r_istore_n E [(2, .int (iJ ((sum + 0)))), (4, .int (iJ (g k))), (0, .ref h0), (1, .int (iJ (a))), (3, .int (iJ (k)))] dX2_strokesWith_44 rfl (by decide) rfl ?_
            refine r_iinc E (k := 4) [(3, .int (iJ ((k + 1)))), (2, .int (iJ ((sum + 0)))), (4, .int (iJ (g k))), (0, .ref h0), (1, .int (iJ (a)))] dX2_strokesWith_45 rfl (by decide) rfl ?_
            refine r_goto E 4 dX2_strokesWith_48 (by decide) ?_
            refine r_lv [3, 4, 1, 0] [(0, .ref h0), (1, .int (iJ (a))), (2, .int (iJ ((sum + 0)))), (3, .int (iJ ((k + 1))))] rfl ?_
            exact ih4 (k + 1) (sum + 0) ⟨by omega, by omega⟩ (by rw [sm_s _ (by omega), hs]; first | (simp [b2, c_26, c_35]; done) | simp [b2, c_26]) (by omega)
          · refine r_iconst E 1 rfl dX2_strokesWith_38 ?_
            refine r_goto E 43 dX2_strokesWith_39 (by decide) ?_
            refine r_iadd E dX2_strokesWith_43 ?_
            refine r_istore_n E [(2, .int (iJ ((sum + 1)))), (4, .int (iJ (g k))), (0, .ref h0), (1, .int (iJ (a))), (3, .int (iJ (k)))] dX2_strokesWith_44 rfl (by decide) rfl ?_
            refine r_iinc E (k := 4) [(3, .int (iJ ((k + 1)))), (2, .int (iJ ((sum + 1)))), (4, .int (iJ (g k))), (0, .ref h0), (1, .int (iJ (a)))] dX2_strokesWith_45 rfl (by decide) rfl ?_
            refine r_goto E 4 dX2_strokesWith_48 (by decide) ?_
            refine r_lv [3, 4, 1, 0] [(0, .ref h0), (1, .int (iJ (a))), (2, .int (iJ ((sum + 1)))), (3, .int (iJ ((k + 1))))] rfl ?_
            exact ih4 (k + 1) (sum + 1) ⟨by omega, by omega⟩ (by rw [sm_s _ (by omega), hs]; first | (simp [b2, c_26, c_35]; done) | simp [b2, c_26]) (by omega)
  refine r_lv [2, 3, 1, 0] [(0, .ref h0), (1, .int (iJ (a))), (2, .int (iJ (0))), (3, .int (iJ (0)))] rfl ?_
  exact loop_4 _ 0 0 ⟨by omega, by omega⟩ (sm_0 _).symm (Nat.lt_succ_self _)
theorem kf_X2_accents : KF yX2_accents 0 wsX2_accents cX2_accents 3 (some .int) := ⟨rfl, by decide +kernel, by decide +kernel, by decide +kernel⟩
def rm_X2_accents : Room := { frames := 1, cells := 0, slots := 0, locals := 20 }
set_option maxRecDepth 20000 in
theorem in_X2_accents_X2 : ∀ w ∈ u_ws RX2 TX2 3, w ∈ wsX2_accents := by decide +kernel
set_option maxRecDepth 20000 in
theorem lk_X2_accents_15 : Cond.fieldLink RX2 15 (TX2 1).1 (TX2 1).2.1 (TX2 1).2.2.1 ∈ wsX2_accents := by decide +kernel
set_option maxRecDepth 20000 in
theorem lk_X2_accents_9 : Cond.fieldLink RX2 9 (TX2 0).1 (TX2 0).2.1 (TX2 0).2.2.1 ∈ wsX2_accents := by decide +kernel
set_option maxHeartbeats 1000000 in
set_option maxRecDepth 100000 in
theorem c_X2_accents (l : Launch) (D : va_G) (h0 : Nat) (h1 : Nat) (cI : ClassId) (g : Int → Int) (n : Int) (q : Int) (hn : 0 ≤ n ∧ n ≤ 32) (hg : ∀ j : Int, 0 ≤ j → j < n → 0 ≤ g j ∧ g j < 64) : MP l yX2_accents wsX2_accents rm_X2_accents D vwCl [.ref h0] [(h0, .inr (2, [.ref h1, .int (iJ (n)), .int (iJ (q))])), (h1, cJ cI 32 (g))] [(cI, .int)] (sm (fun j => b2 (g j / 8 % 2 = 1)) n) := by
  refine MP.mk (cc := cX2_accents) (maxL := 3) (ret := (some .int)) (by decide) rfl (Nat.le_of_ble_eq_true rfl) rfl RX2 rfl ?_
  intro p_ e_ s_ m_ ar_ bw_ mt_ cd_ Q_ E hr hQ
  refine r_iconst E 0 rfl dX2_accents_0 ?_
  refine r_istore_n E [(1, .int (iJ (0))), (0, .ref h0)] dX2_accents_1 rfl (by decide) rfl ?_
  refine r_iconst E 0 rfl dX2_accents_2 ?_
  refine r_istore_n E [(2, .int (iJ (0))), (1, .int (iJ (0))), (0, .ref h0)] dX2_accents_3 rfl (by decide) rfl ?_
  have loop_4 : ∀ (N : Nat) (k : Int) (sum : Int), (0 ≤ k ∧ k ≤ n) → (sum = sm (fun j => b2 (g j / 8 % 2 = 1)) k) → (n - k).toNat < N → GG p_ l e_ rm_X2_accents s_ m_ ar_ bw_ mt_ cd_ D vwCl (fun _ => True) (fun _ => False) s_.heap 3 0 0 Q_ [(h0, .inr (2, [.ref h1, .int (iJ (n)), .int (iJ (q))])), (h1, cJ cI 32 (g))] [(0, .ref h0), (1, .int (iJ (sum))), (2, .int (iJ (k)))] 4 [] := by
    intro N; induction N with
    | zero => intro k sum hk hs hN; exact absurd hN (Nat.not_lt_zero _)
    | succ N ih4 =>
      intro k sum hk hs hN
      refine r_iload_n E 2 dX2_accents_4 rfl rfl ?_
      refine r_aload_n E 0 dX2_accents_5 rfl rfl ?_
      refine r_get E 2 0 1 dX2_accents_6 in_X2_accents_X2 lk_X2_accents_15 rfl rfl (by decide) rfl ?_
      refine r_icmp_ge E 38 dX2_accents_9 (by decide) ⟨by omega, by omega⟩ ⟨by omega, by omega⟩ (fun c_9 => ?_) (fun c_9 => ?_)
      · refine r_iload_n E 1 dX2_accents_38 rfl rfl ?_
        exact r_retP E hr dX2_accents_39 (by
              have e : k = n := by omega
              rw [hs, e]; try rfl) hQ
      · refine r_iload_n E 1 dX2_accents_12 rfl rfl ?_
        refine r_aload_n E 0 dX2_accents_13 rfl rfl ?_
        refine r_get E 2 0 0 dX2_accents_14 in_X2_accents_X2 lk_X2_accents_9 rfl rfl (by decide) rfl ?_
        refine r_iload_n E 2 dX2_accents_17 rfl rfl ?_
        refine r_iald E (i := k) 1 0 dX2_accents_18 rfl rfl (by decide) ⟨by omega, by omega⟩ ?_
        have f_1 := hg k (by omega) (by omega)
        refine r_sP E (st := [.int (iJ (sum))]) (c_X5_isAccented l D (g k) (by first | assumption | omega | exact ⟨by omega, by omega⟩)) gX2_accents_X5_isAccented 1 kf_X5_isAccented ⟨rfl, rfl⟩ ⟨by decide, by decide⟩ dX2_accents_19 rfl rfl ⟨Nat.zero_le _, Nat.zero_le _⟩ [] rfl (by decide) [] rfl (Nat.le_of_ble_eq_true rfl) ?_
        refine r_ifeq_b E 29 dX2_accents_22 (by decide) (fun c_22 => ?_) (fun c_22 => ?_)
        · refine r_iconst E 0 rfl dX2_accents_29 ?_
          refine r_iadd E dX2_accents_30 ?_
          refine r_istore_n E [(1, .int (iJ ((sum + 0)))), (0, .ref h0), (2, .int (iJ (k)))] dX2_accents_31 rfl (by decide) rfl ?_
          refine r_iinc E (k := 2) [(2, .int (iJ ((k + 1)))), (1, .int (iJ ((sum + 0)))), (0, .ref h0)] dX2_accents_32 rfl (by decide) rfl ?_
          refine r_goto E 4 dX2_accents_35 (by decide) ?_
          refine r_lv [2, 1, 0] [(0, .ref h0), (1, .int (iJ ((sum + 0)))), (2, .int (iJ ((k + 1))))] rfl ?_
          exact ih4 (k + 1) (sum + 0) ⟨by omega, by omega⟩ (by rw [sm_s _ (by omega), hs]; simp [b2, c_22]) (by omega)
        · refine r_iconst E 1 rfl dX2_accents_25 ?_
          refine r_goto E 30 dX2_accents_26 (by decide) ?_
          refine r_iadd E dX2_accents_30 ?_
          refine r_istore_n E [(1, .int (iJ ((sum + 1)))), (0, .ref h0), (2, .int (iJ (k)))] dX2_accents_31 rfl (by decide) rfl ?_
          refine r_iinc E (k := 2) [(2, .int (iJ ((k + 1)))), (1, .int (iJ ((sum + 1)))), (0, .ref h0)] dX2_accents_32 rfl (by decide) rfl ?_
          refine r_goto E 4 dX2_accents_35 (by decide) ?_
          refine r_lv [2, 1, 0] [(0, .ref h0), (1, .int (iJ ((sum + 1)))), (2, .int (iJ ((k + 1))))] rfl ?_
          exact ih4 (k + 1) (sum + 1) ⟨by omega, by omega⟩ (by rw [sm_s _ (by omega), hs]; simp [b2, c_22]) (by omega)
  refine r_lv [2, 1, 0] [(0, .ref h0), (1, .int (iJ (0))), (2, .int (iJ (0)))] rfl ?_
  exact loop_4 _ 0 0 ⟨by omega, by omega⟩ (sm_0 _).symm (Nat.lt_succ_self _)
theorem kf_X2_blows : KF yX2_blows 0 wsX2_blows cX2_blows 3 (some .int) := ⟨rfl, by decide +kernel, by decide +kernel, by decide +kernel⟩
def rm_X2_blows : Room := { frames := 2, cells := 0, slots := 0, locals := 40 }
set_option maxRecDepth 20000 in
theorem in_X2_blows_X2 : ∀ w ∈ u_ws RX2 TX2 3, w ∈ wsX2_blows := by decide +kernel
set_option maxRecDepth 20000 in
theorem lk_X2_blows_15 : Cond.fieldLink RX2 15 (TX2 1).1 (TX2 1).2.1 (TX2 1).2.2.1 ∈ wsX2_blows := by decide +kernel
set_option maxRecDepth 20000 in
theorem lk_X2_blows_9 : Cond.fieldLink RX2 9 (TX2 0).1 (TX2 0).2.1 (TX2 0).2.2.1 ∈ wsX2_blows := by decide +kernel
set_option maxHeartbeats 1000000 in
set_option maxRecDepth 100000 in
theorem c_X2_blows (l : Launch) (D : va_G) (h0 : Nat) (h1 : Nat) (cI : ClassId) (g : Int → Int) (n : Int) (q : Int) (hn : 0 ≤ n ∧ n ≤ 32) (hg : ∀ j : Int, 0 ≤ j → j < n → 0 ≤ g j ∧ g j < 64) : MP l yX2_blows wsX2_blows rm_X2_blows D vwCl [.ref h0] [(h0, .inr (2, [.ref h1, .int (iJ (n)), .int (iJ (q))])), (h1, cJ cI 32 (g))] [(cI, .int)] (sm (fun j => sBl (g j)) n) := by
  refine MP.mk (cc := cX2_blows) (maxL := 3) (ret := (some .int)) (by decide) rfl (Nat.le_of_ble_eq_true rfl) rfl RX2 rfl ?_
  intro p_ e_ s_ m_ ar_ bw_ mt_ cd_ Q_ E hr hQ
  refine r_iconst E 0 rfl dX2_blows_0 ?_
  refine r_istore_n E [(1, .int (iJ (0))), (0, .ref h0)] dX2_blows_1 rfl (by decide) rfl ?_
  refine r_iconst E 0 rfl dX2_blows_2 ?_
  refine r_istore_n E [(2, .int (iJ (0))), (1, .int (iJ (0))), (0, .ref h0)] dX2_blows_3 rfl (by decide) rfl ?_
  have loop_4 : ∀ (N : Nat) (k : Int) (sum : Int), (0 ≤ k ∧ k ≤ n) → (sum = sm (fun j => sBl (g j)) k) → (n - k).toNat < N → GG p_ l e_ rm_X2_blows s_ m_ ar_ bw_ mt_ cd_ D vwCl (fun _ => True) (fun _ => False) s_.heap 3 0 0 Q_ [(h0, .inr (2, [.ref h1, .int (iJ (n)), .int (iJ (q))])), (h1, cJ cI 32 (g))] [(0, .ref h0), (1, .int (iJ (sum))), (2, .int (iJ (k)))] 4 [] := by
    intro N; induction N with
    | zero => intro k sum hk hs hN; exact absurd hN (Nat.not_lt_zero _)
    | succ N ih4 =>
      intro k sum hk hs hN
      refine r_iload_n E 2 dX2_blows_4 rfl rfl ?_
      refine r_aload_n E 0 dX2_blows_5 rfl rfl ?_
      refine r_get E 2 0 1 dX2_blows_6 in_X2_blows_X2 lk_X2_blows_15 rfl rfl (by decide) rfl ?_
      refine r_icmp_ge E 30 dX2_blows_9 (by decide) ⟨by omega, by omega⟩ ⟨by omega, by omega⟩ (fun c_9 => ?_) (fun c_9 => ?_)
      · refine r_iload_n E 1 dX2_blows_30 rfl rfl ?_
        exact r_retP E hr dX2_blows_31 (by
              have e : k = n := by omega
              rw [hs, e]; try rfl) hQ
      · refine r_iload_n E 1 dX2_blows_12 rfl rfl ?_
        refine r_aload_n E 0 dX2_blows_13 rfl rfl ?_
        refine r_get E 2 0 0 dX2_blows_14 in_X2_blows_X2 lk_X2_blows_9 rfl rfl (by decide) rfl ?_
        refine r_iload_n E 2 dX2_blows_17 rfl rfl ?_
        refine r_iald E (i := k) 1 0 dX2_blows_18 rfl rfl (by decide) ⟨by omega, by omega⟩ ?_
        have f_1 := hg k (by omega) (by omega)
        refine r_sP E (st := [.int (iJ (sum))]) (c_X5_blows l D (g k) (by first | assumption | omega | exact ⟨by omega, by omega⟩)) gX2_blows_X5_blows 1 kf_X5_blows ⟨rfl, rfl⟩ ⟨by decide, by decide⟩ dX2_blows_19 rfl rfl ⟨Nat.zero_le _, Nat.zero_le _⟩ [] rfl (by decide) [] rfl (Nat.le_of_ble_eq_true rfl) ?_
        refine r_iadd E dX2_blows_22 ?_
        refine r_istore_n E [(1, .int (iJ ((sum + (sBl (g k)))))), (0, .ref h0), (2, .int (iJ (k)))] dX2_blows_23 rfl (by decide) rfl ?_
        refine r_iinc E (k := 2) [(2, .int (iJ ((k + 1)))), (1, .int (iJ ((sum + (sBl (g k)))))), (0, .ref h0)] dX2_blows_24 rfl (by decide) rfl ?_
        refine r_goto E 4 dX2_blows_27 (by decide) ?_
        refine r_lv [2, 1, 0] [(0, .ref h0), (1, .int (iJ ((sum + (sBl (g k)))))), (2, .int (iJ ((k + 1))))] rfl ?_
        exact ih4 (k + 1) (sum + (sBl (g k))) ⟨by omega, by omega⟩ (by rw [sm_s _ (by omega), hs]) (by omega)
  refine r_lv [2, 1, 0] [(0, .ref h0), (1, .int (iJ (0))), (2, .int (iJ (0)))] rfl ?_
  exact loop_4 _ 0 0 ⟨by omega, by omega⟩ (sm_0 _).symm (Nat.lt_succ_self _)
theorem kf_X2_forces : KF yX2_forces 0 wsX2_forces cX2_forces 3 (some .int) := ⟨rfl, by decide +kernel, by decide +kernel, by decide +kernel⟩
def rm_X2_forces : Room := { frames := 3, cells := 0, slots := 0, locals := 63 }
set_option maxRecDepth 20000 in
theorem in_X2_forces_X2 : ∀ w ∈ u_ws RX2 TX2 3, w ∈ wsX2_forces := by decide +kernel
set_option maxRecDepth 20000 in
theorem lk_X2_forces_15 : Cond.fieldLink RX2 15 (TX2 1).1 (TX2 1).2.1 (TX2 1).2.2.1 ∈ wsX2_forces := by decide +kernel
set_option maxRecDepth 20000 in
theorem lk_X2_forces_9 : Cond.fieldLink RX2 9 (TX2 0).1 (TX2 0).2.1 (TX2 0).2.2.1 ∈ wsX2_forces := by decide +kernel
set_option maxHeartbeats 1000000 in
set_option maxRecDepth 100000 in
theorem c_X2_forces (l : Launch) (D : va_G) (h0 : Nat) (h1 : Nat) (cI : ClassId) (g : Int → Int) (n : Int) (q : Int) (hn : 0 ≤ n ∧ n ≤ 32) (hg : ∀ j : Int, 0 ≤ j → j < n → 0 ≤ g j ∧ g j < 64) : MP l yX2_forces wsX2_forces rm_X2_forces D vwCl [.ref h0] [(h0, .inr (2, [.ref h1, .int (iJ (n)), .int (iJ (q))])), (h1, cJ cI 32 (g))] [(cI, .int)] (sm (fun j => sFs (g j)) n) := by
  refine MP.mk (cc := cX2_forces) (maxL := 3) (ret := (some .int)) (by decide) rfl (Nat.le_of_ble_eq_true rfl) rfl RX2 rfl ?_
  intro p_ e_ s_ m_ ar_ bw_ mt_ cd_ Q_ E hr hQ
  refine r_iconst E 0 rfl dX2_forces_0 ?_
  refine r_istore_n E [(1, .int (iJ (0))), (0, .ref h0)] dX2_forces_1 rfl (by decide) rfl ?_
  refine r_iconst E 0 rfl dX2_forces_2 ?_
  refine r_istore_n E [(2, .int (iJ (0))), (1, .int (iJ (0))), (0, .ref h0)] dX2_forces_3 rfl (by decide) rfl ?_
  have loop_4 : ∀ (N : Nat) (k : Int) (sum : Int), (0 ≤ k ∧ k ≤ n) → (sum = sm (fun j => sFs (g j)) k) → (n - k).toNat < N → GG p_ l e_ rm_X2_forces s_ m_ ar_ bw_ mt_ cd_ D vwCl (fun _ => True) (fun _ => False) s_.heap 3 0 0 Q_ [(h0, .inr (2, [.ref h1, .int (iJ (n)), .int (iJ (q))])), (h1, cJ cI 32 (g))] [(0, .ref h0), (1, .int (iJ (sum))), (2, .int (iJ (k)))] 4 [] := by
    intro N; induction N with
    | zero => intro k sum hk hs hN; exact absurd hN (Nat.not_lt_zero _)
    | succ N ih4 =>
      intro k sum hk hs hN
      refine r_iload_n E 2 dX2_forces_4 rfl rfl ?_
      refine r_aload_n E 0 dX2_forces_5 rfl rfl ?_
      refine r_get E 2 0 1 dX2_forces_6 in_X2_forces_X2 lk_X2_forces_15 rfl rfl (by decide) rfl ?_
      refine r_icmp_ge E 30 dX2_forces_9 (by decide) ⟨by omega, by omega⟩ ⟨by omega, by omega⟩ (fun c_9 => ?_) (fun c_9 => ?_)
      · refine r_iload_n E 1 dX2_forces_30 rfl rfl ?_
        exact r_retP E hr dX2_forces_31 (by
              have e : k = n := by omega
              rw [hs, e]; try rfl) hQ
      · refine r_iload_n E 1 dX2_forces_12 rfl rfl ?_
        refine r_aload_n E 0 dX2_forces_13 rfl rfl ?_
        refine r_get E 2 0 0 dX2_forces_14 in_X2_forces_X2 lk_X2_forces_9 rfl rfl (by decide) rfl ?_
        refine r_iload_n E 2 dX2_forces_17 rfl rfl ?_
        refine r_iald E (i := k) 1 0 dX2_forces_18 rfl rfl (by decide) ⟨by omega, by omega⟩ ?_
        have f_1 := hg k (by omega) (by omega)
        refine r_sP E (st := [.int (iJ (sum))]) (c_X5_forces l D (g k) (by first | assumption | omega | exact ⟨by omega, by omega⟩)) gX2_forces_X5_forces 1 kf_X5_forces ⟨rfl, rfl⟩ ⟨by decide, by decide⟩ dX2_forces_19 rfl rfl ⟨Nat.zero_le _, Nat.zero_le _⟩ [] rfl (by decide) [] rfl (Nat.le_of_ble_eq_true rfl) ?_
        refine r_iadd E dX2_forces_22 ?_
        refine r_istore_n E [(1, .int (iJ ((sum + (sFs (g k)))))), (0, .ref h0), (2, .int (iJ (k)))] dX2_forces_23 rfl (by decide) rfl ?_
        refine r_iinc E (k := 2) [(2, .int (iJ ((k + 1)))), (1, .int (iJ ((sum + (sFs (g k)))))), (0, .ref h0)] dX2_forces_24 rfl (by decide) rfl ?_
        refine r_goto E 4 dX2_forces_27 (by decide) ?_
        refine r_lv [2, 1, 0] [(0, .ref h0), (1, .int (iJ ((sum + (sFs (g k)))))), (2, .int (iJ ((k + 1))))] rfl ?_
        exact ih4 (k + 1) (sum + (sFs (g k))) ⟨by omega, by omega⟩ (by rw [sm_s _ (by omega), hs]) (by omega)
  refine r_lv [2, 1, 0] [(0, .ref h0), (1, .int (iJ (0))), (2, .int (iJ (0)))] rfl ?_
  exact loop_4 _ 0 0 ⟨by omega, by omega⟩ (sm_0 _).symm (Nat.lt_succ_self _)
theorem kf_X2_textLength : KF yX2_textLength 0 wsX2_textLength cX2_textLength 3 (some .int) := ⟨rfl, by decide +kernel, by decide +kernel, by decide +kernel⟩
def rm_X2_textLength : Room := { frames := 2, cells := 0, slots := 0, locals := 40 }
set_option maxRecDepth 20000 in
theorem in_X2_textLength_X2 : ∀ w ∈ u_ws RX2 TX2 3, w ∈ wsX2_textLength := by decide +kernel
set_option maxRecDepth 20000 in
theorem lk_X2_textLength_15 : Cond.fieldLink RX2 15 (TX2 1).1 (TX2 1).2.1 (TX2 1).2.2.1 ∈ wsX2_textLength := by decide +kernel
set_option maxRecDepth 20000 in
theorem lk_X2_textLength_9 : Cond.fieldLink RX2 9 (TX2 0).1 (TX2 0).2.1 (TX2 0).2.2.1 ∈ wsX2_textLength := by decide +kernel
set_option maxHeartbeats 1000000 in
set_option maxRecDepth 100000 in
theorem c_X2_textLength (l : Launch) (D : va_G) (h0 : Nat) (h1 : Nat) (cI : ClassId) (g : Int → Int) (n : Int) (q : Int) (hn : 0 ≤ n ∧ n ≤ 32) (hg : ∀ j : Int, 0 ≤ j → j < n → 0 ≤ g j ∧ g j < 64) : MP l yX2_textLength wsX2_textLength rm_X2_textLength D vwCl [.ref h0] [(h0, .inr (2, [.ref h1, .int (iJ (n)), .int (iJ (q))])), (h1, cJ cI 32 (g))] [(cI, .int)] (sm (fun j => sTl (g j)) n) := by
  refine MP.mk (cc := cX2_textLength) (maxL := 3) (ret := (some .int)) (by decide) rfl (Nat.le_of_ble_eq_true rfl) rfl RX2 rfl ?_
  intro p_ e_ s_ m_ ar_ bw_ mt_ cd_ Q_ E hr hQ
  refine r_iconst E 0 rfl dX2_textLength_0 ?_
  refine r_istore_n E [(1, .int (iJ (0))), (0, .ref h0)] dX2_textLength_1 rfl (by decide) rfl ?_
  refine r_iconst E 0 rfl dX2_textLength_2 ?_
  refine r_istore_n E [(2, .int (iJ (0))), (1, .int (iJ (0))), (0, .ref h0)] dX2_textLength_3 rfl (by decide) rfl ?_
  have loop_4 : ∀ (N : Nat) (k : Int) (sum : Int), (0 ≤ k ∧ k ≤ n) → (sum = sm (fun j => sTl (g j)) k) → (n - k).toNat < N → GG p_ l e_ rm_X2_textLength s_ m_ ar_ bw_ mt_ cd_ D vwCl (fun _ => True) (fun _ => False) s_.heap 3 0 0 Q_ [(h0, .inr (2, [.ref h1, .int (iJ (n)), .int (iJ (q))])), (h1, cJ cI 32 (g))] [(0, .ref h0), (1, .int (iJ (sum))), (2, .int (iJ (k)))] 4 [] := by
    intro N; induction N with
    | zero => intro k sum hk hs hN; exact absurd hN (Nat.not_lt_zero _)
    | succ N ih4 =>
      intro k sum hk hs hN
      refine r_iload_n E 2 dX2_textLength_4 rfl rfl ?_
      refine r_aload_n E 0 dX2_textLength_5 rfl rfl ?_
      refine r_get E 2 0 1 dX2_textLength_6 in_X2_textLength_X2 lk_X2_textLength_15 rfl rfl (by decide) rfl ?_
      refine r_icmp_ge E 30 dX2_textLength_9 (by decide) ⟨by omega, by omega⟩ ⟨by omega, by omega⟩ (fun c_9 => ?_) (fun c_9 => ?_)
      · refine r_iload_n E 1 dX2_textLength_30 rfl rfl ?_
        exact r_retP E hr dX2_textLength_31 (by
              have e : k = n := by omega
              rw [hs, e]; try rfl) hQ
      · refine r_iload_n E 1 dX2_textLength_12 rfl rfl ?_
        refine r_aload_n E 0 dX2_textLength_13 rfl rfl ?_
        refine r_get E 2 0 0 dX2_textLength_14 in_X2_textLength_X2 lk_X2_textLength_9 rfl rfl (by decide) rfl ?_
        refine r_iload_n E 2 dX2_textLength_17 rfl rfl ?_
        refine r_iald E (i := k) 1 0 dX2_textLength_18 rfl rfl (by decide) ⟨by omega, by omega⟩ ?_
        have f_1 := hg k (by omega) (by omega)
        refine r_sP E (st := [.int (iJ (sum))]) (c_X5_textLength l D (g k) (by first | assumption | omega | exact ⟨by omega, by omega⟩)) gX2_textLength_X5_textLength 1 kf_X5_textLength ⟨rfl, rfl⟩ ⟨by decide, by decide⟩ dX2_textLength_19 rfl rfl ⟨Nat.zero_le _, Nat.zero_le _⟩ [] rfl (by decide) [] rfl (Nat.le_of_ble_eq_true rfl) ?_
        refine r_iadd E dX2_textLength_22 ?_
        refine r_istore_n E [(1, .int (iJ ((sum + (sTl (g k)))))), (0, .ref h0), (2, .int (iJ (k)))] dX2_textLength_23 rfl (by decide) rfl ?_
        refine r_iinc E (k := 2) [(2, .int (iJ ((k + 1)))), (1, .int (iJ ((sum + (sTl (g k)))))), (0, .ref h0)] dX2_textLength_24 rfl (by decide) rfl ?_
        refine r_goto E 4 dX2_textLength_27 (by decide) ?_
        refine r_lv [2, 1, 0] [(0, .ref h0), (1, .int (iJ ((sum + (sTl (g k)))))), (2, .int (iJ ((k + 1))))] rfl ?_
        exact ih4 (k + 1) (sum + (sTl (g k))) ⟨by omega, by omega⟩ (by rw [sm_s _ (by omega), hs]) (by omega)
  refine r_lv [2, 1, 0] [(0, .ref h0), (1, .int (iJ (0))), (2, .int (iJ (0)))] rfl ?_
  exact loop_4 _ 0 0 ⟨by omega, by omega⟩ (sm_0 _).symm (Nat.lt_succ_self _)
theorem kf_X2_longestRow : KF yX2_longestRow 0 wsX2_longestRow cX2_longestRow 4 (some .int) := ⟨rfl, by decide +kernel, by decide +kernel, by decide +kernel⟩
def rm_X2_longestRow : Room := { frames := 1, cells := 0, slots := 0, locals := 23 }
set_option maxRecDepth 20000 in
theorem in_X2_longestRow_X2 : ∀ w ∈ u_ws RX2 TX2 3, w ∈ wsX2_longestRow := by decide +kernel
set_option maxRecDepth 20000 in
theorem lk_X2_longestRow_15 : Cond.fieldLink RX2 15 (TX2 1).1 (TX2 1).2.1 (TX2 1).2.2.1 ∈ wsX2_longestRow := by decide +kernel
set_option maxRecDepth 20000 in
theorem lk_X2_longestRow_9 : Cond.fieldLink RX2 9 (TX2 0).1 (TX2 0).2.1 (TX2 0).2.2.1 ∈ wsX2_longestRow := by decide +kernel
set_option maxRecDepth 20000 in
theorem mk_X2_longestRow_61 : Cond.methodLink RX2 61 Lib.Math.max.name ∈ wsX2_longestRow ∧ Cond.static Lib.Math.max.name ∈ wsX2_longestRow ∧ Cond.initialized "java/lang/Math" ∈ wsX2_longestRow ∧ Cond.code Lib.Math.max.name Lib.Math.max.code 2 (some .int) ∈ wsX2_longestRow := by decide +kernel
set_option maxHeartbeats 1000000 in
set_option maxRecDepth 100000 in
theorem c_X2_longestRow (l : Launch) (D : va_G) (h0 : Nat) (h1 : Nat) (cI : ClassId) (g : Int → Int) (n : Int) (q : Int) (hn : 0 ≤ n ∧ n ≤ 32) (hg : ∀ j : Int, 0 ≤ j → j < n → 0 ≤ g j ∧ g j < 64) : MP l yX2_longestRow wsX2_longestRow rm_X2_longestRow D vwCl [.ref h0] [(h0, .inr (2, [.ref h1, .int (iJ (n)), .int (iJ (q))])), (h1, cJ cI 32 (g))] [(cI, .int)] (lrL g n) := by
  refine MP.mk (cc := cX2_longestRow) (maxL := 4) (ret := (some .int)) (by decide) rfl (Nat.le_of_ble_eq_true rfl) rfl RX2 rfl ?_
  intro p_ e_ s_ m_ ar_ bw_ mt_ cd_ Q_ E hr hQ
  refine r_iconst E 0 rfl dX2_longestRow_0 ?_
  refine r_istore_n E [(1, .int (iJ (0))), (0, .ref h0)] dX2_longestRow_1 rfl (by decide) rfl ?_
  refine r_iconst E 0 rfl dX2_longestRow_2 ?_
  refine r_istore_n E [(2, .int (iJ (0))), (1, .int (iJ (0))), (0, .ref h0)] dX2_longestRow_3 rfl (by decide) rfl ?_
  refine r_iconst E 0 rfl dX2_longestRow_4 ?_
  refine r_istore_n E [(3, .int (iJ (0))), (2, .int (iJ (0))), (1, .int (iJ (0))), (0, .ref h0)] dX2_longestRow_5 rfl (by decide) rfl ?_
  have loop_6 : ∀ (N : Nat) (k : Int) (lo : Int) (ro : Int), (0 ≤ k ∧ k ≤ n) → (lo = lrL g k ∧ 0 ≤ lo ∧ lo ≤ k) → (ro = lrR g k ∧ 0 ≤ ro ∧ ro ≤ k) → (n - k).toNat < N → GG p_ l e_ rm_X2_longestRow s_ m_ ar_ bw_ mt_ cd_ D vwCl (fun _ => True) (fun _ => False) s_.heap 4 0 0 Q_ [(h0, .inr (2, [.ref h1, .int (iJ (n)), .int (iJ (q))])), (h1, cJ cI 32 (g))] [(0, .ref h0), (1, .int (iJ (lo))), (2, .int (iJ (ro))), (3, .int (iJ (k)))] 6 [] := by
    intro N; induction N with
    | zero => intro k lo ro hk hl1 hl2 hN; exact absurd hN (Nat.not_lt_zero _)
    | succ N ih6 =>
      intro k lo ro hk hl1 hl2 hN
      refine r_iload_n E 3 dX2_longestRow_6 rfl rfl ?_
      refine r_aload_n E 0 dX2_longestRow_7 rfl rfl ?_
      refine r_get E 2 0 1 dX2_longestRow_8 in_X2_longestRow_X2 lk_X2_longestRow_15 rfl rfl (by decide) rfl ?_
      refine r_icmp_ge E 46 dX2_longestRow_11 (by decide) ⟨by omega, by omega⟩ ⟨by omega, by omega⟩ (fun c_11 => ?_) (fun c_11 => ?_)
      · refine r_iload_n E 1 dX2_longestRow_46 rfl rfl ?_
        exact r_retP E hr dX2_longestRow_47 (by
              have e : k = n := by omega
              rw [hl1.1, e]) hQ
      · refine r_aload_n E 0 dX2_longestRow_14 rfl rfl ?_
        refine r_get E 2 0 0 dX2_longestRow_15 in_X2_longestRow_X2 lk_X2_longestRow_9 rfl rfl (by decide) rfl ?_
        refine r_iload_n E 3 dX2_longestRow_18 rfl rfl ?_
        refine r_iald E (i := k) 1 0 dX2_longestRow_19 rfl rfl (by decide) ⟨by omega, by omega⟩ ?_
        have f_1 := hg k (by omega) (by omega)
        refine r_sP E (st := []) (c_X5_isStroke l D (g k) (by first | assumption | omega | exact ⟨by omega, by omega⟩)) gX2_longestRow_X5_isStroke 1 kf_X5_isStroke ⟨rfl, rfl⟩ ⟨by decide, by decide⟩ dX2_longestRow_20 rfl rfl ⟨Nat.zero_le _, Nat.zero_le _⟩ [] rfl (by decide) [] rfl (Nat.le_of_ble_eq_true rfl) ?_
        refine r_ifeq_n E 32 dX2_longestRow_23 (by decide) (fun c_23 => ?_) (fun c_23 => ?_)
        · refine r_iconst E 0 rfl dX2_longestRow_32 ?_
          refine r_istore_n E [(2, .int (iJ (0))), (0, .ref h0), (1, .int (iJ (lo))), (3, .int (iJ (k)))] dX2_longestRow_33 rfl (by decide) rfl ?_
          refine r_iload_n E 2 dX2_longestRow_34 rfl rfl ?_
          refine r_iload_n E 0 dX2_longestRow_35 rfl rfl ?_
          refine r_imax E (if lo < 0 then 0 else lo) dX2_longestRow_36 ⟨⟨by omega, by omega⟩, ⟨by omega, by omega⟩, rfl⟩ mk_X2_longestRow_61 ⟨by decide, by decide⟩ (Nat.le_of_ble_eq_true rfl) ⟨Nat.zero_le _, Nat.zero_le _⟩ ?_
          refine r_istore_n E [(1, .int (iJ ((if lo < 0 then 0 else lo)))), (2, .int (iJ (0))), (0, .ref h0), (3, .int (iJ (k)))] dX2_longestRow_39 rfl (by decide) rfl ?_
          refine r_iinc E (k := 3) [(3, .int (iJ ((k + 1)))), (1, .int (iJ ((if lo < 0 then 0 else lo)))), (2, .int (iJ (0))), (0, .ref h0)] dX2_longestRow_40 rfl (by decide) rfl ?_
          refine r_goto E 6 dX2_longestRow_43 (by decide) ?_
          refine r_lv [3, 1, 2, 0] [(0, .ref h0), (1, .int (iJ ((if lo < 0 then 0 else lo)))), (2, .int (iJ (0))), (3, .int (iJ ((k + 1))))] rfl ?_
          exact ih6 (k + 1) (if lo < 0 then 0 else lo) 0 ⟨by omega, by omega⟩ (by
                      have e := lrL_s g (k := k) (by omega)
                      rw [lrR_s g (by omega)] at e
                      refine ⟨?_, ?_, ?_⟩
                      · rw [e]; simp [c_23, hl1.1, hl2.1]
                      · split <;> omega
                      · split <;> omega) (by
                      have e := lrR_s g (k := k) (by omega)
                      refine ⟨?_, by omega, by omega⟩
                      rw [e]; simp [c_23, hl2.1]) (by omega)
        · refine r_iload_n E 2 dX2_longestRow_26 rfl rfl ?_
          refine r_iconst E 1 rfl dX2_longestRow_27 ?_
          refine r_iadd E dX2_longestRow_28 ?_
          refine r_goto E 33 dX2_longestRow_29 (by decide) ?_
          refine r_istore_n E [(2, .int (iJ ((ro + 1)))), (0, .ref h0), (1, .int (iJ (lo))), (3, .int (iJ (k)))] dX2_longestRow_33 rfl (by decide) rfl ?_
          refine r_iload_n E 2 dX2_longestRow_34 rfl rfl ?_
          refine r_iload_n E 0 dX2_longestRow_35 rfl rfl ?_
          refine r_imax E (if lo < (ro + 1) then (ro + 1) else lo) dX2_longestRow_36 ⟨⟨by omega, by omega⟩, ⟨by omega, by omega⟩, rfl⟩ mk_X2_longestRow_61 ⟨by decide, by decide⟩ (Nat.le_of_ble_eq_true rfl) ⟨Nat.zero_le _, Nat.zero_le _⟩ ?_
          refine r_istore_n E [(1, .int (iJ ((if lo < (ro + 1) then (ro + 1) else lo)))), (2, .int (iJ ((ro + 1)))), (0, .ref h0), (3, .int (iJ (k)))] dX2_longestRow_39 rfl (by decide) rfl ?_
          refine r_iinc E (k := 3) [(3, .int (iJ ((k + 1)))), (1, .int (iJ ((if lo < (ro + 1) then (ro + 1) else lo)))), (2, .int (iJ ((ro + 1)))), (0, .ref h0)] dX2_longestRow_40 rfl (by decide) rfl ?_
          refine r_goto E 6 dX2_longestRow_43 (by decide) ?_
          refine r_lv [3, 1, 2, 0] [(0, .ref h0), (1, .int (iJ ((if lo < (ro + 1) then (ro + 1) else lo)))), (2, .int (iJ ((ro + 1)))), (3, .int (iJ ((k + 1))))] rfl ?_
          exact ih6 (k + 1) (if lo < (ro + 1) then (ro + 1) else lo) (ro + 1) ⟨by omega, by omega⟩ (by
                      have e := lrL_s g (k := k) (by omega)
                      rw [lrR_s g (by omega)] at e
                      refine ⟨?_, ?_, ?_⟩
                      · rw [e]; simp [c_23, hl1.1, hl2.1]
                      · split <;> omega
                      · split <;> omega) (by
                      have e := lrR_s g (k := k) (by omega)
                      refine ⟨?_, by omega, by omega⟩
                      rw [e]; simp [c_23, hl2.1]) (by omega)
  refine r_lv [3, 2, 1, 0] [(0, .ref h0), (1, .int (iJ (0))), (2, .int (iJ (0))), (3, .int (iJ (0)))] rfl ?_
  exact loop_6 _ 0 0 0 ⟨by omega, by omega⟩ ⟨rfl, by omega, by omega⟩ ⟨rfl, by omega, by omega⟩ (Nat.lt_succ_self _)
theorem kf_X2_signAt : KF yX2_signAt 1 wsX2_signAt cX2_signAt 5 (some .int) := ⟨rfl, by decide +kernel, by decide +kernel, by decide +kernel⟩
def rm_X2_signAt : Room := { frames := 2, cells := 0, slots := 0, locals := 43 }
set_option maxRecDepth 20000 in
theorem in_X2_signAt_X2 : ∀ w ∈ u_ws RX2 TX2 3, w ∈ wsX2_signAt := by decide +kernel
set_option maxRecDepth 20000 in
theorem lk_X2_signAt_15 : Cond.fieldLink RX2 15 (TX2 1).1 (TX2 1).2.1 (TX2 1).2.2.1 ∈ wsX2_signAt := by decide +kernel
set_option maxRecDepth 20000 in
theorem lk_X2_signAt_9 : Cond.fieldLink RX2 9 (TX2 0).1 (TX2 0).2.1 (TX2 0).2.2.1 ∈ wsX2_signAt := by decide +kernel
set_option maxHeartbeats 1000000 in
set_option maxRecDepth 100000 in
theorem c_X2_signAt (l : Launch) (D : va_G) (h0 : Nat) (h1 : Nat) (cI : ClassId) (g : Int → Int) (n : Int) (q : Int) (p : Int) (hn : 0 ≤ n ∧ n ≤ 32) (hg : ∀ j : Int, 0 ≤ j → j < n → 0 ≤ g j ∧ g j < 64) (hp : 0 ≤ p ∧ p < 2147483648) : MP l yX2_signAt wsX2_signAt rm_X2_signAt D vwCl [.ref h0, .int (iJ (p))] [(h0, .inr (2, [.ref h1, .int (iJ (n)), .int (iJ (q))])), (h1, cJ cI 32 (g))] [(cI, .int)] (sgF g n.toNat 0 p) := by
  refine MP.mk (cc := cX2_signAt) (maxL := 5) (ret := (some .int)) (by decide) rfl (Nat.le_of_ble_eq_true rfl) rfl RX2 rfl ?_
  intro p_ e_ s_ m_ ar_ bw_ mt_ cd_ Q_ E hr hQ
  refine r_iload_n E 1 dX2_signAt_0 rfl rfl ?_
  refine r_istore_n E [(2, .int (iJ (p))), (0, .ref h0), (1, .int (iJ (p)))] dX2_signAt_1 rfl (by decide) rfl ?_
  refine r_iconst E 0 rfl dX2_signAt_2 ?_
  refine r_istore_n E [(3, .int (iJ (0))), (2, .int (iJ (p))), (0, .ref h0), (1, .int (iJ (p)))] dX2_signAt_3 rfl (by decide) rfl ?_
  have loop_4 : ∀ (N : Nat) (k : Int) (x : Int), (0 ≤ k ∧ k ≤ n) → (0 ≤ x ∧ x ≤ p) → (sgF g (n - k).toNat k x = sgF g n.toNat 0 p) → (n - k).toNat < N → GG p_ l e_ rm_X2_signAt s_ m_ ar_ bw_ mt_ cd_ D vwCl (fun _ => True) (fun _ => False) s_.heap 5 0 0 Q_ [(h0, .inr (2, [.ref h1, .int (iJ (n)), .int (iJ (q))])), (h1, cJ cI 32 (g))] [(0, .ref h0), (1, .int (iJ (p))), (2, .int (iJ (x))), (3, .int (iJ (k)))] 4 [] := by
    intro N; induction N with
    | zero => intro k x hk hx hs hN; exact absurd hN (Nat.not_lt_zero _)
    | succ N ih4 =>
      intro k x hk hx hs hN
      refine r_iload_n E 3 dX2_signAt_4 rfl rfl ?_
      refine r_aload_n E 0 dX2_signAt_5 rfl rfl ?_
      refine r_get E 2 0 1 dX2_signAt_6 in_X2_signAt_X2 lk_X2_signAt_15 rfl rfl (by decide) rfl ?_
      refine r_icmp_ge E 51 dX2_signAt_9 (by decide) ⟨by omega, by omega⟩ ⟨by omega, by omega⟩ (fun c_9 => ?_) (fun c_9 => ?_)
      · refine r_bipush E (-4) rfl dX2_signAt_51 ?_
        exact r_retP E hr dX2_signAt_53 (by
                    rw [← hs, show (n - k).toNat = 0 by omega]; rfl) hQ
      · refine r_aload_n E 0 dX2_signAt_12 rfl rfl ?_
        refine r_get E 2 0 0 dX2_signAt_13 in_X2_signAt_X2 lk_X2_signAt_9 rfl rfl (by decide) rfl ?_
        refine r_iload_n E 3 dX2_signAt_16 rfl rfl ?_
        refine r_iald E (i := k) 1 0 dX2_signAt_17 rfl rfl (by decide) ⟨by omega, by omega⟩ ?_
        have f_1 := hg k (by omega) (by omega)
        refine r_sP E (st := []) (c_X5_textLength l D (g k) (by first | assumption | omega | exact ⟨by omega, by omega⟩)) gX2_signAt_X5_textLength 1 kf_X5_textLength ⟨rfl, rfl⟩ ⟨by decide, by decide⟩ dX2_signAt_18 rfl rfl ⟨Nat.zero_le _, Nat.zero_le _⟩ [] rfl (by decide) [] rfl (Nat.le_of_ble_eq_true rfl) ?_
        refine r_istore E [(4, .int (iJ (sTl (g k)))), (0, .ref h0), (1, .int (iJ (p))), (2, .int (iJ (x))), (3, .int (iJ (k)))] dX2_signAt_21 (by decide) rfl ?_
        have hT := sTl_in (c := g k)
        refine r_iload_n E 3 dX2_signAt_23 rfl rfl ?_
        refine r_iload E 0 dX2_signAt_24 rfl ?_
        refine r_icmp_ge E 40 dX2_signAt_26 (by decide) ⟨by omega, by omega⟩ ⟨by omega, by omega⟩ (fun c_26 => ?_) (fun c_26 => ?_)
        · refine r_iload_n E 3 dX2_signAt_40 rfl rfl ?_
          refine r_iload E 0 dX2_signAt_41 rfl ?_
          refine r_isub E dX2_signAt_43 ?_
          refine r_istore_n E [(2, .int (iJ ((x - (sTl (g k)))))), (4, .int (iJ (sTl (g k)))), (0, .ref h0), (1, .int (iJ (p))), (3, .int (iJ (k)))] dX2_signAt_44 rfl (by decide) rfl ?_
          refine r_iinc E (k := 4) [(3, .int (iJ ((k + 1)))), (2, .int (iJ ((x - (sTl (g k)))))), (4, .int (iJ (sTl (g k)))), (0, .ref h0), (1, .int (iJ (p)))] dX2_signAt_45 rfl (by decide) rfl ?_
          refine r_goto E 4 dX2_signAt_48 (by decide) ?_
          refine r_lv [3, 4, 1, 0] [(0, .ref h0), (1, .int (iJ (p))), (2, .int (iJ ((x - (sTl (g k)))))), (3, .int (iJ ((k + 1))))] rfl ?_
          exact ih4 (k + 1) (x - (sTl (g k))) ⟨by omega, by omega⟩ ⟨by omega, by omega⟩ (by
                      rw [← hs, show (n - k).toNat = (n - (k + 1)).toNat + 1 by omega]
                      show _ = if x < sTl (g k) then _ else _
                      rw [if_neg (by omega)]) (by omega)
        · refine r_aload_n E 1 dX2_signAt_29 rfl rfl ?_
          refine r_get E 2 0 0 dX2_signAt_30 in_X2_signAt_X2 lk_X2_signAt_9 rfl rfl (by decide) rfl ?_
          refine r_iload_n E 4 dX2_signAt_33 rfl rfl ?_
          refine r_iald E (i := k) 1 0 dX2_signAt_34 rfl rfl (by decide) ⟨by omega, by omega⟩ ?_
          have f_2 := hg k (by omega) (by omega)
          refine r_iload_n E 3 dX2_signAt_35 rfl rfl ?_
          refine r_sP E (st := []) (c_X5_signAt l D (g k) x (by first | assumption | omega | exact ⟨by omega, by omega⟩) (by first | assumption | omega | exact ⟨by omega, by omega⟩)) gX2_signAt_X5_signAt 2 kf_X5_signAt ⟨rfl, rfl⟩ ⟨by decide, by decide⟩ dX2_signAt_36 rfl rfl ⟨Nat.zero_le _, Nat.zero_le _⟩ [] rfl (by decide) [] rfl (Nat.le_of_ble_eq_true rfl) ?_
          exact r_retP E hr dX2_signAt_39 (by
                      rw [← hs, show (n - k).toNat = (n - (k + 1)).toNat + 1 by omega]
                      show _ = if x < sTl (g k) then _ else _
                      rw [if_pos (by omega)]) hQ
  refine r_lv [2, 3, 1, 0] [(0, .ref h0), (1, .int (iJ (p))), (2, .int (iJ (p))), (3, .int (iJ (0)))] rfl ?_
  exact loop_4 _ 0 p ⟨by omega, by omega⟩ ⟨by omega, by omega⟩ (by rw [Int.sub_zero]) (Nat.lt_succ_self _)
