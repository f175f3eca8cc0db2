/-! history, snapshot, counts -/
theorem RP.cg {g g2 : Int → Int} {n q : Int} {s s2 : Int → Int} (h : RP g n q s) (hg : ∀ j : Int, 0 ≤ j → j < n → g2 j = g j) (hs : ∀ j : Int, 0 ≤ j → j < 34 → s2 j = s j) : RP g2 n q s2 := by
  have hn := h.1
  refine ⟨h.1, h.2.1, by rw [hs 0 (by omega) (by omega)]; exact h.2.2.1, by rw [hs 1 (by omega) (by omega)]; exact h.2.2.2.1, fun j a b => ?_⟩
  rw [hg j a b, hs (2 + j) (by omega) (by omega)]; exact h.2.2.2.2 j a b
/-- the history of the class and the model's -/
def HI (m : Int) (kN kQ : Nat → Int) (kG : Nat → Int → Int) (kp : Int) (h : Int → Int) : Prop :=
  kp = m ∧ (0 ≤ m ∧ m ≤ 4) ∧ (∀ i : Nat, 0 ≤ kN i ∧ kN i ≤ 32) ∧ ∀ i : Nat, (i : Int) < m → RP (kG i) (kN i) (kQ i) (fun j => h (34 * (i : Int) + j))
theorem HI.push {m : Int} {kN kQ : Nat → Int} {kG : Nat → Int → Int} {kp : Int} {h : Int → Int} (H : HI m kN kQ kG kp h) {g : Int → Int} {n q : Int} {s : Int → Int} (r : RP g n q s) {m2 : Int} {kN2 kQ2 : Nat → Int} {kG2 : Nat → Int → Int} (p : HPush m n q g kN kQ kG m2 kN2 kQ2 kG2) : HI m2 kN2 kQ2 kG2 (rcK kp) (rcH s h kp) := by
  obtain ⟨rfl, h2, h3, h4⟩ := H
  obtain ⟨p1, p2, p3, p4⟩ := p
  have e1 : rcK kp = m2 := by rw [p1]; rfl
  have b1 : 0 ≤ m2 ∧ m2 ≤ 4 := by
    rw [p1]; split <;> omega
  refine ⟨e1, b1, p4, fun i hi => ?_⟩
  by_cases z : (i : Int) + 1 < m2
  · have t := p2 i z
    by_cases y : kp < 4
    · rw [if_pos y] at t p1
      rw [t.1, t.2.1]
      refine (h4 i (by omega)).cg (fun j a b => t.2.2 j a (by rw [t.1]; exact b)) (fun j a b => ?_)
      show rcH s h kp (34 * (i : Int) + j) = h (34 * (i : Int) + j)
      unfold rcH; rw [if_pos y, if_neg (by omega)]
    · rw [if_neg y] at t p1
      rw [t.1, t.2.1]
      refine (h4 (i + 1) (by omega)).cg (fun j a b => t.2.2 j a (by rw [t.1]; exact b)) (fun j a b => ?_)
      show rcH s h kp (34 * (i : Int) + j) = h (34 * (((i + 1 : Nat)) : Int) + j)
      unfold rcH; rw [if_neg y, if_pos (by omega)]; exact congrArg h (by omega)
  · have ei : (m2 - 1).toNat = i := by omega
    rw [ei] at p3
    rw [p3.1, p3.2.1]
    refine r.cg p3.2.2 (fun j a b => ?_)
    show rcH s h kp (34 * (i : Int) + j) = s j
    unfold rcH
    by_cases y : kp < 4
    · rw [if_pos y] at p1
      rw [if_pos y, if_pos (by omega)]; exact congrArg s (by omega)
    · rw [if_neg y] at p1
      rw [if_neg y, if_neg (by omega), if_pos (by omega)]; exact congrArg s (by omega)
theorem HI.pop {m : Int} {kN kQ : Nat → Int} {kG : Nat → Int → Int} {kp : Int} {h : Int → Int} (H : HI m kN kQ kG kp h) (hm : 1 ≤ m) : HI (m - 1) kN kQ kG (kp - 1) h :=
  ⟨by rw [H.1], by have := H.2.1; omega, H.2.2.1, fun i hi => H.2.2.2 i (by omega)⟩
theorem HI.und {m : Int} {kN kQ : Nat → Int} {kG : Nat → Int → Int} {kp : Int} {h : Int → Int} (H : HI m kN kQ kG kp h) (hm : 1 ≤ m) (g s : Int → Int) : RP (pCp g (kG (m - 1).toNat) (kN (m - 1).toNat)) (kN (m - 1).toNat) (kQ (m - 1).toNat) (cpS s (fun j => h (34 * (kp - 1) + j))) := by
  have t := H.2.2.2 (m - 1).toNat (by omega)
  refine t.cg (fun j a b => if_pos ⟨a, b⟩) (fun j a b => ?_)
  show cpS s (fun j => h (34 * (kp - 1) + j)) j = h (34 * (((m - 1).toNat : Nat) : Int) + j)
  unfold cpS; rw [if_pos ⟨a, b⟩, H.1, show (((m - 1).toNat : Nat) : Int) = m - 1 by omega]
theorem RP.cpy {g : Int → Int} {n q : Int} {s : Int → Int} (h : RP g n q s) (g2 s2 : Int → Int) : RP (pCp g2 g n) n q (cpS s2 s) :=
  h.cg (fun j a b => if_pos ⟨a, b⟩) (fun j a b => if_pos ⟨a, b⟩)
/-- the snapshots -/
def SI (hs ns qs : Int) (gs : Int → Int) (sv : Int) (sn : Int → Int) : Prop :=
  sv = hs ∧ (hs = 0 ∨ hs = 1) ∧ (0 ≤ ns ∧ ns ≤ 32) ∧ (hs = 1 → RP gs ns qs sn)
theorem RP.cnt {g : Int → Int} {n q : Int} {s : Int → Int} (h : RP g n q s) {np pn m kp w : Int} (e1 : pn = np) (e2 : kp = m) (hw : ¬ w = 13) : (if w = 0 then n else if w = 1 then n - sm (fun j => b2 (¬ g j = 0)) n else if w = 2 then sm (fun j => b2 (¬ g j = 0 ∧ g j / 2 % 4 = 0)) n else if w = 3 then sm (fun j => b2 (¬ g j = 0 ∧ g j / 2 % 4 = 1)) n else if w = 4 then sm (fun j => b2 (¬ g j = 0 ∧ g j / 2 % 4 = 2)) n else if w = 5 then sm (fun j => b2 (g j / 8 % 2 = 1)) n else if w = 6 then sm (fun j => b2 (¬ g j = 0 ∧ g j / 16 % 4 = 1)) n else if w = 7 then sm (fun j => b2 (¬ g j = 0 ∧ g j / 16 % 4 = 2)) n else if w = 8 then sm (fun j => b2 (¬ g j = 0 ∧ g j / 16 % 4 = 3)) n else if w = 9 then sm (fun j => sBl (g j)) n else if w = 10 then sm (fun j => sFs (g j)) n else if w = 11 then q else if w = 12 then lrL g n else if w = 13 then sm (fun j => sTl (g j)) n else if w = 14 then np else if w = 15 then m else -1) = coM s pn kp w := by
  subst e1 e2
  unfold coM
  by_cases z0 : w = 0
  · rw [if_pos z0, if_pos z0]; exact h.2.2.1.symm
  rw [if_neg z0, if_neg z0]
  by_cases z1 : w = 1
  · rw [if_pos z1, if_pos z1]; exact h.rests
  rw [if_neg z1, if_neg z1]
  by_cases z2 : w = 2
  · rw [if_pos z2, if_pos (by omega), show w - 2 = 0 by omega]; exact h.ofH 0
  rw [if_neg z2]
  by_cases z3 : w = 3
  · rw [if_pos z3, if_pos (by omega), show w - 2 = 1 by omega]; exact h.ofH 1
  rw [if_neg z3]
  by_cases z4 : w = 4
  · rw [if_pos z4, if_pos (by omega), show w - 2 = 2 by omega]; exact h.ofH 2
  rw [if_neg z4, if_neg (show ¬ (2 ≤ w ∧ w ≤ 4) by omega)]
  by_cases z5 : w = 5
  · rw [if_pos z5, if_pos (by omega), show w - 5 = 0 by omega]; exact h.acc
  rw [if_neg z5]
  by_cases z6 : w = 6
  · rw [if_pos z6, if_pos (by omega), show w - 5 = 1 by omega]; exact h.orn (by omega)
  rw [if_neg z6]
  by_cases z7 : w = 7
  · rw [if_pos z7, if_pos (by omega), show w - 5 = 2 by omega]; exact h.orn (by omega)
  rw [if_neg z7]
  by_cases z8 : w = 8
  · rw [if_pos z8, if_pos (by omega), show w - 5 = 3 by omega]; exact h.orn (by omega)
  rw [if_neg z8]
  by_cases z9 : w = 9
  · rw [if_pos z9, if_pos (by omega), show w - 5 = 4 by omega]; exact h.blw
  rw [if_neg z9]
  by_cases za : w = 10
  · rw [if_pos za, if_pos (by omega), show w - 5 = 5 by omega]; exact h.frc
  rw [if_neg za, if_neg (show ¬ (5 ≤ w ∧ w ≤ 10) by omega)]
  by_cases zb : w = 11
  · rw [if_pos zb, if_pos zb]; exact h.2.2.2.1.symm
  rw [if_neg zb, if_neg zb]
  by_cases zc : w = 12
  · rw [if_pos zc, if_pos zc]; exact h.lon
  rw [if_neg zc, if_neg zc, if_neg hw]
theorem RP.cn6 {g : Int → Int} {n q : Int} {s : Int → Int} (h : RP g n q s) {np m w : Int} (hw : w = 13) : (if w = 0 then n else if w = 1 then n - sm (fun j => b2 (¬ g j = 0)) n else if w = 2 then sm (fun j => b2 (¬ g j = 0 ∧ g j / 2 % 4 = 0)) n else if w = 3 then sm (fun j => b2 (¬ g j = 0 ∧ g j / 2 % 4 = 1)) n else if w = 4 then sm (fun j => b2 (¬ g j = 0 ∧ g j / 2 % 4 = 2)) n else if w = 5 then sm (fun j => b2 (g j / 8 % 2 = 1)) n else if w = 6 then sm (fun j => b2 (¬ g j = 0 ∧ g j / 16 % 4 = 1)) n else if w = 7 then sm (fun j => b2 (¬ g j = 0 ∧ g j / 16 % 4 = 2)) n else if w = 8 then sm (fun j => b2 (¬ g j = 0 ∧ g j / 16 % 4 = 3)) n else if w = 9 then sm (fun j => sBl (g j)) n else if w = 10 then sm (fun j => sFs (g j)) n else if w = 11 then q else if w = 12 then lrL g n else if w = 13 then sm (fun j => sTl (g j)) n else if w = 14 then np else if w = 15 then m else -1) = sm (fun j => mTl (s (2 + j))) (s 0) := by
  rw [if_neg (show ¬ w = 0 by omega), if_neg (show ¬ w = 1 by omega), if_neg (show ¬ w = 2 by omega), if_neg (show ¬ w = 3 by omega), if_neg (show ¬ w = 4 by omega), if_neg (show ¬ w = 5 by omega), if_neg (show ¬ w = 6 by omega), if_neg (show ¬ w = 7 by omega), if_neg (show ¬ w = 8 by omega), if_neg (show ¬ w = 9 by omega), if_neg (show ¬ w = 10 by omega), if_neg (show ¬ w = 11 by omega), if_neg (show ¬ w = 12 by omega), if_pos hw]
  exact h.txt
