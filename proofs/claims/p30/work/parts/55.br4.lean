/-! fewest repeated hands -/
section
variable {g : Int → Int} {n q : Int} {s : Int → Int}
theorem lf2 (s : Int → Int) (a b : Int) (F : Int → Int) : lfF s a b F 2 = if mCn s a b 1 ∧ F 1 + (if 1 = b then 1 else 0) < (if mCn s a b 0 ∧ F 0 + (if 0 = b then 1 else 0) < 1000 then F 0 + (if 0 = b then 1 else 0) else 1000) then F 1 + (if 1 = b then 1 else 0) else (if mCn s a b 0 ∧ F 0 + (if 0 = b then 1 else 0) < 1000 then F 0 + (if 0 = b then 1 else 0) else 1000) := rfl
theorem lm2 (s : Int → Int) (a b : Int) (F : Int → Int) : lmF s a b F 2 = (0 + (if mCn s a b 0 then F 0 else 0)) + (if mCn s a b 1 then F 1 else 0) := rfl
abbrev hbR (g : Int → Int) (k b bm : Int) : Prop := (b = bm ∧ (bm = 0 ∨ bm = 1)) ∨ (b = 3 ∧ bm = 2 ∧ ∀ j : Int, 0 ≤ j → j < k → g j = 0)
theorem hbR_f {k b bm : Int} (hk : 0 ≤ k) (h : hbR g k b bm) : (b = bm ∧ (bm = 0 ∨ bm = 1)) ∨ (k = 0 ∨ g (k - 1) = 0) := by
  rcases h with h | ⟨h1, h2, h3⟩
  · exact Or.inl h
  · exact Or.inr ((by omega : k = 0 ∨ 1 ≤ k).elim Or.inl (fun z => Or.inr (h3 (k - 1) (by omega) (by omega))))
theorem hbR_c {k b bm hh : Int} (h : hbR g k b bm) (h01 : hh = 0 ∨ hh = 1) : (if hh = bm then (1 : Int) else 0) = (if b = hh then 1 else 0) := by
  rcases h with ⟨rfl, z⟩ | ⟨rfl, rfl, _⟩
  · by_cases y : hh = b
    · rw [if_pos y, if_pos y.symm]
    · rw [if_neg y, if_neg (fun x => y x.symm)]
  · rw [if_neg (by omega), if_neg (by omega)]
abbrev FS (g : Int → Int) (n q pr a b : Int) : Int := ffS n (owP g) (cnP g q 0 1) (cnP g q 0 0) pr a b
abbrev FV (g : Int → Int) (n q pr a b hh : Int) : Int := ffV n (owP g) (cnP g q 0 1) (cnP g q 0 0) pr a b hh
theorem FV_e (g : Int → Int) (n q pr a b hh : Int) : FV g n q pr a b hh = if fitP n (owP g) (cnP g q 0 1) (cnP g q 0 0) a b hh then (if FS g n q pr (a + 1) hh + (if b = hh then pr else 0) < 1000 then FS g n q pr (a + 1) hh + (if b = hh then pr else 0) else 1000) else 1000 := rfl
def ffR_ (g : Int → Int) (n q : Int) (s : Int → Int) (a b bm : Int) : Prop := FS g n q 1 a b = lsS s (-4) a bm ∧ ((FS g n q 0 a b = 0 ∧ lsS s (-4) a bm ≤ n - a) ∨ (FS g n q 0 a b = 1000 ∧ lsS s (-4) a bm = 1000))
theorem FV_1 (h : RP g n q s) {a b bm hh : Int} (ha : 0 ≤ a ∧ a < n) (hs : ¬ g a = 0) (hb : hbR g a b bm) (h01 : hh = 0 ∨ hh = 1) (ih : ffR_ g n q s (a + 1) hh hh) : FV g n q 1 a b hh = (if mCn s a bm hh ∧ lsS s (-4) (a + 1) hh + (if hh = bm then 1 else 0) < 1000 then lsS s (-4) (a + 1) hh + (if hh = bm then 1 else 0) else 1000) := by
  have f := fit_m h (pv := 0) ha hs (fun _ => rfl) (hbR_f ha.1 hb) h01
  rw [FV_e, ih.1, ← hbR_c hb h01]
  generalize lsS s (-4) (a + 1) hh + (if hh = bm then (1 : Int) else 0) = x
  by_cases z : mCn s a bm hh
  · rw [if_pos (f.mpr z)]
    by_cases y : x < 1000
    · rw [if_pos y, if_pos ⟨z, y⟩]
    · rw [if_neg y, if_neg (fun x => y x.2)]
  · rw [if_neg (fun x => z (f.mp x)), if_neg (fun x => z x.1)]
theorem FV_0 (h : RP g n q s) {a b bm hh : Int} (ha : 0 ≤ a ∧ a < n) (hs : ¬ g a = 0) (hb : hbR g a b bm) (h01 : hh = 0 ∨ hh = 1) (ih : ffR_ g n q s (a + 1) hh hh) : (mCn s a bm hh ∧ FV g n q 0 a b hh = 0 ∧ lsS s (-4) (a + 1) hh ≤ n - (a + 1)) ∨ (FV g n q 0 a b hh = 1000 ∧ (¬ mCn s a bm hh ∨ lsS s (-4) (a + 1) hh = 1000)) := by
  have f := fit_m h (pv := 0) ha hs (fun _ => rfl) (hbR_f ha.1 hb) h01
  have e : (if b = hh then (0 : Int) else 0) = 0 := by split <;> rfl
  rw [FV_e, e]
  by_cases z : mCn s a bm hh
  · rw [if_pos (f.mpr z)]
    rcases ih.2 with y | y
    · rw [y.1]; exact Or.inl ⟨z, by decide, y.2⟩
    · rw [y.1]; exact Or.inr ⟨by decide, Or.inr y.2⟩
  · rw [if_neg (fun x => z (f.mp x))]; exact Or.inr ⟨rfl, Or.inl z⟩
theorem owP_3 (h : RP g n q s) {k : Int} (hk : 0 ≤ k ∧ k < n) : owP g k = 3 ↔ g k = 0 := (owP_n h hk).1
theorem ff_m (h : RP g n q s) : ∀ r : Nat, (r : Int) ≤ n → ∀ b bm : Int, hbR g (n - r) b bm → ffR_ g n q s (n - r) b bm
  | 0, _, b, bm, hb => by
    have e : n - ((0 : Nat) : Int) = n := by omega
    rw [e]; unfold ffR_ FS
    have w : ¬ bsW s (-4) bm := fun z => z.1.1 rfl
    have e2 : lsS s (-4) n bm = 0 := by rw [← h.2.2.1, lsS_e, if_neg w]
    rw [ffS_e, ffS_e, e2]; exact ⟨rfl, Or.inl ⟨rfl, by omega⟩⟩
  | r + 1, hr, b, bm, hb => by
    have ih := ff_m h r (by omega)
    have ea : n - ((r : Nat) : Int) = (n - (((r + 1 : Nat)) : Int)) + 1 := by omega
    generalize hA : n - (((r + 1 : Nat)) : Int) = a at hb ea ⊢
    rw [ea] at ih
    have hn := h.1
    have ha : 0 ≤ a ∧ a < n := by omega
    have o := owP_3 h ha
    have oz := (owP_n h ha).2.2
    have eL := lsS_s s (-4) (a := a) bm (by rw [h.2.2.1]; omega)
    have eS : ∀ pr, FS g n q pr a b = if owP g a = 3 then FS g n q pr (a + 1) b else if FV g n q pr a b 1 < FV g n q pr a b 0 then FV g n q pr a b 1 else FV g n q pr a b 0 := fun pr => ffS_s n (owP g) (cnP g q 0 1) (cnP g q 0 0) pr b ha.2
    unfold ffR_; rw [eS 1, eS 0, eL]
    by_cases z : g a = 0
    · rw [if_pos (o.mpr z), if_pos (o.mpr z), if_pos (oz.mpr z)]
      have i := ih b bm (by
        rcases hb with hb | ⟨x, y, w⟩
        · exact Or.inl hb
        · exact Or.inr ⟨x, y, fun j j0 j1 => (by omega : j < a ∨ j = a).elim (w j j0) (fun e => by rw [e]; exact z)⟩)
      exact ⟨i.1, i.2.imp (fun x => ⟨x.1, by omega⟩) id⟩
    · have i0 := ih 0 0 (Or.inl ⟨rfl, Or.inl rfl⟩)
      have i1 := ih 1 1 (Or.inl ⟨rfl, Or.inr rfl⟩)
      have v0 := FV_1 h ha z hb (Or.inl rfl) i0
      have v1 := FV_1 h ha z hb (Or.inr rfl) i1
      have w0 := FV_0 h ha z hb (Or.inl rfl) i0
      have w1 := FV_0 h ha z hb (Or.inr rfl) i1
      have l0 := lsS_in (s := s) (nx := -4) (a := a + 1) (b := 0)
      have l1 := lsS_in (s := s) (nx := -4) (a := a + 1) (b := 1)
      have c0 := ite_in (P := (0 : Int) = bm) (y := 1) (z := 0) (lo := 0) (hi := 1) ⟨by omega, by omega⟩ ⟨by omega, by omega⟩
      have c1 := ite_in (P := (1 : Int) = bm) (y := 1) (z := 0) (lo := 0) (hi := 1) ⟨by omega, by omega⟩ ⟨by omega, by omega⟩
      rw [if_neg (fun x => z (o.mp x)), if_neg (fun x => z (o.mp x)), if_neg (fun x => z (oz.mp x)), lf2, v0, v1]
      generalize (if (0 : Int) = bm then (1 : Int) else 0) = x0 at v0 c0 ⊢
      generalize (if (1 : Int) = bm then (1 : Int) else 0) = x1 at v1 c1 ⊢
      generalize lsS s (-4) (a + 1) 0 = L0 at *
      generalize lsS s (-4) (a + 1) 1 = L1 at *
      generalize FV g n q 0 a b 0 = U0 at *
      generalize FV g n q 0 a b 1 = U1 at *
      by_cases m0 : mCn s a bm 0 ∧ L0 + x0 < 1000
      · rw [if_pos m0]
        by_cases m1 : mCn s a bm 1 ∧ L1 + x1 < 1000
        · rw [if_pos m1]; by_cases y : L1 + x1 < L0 + x0
          · rw [if_pos y, if_pos ⟨m1.1, y⟩]
            refine ⟨rfl, Or.inl ⟨?_, ?_⟩⟩
            · rcases w0 with w0 | w0 <;> rcases w1 with w1 | w1 <;> split <;> omega
            · rcases w1 with w1 | w1
              · omega
              · rcases w1.2 with w | w
                · exact absurd m1.1 w
                · omega
          · rw [if_neg y, if_neg (fun x => y x.2)]
            refine ⟨rfl, Or.inl ⟨?_, ?_⟩⟩
            · rcases w0 with w0 | w0
              · rcases w1 with w1 | w1 <;> split <;> omega
              · rcases w0.2 with w | w
                · exact absurd m0.1 w
                · omega
            · rcases w0 with w0 | w0
              · omega
              · rcases w0.2 with w | w
                · exact absurd m0.1 w
                · omega
        · rw [if_neg m1, if_neg (show ¬ (1000 : Int) < L0 + x0 by omega), if_neg (fun x => m1 ⟨x.1, by omega⟩)]
          refine ⟨rfl, Or.inl ⟨?_, ?_⟩⟩
          · rcases w0 with w0 | w0
            · rcases w1 with w1 | w1 <;> split <;> omega
            · rcases w0.2 with w | w
              · exact absurd m0.1 w
              · omega
          · rcases w0 with w0 | w0
            · omega
            · rcases w0.2 with w | w
              · exact absurd m0.1 w
              · omega
      · rw [if_neg m0]
        have k0 : U0 = 1000 := by
          rcases w0 with w | w
          · exact absurd ⟨w.1, by omega⟩ m0
          · exact w.1
        by_cases m1 : mCn s a bm 1 ∧ L1 + x1 < 1000
        · rw [if_pos m1, if_pos m1.2]
          refine ⟨rfl, Or.inl ⟨?_, ?_⟩⟩
          · rcases w1 with w1 | w1
            · rw [if_pos (by omega)]; exact w1.2.1
            · rcases w1.2 with w | w
              · exact absurd m1.1 w
              · omega
          · rcases w1 with w1 | w1
            · omega
            · rcases w1.2 with w | w
              · exact absurd m1.1 w
              · omega
        · rw [if_neg m1, if_neg (show ¬ (1000 : Int) < 1000 by decide)]
          have k1 : U1 = 1000 := by
            rcases w1 with w | w
            · exact absurd ⟨w.1, by omega⟩ m1
            · exact w.1
          exact ⟨rfl, Or.inr ⟨by rw [k0, k1, if_neg (by decide)], rfl⟩⟩
theorem ff_at (h : RP g n q s) {a b bm : Int} (ha : 0 ≤ a ∧ a ≤ n) (hb : hbR g a b bm) : ffR_ g n q s a b bm := by
  have e : n - (((n - a).toNat : Nat) : Int) = a := by omega
  have := ff_m h (n - a).toNat (by omega) b bm (by rw [e]; exact hb)
  rwa [e] at this
theorem hbR_0 : hbR g 0 3 2 := Or.inr ⟨rfl, rfl, fun j h0 h1 => absurd h1 (by omega)⟩
theorem RP.few (h : RP g n q s) : fcB g n q 1 = lsS s (-4) 0 2 := (ff_at h ⟨by omega, h.1.1⟩ hbR_0).1
theorem RP.play (h : RP g n q s) {pr : Int} (hp : pr = 0 ∨ pr = 1) : fcB g n q pr < 1000 ↔ lsS s (-4) 0 2 < 1000 := by
  have e := ff_at h ⟨by omega, h.1.1⟩ hbR_0
  have hn := h.1
  rcases hp with rfl | rfl
  · have f : fcB g n q 0 = FS g n q 0 0 3 := rfl
    rw [f]; rcases e.2 with z | z
    · rw [z.1]; exact ⟨fun _ => by omega, fun _ => by decide⟩
    · rw [z.1, z.2]
  · rw [h.few]
/-! chosen hands -/
theorem RP.choN (h : RP g n q s) {pr : Int} (hp : pr = 0 ∨ pr = 1) (hl : lsS s (-4) 0 2 < 1000) : ∀ k : Nat, (k : Int) ≤ n → hbR g k (chN n (owP g) (cnP g q 0 1) (cnP g q 0 0) pr k) (mcN s pr k) ∧ lsS s (-4) k (mcN s pr k) < 1000
  | 0, _ => ⟨hbR_0, hl⟩
  | k + 1, hk => by
    have ih := RP.choN h hp hl k (by omega)
    have ha : 0 ≤ (k : Int) ∧ (k : Int) < n := ⟨by omega, by omega⟩
    have o := owP_3 h ha
    have oz := (owP_n h ha).2.2
    have eL := lsS_s s (-4) (a := k) (mcN s pr k) (by rw [h.2.2.1]; omega)
    have eC : chN n (owP g) (cnP g q 0 1) (cnP g q 0 0) pr (k + 1) = if owP g k = 3 then chN n (owP g) (cnP g q 0 1) (cnP g q 0 0) pr k else if FV g n q pr k (chN n (owP g) (cnP g q 0 1) (cnP g q 0 0) pr k) 0 ≤ FV g n q pr k (chN n (owP g) (cnP g q 0 1) (cnP g q 0 0) pr k) 1 then 0 else 1 := rfl
    have eM : mcN s pr (k + 1) = if s (2 + k) = 0 then mcN s pr k else if (if pr = 0 then b2 (mcR s k (mcN s pr k) < 1000) else b2 (mcR s k (mcN s pr k) = lsS s (-4) k (mcN s pr k))) = 0 then 1 else 0 := rfl
    rw [show (((k + 1 : Nat)) : Int) = (k : Int) + 1 by omega, eC, eM]
    generalize hB : chN n (owP g) (cnP g q 0 1) (cnP g q 0 0) pr k = b at ih ⊢
    generalize hM : mcN s pr k = bm at ih eL ⊢
    by_cases z : g k = 0
    · rw [if_pos (o.mpr z), if_pos (oz.mpr z)]
      rw [if_pos (oz.mpr z)] at eL
      refine ⟨?_, by rw [← eL]; exact ih.2⟩
      rcases ih.1 with x | ⟨x, y, w⟩
      · exact Or.inl x
      · exact Or.inr ⟨x, y, fun j j0 j1 => (by omega : j < (k : Int) ∨ j = k).elim (w j j0) (fun e => by rw [e]; exact z)⟩
    · have i0 := ff_at h (a := (k : Int) + 1) (b := 0) (bm := 0) ⟨by omega, by omega⟩ (Or.inl ⟨rfl, Or.inl rfl⟩)
      have i1 := ff_at h (a := (k : Int) + 1) (b := 1) (bm := 1) ⟨by omega, by omega⟩ (Or.inl ⟨rfl, Or.inr rfl⟩)
      have v0 := FV_1 h ha z ih.1 (Or.inl rfl) i0
      have v1 := FV_1 h ha z ih.1 (Or.inr rfl) i1
      have w0 := FV_0 h ha z ih.1 (Or.inl rfl) i0
      have w1 := FV_0 h ha z ih.1 (Or.inr rfl) i1
      have hc := hbR_c ih.1 (Or.inl rfl : (0 : Int) = 0 ∨ (0 : Int) = 1)
      have l0 := lsS_in (s := s) (nx := -4) (a := (k : Int) + 1) (b := 0)
      have l1 := lsS_in (s := s) (nx := -4) (a := (k : Int) + 1) (b := 1)
      have c0 := ite_in (P := (0 : Int) = bm) (y := 1) (z := 0) (lo := 0) (hi := 1) ⟨by omega, by omega⟩ ⟨by omega, by omega⟩
      have c1 := ite_in (P := (1 : Int) = bm) (y := 1) (z := 0) (lo := 0) (hi := 1) ⟨by omega, by omega⟩ ⟨by omega, by omega⟩
      have eR : mcR s k bm = if mCn s k bm 0 then lsS s (-4) (k + 1) 0 + (if (0 : Int) = bm then 1 else 0) else 1000 := by
        have e0 : (if bm = 0 then (1 : Int) else 0) = (if (0 : Int) = bm then 1 else 0) := by
          by_cases y : bm = 0
          · rw [if_pos y, if_pos y.symm]
          · rw [if_neg y, if_neg (fun x => y x.symm)]
        unfold mcR; rw [e0]
      have hlt := ih.2
      rw [if_neg (fun x => z (oz.mp x)), lf2] at eL
      rw [if_neg (fun x => z (o.mp x)), if_neg (fun x => z (oz.mp x)), eR]
      have n1 : n ≤ 32 := h.1.2
      generalize (if (0 : Int) = bm then (1 : Int) else 0) = x0 at *
      generalize (if (1 : Int) = bm then (1 : Int) else 0) = x1 at *
      generalize hL0 : lsS s (-4) ((k : Int) + 1) 0 = L0 at *
      generalize hL1 : lsS s (-4) ((k : Int) + 1) 1 = L1 at *
      generalize lsS s (-4) (k : Int) bm = Lk at *
      have key : (FV g n q pr k b 0 ≤ FV g n q pr k b 1 ↔ ¬ (if pr = 0 then b2 ((if mCn s k bm 0 then L0 + x0 else 1000) < 1000) else b2 ((if mCn s k bm 0 then L0 + x0 else 1000) = Lk)) = 0) ∧ (FV g n q pr k b 0 ≤ FV g n q pr k b 1 → L0 < 1000) ∧ (¬ FV g n q pr k b 0 ≤ FV g n q pr k b 1 → L1 < 1000) := by
        have m0 : mCn s k bm 0 ∨ ¬ mCn s k bm 0 := Decidable.em _
        have m1 : mCn s k bm 1 ∨ ¬ mCn s k bm 1 := Decidable.em _
        rcases hp with rfl | rfl
        · rw [if_pos rfl, b2_n]
          rcases m0 with m0 | m0
          · rw [if_pos m0]
            rcases w0 with w0 | w0
            · rcases w1 with w1 | w1 <;> omega
            · have w := w0.2.resolve_left (fun y => y m0)
              rcases w1 with w1 | w1
              · omega
              · exfalso
                rw [if_neg (fun y : mCn s k bm 0 ∧ L0 + x0 < 1000 => absurd y.2 (by omega))] at eL
                rw [if_neg (fun y => w1.2.elim (fun t => t y.1) (fun t => absurd y.2 (by omega)))] at eL
                omega
          · rw [if_neg m0]
            have w : FV g n q 0 k b 0 = 1000 := w0.elim (fun y => absurd y.1 m0) (fun y => y.1)
            rcases w1 with w1 | w1
            · omega
            · exfalso
              rw [if_neg (fun y : mCn s k bm 0 ∧ L0 + x0 < 1000 => m0 y.1)] at eL
              rw [if_neg (fun y => w1.2.elim (fun t => t y.1) (fun t => absurd y.2 (by omega)))] at eL
              omega
        · rw [if_neg (by decide), b2_n, v0, v1]
          by_cases y0 : mCn s k bm 0 ∧ L0 + x0 < 1000
          · rw [if_pos y0] at eL ⊢; rw [if_pos y0.1]
            by_cases y1 : mCn s k bm 1 ∧ L1 + x1 < 1000
            · rw [if_pos y1]
              by_cases y : L1 + x1 < L0 + x0
              · rw [if_pos ⟨y1.1, y⟩] at eL; omega
              · rw [if_neg (fun t => y t.2)] at eL; omega
            · rw [if_neg y1]
              rw [if_neg (fun t => y1 ⟨t.1, by omega⟩)] at eL; omega
          · rw [if_neg y0] at eL ⊢
            have y1 : mCn s k bm 1 ∧ L1 + x1 < 1000 := Decidable.byContradiction (fun t => by rw [if_neg t] at eL; omega)
            rw [if_pos y1] at eL; rw [if_pos y1]
            rcases m0 with m0 | m0
            · rw [if_pos m0]
              have : ¬ L0 + x0 < 1000 := fun t => y0 ⟨m0, t⟩
              omega
            · rw [if_neg m0]; omega
      by_cases y : FV g n q pr k b 0 ≤ FV g n q pr k b 1
      · rw [if_pos y, if_neg (key.1.mp y)]
        exact ⟨Or.inl ⟨rfl, Or.inl rfl⟩, by rw [hL0]; exact key.2.1 y⟩
      · rw [if_neg y, if_pos (Decidable.byContradiction (fun t => y (key.1.mpr t)))]
        exact ⟨Or.inl ⟨rfl, Or.inr rfl⟩, by rw [hL1]; exact key.2.2 y⟩
theorem RP.cho (h : RP g n q s) {pr k : Int} (hp : pr = 0 ∨ pr = 1) (hl : lsS s (-4) 0 2 < 1000) (hk : 0 ≤ k ∧ k < n) (hs : ¬ g k = 0) : chP g n q pr k = mcB s pr (k + 1) ∧ (chP g n q pr k = 0 ∨ chP g n q pr k = 1) := by
  have e := RP.choN h hp hl (k + 1).toNat (by omega)
  have f : chP g n q pr k = chN n (owP g) (cnP g q 0 1) (cnP g q 0 0) pr (k + 1).toNat := rfl
  have m : mcB s pr (k + 1) = mcN s pr (k + 1).toNat := rfl
  rw [f, m]
  rcases e.1 with z | ⟨_, _, z⟩
  · exact ⟨z.1, by rw [z.1]; exact z.2⟩
  · exact absurd (z k hk.1 (by omega)) hs
end
