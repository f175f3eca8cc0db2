/-! told, by each choice, the clash -/
section
variable {g : Int → Int} {n q : Int} {s : Int → Int}
theorem RP.tel (h : RP g n q s) {ov : Int} (hov : ov = 0 ∨ ov = 1) : (if sm (fun j => b2 (¬ g j = 0)) n = 0 then 1 else (if 1000000000 < tlP g n q ov then 1000000000 else tlP g n q ov)) = (if ov = 0 then cap9 (mnS s (-4) 0 2) else soV s) := by
  have hn := h.1
  have vz : ∀ k : Int, 0 ≤ k → k < n → (s (2 + k) = 0 ↔ g k = 0) := fun k a b => (owP_n h ⟨a, b⟩).2.2
  by_cases z : sm (fun j => b2 (¬ g j = 0)) n = 0
  · rw [if_pos z]
    have a0 := sm_no (P := fun j => ¬ g j = 0) n.toNat (by rw [Int.toNat_of_nonneg hn.1]; exact z)
    have a1 : ∀ j : Int, 0 ≤ j → j < n → g j = 0 := fun j x y => Decidable.byContradiction (a0 j x (by omega))
    have m : mnS s (-4) 0 2 = 1 := by
      have e : ∀ r : Nat, (r : Int) ≤ n → mnS s (-4) (n - r) 2 = 1 := fun r => by
        induction r with
        | zero => intro _; rw [show n - ((0 : Nat) : Int) = s 0 by rw [h.2.2.1]; omega, mnS_e, if_neg (fun z => z.1.1 rfl)]
        | succ r ih =>
          intro hr
          rw [mnS_s _ _ _ (by rw [h.2.2.1]; omega), if_pos ((vz _ (by omega) (by omega)).mpr (a1 _ (by omega) (by omega))), show n - (((r + 1 : Nat)) : Int) + 1 = n - (r : Int) by omega]
          exact ih (by omega)
      have := e n.toNat (by omega)
      rwa [show n - ((n.toNat : Nat) : Int) = 0 by omega] at this
    have c : cap9 (mnS s (-4) 0 2) = 1 := by rw [m]; rfl
    rcases hov with rfl | rfl
    · rw [if_pos rfl, c]
    · rw [if_neg (show ¬ (1 : Int) = 0 by decide)]; unfold soV
      have y : s 0 = 0 ∨ s (2 + 0) = 0 ∨ s (2 + (s 0 - 1)) = 0 := by
        by_cases x : s 0 = 0
        · exact Or.inl x
        · exact Or.inr (Or.inl ((vz 0 (by omega) (by have := h.2.2.1; omega)).mpr (a1 0 (by omega) (by have := h.2.2.1; omega))))
      rw [if_pos y, c]
  · rw [if_neg z]
    have ex : ∃ j : Int, 0 ≤ j ∧ j < n ∧ ¬ g j = 0 := Classical.byContradiction (fun x => z (by
      have := sm_z (P := fun j => ¬ g j = 0) n.toNat (fun j a b y => x ⟨j, a, by omega, y⟩)
      rwa [Int.toNat_of_nonneg hn.1] at this))
    show cap9 (tlP g n q ov) = _
    rcases hov with rfl | rfl
    · rw [if_pos rfl, tl_0 h]
    · rw [if_neg (by decide)]; unfold soV
      have n1 : 1 ≤ n := by obtain ⟨j, a, b, _⟩ := ex; omega
      have hp : pvO g n 1 = g (n - 1) := by
        unfold pvO; rw [if_neg (by decide)]; exact pAt_t ⟨by omega, by omega⟩
      by_cases y : s 0 = 0 ∨ s (2 + 0) = 0 ∨ s (2 + (s 0 - 1)) = 0
      · rw [if_pos y, tl_f h ?_ ex]
        rcases y with y | y | y
        · exact absurd y (by have := h.2.2.1; omega)
        · exact Or.inl ((vz 0 (by omega) (by omega)).mp y)
        · right; rw [hp]; rw [h.2.2.1] at y; exact (vz (n - 1) (by omega) (by omega)).mp y
      · rw [if_neg y, tl_1 hn.1]
        refine congrArg cap9 (tl_c h n1 (fun x => y (Or.inr (Or.inl ((vz 0 (by omega) (by omega)).mpr x)))) (fun x => y (Or.inr (Or.inr ?_))))
        rw [h.2.2.1]; exact (vz (n - 1) (by omega) (by omega)).mpr x
/-! by each -/
theorem te_sN (L : Int) (ow cA cU : Int → Int) : ∀ m : Nat, teN L ow cA cU m = sN (fun y => if fcV L cA cU (tkH L ow (fun _ => 0) (y : Int)) = -4 then 1 else 0) m
  | 0 => rfl
  | m + 1 => by
    have e : teN L ow cA cU (m + 1) = teN L ow cA cU m + (if fcV L cA cU (tkH L ow (fun _ => 0) (m : Int)) = -4 then 1 else 0) := rfl
    rw [e, te_sN L ow cA cU m]; rfl
theorem kn_sm (f : Int → Int) (ow : Int → Int) (hf : ∀ k : Int, 0 ≤ k → k < n → f k = if ow k = 2 then 1 else 0) : ∀ (r : Nat) (k : Int), 0 ≤ k → k + r ≤ n → ((kn ow r k : Nat) : Int) = sm f (k + r) - sm f k
  | 0, k, _, _ => by rw [show k + ((0 : Nat) : Int) = k by omega]; show (0 : Int) = _; omega
  | r + 1, k, h0, hr => by
    have ih := kn_sm f ow hf r (k + 1) (by omega) (by omega)
    have e : kn ow (r + 1) k = kn ow r (k + 1) + (if ow k = 2 then 1 else 0) := rfl
    have e2 := sm_s f h0
    rw [hf k h0 (by omega)] at e2
    rw [show k + (((r + 1 : Nat)) : Int) = k + 1 + r by omega, e]
    by_cases z : ow k = 2
    · rw [if_pos z] at e2 ⊢; omega
    · rw [if_neg z] at e2 ⊢; omega
abbrev OC (g : Int → Int) (n q pv : Int) (w : Int → Int) (r : Nat) (k b y : Int) : Int := oc n (owP g) (cnP g q pv 1) (cnP g q pv 0) w r k b y
abbrev HX (g : Int → Int) (n x : Int) : Int → Int := tkH n (owP g) (fun _ => 0) x
theorem HX_e {x k : Int} (hk : 0 ≤ k ∧ k < n) : HX g n x k = if owP g k = 2 then tkB (owP g) x k.toNat % 2 else owP g k := if_pos hk
theorem fc_oc (h : RP g n q s) {pv x : Int} : ∀ (r : Nat) (k b b2_ : Int), 0 ≤ k → k + r = n → (b2_ = b ∨ ((k = 0 → g 0 = 0 ∨ pv = 0) ∧ (¬ k = 0 → g (k - 1) = 0))) → (if fcN n (cnP g q pv 1) (cnP g q pv 0) (HX g n x) r k b2_ = -4 then 1 else 0) = OC g n q pv (fun _ => 1) r k b (tkB (owP g) x k.toNat)
  | 0, k, b, b2_, _, _, _ => rfl
  | r + 1, k, b, c, h0, hr, hb => by
    have hk : 0 ≤ k ∧ k < n := ⟨h0, by omega⟩
    have e1 : fcN n (cnP g q pv 1) (cnP g q pv 0) (HX g n x) (r + 1) k c = if plC n (cnP g q pv 1) (cnP g q pv 0) k (b2 (c = HX g n x k)) = 0 then fcN n (cnP g q pv 1) (cnP g q pv 0) (HX g n x) r (k + 1) (HX g n x k) else k := rfl
    have e2 : OC g n q pv (fun _ => 1) (r + 1) k b (tkB (owP g) x k.toNat) = if plC n (cnP g q pv 1) (cnP g q pv 0) k (b2 (b = (if owP g k = 2 then tkB (owP g) x k.toNat % 2 else owP g k))) = 0 then OC g n q pv (fun _ => 1) r (k + 1) (if owP g k = 3 then b else (if owP g k = 2 then tkB (owP g) x k.toNat % 2 else owP g k)) (if owP g k = 2 then tkB (owP g) x k.toNat / 2 else tkB (owP g) x k.toNat) else 0 := rfl
    have e3 : plC n (cnP g q pv 1) (cnP g q pv 0) k (b2 (c = HX g n x k)) = plC n (cnP g q pv 1) (cnP g q pv 0) k (b2 (b = HX g n x k)) := by
      rcases hb with rfl | hb
      · rfl
      · by_cases z : g k = 0
        · rw [plC_0 z, plC_0 z]
        · have p := fun al => plC_p (g := g) (n := n) (q := q) (pv := pv) (k := k) (al := al) h0 ⟨fun y => (hb.1 y).resolve_left (fun t => z (by rw [y]; exact t)), hb.2⟩
          rw [p, p]
    rw [e1, e2, ← tkB_s (owP g) x h0, ← HX_e hk, e3]
    by_cases z : plC n (cnP g q pv 1) (cnP g q pv 0) k (b2 (b = HX g n x k)) = 0
    · rw [if_pos z, if_pos z]
      refine fc_oc h r (k + 1) _ _ (by omega) (by omega) ?_
      by_cases y : owP g k = 3
      · exact Or.inr ⟨fun t => absurd t (by omega), fun _ => by rw [show k + 1 - 1 = k by omega]; exact (owP_3 h hk).mp y⟩
      · exact Or.inl (by rw [if_neg y])
    · rw [if_neg z, if_neg z, if_neg (by omega)]
theorem oc_d (h : RP g n q s) {pv x z : Int} (hs : ¬ g (n - 1) = 0) : ∀ (r : Nat) (k b : Int), 0 ≤ k → k + ((r : Int) + 1) = n → OC g n q pv (dlt z) (r + 1) k b (tkB (owP g) x k.toNat) = if HX g n x (n - 1) = z then OC g n q pv (fun _ => 1) (r + 1) k b (tkB (owP g) x k.toNat) else 0
  | r, k, b, h0, hr => by
    have hk : 0 ≤ k ∧ k < n := ⟨h0, by omega⟩
    have e2 : ∀ w, OC g n q pv w (r + 1) k b (tkB (owP g) x k.toNat) = if plC n (cnP g q pv 1) (cnP g q pv 0) k (b2 (b = (if owP g k = 2 then tkB (owP g) x k.toNat % 2 else owP g k))) = 0 then OC g n q pv w r (k + 1) (if owP g k = 3 then b else (if owP g k = 2 then tkB (owP g) x k.toNat % 2 else owP g k)) (if owP g k = 2 then tkB (owP g) x k.toNat / 2 else tkB (owP g) x k.toNat) else 0 := fun _ => rfl
    rw [e2, e2, ← tkB_s (owP g) x h0, ← HX_e hk]
    by_cases y : plC n (cnP g q pv 1) (cnP g q pv 0) k (b2 (b = HX g n x k)) = 0
    · rw [if_pos y, if_pos y]
      match r, hr with
      | 0, hr =>
        have ek : k = n - 1 := by omega
        have o : ¬ owP g k = 3 := fun t => hs (by rw [← ek]; exact (owP_3 h hk).mp t)
        rw [if_neg o, ← ek]; rfl
      | r + 1, hr => exact oc_d h hs r (k + 1) _ (by omega) (by omega)
    · rw [if_neg y, if_neg y]; split <;> rfl
theorem HX_01 (h : RP g n q s) {x k : Int} (hx : 0 ≤ x) (hk : 0 ≤ k ∧ k < n) (hs : ¬ g k = 0) : HX g n x k = 0 ∨ HX g n x k = 1 := by
  have o := owP_n h hk
  rw [HX_e hk]
  rcases ow_4 h k hk.1 hk.2 with z | z | z | z
  · rw [if_neg (by omega)]; exact Or.inl z
  · rw [if_neg (by omega)]; exact Or.inr z
  · rw [if_pos z]; omega
  · exact absurd (o.1.mp z) hs
theorem te_e (h : RP g n q s) {ov : Int} (hov : ov = 0 ∨ ov = 1) {K : Int} (hK : K = sm (fun j => b2 (¬ g j = 0 ∧ g j / 2 % 4 = 2)) n) : teP g n q ov (2 ^ K.toNat) = (if ov = 0 ∨ n = 0 ∨ g 0 = 0 ∨ g (n - 1) = 0 then mnS s (-4) 0 2 else (if mAl (s (2 + 0)) 0 then mnS s 0 1 0 else 0) + (if mAl (s (2 + 0)) 1 then mnS s 1 1 1 else 0)) := by
  have hn := h.1
  have k1 := kn_sm (n := n) (fun j => b2 (¬ g j = 0 ∧ g j / 2 % 4 = 2)) (owP g) (fun k a b => by
    (try dsimp only)
    by_cases z : owP g k = 2
    · rw [if_pos z]; refine b2_t ?_
      unfold owP at z; by_cases y : g k = 0
      · rw [if_pos y] at z; exact absurd z (by decide)
      · rw [if_neg y] at z; exact ⟨y, z⟩
    · rw [if_neg z]; refine b2_f (fun y => z ?_)
      unfold owP; rw [if_neg y.1]; exact y.2) n.toNat 0 (by omega) (by omega)
  rw [sm_0, show (0 : Int) + (n.toNat : Int) = n by omega, ← hK] at k1
  have kK : K.toNat = kn (owP g) n.toNat 0 := by omega
  have B0 : ∀ x, tkB (owP g) x (0 : Int).toNat = x := fun x => rfl
  unfold teP; rw [te_sN, kK]
  have eF : ∀ y : Nat, fcV n (cnP g q (pvO g n ov) 1) (cnP g q (pvO g n ov) 0) (tkH n (owP g) (fun _ => 0) (y : Int)) = fcN n (cnP g q (pvO g n ov) 1) (cnP g q (pvO g n ov) 0) (HX g n y) n.toNat 0 (haA n (HX g n y) (n - 1)) := fun _ => rfl
  by_cases z : ov = 0 ∨ n = 0 ∨ g 0 = 0 ∨ g (n - 1) = 0
  · rw [if_pos z]
    have hp : g 0 = 0 ∨ pvO g n ov = 0 := by
      unfold pvO
      rcases z with z | z | z | z
      · right; rw [if_pos z]
      · right; split
        · rfl
        · unfold pAt; exact if_neg (by omega)
      · exact Or.inl z
      · right; split
        · rfl
        · unfold pAt; split
          · exact z
          · rfl
    rw [mn_0 h hp (Or.inl rfl)]; unfold BW; rw [← oc_sum (fun _ => 1) (ow_3 h) (ow_4 h) n.toNat 0 0 (by omega) (by omega)]
    refine sN_cg _ (fun y _ => ?_)
    rw [eF]
    have := fc_oc h (pv := pvO g n ov) (x := (y : Int)) n.toNat 0 0 (haA n (HX g n y) (n - 1)) (by omega) (by omega) (Or.inr ⟨fun _ => hp, fun t => absurd rfl t⟩)
    rw [this, B0]
  · rw [if_neg z]
    have z1 : ov = 1 := hov.resolve_left (fun t => z (Or.inl t))
    subst z1
    have n1 : 1 ≤ n := by have : ¬ n = 0 := fun t => z (Or.inr (Or.inl t)); omega
    have g0 : ¬ g 0 = 0 := fun t => z (Or.inr (Or.inr (Or.inl t)))
    have g1 : ¬ g (n - 1) = 0 := fun t => z (Or.inr (Or.inr (Or.inr t)))
    rw [← tl_c h n1 g0 g1]
    unfold BW
    rw [← oc_sum (dlt 0) (ow_3 h) (ow_4 h) n.toNat 0 0 (by omega) (by omega), ← oc_sum (dlt 1) (ow_3 h) (ow_4 h) n.toNat 0 1 (by omega) (by omega), ← sN_add]
    refine sN_cg _ (fun y _ => ?_)
    rw [eF]
    have eh : haA n (HX g n y) (n - 1) = HX g n y (n - 1) := if_pos ⟨by omega, by omega⟩
    rw [eh]
    have d : ∀ zz, OC g n q (pvO g n 1) (dlt zz) n.toNat 0 zz (y : Int) = if HX g n y (n - 1) = zz then OC g n q (pvO g n 1) (fun _ => 1) n.toNat 0 zz (y : Int) else 0 := fun zz => by
      have := oc_d h (pv := pvO g n 1) (x := (y : Int)) (z := zz) g1 (n - 1).toNat 0 zz (by omega) (by omega)
      rw [B0, show (n - 1).toNat + 1 = n.toNat by omega] at this; exact this
    have f := fun zz => fc_oc h (pv := pvO g n 1) (x := (y : Int)) n.toNat 0 zz zz (by omega) (by omega) (Or.inl rfl)
    have d0 := d 0
    have d1 := d 1
    unfold OC at d0 d1
    rw [d0, d1]
    rcases HX_01 h (x := (y : Int)) (k := n - 1) (by omega) ⟨by omega, by omega⟩ g1 with w | w
    · rw [w, if_pos (show (0 : Int) = 0 from rfl), if_neg (show ¬ (0 : Int) = 1 by decide), Int.add_zero]; have := f 0; rw [B0] at this; exact this
    · rw [w, if_neg (show ¬ (1 : Int) = 0 by decide), if_pos (show (1 : Int) = 1 from rfl), Int.zero_add]; have := f 1; rw [B0] at this; exact this
theorem te_le (L : Int) (ow cA cU : Int → Int) : ∀ m : Nat, 0 ≤ teN L ow cA cU m ∧ teN L ow cA cU m ≤ m
  | 0 => ⟨Int.le_refl _, Int.le_refl _⟩
  | m + 1 => by
    have ih := te_le L ow cA cU m
    have e : teN L ow cA cU (m + 1) = teN L ow cA cU m + (if fcV L cA cU (tkH L ow (fun _ => 0) (m : Int)) = -4 then 1 else 0) := rfl
    rw [e]; split <;> omega
theorem RP.each (h : RP g n q s) {ov : Int} (hov : ov = 0 ∨ ov = 1) {K : Int} (hK : K = sm (fun j => b2 (¬ g j = 0 ∧ g j / 2 % 4 = 2)) n) (h8 : K ≤ 8) : teP g n q ov (2 ^ K.toNat) = (if ov = 0 then cap9 (mnS s (-4) 0 2) else soV s) := by
  have hn := h.1
  have b := te_le n (owP g) (cnP g q (pvO g n ov) 1) (cnP g q (pvO g n ov) 0) (2 ^ K.toNat)
  have p : (2 : Nat) ^ K.toNat ≤ 2 ^ 8 := Nat.pow_le_pow_right (by decide) (by omega)
  have b2 : 0 ≤ teP g n q ov (2 ^ K.toNat) ∧ teP g n q ov (2 ^ K.toNat) ≤ 256 := by
    unfold teP; omega
  have e := te_e h hov hK
  have c : teP g n q ov (2 ^ K.toNat) = cap9 (teP g n q ov (2 ^ K.toNat)) := by
    unfold cap9; rw [if_neg (by omega)]
  rw [c, e]
  have vz : ∀ k : Int, 0 ≤ k → k < n → (s (2 + k) = 0 ↔ g k = 0) := fun k a b => (owP_n h ⟨a, b⟩).2.2
  rcases hov with rfl | rfl
  · rw [if_pos (Or.inl rfl), if_pos rfl]
  · rw [if_neg (show ¬ (1 : Int) = 0 by decide)]; unfold soV
    have i : (s 0 = 0 ∨ s (2 + 0) = 0 ∨ s (2 + (s 0 - 1)) = 0) ↔ ((1 : Int) = 0 ∨ n = 0 ∨ g 0 = 0 ∨ g (n - 1) = 0) := by
      rw [h.2.2.1]
      by_cases z : n = 0
      · exact ⟨fun _ => Or.inr (Or.inl z), fun _ => Or.inl z⟩
      · rw [vz 0 (by omega) (by omega), vz (n - 1) (by omega) (by omega)]
        exact ⟨Or.inr, fun x => x.elim (fun y => absurd y (by decide)) id⟩
    by_cases z : s 0 = 0 ∨ s (2 + 0) = 0 ∨ s (2 + (s 0 - 1)) = 0
    · rw [if_pos z, if_pos (i.mp z)]
    · rw [if_neg z, if_neg (fun x => z (i.mpr x))]
end
