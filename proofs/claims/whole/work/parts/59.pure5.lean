/-! The most at once: both the same, by hand. -/
theorem cvd_c {F G : FF} {n : Nat} {due w : Int32} {a b : Nat} (e11 : G 11 = F 11) (e12 : G 12 = F 12) (e13 : G 13 = F 13) (e15 : G 15 = F 15) (e17 : G 17 = F 17) : cvd G (G 15) n due w a b = cvd F (F 15) n due w a b := by
  unfold cvd; rw [e11, e12, e13, e15, e17]
def bit01 (F : FF) (n p q : Nat) : Int32 := if cvd F (F 15) n (F 17 0) (-1) p q = 0 then 1 else 0
theorem slI_26 {n a0 : Nat} (F0 : FF) : ∀ (k b : Nat) (F : FF) (j : Nat), (∀ a, a ≠ 26 → a ≠ 27 → F a = F0 a) → slI n a0 k b F 26 j = if a0 * 10 + b ≤ j ∧ j < a0 * 10 + b + k then bit01 F0 n a0 (j - a0 * 10) else F 26 j
  | 0, b, F, j, _ => by rw [if_neg (by omega)]; rfl
  | k + 1, b, F, j, h => by
    rw [slI, slI_26 F0 k (b + 1) _ j (fun a h1 h2 => by rw [up2_row h1]; exact h a h1 h2)]
    rw [cvd_c (h 11 (by decide) (by decide)) (h 12 (by decide) (by decide)) (h 13 (by decide) (by decide)) (h 15 (by decide) (by decide)) (h 17 (by decide) (by decide)), h 17 (by decide) (by decide)]
    by_cases e : j = a0 * 10 + b
    · subst e
      rw [if_neg (show ¬ (a0 * 10 + (b + 1) ≤ a0 * 10 + b ∧ a0 * 10 + b < a0 * 10 + (b + 1) + k) by omega), if_pos (show a0 * 10 + b ≤ a0 * 10 + b ∧ a0 * 10 + b < a0 * 10 + b + (k + 1) by omega), up2_same, show a0 * 10 + b - a0 * 10 = b by omega]
      rfl
    · rw [show ∀ v, up2 F 26 (a0 * 10 + b) v 26 j = F 26 j from fun v => by simp [up2, e]]
      by_cases h2 : a0 * 10 + (b + 1) ≤ j ∧ j < a0 * 10 + (b + 1) + k
      · rw [if_pos h2, if_pos (show a0 * 10 + b ≤ j ∧ j < a0 * 10 + b + (k + 1) by omega)]
      · rw [if_neg h2, if_neg (show ¬ (a0 * 10 + b ≤ j ∧ j < a0 * 10 + b + (k + 1)) by omega)]
theorem slO_26 {n : Nat} (hn : n ≤ 10) (F0 : FF) {p q : Nat} (hpq : p < q) (hq : q < n) : ∀ (k a0 : Nat) (F : FF), a0 + k = n → (∀ a, a ≠ 26 → a ≠ 27 → F a = F0 a) → (p < a0 → F 26 (p * 10 + q) = bit01 F0 n p q) → slO n k a0 F 26 (p * 10 + q) = bit01 F0 n p q
  | 0, a0, F, ha, _, h1 => h1 (by omega)
  | k + 1, a0, F, ha, h, h1 => by
    rw [slO]
    have hr : ∀ a, a ≠ 26 → a ≠ 27 → up2 F 27 a0 (-1) a = F0 a := fun a z1 z2 => by rw [up2_row z2]; exact h a z1 z2
    refine slO_26 hn F0 hpq hq k (a0 + 1) _ (by omega) (fun a z1 z2 => by rw [slI_row z1]; exact hr a z1 z2) (fun hp => ?_)
    rw [slI_26 F0 _ _ _ _ hr]
    by_cases e : p = a0
    · subst e
      rw [if_pos (by omega), show p * 10 + q - p * 10 = q by omega]
    · rw [if_neg (by omega), up2_row (by decide)]
      exact h1 (by omega)
theorem slO_27 {n : Nat} : ∀ (k a0 : Nat) (F : FF) (j : Nat), (j < a0 → F 27 j = -1) → j < a0 + k → slO n k a0 F 27 j = -1
  | 0, a0, F, j, h, hj => h hj
  | k + 1, a0, F, j, h, hj => by
    rw [slO]
    refine slO_27 k (a0 + 1) _ j (fun hp => ?_) (by omega)
    rw [slI_row (by decide), up2_up1]; unfold up1
    by_cases e : j = a0
    · rw [if_pos e]
    · rw [if_neg e]; exact h (by omega)
theorem tb_full {n q : Nat} : tb (2 ^ n - 1) q ↔ q < n := by
  rw [tb_bit, Nat.testBit_two_pow_sub_one, decide_eq_true_eq]
theorem cnt_full {s : Nat} : ∀ m, (∀ q, q < m → tb s q) → cnt m s = m
  | 0, _ => rfl
  | m + 1, h => by rw [cnt, cnt_full m (fun q hq => h q (by omega)), if_pos (h m (by omega))]
theorem once_eq {n : Nat} (hn : n ≤ 10) {F G : FF} (h : PPr n F G) : solF F n 25 4 = loF G n 61 (2 ^ n - 1) / 1000000 ∧ solF F n 25 5 = loF G n 61 (2 ^ n - 1) - loF G n 61 (2 ^ n - 1) / 1000000 * 1000000 ∧ ∀ j, j < n → solF F n 28 j = loF G n 62 j := by
  have hp0 := p2_pos n
  let bd : Nat → Nat → Prop := fun p q => cvd F (F 15) n (F 17 0) (-1) p q = 0
  let g : Nat → Nat → Nat := fun p q => (gan (F 11) (F 13) p q).toNatClampNeg
  have hg : ∀ p q, p < q → q < n → bd p q → gan (F 11) (F 13) p q = nI (g p q) ∧ g p q ≤ 99 := fun p q h1 h2 hb => by
    obtain ⟨x, hx, e⟩ := gan_nat h.2.1 (show p < n by omega) h2 (cvd_trd hb)
    have e2 : g p q = x := by show (gan (F 11) (F 13) p q).toNatClampNeg = x; rw [e]; exact nI_clamp (by omega)
    rw [e2]; exact ⟨e, hx⟩
  have hbR : ∀ p q, p < q → q < n → (bnd (ly G n) n p q ↔ bd p q) := fun p q h1 h2 => by
    unfold bnd
    rw [vd_ly h (by omega) h2, ly_row (by decide), h.2.2 0 (by omega)]
  have hgR : ∀ p q, p < q → q < n → bd p q → gan (ly G n 52) (ly G n 54) p q = nI (g p q) := fun p q h1 h2 hb => by
    rw [← (hg p q h1 h2 hb).1]
    exact gan_gen (fun a ha => by rw [ly_row (by decide)]; exact (h.1 a ha).1) (fun a ha => by rw [ly_row (by decide)]; exact (h.1 a ha).2.2.1) (by omega) h2
  obtain ⟨v, hP, hV⟩ := goO_ok hn (ly G n) hbR hgR (2 ^ n - 1) 1 (fun _ => 0) (up2 (ly G n) 61 0 0) (by omega) (by omega) (fun a ha => up2_row ha) ⟨rfl, fun p q h1 h2 hb => (hg p q h1 h2 hb).2, fun s h1 h2 => by omega⟩ (fun q hq => by
    have : q = 0 := by omega
    subst this; rw [up2_same]; exact nI_0.symm)
  generalize hR : goO n (2 ^ n - 1) 1 (up2 (ly G n) 61 0 0) = R at hV
  have hRr : ∀ a, a ≠ 61 → R a = ly G n a := fun a ha => by rw [← hR, goO_row n _ _ _ a ha, up2_row ha]
  have hbR2 : ∀ p q, p < q → q < n → (bnd R n p q ↔ bd p q) := fun p q h1 h2 => by
    rw [← hbR p q h1 h2]; exact bnd_c (fun a z1 z2 => hRr a z1)
  have hgR2 : ∀ p q, p < q → q < n → bd p q → gan (R 52) (R 54) p q = nI (g p q) := fun p q h1 h2 hb => by
    rw [hRr 52 (by decide), hRr 54 (by decide)]; exact hgR p q h1 h2 hb
  have hWS := wW_ok hn hbR2 hgR2 hP hV
  have hlo : loF G n = woL n n 0 (2 ^ n - 1) R := by unfold loF; rw [hR]
  have hfull : 2 ^ n - 1 < 2 ^ n := by omega
  -- the class
  let F1 : FF := up2 (up2 (slO n n 0 F) 25 4 (-1)) 25 5 (-1)
  have hF1 : ∀ a, a ≠ 25 → F1 a = slO n n 0 F a := fun a ha => by show up2 (up2 (slO n n 0 F) 25 4 (-1)) 25 5 (-1) a = _; rw [up2_row ha, up2_row ha]
  have m27 : ∀ q, q < n → F1 27 q = -1 := fun q hq => by rw [hF1 27 (by decide)]; exact slO_27 n 0 F q (fun z => by omega) (by omega)
  have hOut := ch_ok hn (bd := bd) (g := g) (v := v) (w := wW R n) hP hWS F1 (fun p q h1 h2 => by
      rw [hF1 26 (by decide), slO_26 hn F h1 h2 n 0 F (by omega) (fun _ _ _ => rfl) (fun z => by omega)]
      unfold bit01
      by_cases c : cvd F (F 15) n (F 17 0) (-1) p q = 0
      · rw [if_pos c]; exact ⟨fun _ => c, fun _ => by decide⟩
      · rw [if_neg c]; exact ⟨fun z => absurd rfl z, fun z => absurd z c⟩)
    (fun p q h1 h2 hb => by
      rw [hF1 11 (by decide), hF1 13 (by decide), slO_row (by decide) (by decide), slO_row (by decide) (by decide)]
      exact (hg p q h1 h2 hb).1)
    n 0 0 0 n (2 ^ n - 1) F1 (-1) (by omega) (fun _ _ _ _ => rfl) ⟨hfull, fun q hq => ⟨fun _ => ⟨by omega, m27 q hq⟩, fun _ => tb_full.mpr hq⟩⟩ (cnt_full n (fun q hq => tb_full.mpr hq)).symm (by omega) (by omega)
    (Or.inl ⟨by show up2 (up2 (slO n n 0 F) 25 4 (-1)) 25 5 (-1) 25 4 = -1; simp [up2], by show up2 (up2 (slO n n 0 F) 25 4 (-1)) 25 5 (-1) 25 5 = -1; simp [up2], rfl⟩)
  have eS : chF n 0 (nI n) (nI 0) (nI 0) F1 = solF F n := rfl
  rw [eS] at hOut
  obtain ⟨-, o2, -⟩ := hOut
  obtain ⟨oB, oR⟩ := o2 (by omega)
  have hv5 := hP.le5 hn (Nat.le_refl _) hfull
  have e61 : loF G n 61 (2 ^ n - 1) = nI (v (2 ^ n - 1)) := by rw [hlo, woL_row _ _ _ _ _ 61 (by decide)]; exact hV _ hfull
  rw [e61, show (1000000 : Int32) = nI 1000000 from rfl, pk_rem (by omega) (by omega) (by omega), pk_div (by omega) (by omega) (by omega)]
  rcases oB with ⟨-, -, e⟩ | ⟨mp, mg, e1, e2, h1, h2, e3⟩
  · omega
  · rw [e1, e2]
    refine ⟨congrArg nI (by omega), congrArg nI (by omega), fun j hj => ?_⟩
    rw [oR j hj, hlo]
    refine (wo_gc hn (fun s p z1 z2 z3 => ?_) n 0 (2 ^ n - 1) R (F1 27) (by omega) hfull (fun _ _ => rfl) (fun j hj hc => ?_) (fun j hj _ _ => m27 j hj) j hj).symm
    · rcases hWS s p z1 z2 z3 with y | ⟨j, y1, y2, y3, y4, -⟩
      · exact Or.inl y.1
      · exact Or.inr ⟨j, y1, y2, y3, y4⟩
    · rcases hc with y | y
      · omega
      · exact absurd (tb_full.mpr hj) y
