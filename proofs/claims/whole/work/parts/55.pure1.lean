/-! Pure equalities, by hand: nearness, binding, sums, searches. -/
theorem ite_iff {p q : Prop} [Decidable p] [Decidable q] {α : Type} {x y : α} (h : p ↔ q) : (if p then x else y) = (if q then x else y) := by
  by_cases hp : p
  · rw [if_pos hp, if_pos (h.mp hp)]
  · rw [if_neg hp, if_neg (fun z => hp (h.mpr z))]
theorem mayS_c {X Y : Nat → Int32} {p : Nat} {t near : Int32} {n : Nat} (h : ∀ j, j < n → X j = Y j) : ∀ (k i : Nat), i + k ≤ n → mayS X p t near k i = mayS Y p t near k i
  | 0, _, _ => rfl
  | k + 1, i, hi => by
    simp only [mayS]; rw [h i (by omega), mayS_c h k (i + 1) (by omega)]
theorem fnr_c {X Y : Nat → Int32} {a b : Nat} {w clr : Int32} {n : Nat} (h : ∀ j, j < n → X j = Y j) (ha : a < n) (hb : b < n) : ∀ (k i : Nat), i + k ≤ n → fnr X a b w clr k i = fnr Y a b w clr k i
  | 0, _, _ => rfl
  | k + 1, i, hi => by
    rw [fnr, fnr, fnr_c h ha hb k (i + 1) (by omega)]
    refine ite_iff ?_
    unfold nrC; rw [h i (by omega), h a ha, h b hb]
theorem fnr_sym {X : Nat → Int32} {a b : Nat} {w clr : Int32} : ∀ (k i : Nat), fnr X a b w clr k i = fnr X b a w clr k i
  | 0, _ => rfl
  | k + 1, i => by
    rw [fnr, fnr, fnr_sym k (i + 1)]
    refine ite_iff ?_
    unfold nrC
    constructor
    · rintro ⟨h1, h2, h3, h4⟩; exact ⟨h2, h1, h3, h4.symm⟩
    · rintro ⟨h1, h2, h3, h4⟩; exact ⟨h2, h1, h3, h4.symm⟩
abbrev PrOK (P : Nat → Int32) (n : Nat) : Prop := ∀ p, p < n → ∃ x : Nat, x < 100 ∧ P p = nI x
theorem sub_nn {x y : Nat} (hx : x < 1000) (hy : y < 1000) : (0 ≤ nI x - nI y) ↔ nI y ≤ nI x := by
  rw [Int32.le_iff_toInt_le, pk_sub_toInt (by omega) (by omega), nI_leI (by omega) (by omega), show (0 : Int32).toInt = 0 from rfl]
  omega
theorem mtr_trd {K T P : Nat → Int32} {n a b : Nat} (hP : PrOK P n) (ha : a < n) (hb : b < n) : mtr K T P a b ↔ trd K T P a b := by
  obtain ⟨x, hx, ex⟩ := hP a ha
  obtain ⟨y, hy, ey⟩ := hP b hb
  unfold mtr trd sls gan
  rw [ex, ey]
  by_cases h1 : K a = 1
  · rw [if_pos h1, sub_nn (by omega) (by omega)]
    constructor
    · rintro ⟨h | h, ht, hg⟩
      · rw [h1] at h; exact absurd h.1 (by decide)
      · exact Or.inr ⟨h.2, h.1, ht.symm, hg⟩
    · rintro (h | h)
      · rw [h1] at h; exact absurd h.1 (by decide)
      · exact ⟨Or.inr ⟨h.2.1, h.1⟩, h.2.2.1.symm, h.2.2.2⟩
  · rw [if_neg h1, sub_nn (by omega) (by omega)]
    constructor
    · rintro ⟨h | h, ht, hg⟩
      · exact Or.inl ⟨h.1, h.2, ht, hg⟩
      · exact absurd h.1 h1
    · rintro (h | h)
      · exact ⟨Or.inl ⟨h.1, h.2.1⟩, h.2.2.1, h.2.2.2⟩
      · exact absurd h.2.1 h1
theorem trd_sym {K T P : Nat → Int32} {a b : Nat} : trd K T P a b ↔ trd K T P b a := Or.comm
theorem vdB_sym {K T P X : Nat → Int32} {clr due w : Int32} {n a b : Nat} : vdB K T P X clr due w n a b = vdB K T P X clr due w n b a := by
  unfold vdB
  rw [awy_comm (X a) (X b), fnr_sym n 0, ite_iff (trd_sym (K := K) (T := T) (P := P) (a := a) (b := b))]
theorem cvd_sym {F : FF} {X : Nat → Int32} {n : Nat} {due w : Int32} {a b : Nat} : cvd F X n due w a b = cvd F X n due w b a := vdB_sym
theorem gan_sym {K T P : Nat → Int32} {a b : Nat} (h : trd K T P a b) : gan K P a b = gan K P b a := by
  unfold gan
  rcases h with ⟨h1, h2, -, -⟩ | ⟨h1, h2, -, -⟩
  · rw [if_neg (by rw [h1]; decide), if_pos h2]
  · rw [if_pos h2, if_neg (by rw [h1]; decide)]
theorem cvd_trd {F : FF} {X : Nat → Int32} {n : Nat} {due w : Int32} {a b : Nat} (h : cvd F X n due w a b = 0) : trd (F 11) (F 12) (F 13) a b := by
  unfold cvd vdB at h
  split at h
  · exact absurd h (by decide)
  · split at h
    · exact absurd h (by decide)
    · split at h
      · assumption
      · exact absurd h (by decide)
theorem vd_gen {F G : FF} {X : Nat → Int32} {n : Nat} {due w : Int32} {a b : Nat} (h52 : ∀ p, p < n → G 52 p = F 11 p) (h53 : ∀ p, p < n → G 53 p = F 12 p) (h54 : ∀ p, p < n → G 54 p = F 13 p) (h57 : ∀ p, p < n → G 57 p = X p) (h1 : G 51 1 = F 17 1) (hP : PrOK (F 13) n) (ha : a < n) (hb : b < n) : mvd G n due w a b = cvd F X n due w a b := by
  unfold mvd mvB cvd vdB
  rw [h57 a ha, h57 b hb, h1, fnr_c h57 ha hb n 0 (by omega)]
  have e : mtr (G 52) (G 53) (G 54) a b ↔ trd (F 11) (F 12) (F 13) a b := by
    rw [← mtr_trd hP ha hb]
    unfold mtr gan
    rw [h52 a ha, h52 b hb, h53 a ha, h53 b hb, h54 a ha, h54 b hb]
  rw [ite_iff e]
theorem gan_gen {F G : FF} {n a b : Nat} (h52 : ∀ p, p < n → G 52 p = F 11 p) (h54 : ∀ p, p < n → G 54 p = F 13 p) (ha : a < n) (hb : b < n) : gan (G 52) (G 54) a b = gan (F 11) (F 13) a b := by
  unfold gan; rw [h52 a ha, h54 a ha, h54 b hb]
/-! sums -/
theorem sumI_acc {g : Nat → Int32} : ∀ (k b : Nat) (acc : Int32), sumI g k b acc = acc + sumI g k b 0
  | 0, _, acc => by simp [sumI]
  | k + 1, b, acc => by
    rw [sumI, sumI, sumI_acc k (b + 1) (acc + g b), sumI_acc k (b + 1) (0 + g b)]
    grind
theorem sumI_snoc {g : Nat → Int32} : ∀ (k b : Nat) (acc : Int32), sumI g (k + 1) b acc = sumI g k b acc + g (b + k)
  | 0, b, acc => by simp [sumI]
  | k + 1, b, acc => by
    rw [sumI, sumI_snoc k (b + 1), show b + 1 + k = b + (k + 1) by omega, sumI]
theorem sumI_c {g g' : Nat → Int32} : ∀ (k b : Nat) (acc : Int32), (∀ j, b ≤ j → j < b + k → g j = g' j) → sumI g k b acc = sumI g' k b acc
  | 0, _, _, _ => rfl
  | k + 1, b, acc, h => by rw [sumI, sumI, h b (by omega) (by omega), sumI_c k (b + 1) _ (fun j h1 h2 => h j (by omega) (by omega))]
theorem sumO_acc {g : Nat → Nat → Int32} {n : Nat} : ∀ (k a : Nat) (acc : Int32), sumO g n k a acc = acc + sumO g n k a 0
  | 0, _, acc => by simp [sumO]
  | k + 1, a, acc => by
    rw [sumO, sumO, sumO_acc k (a + 1) (sumI (g a) (n - (a + 1)) (a + 1) acc), sumO_acc k (a + 1) (sumI (g a) (n - (a + 1)) (a + 1) 0), sumI_acc _ _ acc]
    grind
theorem sumO_snoc {g : Nat → Nat → Int32} {n : Nat} : ∀ (k a : Nat) (acc : Int32), a + k = n → sumO g (n + 1) (k + 1) a acc = sumO g n k a acc + sumI (fun q => g q n) k a 0
  | 0, a, acc, h => by
    have e : n + 1 - (a + 1) = 0 := by omega
    simp [sumO, sumI, e]
  | k + 1, a, acc, h => by
    rw [sumO, show n + 1 - (a + 1) = (n - (a + 1)) + 1 by omega, sumI_snoc, show a + 1 + (n - (a + 1)) = n by omega, sumO_snoc k (a + 1) _ (by omega), sumO_acc k (a + 1) (sumI (g a) (n - (a + 1)) (a + 1) acc + g a n)]
    rw [show sumO g n (k + 1) a acc = sumO g n k (a + 1) (sumI (g a) (n - (a + 1)) (a + 1) acc) from rfl, sumO_acc k (a + 1) (sumI (g a) (n - (a + 1)) (a + 1) acc)]
    rw [show sumI (fun q => g q n) (k + 1) a 0 = sumI (fun q => g q n) k (a + 1) (0 + g a n) from rfl, sumI_acc k (a + 1) (0 + g a n)]
    grind
theorem sumB_snoc {g : Nat → Nat → Int32} : ∀ (k a : Nat) (acc : Int32), sumB g (k + 1) a acc = sumI (g (a + k)) (a + k) 0 (sumB g k a acc)
  | 0, a, acc => rfl
  | k + 1, a, acc => by
    rw [sumB, sumB_snoc k (a + 1), show a + 1 + k = a + (k + 1) by omega, sumB]
theorem sum_eq {g g' : Nat → Nat → Int32} {N : Nat} (h : ∀ a b, b < a → a < N → g a b = g' b a) : ∀ n, n ≤ N → sumB g n 0 0 = sumO g' n n 0 0
  | 0, _ => rfl
  | n + 1, hn => by
    rw [sumB_snoc, Nat.zero_add, sumI_acc, sum_eq h n (by omega), sumO_snoc n 0 0 (by omega)]
    rw [sumI_c n 0 0 (fun j h1 h2 => h n j (by omega) (by omega))]
/-! counts are small -/
theorem sumI_nn {g : Nat → Int32} : ∀ (k b c : Nat), (∀ j, b ≤ j → j < b + k → g j = 0 ∨ g j = 1) → ∃ d, c ≤ d ∧ d ≤ c + k ∧ sumI g k b (nI c) = nI d
  | 0, _, c, _ => ⟨c, by omega, by omega, rfl⟩
  | k + 1, b, c, h => by
    rw [sumI]
    rcases h b (by omega) (by omega) with e | e
    · rw [e, Int32.add_zero]
      obtain ⟨d, h1, h2, h3⟩ := sumI_nn k (b + 1) c (fun j q1 q2 => h j (by omega) (by omega))
      exact ⟨d, h1, by omega, h3⟩
    · rw [e, nI_1]
      obtain ⟨d, h1, h2, h3⟩ := sumI_nn k (b + 1) (c + 1) (fun j q1 q2 => h j (by omega) (by omega))
      exact ⟨d, by omega, by omega, h3⟩
theorem sumO_nn {g : Nat → Nat → Int32} {n : Nat} (hg : ∀ a b, g a b = 0 ∨ g a b = 1) : ∀ (k a c : Nat), ∃ d, c ≤ d ∧ d ≤ c + k * n ∧ sumO g n k a (nI c) = nI d
  | 0, _, c => ⟨c, by omega, by omega, rfl⟩
  | k + 1, a, c => by
    rw [sumO]
    obtain ⟨d, h1, h2, h3⟩ := sumI_nn (g := g a) (n - (a + 1)) (a + 1) c (fun j _ _ => hg a j)
    rw [h3]
    obtain ⟨e, h4, h5, h6⟩ := sumO_nn hg k (a + 1) d
    refine ⟨e, by omega, ?_, h6⟩
    have : (k + 1) * n = k * n + n := Nat.succ_mul k n
    omega
theorem m1_lt {d : Nat} (h : d < 2 ^ 31) : (-1 : Int32) < nI d := by
  rw [Int32.lt_iff_toInt_lt, nI_toInt h, show (-1 : Int32).toInt = -1 from rfl]; omega
/-! the two searches -/
theorem brL_bdL {g : Nat → Int32} : ∀ (k w b : Nat), brL g k w (nI b) (g b) = (nI (bdL g k w b (g b)), g (bdL g k w b (g b)))
  | 0, _, _ => rfl
  | k + 1, w, b => by
    rw [brL, bdL]
    by_cases h : g b < g w
    · rw [if_pos h, if_pos h]; exact brL_bdL k (w + 1) w
    · rw [if_neg h, if_neg h]; exact brL_bdL k (w + 1) b
theorem brL_from {g : Nat → Int32} {f k : Nat} {b0 : Int32} (h : (-1 : Int32) < g f) : brL g (k + 1) f b0 (-1) = (nI (bdL g k (f + 1) f (g f)), g (bdL g k (f + 1) f (g f))) := by
  rw [brL, if_pos h]; exact brL_bdL k (f + 1) f
theorem bdL_from0 {g : Nat → Int32} {k : Nat} (h : ¬ g 0 < 0) : bdL g (k + 1) 0 0 0 = bdL g k 1 0 (g 0) := by
  rw [bdL]
  by_cases h1 : 0 < g 0
  · rw [if_pos h1]
  · rw [if_neg h1]
    have e : g 0 = 0 := Int32.le_antisymm (Int32.not_lt.mp h1) (Int32.not_lt.mp h)
    rw [e]
theorem bdL_c {g g' : Nat → Int32} : ∀ (k w b : Nat) (m : Int32), (∀ j, w ≤ j → j < w + k → g j = g' j) → bdL g k w b m = bdL g' k w b m
  | 0, _, _, _, _ => rfl
  | k + 1, w, b, m, h => by
    rw [bdL, bdL, h w (by omega) (by omega), bdL_c k (w + 1) w _ (fun j q1 q2 => h j (by omega) (by omega)), bdL_c k (w + 1) b _ (fun j q1 q2 => h j (by omega) (by omega))]
theorem brL_c {g g' : Nat → Int32} : ∀ (k w : Nat) (b m : Int32), (∀ j, w ≤ j → j < w + k → g j = g' j) → brL g k w b m = brL g' k w b m
  | 0, _, _, _, _ => rfl
  | k + 1, w, b, m, h => by
    rw [brL, brL, h w (by omega) (by omega), brL_c k (w + 1) _ _ (fun j q1 q2 => h j (by omega) (by omega)), brL_c k (w + 1) b m (fun j q1 q2 => h j (by omega) (by omega))]
/-! both -/
theorem mb_none {F : FF} {X : Nat → Int32} {ds : Int32} {a b : Nat} (hx : ∀ w, (awy (nI w) (F 65 a) = F 51 0 * F 51 0 ∧ awy (nI w) (F 65 b) = F 51 0 * F 51 0) ↔ isCm X a b ds w) : ∀ (k w c : Nat), c + k ≤ 5000 → mbL F a b (-1) k w (nI c) = sumI (gCS X a b ds) k w (nI c)
  | 0, _, _, _ => by rw [mbL, if_pos rfl, sumI]
  | k + 1, w, c, hc => by
    rw [mbL, sumI, gCS]
    by_cases h : isCm X a b ds w
    · rw [if_pos ((hx w).mpr h), if_pos h, if_neg (nI_m1 (by omega)), nI_1]; exact mb_none hx k (w + 1) (c + 1) (by omega)
    · rw [if_neg (fun z => h ((hx w).mp z)), if_neg h, Int32.add_zero]; exact mb_none hx k (w + 1) c (by omega)
theorem mb_some {F : FF} {X : Nat → Int32} {ds : Int32} {a b : Nat} {iv : Int32} (hiv : ¬ iv = -1) (hx : ∀ w, (awy (nI w) (F 65 a) = F 51 0 * F 51 0 ∧ awy (nI w) (F 65 b) = F 51 0 * F 51 0) ↔ isCm X a b ds w) : ∀ (k w : Nat) (c : Int32), mbL F a b iv k w c = csL X a b ds k w (iv - c)
  | 0, _, _ => by rw [mbL, if_neg hiv, csL]
  | k + 1, w, c => by
    rw [mbL, csL]
    by_cases h : isCm X a b ds w
    · rw [if_pos ((hx w).mpr h), if_pos h]
      by_cases e : c = iv
      · rw [if_pos e, if_pos (by rw [e]; grind)]
      · rw [if_neg e, if_neg (fun z => e (by grind)), mb_some hiv hx k (w + 1) (c + 1), show iv - (c + 1) = iv - c + -1 by grind]
    · rw [if_neg (fun z => h ((hx w).mp z)), if_neg h]; exact mb_some hiv hx k (w + 1) c
