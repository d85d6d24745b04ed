/-! The reference: how far. Printed by wip/whole/gen/spec22.py. -/
def cn (r : Nat → Int32) : Nat → Nat
  | 0 => 0
  | k + 1 => cn r k + (if r k = -1 then 0 else 1)
theorem cn_le (r : Nat → Int32) : ∀ k, cn r k ≤ k
  | 0 => Nat.le_refl _
  | k + 1 => by have := cn_le r k; simp only [cn]; split <;> omega
theorem cn_lt {r : Nat → Int32} {j : Nat} (hj : r j = -1) : ∀ k, j < k → cn r k < k
  | 0, h => absurd h (by omega)
  | k + 1, h => by
    simp only [cn]
    by_cases e : j = k
    · subst e; rw [if_pos hj]; have := cn_le r j; omega
    · have := cn_lt hj k (by omega); split <;> omega
theorem cn_same {r r' : Nat → Int32} : ∀ k, (∀ j, j < k → r' j = r j) → cn r' k = cn r k
  | 0, _ => rfl
  | k + 1, h => by simp only [cn]; rw [cn_same k (fun j hj => h j (by omega)), h k (by omega)]
theorem cn_up {F : FF} {j : Nat} (hj : F 63 j = -1) {v : Int32} (hv : ¬ v = -1) : ∀ k, j < k → cn (up2 F 63 j v 63) k = cn (F 63) k + 1
  | 0, h => absurd h (by omega)
  | k + 1, h => by
    simp only [cn]
    by_cases e : j = k
    · subst e
      rw [cn_same j (fun i hi => show up2 F 63 j v 63 i = F 63 i by simp [up2, show i ≠ j by omega]), up2_same, if_neg hv, if_pos hj]
    · rw [cn_up hj hv k (by omega), show up2 F 63 j v 63 k = F 63 k by simp [up2, show k ≠ j by omega]]; omega
def QOK (F : FF) (t : Nat) : Prop := t ≤ cn (F 63) 1024 ∧ ∀ h, h < t → ∃ w x, w < 1024 ∧ x ≤ h ∧ F 64 h = nI w ∧ F 63 w = nI x
abbrev free (F : FF) (n a w : Nat) : Prop := mayS (F 57) a (nI w) (F 51 2 * F 51 2) n 0 = true
abbrev fG (F : FF) (a w : Nat) : FF := up2 (up2 F 63 w (-1)) 57 a (nI w)
def fr1 (n a b bg : Nat) : Nat → Nat → Nat → FF → Nat × FF
  | 0, _, t, F => (t, F)
  | k + 1, w, t, F =>
    if (w = bg ∨ free (fG F a w) n a w) ∧ bnd (fG F a w) n a b then
      (if free (fG F a w) n a w then fr1 n a b bg k (w + 1) (t + 1) (up2 (up2 (fG F a w) 63 w 0) 64 t (nI w)) else fr1 n a b bg k (w + 1) t (up2 (fG F a w) 63 w 0))
    else fr1 n a b bg k (w + 1) t (fG F a w)
def frN (n a hd_ : Nat) : Nat → Nat → Nat → FF → Nat × FF
  | 0, _, t, F => (t, F)
  | k + 1, d, t, F =>
    if ¬ nbr (F 64 hd_) d = -1 ∧ F 63 (nbr (F 64 hd_) d).toNatClampNeg = -1 then
      (if free F n a (nbr (F 64 hd_) d).toNatClampNeg then frN n a hd_ k (d + 1) (t + 1) (up2 (up2 F 63 (nbr (F 64 hd_) d).toNatClampNeg (F 63 (F 64 hd_).toNatClampNeg + 1)) 64 t (nI (nbr (F 64 hd_) d).toNatClampNeg))
       else frN n a hd_ k (d + 1) t (up2 F 63 (nbr (F 64 hd_) d).toNatClampNeg (F 63 (F 64 hd_).toNatClampNeg + 1)))
    else frN n a hd_ k (d + 1) t F
def frO (n a : Nat) : Nat → Nat → Nat → FF → FF
  | 0, _, _, F => F
  | k + 1, h, t, F => if h < t then frO n a k (h + 1) (frN n a h 8 0 t F).1 (frN n a h 8 0 t F).2 else F
def lfF (F : FF) (n a b bg : Nat) : FF := up2 (frO n a 1025 0 (fr1 n a b bg 1024 0 0 (ly F n)).1 (fr1 n a b bg 1024 0 0 (ly F n)).2) 57 a (nI bg)
theorem QOK.set {F : FF} {t v : Nat} (h : QOK F t) (hv : v < 1024) (e : F 63 v = -1) {x : Nat} (hx : x < 2000) : QOK (up2 F 63 v (nI x)) t ∧ t + 1 ≤ cn (up2 F 63 v (nI x) 63) 1024 := by
  have hc := cn_up e (nI_m1 (v := x) (by omega)) 1024 hv
  have ht : t ≤ 1024 := Nat.le_trans h.1 (cn_le _ _)
  refine ⟨⟨by rw [hc]; exact Nat.le_succ_of_le h.1, fun i hi => ?_⟩, by rw [hc]; exact Nat.succ_le_succ h.1⟩
  clear hc
  obtain ⟨w, y, h1, h2, h3, h4⟩ := h.2 i hi
  refine ⟨w, y, h1, h2, h3, ?_⟩
  have hne : w ≠ v := fun z => by subst z; rw [e] at h4; exact nI_m1 (by omega) h4.symm
  simp [up2, hne, h4]
theorem QOK.push {F : FF} {t v : Nat} (h : QOK F t) (hv : v < 1024) (ht : t + 1 ≤ cn (F 63) 1024) {x : Nat} (hx : x ≤ t) (e : F 63 v = nI x) : QOK (up2 F 64 t (nI v)) (t + 1) := by
  refine ⟨ht, fun i hi => ?_⟩
  clear ht
  by_cases e2 : i = t
  · subst e2; exact ⟨v, x, hv, hx, up2_same _ _ _ _, e⟩
  · obtain ⟨w, y, h1, h2, h3, h4⟩ := h.2 i (by omega)
    exact ⟨w, y, h1, h2, by simp [up2, e2, h3], h4⟩
theorem QOK.lt {F : FF} {t v : Nat} (h : QOK F t) (hv : v < 1024) (e : F 63 v = -1) : t < 1024 := Nat.lt_of_le_of_lt h.1 (cn_lt e 1024 hv)
/-- the first loop's -/
def Q1 (F : FF) (w t : Nat) : Prop := t ≤ cn (F 63) w ∧ ∀ h, h < t → ∃ x, x < w ∧ F 64 h = nI x ∧ F 63 x = 0
theorem Q1.fin {F : FF} {t : Nat} (h : Q1 F 1024 t) : QOK F t := ⟨h.1, fun i hi => by
  obtain ⟨x, h1, h2, h3⟩ := h.2 i hi; exact ⟨x, 0, h1, Nat.zero_le _, h2, h3⟩⟩
theorem Q1.le {F : FF} {w t : Nat} (h : Q1 F w t) : t ≤ w := Nat.le_trans h.1 (cn_le _ _)
theorem Q1.step {F G : FF} {w t : Nat} (h : Q1 F w t) (e64 : ∀ i, i < t → G 64 i = F 64 i) (e63 : ∀ i, i < w → G 63 i = F 63 i) : Q1 G (w + 1) t := by
  refine ⟨?_, fun i hi => ?_⟩
  · have := h.1; simp only [cn]; rw [cn_same w e63]; omega
  · obtain ⟨x, h1, h2, h3⟩ := h.2 i hi
    exact ⟨x, by omega, by rw [e64 i hi]; exact h2, by rw [e63 x h1]; exact h3⟩
theorem Q1.step1 {F G : FF} {w t : Nat} (h : Q1 F w t) (e64 : ∀ i, i < t → G 64 i = F 64 i) (e63 : ∀ i, i < w → G 63 i = F 63 i) (et : G 64 t = nI w) (ew : G 63 w = 0) : Q1 G (w + 1) (t + 1) := by
  refine ⟨?_, fun i hi => ?_⟩
  · have := h.1; simp only [cn]; rw [cn_same w e63, ew, if_neg (by decide)]; omega
  · by_cases e : i = t
    · subst e; exact ⟨w, by omega, et, ew⟩
    · obtain ⟨x, h1, h2, h3⟩ := h.2 i (by omega)
      exact ⟨x, by omega, by rw [e64 i (by omega)]; exact h2, by rw [e63 x h1]; exact h3⟩
