/-! The calls, one by one: both answer alike. Fourth part: sheets, by hand. -/
theorem IV.sh {F F' : FF} {l0 l1 n m : Nat} (h : IV F l0 l1 n m) (hr : ∀ a, a ≠ 5 → ¬ (40 ≤ a ∧ a ≤ 48) → ¬ (69 ≤ a ∧ a ≤ 73) → F' a = F a) (h48 : ∀ j, j ≠ 31 → F' 48 j = F 48 j) (hfd' : F' 5 11 = F' 48 31) (hsh' : ∀ s, s < 4 → SHr F' s) : IV F' l0 l1 n m := by
  obtain ⟨hc, ht, ⟨hm, hf⟩, hpp, hfi, hst, hps, hfd, hsh⟩ := h
  have r : ∀ a, (a ≠ 5 ∧ ¬ (40 ≤ a ∧ a ≤ 48) ∧ ¬ (69 ≤ a ∧ a ≤ 73)) → F' a = F a := fun a z => hr a z.1 z.2.1 z.2.2
  obtain ⟨hm', hf'⟩ := hm.of (F' := F') (h48 3 (by decide)) (by rw [r 49 (by decide)]) (r 50 (by decide)) (r 52 (by decide)) (r 53 (by decide)) (r 54 (by decide)) (r 55 (by decide))
  refine ⟨hc.of (r 1 (by decide)) (r 2 (by decide)) (r 3 (by decide)) (r 4 (by decide)), ?_, ⟨hm', by rw [hf', r 10 (by decide)]; exact hf⟩, hpp.of (by rw [r 10 (by decide)]) (h48 3 (by decide)) (fun a ha => r a (by omega)), hfi.of (r 9 (by decide)) (r 18 (by decide)) (r 19 (by decide)) (r 20 (by decide)) (r 21 (by decide)), by rw [r 51 (by decide), r 17 (by decide)]; exact hst, ?_, hfd', hsh'⟩
  · unfold TxR; rw [r 6 (by decide), r 7 (by decide), r 8 (by decide), r 9 (by decide), r 49 (by decide), r 50 (by decide)]; exact ht
  · unfold PS2; rw [r 33 (by decide), r 34 (by decide), r 65 (by decide), h48 21 (by decide)]; exact hps
/-- a FINDING -/
theorem IV.fnd {F : FF} {l0 l1 n m : Nat} (h : IV F l0 l1 n m) (x : Int32) : IV (up2 (up2 F 5 11 x) 48 31 x) l0 l1 n m := by
  refine h.sh (fun a h1 h2 h3 => ?_) (fun j hj => ?_) ?_ (fun s hs => ?_)
  · rw [up2_row (by omega), up2_row h1]
  · rw [show ∀ (X : FF) y, up2 X 48 31 y 48 j = X 48 j from fun X y => by simp [up2, hj], up2_row (by decide)]
  · rw [up2_same, up2_row (by decide), up2_same]
  · have r : ∀ a, a ≠ 5 → a ≠ 48 → up2 (up2 F 5 11 x) 48 31 x a = F a := fun a h1 h2 => by rw [up2_row h2, up2_row h1]
    exact (h.2.2.2.2.2.2.2.2 s hs).of (r _ (by omega) (by omega)) (r _ (by omega) (by omega)) (r 69 (by decide) (by decide)) (r 70 (by decide) (by decide)) (r 71 (by decide) (by decide)) (r 72 (by decide) (by decide))
theorem lost_iff {F : FF} {s : Nat} (h : SHr F s) : (F (40 + 2 * s) 1 = 0 ↔ ¬ F 69 s = 0) := by
  rcases h.1 with ⟨a, b⟩ | ⟨a, b⟩
  · rw [a, b]; exact ⟨fun _ => by decide, fun _ => rfl⟩
  · rw [a, b]; exact ⟨fun z => absurd z (by decide), fun z => absurd rfl z⟩
theorem lck_eq {F : FF} {s : Nat} (h : SHr F s) (f x : Int32) : lckA (F 69 s) (F 70 s) (F 71 s) f x = fndA (F (40 + 2 * s) 1) (F (40 + 2 * s) 2) (F (40 + 2 * s) 3) f x := by
  obtain ⟨z, hz, e1, e2⟩ := h.2.2.1
  unfold lckA fndA
  by_cases c : F 69 s = 0
  · rw [if_pos c, if_pos (show ¬ F (40 + 2 * s) 1 = 0 from fun y => (lost_iff h).mp y c)]
  · rw [if_neg c, if_neg (show ¬ ¬ F (40 + 2 * s) 1 = 0 from fun y => y ((lost_iff h).mpr c)), h.2.1, e1, e2]
    by_cases d : F 70 s = f
    · rw [if_neg (show ¬ ¬ F 70 s = f from fun y => y d), if_neg (show ¬ ¬ f = F 70 s from fun y => y d.symm)]
      by_cases g : 0 ≤ x ∧ x < nI z
      · rw [if_pos (show 0 ≤ x ∧ x ≤ nI z - 1 from ⟨g.1, (le_pred60 hz x).mpr g.2⟩), if_neg (show ¬ (x < 0 ∨ ¬ x < nI z) from fun y => y.elim (fun q => absurd g.1 (Int32.not_le.mpr q)) (fun q => q g.2))]
      · have g2 : x < 0 ∨ ¬ x < nI z := by
          by_cases k : x < 0
          · exact Or.inl k
          · exact Or.inr (fun q => g ⟨Int32.not_lt.mp k, q⟩)
        rw [if_neg (show ¬ (0 ≤ x ∧ x ≤ nI z - 1) from fun y => g ⟨y.1, (le_pred60 hz x).mp y.2⟩), if_pos g2]
    · rw [if_pos (show ¬ F 70 s = f from d), if_pos (show ¬ f = F 70 s from fun y => d y.symm)]
theorem of60 {x : Int32} (h0 : 0 ≤ x) (h60 : x ≤ 60) : ∃ z : Nat, z ≤ 60 ∧ x = nI z := by
  obtain ⟨z, hz, e⟩ := nI_ex (n := 61) h0 (Int32.lt_of_le_of_lt h60 (by decide)) (by omega)
  exact ⟨z, by omega, e⟩
theorem zfL_row {s x : Nat} (h : x ≠ 72) : ∀ (k j : Nat) (F : FF), zfL s k j F x = F x
  | 0, _, _ => rfl
  | k + 1, j, F => by rw [zfL, zfL_row h k, up2_row h]
theorem zfL_72 {s : Nat} : ∀ (k j : Nat) (F : FF) (q : Nat), zfL s k j F 72 q = if 60 * s + j ≤ q ∧ q < 60 * s + j + k then 0 else F 72 q
  | 0, j, F, q => by rw [if_neg (by omega)]; rfl
  | k + 1, j, F, q => by
    rw [zfL, zfL_72 k (j + 1) _ q, up2_up1]; unfold up1
    by_cases c : q = 60 * s + j
    · rw [if_neg (show ¬ (60 * s + (j + 1) ≤ q ∧ q < 60 * s + (j + 1) + k) by omega), if_pos c, if_pos (show 60 * s + j ≤ q ∧ q < 60 * s + j + (k + 1) by omega)]
    · rw [if_neg c]
      by_cases d : 60 * s + (j + 1) ≤ q ∧ q < 60 * s + (j + 1) + k
      · rw [if_pos d, if_pos (show 60 * s + j ≤ q ∧ q < 60 * s + j + (k + 1) by omega)]
      · rw [if_neg d, if_neg (show ¬ (60 * s + j ≤ q ∧ q < 60 * s + j + (k + 1)) by omega)]
section PR4
variable (E : EE) (L : Nat) {F : FF} {l0 l1 n m : Nat}
theorem bad3 {A B C : Prop} (h : ¬ (A ∧ B ∧ ¬ C)) : ¬ A ∨ ¬ B ∨ C := by
  by_cases a : A
  · by_cases b : B
    · by_cases c : C
      · exact Or.inr (Or.inr c)
      · exact absurd ⟨a, b, c⟩ h
    · exact Or.inr (Or.inl b)
  · exact Or.inl a
theorem pr_sheet (h : IV F l0 l1 n m) (s f x : Int32) : PrF E L mX10_sheet mX11_sheet [.int s, .int f, .int x] F := by
  have hsh := h.2.2.2.2.2.2.2.2
  by_cases c : (0 ≤ s ∧ s < 4) ∧ (0 ≤ f ∧ f < 3) ∧ ¬ 60 < x
  · obtain ⟨c1, c2, c3⟩ := c
    obtain ⟨t, ht4, rfl⟩ := of_n (n := 4) (by omega) c1
    have h60 := Int32.not_lt.mp c3
    by_cases d : x < 0
    · exact pr3 (X_sheet_size E L F t ht4 f x c2 h60 d) (y_sheet_size E L _ t ht4 f x c2 h60 d) rfl (h.fnd 5).i (by decide) (by decide)
    · have h0 := Int32.not_lt.mp d
      obtain ⟨z, hz, ez⟩ := of60 h0 h60
      refine pr3 (X_sheet E L F t ht4 f x c2 h60 h0) (y_sheet E L _ t ht4 f x c2 h60 h0) rfl (h.sh (fun a h1 h2 h3 => ?_) (fun j hj => ?_) ?_ (fun u hu => ?_)).i (by decide) (by decide)
      · rw [zfL_row (by omega), up2_row (by omega), up2_row (by omega), up2_row (by omega)]
        funext j
        simp [fillF, up2, show a ≠ 41 + 2 * t by omega, show a ≠ 40 + 2 * t by omega]
      · rw [zfL_row (by decide), up2_row (by decide), up2_row (by decide), up2_row (by decide)]
        simp [fillF, up2, show 48 ≠ 41 + 2 * t by omega, show 48 ≠ 40 + 2 * t by omega]
      · rw [zfL_row (by decide), zfL_row (by decide), up2_row (by decide), up2_row (by decide), up2_row (by decide), up2_row (by decide), up2_row (by decide), up2_row (by decide)]
        simp only [fillF, up2, show (5 : Nat) ≠ 41 + 2 * t by omega, show (5 : Nat) ≠ 40 + 2 * t by omega, show (48 : Nat) ≠ 41 + 2 * t by omega, show (48 : Nat) ≠ 40 + 2 * t by omega, false_and, if_false]
        exact h.2.2.2.2.2.2.2.1
      · by_cases e : u = t
        · subst e
          unfold SHr
          rw [zfL_row (x := 40 + 2 * u) (by omega), zfL_row (x := 41 + 2 * u) (by omega), zfL_row (x := 69) (by decide), zfL_row (x := 70) (by decide), zfL_row (x := 71) (by decide)]
          refine ⟨Or.inl ⟨?_, ?_⟩, ?_, ⟨z, hz, ?_, ?_⟩, fun j hj => ?_⟩
          · rw [up2_row (by omega), up2_row (by omega), up2_row (by omega)]; simp [fillF, up2, show 40 + 2 * u ≠ 41 + 2 * u by omega]
          · rw [up2_row (by decide), up2_row (by decide), up2_same]
          · rw [up2_row (by omega), up2_row (by omega), up2_row (by omega), up2_row (a := 70) (by decide), up2_same]; simp [fillF, up2, show 40 + 2 * u ≠ 41 + 2 * u by omega]
          · rw [up2_row (by omega), up2_row (by omega), up2_row (by omega)]; simp [fillF, up2, show 40 + 2 * u ≠ 41 + 2 * u by omega, ez]
          · rw [up2_same, ez]
          · rw [zfL_72, if_pos (by omega), up2_row (by omega), up2_row (by omega), up2_row (by omega)]; simp [fillF, hj]
        · have r : ∀ a, a ≠ 40 + 2 * t → a ≠ 41 + 2 * t → a ≠ 69 → a ≠ 70 → a ≠ 71 → a ≠ 72 → zfL t 60 0 (up2 (up2 (up2 (fillF (up2 (up2 (up2 F (40 + 2 * t) 1 0) (40 + 2 * t) 2 f) (40 + 2 * t) 3 x) (41 + 2 * t) 60 0) 69 t 1) 70 t f) 71 t x) a = F a := fun a h1 h2 h3 h4 h5 h6 => by
            rw [zfL_row h6, up2_row h5, up2_row h4, up2_row h3]; funext j; simp [fillF, up2, h1, h2]
          obtain ⟨q1, q2, q3, q4⟩ := hsh u hu
          have g69 : ∀ X : FF, zfL t 60 0 (up2 (up2 (up2 X 69 t 1) 70 t f) 71 t x) 69 u = X 69 u := fun X => by rw [zfL_row (by decide), up2_row (by decide), up2_row (by decide)]; simp [up2, e]
          have g70 : ∀ X : FF, zfL t 60 0 (up2 (up2 (up2 X 69 t 1) 70 t f) 71 t x) 70 u = X 70 u := fun X => by rw [zfL_row (by decide), up2_row (by decide)]; simp [up2, e]
          have g71 : ∀ X : FF, zfL t 60 0 (up2 (up2 (up2 X 69 t 1) 70 t f) 71 t x) 71 u = X 71 u := fun X => by rw [zfL_row (by decide)]; simp [up2, e]
          have gf : ∀ a j, a ≠ 41 + 2 * t → a ≠ 40 + 2 * t → fillF (up2 (up2 (up2 F (40 + 2 * t) 1 0) (40 + 2 * t) 2 f) (40 + 2 * t) 3 x) (41 + 2 * t) 60 0 a j = F a j := fun a j h1 h2 => by simp [fillF, up2, h1, h2]
          unfold SHr
          rw [r (40 + 2 * u) (by omega) (by omega) (by omega) (by omega) (by omega) (by omega), r (41 + 2 * u) (by omega) (by omega) (by omega) (by omega) (by omega) (by omega), g69, g70, g71, gf 69 u (by omega) (by omega), gf 70 u (by omega) (by omega), gf 71 u (by omega) (by omega)]
          refine ⟨q1, q2, q3, fun j hj => ?_⟩
          rw [zfL_72, if_neg (by omega), up2_row (by decide), up2_row (by decide), up2_row (by decide), gf 72 _ (by omega) (by omega)]; exact q4 j hj
  · have c' := bad3 c
    exact pr3 (x_sheet_bad E L F s f x c') (y_sheet_bad E L F s f x c') rfl h.i (by decide) (by decide)
theorem pr_lose (h : IV F l0 l1 n m) (s : Int32) : PrF E L mX10_lose mX11_lose [.int s] F := by
  have hsh := h.2.2.2.2.2.2.2.2
  by_cases c : 0 ≤ s ∧ s < 4
  · obtain ⟨t, ht4, rfl⟩ := of_n (n := 4) (by omega) c
    obtain ⟨q1, q2, ⟨z, hz, e1, e2⟩, q4⟩ := id (hsh t ht4)
    by_cases d : F (40 + 2 * t) 1 = 0
    · refine pr3 (X_lose E L F t ht4 d) (y_lose E L _ t ht4 (by rw [up2_row (by omega)]; exact (lost_iff (hsh t ht4)).mp d)) (by rw [up2_row (by omega), e1, e2]) (h.sh (fun a h1 h2 h3 => ?_) (fun j hj => ?_) ?_ (fun u hu => ?_)).i (by decide) (by decide)
      · rw [up2_row (by omega), up2_row (by omega)]
      · rw [up2_row (by omega), up2_row (by omega)]
      · rw [up2_row (by omega), up2_row (by omega), up2_row (by omega), up2_row (by omega)]; exact h.2.2.2.2.2.2.2.1
      · obtain ⟨p1, p2, p3, p4⟩ := hsh u hu
        by_cases e : u = t
        · subst e
          unfold SHr
          rw [up2_row (a := 40 + 2 * u) (k := 69) (by omega), up2_row (a := 41 + 2 * u) (by omega), up2_row (a := 41 + 2 * u) (by omega), up2_row (a := 70) (by omega), up2_row (a := 70) (by omega), up2_row (a := 71) (by omega), up2_row (a := 71) (by omega), up2_row (a := 72) (by omega), up2_row (a := 72) (by omega)]
          refine ⟨Or.inr ⟨by rw [up2_same], by rw [up2_same]⟩, ?_, ?_, p4⟩
          · rw [show up2 F (40 + 2 * u) 1 1 (40 + 2 * u) 2 = F (40 + 2 * u) 2 by simp [up2]]; exact p2
          · rw [show up2 F (40 + 2 * u) 1 1 (40 + 2 * u) 3 = F (40 + 2 * u) 3 by simp [up2]]; exact p3
        · unfold SHr
          rw [up2_row (a := 40 + 2 * u) (by omega), up2_row (a := 40 + 2 * u) (by omega), up2_row (a := 41 + 2 * u) (by omega), up2_row (a := 41 + 2 * u) (by omega), up2_row (a := 70) (by omega), up2_row (a := 70) (by omega), up2_row (a := 71) (by omega), up2_row (a := 71) (by omega), up2_row (a := 72) (by omega), up2_row (a := 72) (by omega)]
          rw [show up2 (up2 F (40 + 2 * t) 1 1) 69 t 0 69 u = F 69 u by simp [up2, e, show 69 ≠ 40 + 2 * t by omega]]
          exact ⟨p1, p2, p3, p4⟩
    · exact pr3 (X_lose_null E L F t ht4 d) (y_lose_null E L _ t ht4 (by rw [up2_row (by decide)]; exact Classical.not_not.mp (fun z => d ((lost_iff (hsh t ht4)).mpr z)))) rfl (h.fnd 1).i (by decide) (by decide)
  · exact pr3 (x_lose_bad E L F s c) (y_lose_bad E L F s c) rfl h.i (by decide) (by decide)
/-- items of one sheet changed, alike -/
theorem IV.items {F' : FF} {t : Nat} (ht4 : t < 4) (h : IV F l0 l1 n m) (hr : ∀ a, a ≠ 41 + 2 * t → a ≠ 72 → a ≠ 73 → F' a = F a) (hi : ∀ j, j < 60 → F' (41 + 2 * t) j = F' 72 (60 * t + j)) (ho : ∀ q, ¬ (60 * t ≤ q ∧ q < 60 * t + 60) → F' 72 q = F 72 q) : IV F' l0 l1 n m := by
  have hsh := h.2.2.2.2.2.2.2.2
  refine h.sh (fun a h1 h2 h3 => hr a (by omega) (by omega) (by omega)) (fun j _ => by rw [hr 48 (by omega) (by omega) (by omega)]) (by rw [hr 5 (by omega) (by omega) (by omega), hr 48 (by omega) (by omega) (by omega)]; exact h.2.2.2.2.2.2.2.1) (fun u hu => ?_)
  obtain ⟨p1, p2, p3, p4⟩ := hsh u hu
  unfold SHr
  rw [hr (40 + 2 * u) (by omega) (by omega) (by omega), hr 69 (by omega) (by omega) (by omega), hr 70 (by omega) (by omega) (by omega), hr 71 (by omega) (by omega) (by omega)]
  refine ⟨p1, p2, p3, fun j hj => ?_⟩
  by_cases e : u = t
  · subst e; exact hi j hj
  · rw [hr (41 + 2 * u) (by omega) (by omega) (by omega), ho _ (by omega)]; exact p4 j hj
theorem bad2 {A B : Prop} (h : ¬ (A ∧ B)) : ¬ A ∨ ¬ B := Classical.not_and_iff_not_or_not.mp h
theorem SHr.up5 {x : Int32} {t : Nat} (hf : SHr F t) (ht : t < 4) : SHr (up2 F 5 11 x) t :=
  hf.of (up2_row (by omega)) (up2_row (by omega)) (up2_row (by decide)) (up2_row (by decide)) (up2_row (by decide)) (up2_row (by decide))
theorem pr_put (h : IV F l0 l1 n m) (s f x v : Int32) : PrF E L mX10_put mX11_put [.int s, .int f, .int x, .int v] F := by
  have hsh := h.2.2.2.2.2.2.2.2
  by_cases c : (0 ≤ s ∧ s < 4) ∧ (0 ≤ f ∧ f < 3)
  · obtain ⟨t, ht4, rfl⟩ := of_n (n := 4) (by omega) c.1
    have el := lck_eq (hsh t ht4)
    obtain ⟨q1, q2, ⟨z, hz, e1, e2⟩, q4⟩ := id (hsh t ht4)
    by_cases d : fndA (F (40 + 2 * t) 1) (F (40 + 2 * t) 2) (F (40 + 2 * t) 3) f x = 0
    · obtain ⟨w1, w2, w3, w4⟩ := fnd0 d
      rw [e1] at w4
      obtain ⟨j, hj, rfl⟩ := idx_of hz w3 w4
      refine pr3 (X_put E L F t ht4 z e1 hz f v c.2 j hj d) (y_put E L _ t ht4 f v c.2 j (by omega) (by rw [up2_row (by omega), up2_row (by omega), up2_row (by omega), el]; exact d)) rfl (IV.items ht4 h (fun a h1 h2 h3 => ?_) (fun i hi => ?_) (fun q hq => ?_)).i (by decide) (by decide)
      · rw [up2_row h2, up2_row h1]
      · rw [up2_row (a := 41 + 2 * t) (by omega), up2_up1, up2_up1, up2_row (a := 72) (by omega), up2_row (a := 70) (by omega), q2]
        unfold up1
        by_cases g : i = j
        · rw [if_pos g, if_pos (by omega)]
        · rw [if_neg g, if_neg (by omega)]; exact q4 i hi
      · rw [up2_up1, up2_row (a := 72) (by omega)]; unfold up1; rw [if_neg (by omega)]
    · exact pr3 (X_put_find E L F t ht4 f x v c.2 d) (y_put_find E L _ t ht4 f x v c.2 (by rw [up2_row (by decide), up2_row (by decide), up2_row (by decide), el]; exact d)) (by rw [up2_row (by decide), up2_row (by decide), up2_row (by decide), el]) (by rw [up2_row (a := 69) (by decide), up2_row (a := 70) (by decide), up2_row (a := 71) (by decide), el]; exact (h.fnd _).i) (by decide) (by decide)
  · exact pr3 (x_put_bad E L F s f x v (bad2 c)) (y_put_bad E L F s f x v (bad2 c)) rfl h.i (by decide) (by decide)
theorem pr_get (h : IV F l0 l1 n m) (s f x : Int32) : PrF E L mX10_get mX11_get [.int s, .int f, .int x] F := by
  have hsh := h.2.2.2.2.2.2.2.2
  by_cases c : (0 ≤ s ∧ s < 4) ∧ (0 ≤ f ∧ f < 3)
  · obtain ⟨t, ht4, rfl⟩ := of_n (n := 4) (by omega) c.1
    have el := lck_eq (hsh t ht4)
    obtain ⟨q1, q2, ⟨z, hz, e1, e2⟩, q4⟩ := id (hsh t ht4)
    by_cases d : fndA (F (40 + 2 * t) 1) (F (40 + 2 * t) 2) (F (40 + 2 * t) 3) f x = 0
    · obtain ⟨w1, w2, w3, w4⟩ := fnd0 d
      rw [e1] at w4
      obtain ⟨j, hj, rfl⟩ := idx_of hz w3 w4
      exact pr3 (X_get E L F t ht4 f c.2 j (by omega) d) (y_get E L F t ht4 f c.2 j (by omega) (by rw [el]; exact d)) (by rw [q4 j (by omega)]) h.i (by decide) (by decide)
    · exact pr3 (X_get_find E L F t ht4 f x c.2 d) (y_get_find E L _ t ht4 f x c.2 (by rw [up2_row (by decide), up2_row (by decide), up2_row (by decide), el]; exact d)) rfl (by rw [up2_row (a := 69) (by decide), up2_row (a := 70) (by decide), up2_row (a := 71) (by decide), el]; exact (h.fnd _).i) (by decide) (by decide)
  · exact pr3 (x_get_bad E L F s f x (bad2 c)) (y_get_bad E L F s f x (bad2 c)) rfl h.i (by decide) (by decide)
end PR4
