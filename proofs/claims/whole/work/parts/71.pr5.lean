/-! The calls, one by one: both answer alike. Fifth part: sheets' rest, by hand. -/
theorem wrL_row {P x : Nat} (h : x ≠ P + 1) : ∀ (k j : Nat) (F : FF), wrL P k j F x = F x
  | 0, _, _ => rfl
  | k + 1, j, F => by rw [wrL, wrL_row h k, up2_row h]
theorem wrM_row {s x : Nat} (h : x ≠ 72) : ∀ (k j : Nat) (F : FF), wrM s k j F x = F x
  | 0, _, _ => rfl
  | k + 1, j, F => by rw [wrM, wrM_row h k, up2_row h]
theorem wrL_at {P : Nat} (hP : P + 1 ≠ 15) : ∀ (k j : Nat) (F : FF) (i : Nat), wrL P k j F (P + 1) i = if j ≤ i ∧ i < j + k then nrw (F P 2) (F 15 i) else F (P + 1) i
  | 0, j, F, i => by rw [if_neg (by omega)]; rfl
  | k + 1, j, F, i => by
    rw [wrL, wrL_at hP k (j + 1) _ i, up2_row (a := P) (by omega), up2_row (a := 15) (fun z => hP z.symm), up2_up1]; unfold up1
    by_cases c : i = j
    · rw [if_neg (show ¬ (j + 1 ≤ i ∧ i < j + 1 + k) by omega), if_pos c, if_pos (show j ≤ i ∧ i < j + (k + 1) by omega), c]
    · rw [if_neg c]
      by_cases d : j + 1 ≤ i ∧ i < j + 1 + k
      · rw [if_pos d, if_pos (show j ≤ i ∧ i < j + (k + 1) by omega)]
      · rw [if_neg d, if_neg (show ¬ (j ≤ i ∧ i < j + (k + 1)) by omega)]
theorem wrM_at {s : Nat} : ∀ (k j : Nat) (F : FF) (q : Nat), wrM s k j F 72 q = if 60 * s + j ≤ q ∧ q < 60 * s + j + k then nrw (F 70 s) (F 56 (q - 60 * s)) else F 72 q
  | 0, j, F, q => by rw [if_neg (by omega)]; rfl
  | k + 1, j, F, q => by
    rw [wrM, wrM_at k (j + 1) _ q, up2_row (a := 70) (by decide), up2_row (a := 56) (by decide), up2_up1]; unfold up1
    by_cases c : q = 60 * s + j
    · rw [if_neg (show ¬ (60 * s + (j + 1) ≤ q ∧ q < 60 * s + (j + 1) + k) by omega), if_pos c, if_pos (show 60 * s + j ≤ q ∧ q < 60 * s + j + (k + 1) by omega), show q - 60 * s = j by omega]
    · rw [if_neg c]
      by_cases d : 60 * s + (j + 1) ≤ q ∧ q < 60 * s + (j + 1) + k
      · rw [if_pos d, if_pos (show 60 * s + j ≤ q ∧ q < 60 * s + j + (k + 1) by omega)]
      · rw [if_neg d, if_neg (show ¬ (60 * s + j ≤ q ∧ q < 60 * s + j + (k + 1)) by omega)]
theorem mv1_row {s a x : Nat} (h : x ≠ 73) : ∀ (k j : Nat) (F : FF), mv1 s a k j F x = F x
  | 0, _, _ => rfl
  | k + 1, j, F => by rw [mv1, mv1_row h k, up2_row h]
theorem mv1_at {s a : Nat} : ∀ (k j : Nat) (F : FF) (i : Nat), mv1 s a k j F 73 i = if j ≤ i ∧ i < j + k then F 72 (60 * s + a + i) else F 73 i
  | 0, j, F, i => by rw [if_neg (by omega)]; rfl
  | k + 1, j, F, i => by
    rw [mv1, mv1_at k (j + 1) _ i, up2_row (a := 72) (by decide), up2_up1]; unfold up1
    by_cases c : i = j
    · rw [if_neg (show ¬ (j + 1 ≤ i ∧ i < j + 1 + k) by omega), if_pos c, if_pos (show j ≤ i ∧ i < j + (k + 1) by omega), c]
    · rw [if_neg c]
      by_cases d : j + 1 ≤ i ∧ i < j + 1 + k
      · rw [if_pos d, if_pos (show j ≤ i ∧ i < j + (k + 1) by omega)]
      · rw [if_neg d, if_neg (show ¬ (j ≤ i ∧ i < j + (k + 1)) by omega)]
theorem mv2_row {t b x : Nat} (h : x ≠ 72) : ∀ (k j : Nat) (F : FF), mv2 t b k j F x = F x
  | 0, _, _ => rfl
  | k + 1, j, F => by rw [mv2, mv2_row h k, up2_row h]
theorem mv2_at {t b : Nat} : ∀ (k j : Nat) (F : FF) (q : Nat), mv2 t b k j F 72 q = if 60 * t + b + j ≤ q ∧ q < 60 * t + b + j + k then F 73 (q - (60 * t + b)) else F 72 q
  | 0, j, F, q => by rw [if_neg (by omega)]; rfl
  | k + 1, j, F, q => by
    rw [mv2, mv2_at k (j + 1) _ q, up2_row (a := 73) (by decide), up2_up1]; unfold up1
    by_cases c : q = 60 * t + b + j
    · rw [if_neg (show ¬ (60 * t + b + (j + 1) ≤ q ∧ q < 60 * t + b + (j + 1) + k) by omega), if_pos c, if_pos (show 60 * t + b + j ≤ q ∧ q < 60 * t + b + j + (k + 1) by omega), show q - (60 * t + b) = j by omega]
    · rw [if_neg c]
      by_cases d : 60 * t + b + (j + 1) ≤ q ∧ q < 60 * t + b + (j + 1) + k
      · rw [if_pos d, if_pos (show 60 * t + b + j ≤ q ∧ q < 60 * t + b + j + (k + 1) by omega)]
      · rw [if_neg d, if_neg (show ¬ (60 * t + b + j ≤ q ∧ q < 60 * t + b + j + (k + 1)) by omega)]
section PR5
variable (E : EE) (L : Nat) {F : FF} {l0 l1 n m : Nat}
theorem pr_write (h : IV F l0 l1 n m) (s : Int32) : PrF E L mX10_write mX11_write [.int s] F := by
  have hsh := h.2.2.2.2.2.2.2.2
  obtain ⟨hc, ht, ⟨hm, hf⟩, hp, hfi, hst, hps, hfd, -⟩ := id h
  obtain ⟨⟨hn, hn5, hn3⟩, hpp⟩ := id hp
  by_cases c : 0 ≤ s ∧ s < 4
  · obtain ⟨t, ht4, rfl⟩ := of_n (n := 4) (by omega) c
    obtain ⟨q1, q2, ⟨z, hz, e1, e2⟩, q4⟩ := id (hsh t ht4)
    by_cases d : F (40 + 2 * t) 1 = 0
    · have hP : 40 + 2 * t + 1 ≠ 15 := by omega
      have r : ∀ x, x ≠ 41 + 2 * t → wrL (40 + 2 * t) (if n < z then n else z) 0 F x = F x := fun x hx => wrL_row (by omega) _ _ _
      obtain ⟨hm1, -⟩ := hm.of (F' := wrL (40 + 2 * t) (if n < z then n else z) 0 F) (by rw [r 48 (by omega)]) (by rw [r 49 (by omega)]) (r 50 (by omega)) (r 52 (by omega)) (r 53 (by omega)) (r 54 (by omega)) (r 55 (by omega))
      have hW : (if n < z then n else z) ≤ n ∧ (if n < z then n else z) ≤ z := by split <;> omega
      refine pr3 (X_write E L F t ht4 n hn5 hn z e1 hz d) (y_write E L _ l0 n hm1 t ht4 z (by rw [r 71 (by omega)]; exact e2) hz (by rw [r 69 (by omega)]; exact (lost_iff (hsh t ht4)).mp d)) rfl (IV.items ht4 h (fun a h1 h2 h3 => ?_) (fun i hi => ?_) (fun q hq => ?_)).i (by decide) (by decide)
      · rw [wrM_row h2, r a h1]
      · rw [wrM_row (x := 41 + 2 * t) (by omega), wrM_at, r 70 (by omega), r 56 (by omega), r 72 (by omega)]
        have hw := wrL_at hP (if n < z then n else z) 0 F i
        rw [show 40 + 2 * t + 1 = 41 + 2 * t by omega] at hw
        rw [hw, q2, show 60 * t + i - 60 * t = i by omega]
        generalize (if n < z then n else z) = W at hW
        by_cases g : i < W
        · rw [if_pos (show 0 ≤ i ∧ i < 0 + W by omega), if_pos (show 60 * t + 0 ≤ 60 * t + i ∧ 60 * t + i < 60 * t + 0 + W by omega), (h.at (show i < n by omega)).1.2.2.2.2]
        · rw [if_neg (show ¬ (0 ≤ i ∧ i < 0 + W) by omega), if_neg (show ¬ (60 * t + 0 ≤ 60 * t + i ∧ 60 * t + i < 60 * t + 0 + W) by omega)]; exact q4 i hi
      · rw [wrM_at, if_neg (by omega), r 72 (by omega)]
    · exact pr3 (X_write_null E L F t ht4 d) (y_write_null E L _ t ht4 (by rw [up2_row (by decide)]; exact Classical.not_not.mp (fun z => d ((lost_iff (hsh t ht4)).mpr z)))) rfl (h.fnd 1).i (by decide) (by decide)
  · exact pr3 (x_write_bad E L F s c) (y_write_bad E L F s c) rfl h.i (by decide) (by decide)
theorem pr_read (h : IV F l0 l1 n m) (s p : Int32) : PrF E L mX10_read mX11_read [.int s, .int p] F := by
  have hsh := h.2.2.2.2.2.2.2.2
  obtain ⟨hc, ht, ⟨hm, hf⟩, hp, hfi, hst, hps, hfd, -⟩ := id h
  obtain ⟨⟨hn, hn5, hn3⟩, hpp⟩ := id hp
  by_cases c : (0 ≤ s ∧ s < 4) ∧ (0 ≤ p ∧ p < nI n)
  · obtain ⟨t, ht4, rfl⟩ := of_n (n := 4) (by omega) c.1
    obtain ⟨a, ha, rfl⟩ := of_n (by omega) c.2
    obtain ⟨q1, q2, ⟨z, hz, e1, e2⟩, q4⟩ := id (hsh t ht4)
    by_cases d : F (40 + 2 * t) 1 = 0
    · have r : ∀ x, x ≠ 15 → (rdL n a (40 + 2 * t) z 0 F).2 x = F x := fun x hx => rdL_row hx z 0 F
      obtain ⟨hm1, -⟩ := hm.of (F' := (rdL n a (40 + 2 * t) z 0 F).2) (by rw [r 48 (by omega)]) (by rw [r 49 (by omega)]) (r 50 (by omega)) (r 52 (by omega)) (r 53 (by omega)) (r 54 (by omega)) (r 55 (by omega))
      obtain ⟨g1, g2⟩ := rd_eq (s := t) (P := 40 + 2 * t) ha (by omega) z 0 F (rdL n a (40 + 2 * t) z 0 F).2 (by omega) (fun i hi => by rw [r 72 (by decide), show 40 + 2 * t + 1 = 41 + 2 * t by omega]; exact q4 i hi) (by rw [r 51 (by decide)]; exact hst 2 (by omega)) (by omega) (fun q hq => by rw [r 56 (by decide)]; exact ⟨(h.at hq).1.2.2.2.2, (h.at hq).2⟩)
      refine pr3 (X_read E L F t ht4 hc n hn5 hn a ha z e1 hz d) (y_read E L _ l0 n hm1 t ht4 a ha z (by rw [r 71 (by decide)]; exact e2) hz (by rw [r 69 (by decide)]; exact (lost_iff (hsh t ht4)).mp d)) (by rw [g1]) (h.sps (fun x h1 h2 h3 => ?_) (fun q hq => ?_)).i (by decide) (by decide)
      · rw [rdM_row h2 h3, r x h1]
      · rw [rdM_row (x := 15) (by decide) (by decide)]; exact g2 q hq
    · exact pr3 (X_read_null E L F t ht4 n hn5 hn a ha d) (y_read_null E L _ l0 n (hm.set (by decide) _ _).1 t ht4 a ha (by rw [up2_row (by decide)]; exact Classical.not_not.mp (fun z => d ((lost_iff (hsh t ht4)).mpr z)))) rfl (h.fnd 1).i (by decide) (by decide)
  · exact pr3 (x_read_bad E L F s p (by rw [hn5]; exact bad2 c)) (y_read_bad E L F l0 n hm s p (bad2 c)) rfl h.i (by decide) (by decide)
theorem pr_copy (h : IV F l0 l1 n m) (s x t y w : Int32) : PrF E L mX10_copy mX11_copy [.int s, .int x, .int t, .int y, .int w] F := by
  have hsh := h.2.2.2.2.2.2.2.2
  by_cases c : (0 ≤ s ∧ s < 4) ∧ (0 ≤ t ∧ t < 4)
  · obtain ⟨s, hs4, rfl⟩ := of_n (n := 4) (by omega) c.1
    obtain ⟨t, ht4, rfl⟩ := of_n (n := 4) (by omega) c.2
    obtain ⟨q1, q2, ⟨z, hz, e1, e2⟩, q4⟩ := id (hsh s hs4)
    obtain ⟨p1, p2, ⟨u, hu, d1, d2⟩, p4⟩ := id (hsh t ht4)
    have ls := lost_iff (hsh s hs4)
    have lt := lost_iff (hsh t ht4)
    by_cases g : F (40 + 2 * s) 1 = 0 ∧ F (40 + 2 * t) 1 = 0
    · obtain ⟨g1, g2⟩ := g
      by_cases k : F (40 + 2 * s) 2 = F (40 + 2 * t) 2
      · have k' : F 70 s = F 70 t := by rw [← q2, ← p2]; exact k
        by_cases b : (0 ≤ x ∧ 0 ≤ w ∧ x ≤ F (40 + 2 * s) 3 - w) ∧ (0 ≤ y ∧ 0 ≤ w ∧ y ≤ F (40 + 2 * t) 3 - w)
        · obtain ⟨b1, b2⟩ := b
          rw [e1] at b1
          rw [d1] at b2
          obtain ⟨a, q, rfl, rfl, haq⟩ := rng_of hz b1
          obtain ⟨a2, q', rfl, eq', haq2⟩ := rng_of hu b2
          have hq31 : q < 2 ^ 31 := by omega
          have eqq : q' = q := ((nI_eq (by omega) (by omega)).mp eq').symm
          subst eqq
          have r : ∀ x, x ≠ 41 + 2 * t → cpyF F (41 + 2 * s) (41 + 2 * t) a a2 q' x = F x := fun x hx => by funext j; simp [cpyF, hx]
          refine pr3 (X_copy E L F s hs4 t ht4 a a2 q' g1 g2 k (by rw [e1]; exact b1) (by rw [d1]; exact b2) (by omega) (by omega)) (y_copy E L _ s hs4 t ht4 a a2 q' (by rw [r 69 (by omega)]; exact ls.mp g1) (by rw [r 69 (by omega)]; exact lt.mp g2) (by rw [r 70 (by omega)]; exact k') z (by rw [r 71 (by omega)]; exact e2) hz u (by rw [r 71 (by omega)]; exact d2) hu haq haq2) rfl (IV.items ht4 h (fun b h1 h2 h3 => ?_) (fun i hi => ?_) (fun v hv => ?_)).i (by decide) (by decide)
          · rw [mv2_row h2, mv1_row h3, r b h1]
          · rw [mv2_row (x := 41 + 2 * t) (by omega), mv1_row (x := 41 + 2 * t) (by omega), mv2_at, mv1_row (x := 72) (by decide), r 72 (by omega)]
            show (if 41 + 2 * t = 41 + 2 * t then (if a2 ≤ i ∧ i < a2 + q' then F (41 + 2 * s) (a + (i - a2)) else F (41 + 2 * t) i) else F (41 + 2 * t) i) = _
            rw [if_pos rfl]
            by_cases z3 : a2 ≤ i ∧ i < a2 + q'
            · rw [if_pos z3, if_pos (show 60 * t + a2 + 0 ≤ 60 * t + i ∧ 60 * t + i < 60 * t + a2 + 0 + q' by omega), mv1_at, if_pos (by omega), r 72 (by omega), q4 _ (by omega)]
              congr 1; omega
            · rw [if_neg z3, if_neg (show ¬ (60 * t + a2 + 0 ≤ 60 * t + i ∧ 60 * t + i < 60 * t + a2 + 0 + q') by omega)]; exact p4 i hi
          · rw [mv2_at, if_neg (by omega), mv1_row (by decide), r 72 (by omega)]
        · exact pr3 (X_copy_index E L F s hs4 t ht4 x y w g1 g2 k (bad2 b)) (y_copy_index E L _ s hs4 t ht4 x y w (by rw [up2_row (by decide)]; exact ls.mp g1) (by rw [up2_row (by decide)]; exact lt.mp g2) (by rw [up2_row (by decide)]; exact k') z (by rw [up2_row (by decide)]; exact e2) hz u (by rw [up2_row (by decide)]; exact d2) hu (by rw [up2_row (by decide), e2, d2, ← e1, ← d1]; exact bad2 b)) rfl (h.fnd 2).i (by decide) (by decide)
      · exact pr3 (X_copy_store E L F s hs4 t ht4 x y w g1 g2 k) (y_copy_store E L _ s hs4 t ht4 x y w (by rw [up2_row (by decide)]; exact ls.mp g1) (by rw [up2_row (by decide)]; exact lt.mp g2) (by rw [up2_row (by decide), ← q2, ← p2]; exact k)) rfl (h.fnd 4).i (by decide) (by decide)
    · refine pr3 (X_copy_null E L F s hs4 t ht4 x y w (bad2 g)) (y_copy_null E L _ s hs4 t ht4 x y w ?_) rfl (h.fnd 1).i (by decide) (by decide)
      rw [up2_row (by decide)]
      rcases bad2 g with z | z
      · exact Or.inl (Classical.not_not.mp (fun b => z (ls.mpr b)))
      · exact Or.inr (Classical.not_not.mp (fun b => z (lt.mpr b)))
  · exact pr3 (x_copy_bad E L F s x t y w (bad2 c)) (y_copy_bad E L F s x t y w (bad2 c)) rfl h.i (by decide) (by decide)
end PR5
