/-! The calls, one by one: both answer alike. Second part, by hand. -/
/-- a change of the class's rows that don't count leaves what ties them -/
theorem PPr.of {n : Nat} {F G G' : FF} (h : PPr n F G) (e51 : G' 51 = G 51) (e52 : G' 52 = G 52) (e53 : G' 53 = G 53) (e54 : G' 54 = G 54) (e56 : G' 56 = G 56) : PPr n F G' := by
  unfold PPr; rw [e51, e52, e53, e54, e56]; exact h
section PR2
variable (E : EE) (L : Nat) {F : FF} {l0 l1 n m : Nat}
theorem pr_judged (h : IV F l0 l1 n m) (w : Int32) : PrF E L mX10_judged mX11_judged [.int w] F := by
  obtain ⟨hc, ht, ⟨hm, hf⟩, hp, hfi, hst, hps, hfd, hsh⟩ := id h
  obtain ⟨⟨hn, hn5, hn3⟩, hpp⟩ := id hp
  by_cases c : w < 0 ∨ 2 < w
  · exact pr3 (x_judged_bad E L F w c) (y_judged_bad E L F w c) rfl h.i (by decide) (by decide)
  · have r : ∀ s x, x ≠ 22 → x ≠ 23 → x ≠ 24 → jgF F n s x = F x := fun s x h1 h2 h3 => jgF_row h1 h2 h3
    obtain ⟨s0, -⟩ := hfi F h.tat1
    obtain ⟨s, f1, f2, f3, f4, f5⟩ := fair_s (G := F) ht.2.2.2.1 hn hfi h.tat1
    have h2 := h.jg n s
    have eB : B1 (jgF F n s) = B1 F := by unfold B1; rw [r s 50 (by decide) (by decide) (by decide)]
    obtain ⟨s', g1, g2, g3, g4, g5⟩ := fair_s (F := F) (G := jgF F n s) ht.2.2.2.1 hn hfi (fun j => by rw [eB]; exact h.tat1 j)
    have es : s' = s := by
      have a1 := f1.2.1
      have a2 := g1.2.1
      exact (nI_eq (by omega) (by omega)).mp (g1.1.symm.trans f1.1)
    subst es
    obtain ⟨⟨a1, a2, a3⟩, -⟩ := a_jud (G := jgF F n s') hn (h.ppr.of (r s' 51 (by decide) (by decide) (by decide)) (r s' 52 (by decide) (by decide) (by decide)) (r s' 53 (by decide) (by decide) (by decide)) (r s' 54 (by decide) (by decide) (by decide)) (r s' 56 (by decide) (by decide) (by decide))) f1 g5
    have y := fun x hx => y_judged E L (jgF F n s') l0 n h2.2.2.1.1 l1 ht.2.2.2.1 (by rw [r s' 49 (by decide) (by decide) (by decide)]; exact ht.2.2.1) s' g2 x hx
    have hI := ((h2.fds l1 n).mj n s').i
    rcases of2 c with rfl | rfl | rfl
    · exact pr3 (x_judged0 E L F hc n hn5 hn s' f1) (y 0 c) (by rw [if_pos rfl, a1]) hI (by decide) (by decide)
    · exact pr3 (x_judged1 E L F hc n hn5 hn s' f1) (y 1 c) (by rw [if_neg (by decide), if_pos rfl, a2]) hI (by decide) (by decide)
    · exact pr3 (x_judged2 E L F hc n hn5 hn s' f1) (y 2 c) (by rw [if_neg (by decide), if_neg (by decide), a3]) hI (by decide) (by decide)
theorem pr_ends (h : IV F l0 l1 n m) (p : Int32) : PrF E L mX10_ends mX11_ends [.int p] F := by
  obtain ⟨hc, ht, ⟨hm, hf⟩, hp, hfi, hst, hps, hfd, hsh⟩ := id h
  obtain ⟨⟨hn, hn5, hn3⟩, hpp⟩ := id hp
  by_cases c : 0 ≤ p ∧ p < nI n
  · obtain ⟨a, ha, rfl⟩ := of_n (by omega) c
    have r : ∀ s x, x ≠ 22 → x ≠ 23 → x ≠ 24 → jgF F n s x = F x := fun s x h1 h2 h3 => jgF_row h1 h2 h3
    obtain ⟨s, f1, f2, f3, f4, f5⟩ := fair_s (G := F) ht.2.2.2.1 hn hfi h.tat1
    have h2 := h.jg n s
    have eB : B1 (jgF F n s) = B1 F := by unfold B1; rw [r s 50 (by decide) (by decide) (by decide)]
    obtain ⟨s', g1, g2, g3, g4, g5⟩ := fair_s (F := F) (G := jgF F n s) ht.2.2.2.1 hn hfi (fun j => by rw [eB]; exact h.tat1 j)
    have es : s' = s := by
      have a1 := f1.2.1
      have a2 := g1.2.1
      exact (nI_eq (by omega) (by omega)).mp (g1.1.symm.trans f1.1)
    subst es
    obtain ⟨-, a4⟩ := a_jud (G := jgF F n s') hn (h.ppr.of (r s' 51 (by decide) (by decide) (by decide)) (r s' 52 (by decide) (by decide) (by decide)) (r s' 53 (by decide) (by decide) (by decide)) (r s' 54 (by decide) (by decide) (by decide)) (r s' 56 (by decide) (by decide) (by decide))) f1 g5
    exact pr3 (x_ends E L F hc n hn5 hn s' f1 a ha) (y_ends E L (jgF F n s') l0 n h2.2.2.1.1 l1 ht.2.2.2.1 (by rw [r s' 49 (by decide) (by decide) (by decide)]; exact ht.2.2.1) s' g2 a ha) (by rw [a4 a ha]) ((h2.fds l1 n).mj n s').i (by decide) (by decide)
  · exact pr3 (x_ends_bad E L F p (by rw [hn5]; exact c)) (y_ends_bad E L F l0 n hm p c) rfl h.i (by decide) (by decide)
theorem pr_comes (h : IV F l0 l1 n m) (p q : Int32) : PrF E L mX10_comes mX11_comes [.int p, .int q] F := by
  obtain ⟨hc, ht, ⟨hm, hf⟩, hp, hfi, hst, hps, hfd, hsh⟩ := id h
  obtain ⟨⟨hn, hn5, hn3⟩, hpp⟩ := id hp
  by_cases c : (0 ≤ p ∧ p < nI n) ∧ (0 ≤ q ∧ q < nI n) ∧ ¬ p = q
  · obtain ⟨a, ha, rfl⟩ := of_n (by omega) c.1
    obtain ⟨b, hb, rfl⟩ := of_n (by omega) c.2.1
    have hab : a ≠ b := fun z => c.2.2 (by rw [z])
    obtain ⟨⟨-, -, -, -, q5⟩, s0, hs0, es0⟩ := h.at ha
    by_cases ct : trd (F 11) (F 12) (F 13) a b
    · have h2 := h.sr n a b s0
      have r : ∀ x, x ≠ 29 → x ≠ 30 → x ≠ 31 → x ≠ 32 → srch F n a b s0 x = F x := fun x h1 h2 h3 h4 => srch_row h1 h2 h3 h4
      have hF := far_eq (b := b) hn (h.ppr.of (G' := srch F n a b s0) (r 51 (by decide) (by decide) (by decide) (by decide)) (r 52 (by decide) (by decide) (by decide) (by decide)) (r 53 (by decide) (by decide) (by decide) (by decide)) (r 54 (by decide) (by decide) (by decide) (by decide)) (r 56 (by decide) (by decide) (by decide) (by decide))) ha hb hs0
      exact pr3 (x_comes1 E L F hc n hn5 hn a b ha hb hab s0 es0 hs0 ct) (y_comes E L _ l0 n h2.2.2.1.1 a b ha hb hab s0 (by rw [r 56 (by decide) (by decide) (by decide) (by decide), q5]; exact es0) hs0) (by rw [← hF.1]) (h2.lf n a b s0).i (by decide) (by decide)
    · exact pr3 (x_comes0 E L F hc n hn5 hn a b ha hb hab s0 es0 hs0 ct) (y_comes E L F l0 n hm a b ha hb hab s0 (by rw [q5]; exact es0) hs0) (by rw [far_none hn h.ppr ha hb hs0 ct]) (h.lf n a b s0).i (by decide) (by decide)
  · exact pr3 (x_comes_bad E L F p q (by rw [hn5, two_iff]; exact c)) (y_comes_bad E L F l0 n hm p q c) rfl h.i (by decide) (by decide)
theorem pr_way (h : IV F l0 l1 n m) (p q x : Int32) : PrF E L mX10_way mX11_way [.int p, .int q, .int x] F := by
  obtain ⟨hc, ht, ⟨hm, hf⟩, hp, hfi, hst, hps, hfd, hsh⟩ := id h
  obtain ⟨⟨hn, hn5, hn3⟩, hpp⟩ := id hp
  by_cases c : ((0 ≤ p ∧ p < nI n) ∧ (0 ≤ q ∧ q < nI n) ∧ ¬ p = q) ∧ ¬ x < 0
  · obtain ⟨c, cx⟩ := c
    obtain ⟨a, ha, rfl⟩ := of_n (by omega) c.1
    obtain ⟨b, hb, rfl⟩ := of_n (by omega) c.2.1
    obtain ⟨iN, hiN, rfl⟩ := nI_of cx
    have hab : a ≠ b := fun z => c.2.2 (by rw [z])
    obtain ⟨⟨-, -, -, -, q5⟩, s0, hs0, es0⟩ := h.at ha
    by_cases ct : trd (F 11) (F 12) (F 13) a b
    · have h2 := h.sr n a b s0
      have r : ∀ x, x ≠ 29 → x ≠ 30 → x ≠ 31 → x ≠ 32 → srch F n a b s0 x = F x := fun x h1 h2 h3 h4 => srch_row h1 h2 h3 h4
      have hpr := h.ppr.of (G' := srch F n a b s0) (r 51 (by decide) (by decide) (by decide) (by decide)) (r 52 (by decide) (by decide) (by decide) (by decide)) (r 53 (by decide) (by decide) (by decide) (by decide)) (r 54 (by decide) (by decide) (by decide) (by decide)) (r 56 (by decide) (by decide) (by decide) (by decide))
      have hw := way_eq (n := n) (a := a) hs0 (far_eq (b := b) hn hpr ha hb hs0) (fun v => lf_free hn hpr ha hb hs0 v) (lfF_fb _ n a b s0) hiN
      exact pr3 (x_way1 E L F hc n hn5 hn a b ha hb hab s0 es0 hs0 iN hiN ct) (me_way E L _ l0 n h2.2.2.1.1 a b s0 ha hb (by rw [r 56 (by decide) (by decide) (by decide) (by decide), q5]; exact es0) hs0 hab iN hiN) (by rw [← hw]) (h2.lf n a b s0).i (by decide) (by decide)
    · have e : lfF F n a b s0 63 s0 = -1 := far_none hn h.ppr ha hb hs0 ct
      refine pr3 (x_way0 E L F hc n hn5 hn a b ha hb hab iN hiN ct) (me_way E L F l0 n hm a b s0 ha hb (by rw [q5]; exact es0) hs0 hab iN hiN) ?_ (h.lf n a b s0).i (by decide) (by decide)
      rw [wyO, if_neg (by omega), if_pos (show wyD (lfF F n a b s0) n a s0 = -1 by unfold wyD; rw [e, if_neg (by decide)])]
  · have c' : ¬ ((0 ≤ p ∧ p < nI n) ∧ (0 ≤ q ∧ q < nI n) ∧ ¬ p = q) ∨ x < 0 := by
      rcases Classical.not_and_iff_not_or_not.mp c with z | z
      · exact Or.inl z
      · exact Or.inr (Classical.not_not.mp z)
    exact pr3 (x_way_bad E L F p q x (by rw [hn5, two_iff]; exact c')) (y_way_bad E L F l0 n hm p q x c') rfl h.i (by decide) (by decide)
theorem pr_hinders (h : IV F l0 l1 n m) (p w : Int32) : PrF E L mX10_hinders mX11_hinders [.int p, .int w] F := by
  obtain ⟨hc, ht, ⟨hm, hf⟩, hp, hfi, hst, hps, hfd, hsh⟩ := id h
  obtain ⟨⟨hn, hn5, hn3⟩, hpp⟩ := id hp
  by_cases c : (0 ≤ p ∧ p < nI n) ∧ ¬ (w < 0 ∨ 1 < w)
  · obtain ⟨a, ha, rfl⟩ := of_n (by omega) c.1
    rcases of1 c.2 with rfl | rfl
    · exact pr3 (x_hinders0 E L F n hn5 hn a ha) (y_hinders E L F l0 n hm a ha 0 c.2) (by rw [if_pos rfl, a_hind0 h.ppr]) (h.ly n).i (by decide) (by decide)
    · exact pr3 (x_hinders1 E L F n hn5 hn a ha) (y_hinders E L F l0 n hm a ha 1 c.2) (by rw [if_neg (by decide), a_hind1 h.ppr]) (h.ly n).i (by decide) (by decide)
  · have c' : ¬ (0 ≤ p ∧ p < nI n) ∨ w < 0 ∨ 1 < w := by
      rcases Classical.not_and_iff_not_or_not.mp c with z | z
      · exact Or.inl z
      · exact Or.inr (Classical.not_not.mp z)
    exact pr3 (x_hinders_bad E L F p w (by rw [hn5]; exact c')) (y_hinders_bad E L F l0 n hm p w c') rfl h.i (by decide) (by decide)
/-- a change of the posts alone -/
theorem IV.posts {F' : FF} {m' : Nat} (h : IV F l0 l1 n m) (hr : ∀ a, a ≠ 33 → a ≠ 34 → a ≠ 65 → a ≠ 48 → F' a = F a) (h48 : ∀ j, j ≠ 21 → F' 48 j = F 48 j) (hp : PS2 F' m') : IV F' l0 l1 n m' := by
  obtain ⟨hc, ht, ⟨hm, hf⟩, hpp, hfi, hst, hps, hfd, hsh⟩ := h
  have r : ∀ a, (a ≠ 33 ∧ a ≠ 34 ∧ a ≠ 65 ∧ a ≠ 48) → F' a = F a := fun a z => hr a z.1 z.2.1 z.2.2.1 z.2.2.2
  obtain ⟨hm', hf'⟩ := hm.of (F' := F') (h48 3 (by decide)) (by rw [r 49 (by decide)]) (r 50 (by decide)) (r 52 (by decide)) (r 53 (by decide)) (r 54 (by decide)) (r 55 (by decide))
  refine ⟨hc.of (r 1 (by decide)) (r 2 (by decide)) (r 3 (by decide)) (r 4 (by decide)), ?_, ⟨hm', by rw [hf', r 10 (by decide)]; exact hf⟩, hpp.of (by rw [r 10 (by decide)]) (h48 3 (by decide)) (fun a ha => r a (by omega)), hfi.of (r 9 (by decide)) (r 18 (by decide)) (r 19 (by decide)) (r 20 (by decide)) (r 21 (by decide)), by rw [r 51 (by decide), r 17 (by decide)]; exact hst, hp, by rw [r 5 (by decide), h48 31 (by decide)]; exact hfd, fun s hs => (hsh s hs).of (r _ (by omega)) (r _ (by omega)) (r 69 (by decide)) (r 70 (by decide)) (r 71 (by decide)) (r 72 (by decide))⟩
  unfold TxR; rw [r 6 (by decide), r 7 (by decide), r 8 (by decide), r 9 (by decide), r 49 (by decide), r 50 (by decide)]; exact ht
theorem pr_post (h : IV F l0 l1 n m) (x : Int32) : PrF E L mX10_post mX11_post [.int x] F := by
  obtain ⟨hc, ht, hmf, hp, hfi, hst, ⟨p1, p2, p3, p4⟩, hfd, hsh⟩ := id h
  by_cases c : 0 ≤ x ∧ x < 1024
  · by_cases d : m < 8
    · refine pr3 (x_post E L F x c m p2 d) (y_post E L _ x c m (by rw [up2_row (by decide), up2_row (by decide)]; exact p3) d) rfl (IV.posts (m' := m + 1) h (fun a h1 h2 h3 h4 => ?_) (fun j hj => ?_) ⟨by omega, ?_, ?_, fun j hj => ?_⟩).i (by decide) (by decide)
      · rw [up2_row h4, up2_row h3, up2_row h1, up2_row h2]
      · rw [show ∀ (X : FF) y, up2 X 48 21 y 48 j = X 48 j from fun X y => by simp [up2, hj], up2_row (by decide), up2_row (by decide), up2_row (by decide)]
      · rw [up2_row (by decide), up2_row (by decide), up2_same]
      · rw [up2_same]
      · rw [up2_row (a := 65) (by decide), up2_up1, up2_row (a := 65) (by decide), up2_row (a := 65) (by decide), up2_row (a := 34) (by decide), up2_row (a := 34) (by decide), up2_row (a := 34) (by decide), up2_up1]
        unfold up1
        by_cases z : j = m
        · rw [if_pos z, if_pos z]
        · rw [if_neg z, if_neg z]; exact p4 j (by omega)
    · have em : m = 8 := by omega
      subst em
      exact pr3 (x_post_full E L F x c (by rw [p2]; decide)) (y_post_full E L F x c (by rw [p3]; rfl)) rfl h.i (by decide) (by decide)
  · exact pr3 (x_post_bad E L F x c) (y_post_bad E L F x c) rfl h.i (by decide) (by decide)
theorem pr_gone (h : IV F l0 l1 n m) : PrF E L mX10_gone mX11_gone [] F := by
  obtain ⟨hc, ht, hmf, hp, hfi, hst, ⟨p1, p2, p3, p4⟩, hfd, hsh⟩ := id h
  refine pr3 (x_gone E L F) (y_gone E L _) (by rw [up2_row (by decide), p3, p2]) (IV.posts (m' := 0) h (fun a h1 h2 h3 h4 => ?_) (fun j hj => ?_) ⟨by omega, ?_, ?_, fun j hj => absurd hj (by omega)⟩).i (by decide) (by decide)
  · rw [up2_row h4, up2_row h1]
  · rw [show ∀ (X : FF) y, up2 X 48 21 y 48 j = X 48 j from fun X y => by simp [up2, hj], up2_row (by decide)]
  · rw [up2_row (by decide), up2_same]; rfl
  · rw [up2_same]; rfl
theorem pr_sees (h : IV F l0 l1 n m) : PrF E L mX10_sees mX11_sees [] F := by
  obtain ⟨hc, ht, hmf, hp, hfi, hst, ⟨p1, p2, p3, p4⟩, hfd, hsh⟩ := id h
  exact pr3 (x_sees E L F m p2 p1) (y_sees E L F m p3 p1) (by rw [a_sees p4 (hst 0 (by omega))]) h.i (by decide) (by decide)
theorem pr_more (h : IV F l0 l1 n m) (x : Int32) : PrF E L mX10_more mX11_more [.int x] F := by
  obtain ⟨hc, ht, hmf, hp, hfi, hst, ⟨p1, p2, p3, p4⟩, hfd, hsh⟩ := id h
  by_cases c : x < 0 ∨ 1 < x
  · exact pr3 (x_more_bad E L F x c) (y_more_bad E L F x c) rfl h.i (by decide) (by decide)
  · have e := a_more (F := F) (G := F) p1 p4 (hst 0 (by omega))
    rcases of1 c with rfl | rfl
    · exact pr3 (x_more0 E L F m p2 p1) (y_more E L F m p3 p1 0 c) (by rw [if_pos rfl, e]) h.i (by decide) (by decide)
    · exact pr3 (x_more1 E L F m p2 p1) (y_more E L F m p3 p1 1 c) (by rw [if_neg (by decide), e]) h.i (by decide) (by decide)
theorem pr_both (h : IV F l0 l1 n m) (p q x : Int32) : PrF E L mX10_both mX11_both [.int p, .int q, .int x] F := by
  obtain ⟨hc, ht, hmf, hp, hfi, hst, ⟨p1, p2, p3, p4⟩, hfd, hsh⟩ := id h
  by_cases c : (0 ≤ p ∧ p < nI m) ∧ (0 ≤ q ∧ q < nI m) ∧ ¬ p = q ∧ ¬ x < -1
  · obtain ⟨a, ha, rfl⟩ := of_n (by omega) c.1
    obtain ⟨b, hb, rfl⟩ := of_n (by omega) c.2.1
    have hab : a ≠ b := fun z => c.2.2.1 (by rw [z])
    have hx := Int32.not_lt.mp c.2.2.2
    have hcm : ∀ w, _ := fun w => a_cm (w := w) (F := F) (G := F) ha hb p4 (hst 0 (by omega))
    by_cases d : x = -1
    · subst d
      exact pr3 (x_both_none E L F m p2 p1 a b ha hb hab) (y_both E L F m p3 p1 a b ha hb hab (-1) hx) (congrArg Value.int (mb_none hcm 1024 0 0 (by omega))) h.i (by decide) (by decide)
    · exact pr3 (x_both E L F m p2 p1 a b ha hb hab x hx d) (y_both E L F m p3 p1 a b ha hb hab x hx) (by rw [mb_some d hcm 1024 0 0, show x - 0 = x from (by grind)]) h.i (by decide) (by decide)
  · have c' : ¬ (0 ≤ p ∧ p < nI m) ∨ ¬ (0 ≤ q ∧ q < nI m) ∨ p = q ∨ x < -1 := by
      by_cases z1 : 0 ≤ p ∧ p < nI m
      · by_cases z2 : 0 ≤ q ∧ q < nI m
        · by_cases z3 : p = q
          · exact Or.inr (Or.inr (Or.inl z3))
          · by_cases z4 : x < -1
            · exact Or.inr (Or.inr (Or.inr z4))
            · exact absurd ⟨z1, z2, z3, z4⟩ c
        · exact Or.inr (Or.inl z2)
      · exact Or.inl z1
    exact pr3 (x_both_bad E L F p q x (by rw [p2]; exact c')) (y_both_bad E L F m p3 p1 p q x c') rfl h.i (by decide) (by decide)
theorem pr_other (h : IV F l0 l1 n m) (p q w : Int32) : PrF E L mX10_other mX11_other [.int p, .int q, .int w] F := by
  obtain ⟨hc, ht, ⟨hm, hf⟩, hp, hfi, hst, hps, hfd, hsh⟩ := id h
  obtain ⟨⟨hn, hn5, hn3⟩, hpp⟩ := id hp
  by_cases c : p < 1 ∨ 90 < q ∨ q < p ∨ w < 0 ∨ 1 < w
  · exact pr3 (x_other_bad E L F p q w c) (y_other_bad E L F p q w c) rfl h.i (by decide) (by decide)
  · have c1 : ¬ p < 1 := fun z => c (Or.inl z)
    have c2 : ¬ 90 < q := fun z => c (Or.inr (Or.inl z))
    have c3 : ¬ q < p := fun z => c (Or.inr (Or.inr (Or.inl z)))
    have c4 : ¬ (w < 0 ∨ 1 < w) := fun z => c (Or.inr (Or.inr (Or.inr z)))
    have hp0 : ¬ p < 0 := fun z => c1 (Int32.lt_trans z (by decide))
    obtain ⟨f, hf0, rfl⟩ := nI_of hp0
    have hq0 : ¬ q < 0 := fun z => c3 (Int32.lt_of_lt_of_le z (nI_pos' hf0))
    obtain ⟨t, ht0, rfl⟩ := nI_of hq0
    have f1 : 1 ≤ f := (nI_leI (a := 1) (by omega) hf0).mp (Int32.not_lt.mp c1)
    have t90 : t ≤ 90 := (nI_leI (b := 90) ht0 (by omega)).mp (Int32.not_lt.mp c2)
    have ft : f ≤ t := (nI_leI hf0 ht0).mp (Int32.not_lt.mp c3)
    have e := a_other (F := F) (G := F) (f := f) (t := t) hn h.ppr ft
    rcases of1 c4 with rfl | rfl
    · exact pr3 (x_other0 E L F n hn5 hn f t f1 ft t90) (y_other E L F l0 n hm f t f1 ft t90 0 c4) (by rw [if_pos rfl, e]) (h.ly n).i (by decide) (by decide)
    · exact pr3 (x_other1 E L F n hn5 hn f t f1 ft t90) (y_other E L F l0 n hm f t f1 ft t90 1 c4) (by rw [if_neg (by decide), e]) (h.ly n).i (by decide) (by decide)
theorem pr_broker (h : IV F l0 l1 n m) (w : Int32) : PrF E L mX10_broker mX11_broker [.int w] F := by
  obtain ⟨hc, ht, ⟨hm, hf⟩, hp, hfi, hst, hps, hfd, hsh⟩ := id h
  obtain ⟨⟨hn, hn5, hn3⟩, hpp⟩ := id hp
  by_cases c : w < 0 ∨ 1 < w
  · exact pr3 (x_broker_bad E L F w c) (y_broker_bad E L F w c) rfl h.i (by decide) (by decide)
  · have hth : ThOK F n := fun p hp => (hpp p hp).2.1
    have fin : ∀ (F1 : FF), (∀ a, a ≠ 35 → a ≠ 36 → a ≠ 37 → a ≠ 38 → F1 a = F a) → IV F1 l0 l1 n m ∧ ThM F1 n ∧ (fun w => mPg (coL n n 0 (ly F1 n)) n ((coL n n 0 (ly F1 n)) 66) (nI w)) = (fun w => cPf F n (alL n n 0 F 36) (nI w)) := fun F1 hr => by
      refine ⟨h.row (fun a ha => hr a (by unfold imp at ha; omega) (by unfold imp at ha; omega) (by unfold imp at ha; omega) (by unfold imp at ha; omega)), fun p hp => ?_, a_broker (h.ppr.of (hr 51 (by decide) (by decide) (by decide) (by decide)) (hr 52 (by decide) (by decide) (by decide) (by decide)) (hr 53 (by decide) (by decide) (by decide) (by decide)) (hr 54 (by decide) (by decide) (by decide) (by decide)) (hr 56 (by decide) (by decide) (by decide) (by decide)))⟩
      obtain ⟨t, t1, t2⟩ := (hpp p hp).2.1
      exact ⟨t, t1, by rw [hr 53 (by decide) (by decide) (by decide) (by decide), (hpp p hp).1.2.1]; exact t2⟩
    have keepB : ∀ (F1 F2 : FF), IV F1 l0 l1 n m → (∀ a, a ≠ 67 → a ≠ 68 → F2 a = coL n n 0 (ly F1 n) a) → INV F2 := fun F1 F2 h1 hr => (h1.row (F' := F2) (fun a ha => by
      rw [hr a (by unfold imp at ha; omega) (by unfold imp at ha; omega), coL_row (by unfold imp at ha; omega), ly_row (by unfold imp at ha; omega)])).i
    rcases of1 c with rfl | rfl
    · refine ⟨16, Nat.le_refl _, Ev2.post (x_broker0 E L F n hn5 hn hth) (fun r1 F1 q => ?_)⟩
      obtain ⟨g1, g2, g3⟩ := fin F1 q.2
      refine ⟨_, 16, Nat.le_refl _, q.1, Ev2.post (y_broker E L F1 l0 n g1.2.2.1.1 g2 0 c) (fun r2 F2 q2 => ⟨?_, keepB F1 F2 g1 q2.2⟩)⟩
      rw [q2.1, if_pos rfl, g3]
    · refine ⟨16, Nat.le_refl _, Ev2.post (x_broker1 E L F n hn5 hn hth) (fun r1 F1 q => ?_)⟩
      obtain ⟨g1, g2, g3⟩ := fin F1 q.2
      refine ⟨_, 16, Nat.le_refl _, q.1, Ev2.post (y_broker E L F1 l0 n g1.2.2.1.1 g2 1 c) (fun r2 F2 q2 => ⟨?_, keepB F1 F2 g1 q2.2⟩)⟩
      rw [q2.1, if_neg (by decide), g3]
theorem pr_count (h : IV F l0 l1 n m) (w : Int32) : PrF E L mX10_count mX11_count [.int w] F := by
  obtain ⟨hc, ht, ⟨hm, hf⟩, hp, hfi, hst, hps, hfd, hsh⟩ := id h
  obtain ⟨⟨hn, hn5, hn3⟩, hpp⟩ := id hp
  by_cases c : w.toInt < 0 ∨ 8 < w.toInt
  · exact pr3 (x_count_bad E L F w c) (y_count_bad E L F w c) rfl h.i (by decide) (by decide)
  · obtain ⟨j, hj, rfl⟩ := of8 c
    rcases (by omega : j = 0 ∨ j = 1 ∨ j = 2 ∨ j = 3 ∨ j = 4 ∨ j = 5 ∨ j = 6 ∨ j = 7 ∨ j = 8) with z | z | z | z | z | z | z | z | z <;> subst z
    · exact pr3 (x_count0 E L F) (y_count0 E L F l0 n hm) (by rw [hn5]) h.i (by decide) (by decide)
    · exact pr3 (x_count1 E L F) (y_count1 E L F) (by rw [ht.1.1, hm.1]) h.i (by decide) (by decide)
    · exact pr3 (x_count2 E L F) (y_count2 E L F) (by rw [ht.2.1, ht.2.2.1]) h.i (by decide) (by decide)
    · obtain ⟨s, f1, f2, f3, f4, f5⟩ := fair_s (G := F) ht.2.2.2.1 hn hfi h.tat1
      exact pr3 (x_count3 E L F) (y_count3 E L F l0 n hm l1 ht.2.2.2.1 ht.2.2.1) (by rw [f3]) (h.fds _ _).i (by decide) (by decide)
    · exact pr3 (x_count4 E L F) (y_count4 E L F) (by rw [hps.2.1, hps.2.2.1]) h.i (by decide) (by decide)
    · exact pr3 (x_count5 E L F) (y_count5 E L F) (by rw [hst 0 (by omega)]) h.i (by decide) (by decide)
    · exact pr3 (x_count6 E L F) (y_count6 E L F) (by rw [hst 1 (by omega)]) h.i (by decide) (by decide)
    · exact pr3 (x_count7 E L F) (y_count7 E L F) (by rw [hst 2 (by omega)]) h.i (by decide) (by decide)
    · exact pr3 (x_count8 E L F) (y_count8 E L F) (by rw [hfd]) h.i (by decide) (by decide)
end PR2
