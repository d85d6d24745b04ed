/-! The answers of both are the same numbers, by hand. -/
theorem a_pairs {n : Nat} {F G : FF} (h : PPr n F G) (due : Int32) : sumB (gMP (ly G n) n due) n 0 0 = cBP F n due := by
  unfold cBP
  refine sum_eq (N := n) (fun a b hb ha => ?_) n (Nat.le_refl _)
  unfold gMP gBP
  rw [vd_ly h ha (by omega), cvd_sym]
theorem a_hind0 {n p : Nat} {F G : FF} (h : PPr n F G) : sumB (gMH (ly G n) n p) n 0 0 = cHN F n p 0 := by
  unfold cHN
  refine sum_eq (N := n) (fun a b hb ha => ?_) n (Nat.le_refl _)
  unfold gMH gHN mhC hndC
  rw [ly_row (a := 51) (by decide), h.2.2 0 (by omega), vd_ly h ha (by omega), vd_ly h ha (by omega), cvd_sym (a := a) (w := -1), cvd_sym (a := a) (w := nI p), if_pos rfl]
  exact ite_iff ⟨fun z => ⟨z.2.1, z.1, z.2.2.2, z.2.2.1⟩, fun z => ⟨z.2.1, z.1, z.2.2.2, z.2.2.1⟩⟩
theorem a_hind1 {n p : Nat} {F G : FF} (h : PPr n F G) : sumB (gMW (ly G n) n p) n 0 0 = cHN F n p 1 := by
  unfold cHN
  refine sum_eq (N := n) (fun a b hb ha => ?_) n (Nat.le_refl _)
  unfold gMW gHN mhC hndC
  rw [ly_row (a := 51) (by decide), h.2.2 0 (by omega), vd_ly h ha (by omega), vd_ly h ha (by omega), cvd_sym (a := a) (w := -1), cvd_sym (a := a) (w := nI p), if_neg (show ¬ (1 : Int32) = 0 by decide)]
  by_cases c : b ≠ p ∧ a ≠ p ∧ cvd F (F 15) n (F 17 0) (nI p) b a = 0 ∧ ¬ cvd F (F 15) n (F 17 0) (-1) b a = 0
  · rw [if_pos c, if_pos ⟨c.2.1, c.1, c.2.2.2, c.2.2.1⟩]
    rw [gan_gen (F := F) (n := n) (fun q hq => by rw [ly_row (by decide)]; exact (h.1 q hq).1) (fun q hq => by rw [ly_row (by decide)]; exact (h.1 q hq).2.2.1) ha (by omega)]
    exact (gan_sym (cvd_trd c.2.2.1)).symm
  · rw [if_neg c, if_neg (fun z => c ⟨z.2.1, z.1, z.2.2.2, z.2.2.1⟩)]
theorem cBP_nn {F : FF} {n : Nat} (hn : n ≤ 10) (due : Int32) : ∃ d : Nat, d ≤ 100 ∧ cBP F n due = nI d := by
  obtain ⟨d, h1, h2, h3⟩ := sumO_nn (g := gBP F (F 15) n due) (n := n) (fun a b => by unfold gBP; split <;> simp) n 0 0
  refine ⟨d, ?_, h3⟩
  have : n * n ≤ 10 * 10 := Nat.mul_le_mul hn hn
  omega
theorem a_other {n f t : Nat} {F G : FF} (hn : n ≤ 10) (h : PPr n F G) (hft : f ≤ t) : brL (fun j => sumB (gMP (ly G n) n (nI j)) n 0 0) (t + 1 - f) f (nI f) (-1) = (nI (cBD F n f t), cBP F n (nI (cBD F n f t))) := by
  rw [show (fun j => sumB (gMP (ly G n) n (nI j)) n 0 0) = (fun j => cBP F n (nI j)) from funext (fun j => a_pairs h (nI j)), show t + 1 - f = (t - f) + 1 by omega]
  obtain ⟨d, hd, e⟩ := cBP_nn (F := F) hn (nI f)
  exact brL_from (g := fun j => cBP F n (nI j)) (by show (-1 : Int32) < cBP F n (nI f); rw [e]; exact m1_lt (by omega))
theorem a_sees {m : Nat} {F G : FF} (hp : ∀ j, j < m → G 65 j = F 34 j) (h0 : G 51 0 = F 17 0) : sumB (gMS G) m 0 0 = sumO (gPA (F 34) (F 17 0 * F 17 0)) m m 0 0 := by
  refine sum_eq (N := m) (fun a b hb ha => ?_) m (Nat.le_refl _)
  unfold gMS gPA
  rw [hp a ha, hp b (by omega), h0, awy_comm]
theorem a_more {m : Nat} {F G : FF} (hm : m ≤ 8) (hp : ∀ j, j < m → G 65 j = F 34 j) (h0 : G 51 0 = F 17 0) : brL (fun w => sumI (gMO G w) m 0 0) 1024 0 0 (-1) = (nI (bdL (fun w => seenS (F 34) m (nI w) (F 17 0 * F 17 0)) 1024 0 0 0), seenS (F 34) m (nI (bdL (fun w => seenS (F 34) m (nI w) (F 17 0 * F 17 0)) 1024 0 0 0)) (F 17 0 * F 17 0)) := by
  have e : (fun w => sumI (gMO G w) m 0 0) = (fun w => seenS (F 34) m (nI w) (F 17 0 * F 17 0)) := funext (fun w => by
    unfold seenS
    refine sumI_c m 0 0 (fun j h1 h2 => ?_)
    unfold gMO gSF
    rw [hp j (by omega), h0, awy_comm])
  rw [e]
  obtain ⟨d, h1, h2, h3⟩ := sumI_nn (g := gSF (F 34) (nI 0) (F 17 0 * F 17 0)) m 0 0 (fun j _ _ => by unfold gSF; split <;> simp)
  have e0 : seenS (F 34) m (nI 0) (F 17 0 * F 17 0) = nI d := h3
  have hb := bdL_from0 (g := fun w => seenS (F 34) m (nI w) (F 17 0 * F 17 0)) (k := 1023) (by show ¬ seenS (F 34) m (nI 0) (F 17 0 * F 17 0) < 0; rw [e0]; exact nI_pos (by omega))
  have hr := brL_from (g := fun w => seenS (F 34) m (nI w) (F 17 0 * F 17 0)) (f := 0) (k := 1023) (b0 := 0) (by show (-1 : Int32) < seenS (F 34) m (nI 0) (F 17 0 * F 17 0); rw [e0]; exact m1_lt (by omega))
  have hb' : bdL (fun w => seenS (F 34) m (nI w) (F 17 0 * F 17 0)) 1024 0 0 0 = _ := hb
  rw [hb']; exact hr
theorem a_cm {a b w m : Nat} {F G : FF} (ha : a < m) (hb : b < m) (hp : ∀ j, j < m → G 65 j = F 34 j) (h0 : G 51 0 = F 17 0) : (awy (nI w) (G 65 a) = G 51 0 * G 51 0 ∧ awy (nI w) (G 65 b) = G 51 0 * G 51 0) ↔ isCm (F 34) a b (F 17 0 * F 17 0) w := by
  unfold isCm; rw [hp a ha, hp b hb, h0, awy_comm (nI w), awy_comm (nI w)]
theorem a_broker {n : Nat} {F G : FF} (h : PPr n F G) : (fun w => mPg (coL n n 0 (ly G n)) n ((coL n n 0 (ly G n)) 66) (nI w)) = (fun w => cPf F n (alL n n 0 F 36) (nI w)) := by
  funext w
  have e57 : ∀ j, j < n → ly G n 57 j = F 15 j := fun j hj => by rw [ly_57 hj]; exact (h.1 j hj).2.2.2
  unfold mPg cPf
  rw [coL_row (x := 52) (by decide), coL_row (x := 53) (by decide), coL_row (x := 54) (by decide), coL_row (x := 57) (by decide), coL_row (x := 51) (by decide), ly_row (a := 52) (by decide), ly_row (a := 53) (by decide), ly_row (a := 54) (by decide), ly_row (a := 51) (by decide), h.2.2 0 (by omega), h.2.2 1 (by omega)]
  refine pf_pm (n := n) (fun q hq => (h.1 q hq).1) (fun q hq => (h.1 q hq).2.1) (fun q hq => (h.1 q hq).2.2.1) e57 (fun q hq => ?_) h.2.1 n 0 _ _ _ (by omega) (fun j => Or.inl rfl) (fun j => Or.inl ⟨rfl, rfl⟩)
  rw [coL_66, alL_36, if_pos (show 0 ≤ q ∧ q < 0 + n by omega), if_pos (show 0 ≤ q ∧ q < 0 + n by omega), ly_row (a := 51) (by decide), h.2.2 1 (by omega), fnr_c e57 hq hq n 0 (by omega)]
  by_cases c : fnr (F 15) q q (-1) (F 17 1 * F 17 1) n 0 = -1
  · rw [if_pos c]; exact ⟨fun _ => by decide, fun _ => rfl⟩
  · rw [if_neg c]; exact ⟨fun z => absurd z (by decide), fun z => absurd rfl z⟩
theorem jcL_at {n : Nat} : ∀ (k p : Nat) (F : FF) (j : Nat), p ≤ j → j < p + k → jcL k p F 23 j = F 15 j ∧ jcL k p F 24 j = 0
  | 0, p, F, j, h1, h2 => absurd h2 (by omega)
  | k + 1, p, F, j, h1, h2 => by
    rw [jcL]
    rcases Nat.lt_or_eq_of_le h1 with z | z
    · have := jcL_at (n := n) k (p + 1) (up2 (up2 F 23 p (F 15 p)) 24 p 0) j z (by omega)
      rw [up2_row (a := 15) (by decide), up2_row (a := 15) (by decide)] at this; exact this
    · subst z
      have low : ∀ (k q : Nat) (F : FF), p < q → jcL k q F 23 p = F 23 p ∧ jcL k q F 24 p = F 24 p := by
        intro k
        induction k with
        | zero => intro q F _; exact ⟨rfl, rfl⟩
        | succ k ih =>
          intro q F hq
          rw [jcL]
          obtain ⟨i1, i2⟩ := ih (q + 1) (up2 (up2 F 23 q (F 15 q)) 24 q 0) (by omega)
          rw [i1, i2]
          exact ⟨by simp [up2, show p ≠ q by omega], by simp [up2, show p ≠ q by omega]⟩
      obtain ⟨i1, i2⟩ := low k (p + 1) (up2 (up2 F 23 p (F 15 p)) 24 p 0) (by omega)
      rw [i1, i2]
      exact ⟨by simp [up2], by simp [up2]⟩
/-- the fair of both, ready to be judged -/
theorem fair_s {F G : FF} {l1 n : Nat} (hl : l1 ≤ 60) (hn : n ≤ 10) (hfi : FI F l1 n) (ht : ∀ j, tat l1 (B1 G) j = tat l1 (F 9) j) : ∃ s, FairOK F n s ∧ MFair (fds G l1 n).2 n s ∧ (fds G l1 n).2 48 10 = F 18 3 ∧ F 18 4 = (fds G l1 n).1 ∧ FRow F (fds G l1 n).2 s := by
  obtain ⟨h1, s, s1, s2, s3, s4⟩ := hfi G ht
  obtain ⟨s', hm⟩ := fds_ok (F := G) hl hn
  have hs20 := hm.2.1
  have es : s' = s := (nI_eq (by omega) (by omega)).mp (hm.1.symm.trans s3)
  subst es
  refine ⟨s', ⟨s2, s1, fun q hq => ?_⟩, hm, s3.trans s2.symm, h1, s4⟩
  obtain ⟨a, b, ha, e1, e2, hk⟩ := hm.2.2 q hq
  obtain ⟨r1, r2, r3⟩ := s4 q hq
  exact ⟨a, b, ha, r1.trans e1, r2.trans e2, by rw [r3]; exact hk⟩
theorem a_jud {F G : FF} {l1 n s : Nat} (hn : n ≤ 10) (h : PPr n F G) (hF : FairOK F n s) (hR : FRow F (fds G l1 n).2 s) :
    (mjF (fds G l1 n).2 n s 48 16 = jgF F n s 22 3 ∧ mjF (fds G l1 n).2 n s 48 17 = jgF F n s 22 4 ∧ mjF (fds G l1 n).2 n s 48 18 = jgF F n s 22 5) ∧ ∀ p, p < n → mjF (fds G l1 n).2 n s 57 p = jgF F n s 23 p := by
  have hr := jcL_row n 0 F
  have eF : ∀ a, a ≠ 22 → a ≠ 23 → a ≠ 24 → up2 (up2 (up2 (jcL n 0 F) 22 4 0) 22 5 0) 22 3 (-1) a = F a := fun a h1 h2 h3 => by rw [up2_row h1, up2_row h1, up2_row h1]; exact hr a h2 h3
  have eG : ∀ a, a ≠ 48 → a ≠ 57 → a ≠ 58 → a ≠ 59 → a ≠ 60 → up2 (up2 (up2 (ly (fds G l1 n).2 n) 48 16 (-1)) 48 17 0) 48 18 0 a = G a := fun a h1 h2 h3 h4 h5 => by rw [up2_row h1, up2_row h1, up2_row h1, ly_row h2, fds_row h1 h3 h4 h5]
  have eG2 : ∀ a, a ≠ 48 → a ≠ 57 → up2 (up2 (up2 (ly (fds G l1 n).2 n) 48 16 (-1)) 48 17 0) 48 18 0 a = (fds G l1 n).2 a := fun a h1 h2 => by rw [up2_row h1, up2_row h1, up2_row h1, ly_row h2]
  unfold mjF jgF
  refine jg_mj (s := s) hn s 0 0 _ _ (by omega) ⟨fun p hp => ?_, ?_, fun j hj => ?_, fun q hq => ?_, fun q hq => ?_⟩ ⟨⟨?_, ?_, ?_⟩, fun p hp => ?_, by omega, fun p hp => ?_⟩
  · rw [eG 52 (by decide) (by decide) (by decide) (by decide) (by decide), eG 53 (by decide) (by decide) (by decide) (by decide) (by decide), eG 54 (by decide) (by decide) (by decide) (by decide) (by decide), eF 11 (by decide) (by decide) (by decide), eF 12 (by decide) (by decide) (by decide), eF 13 (by decide) (by decide) (by decide)]
    exact ⟨(h.1 p hp).1, (h.1 p hp).2.1, (h.1 p hp).2.2.1⟩
  · rw [eF 13 (by decide) (by decide) (by decide)]; exact h.2.1
  · rw [eG 51 (by decide) (by decide) (by decide) (by decide) (by decide), eF 17 (by decide) (by decide) (by decide)]; exact h.2.2 j hj
  · rw [eG2 58 (by decide) (by decide), eG2 59 (by decide) (by decide), eG2 60 (by decide) (by decide), eF 19 (by decide) (by decide) (by decide), eF 20 (by decide) (by decide) (by decide), eF 21 (by decide) (by decide) (by decide)]
    obtain ⟨r1, r2, r3⟩ := hR q hq
    exact ⟨r1.symm, r2.symm, r3.symm⟩
  · rw [eF 19 (by decide) (by decide) (by decide), eF 20 (by decide) (by decide) (by decide), eF 21 (by decide) (by decide) (by decide)]
    exact hF.2.2 q hq
  · simp [up2]
  · simp [up2]
  · simp [up2]
  · rw [up2_row (a := 57) (by decide), up2_row (a := 57) (by decide), up2_row (a := 57) (by decide), ly_57 hp, fds_row (by decide) (by decide) (by decide) (by decide), up2_row (a := 23) (by decide), up2_row (a := 23) (by decide), up2_row (a := 23) (by decide), (jcL_at (n := n) n 0 F p (by omega) (by omega)).1]
    exact (h.1 p hp).2.2.2
  · rw [up2_row (a := 24) (by decide), up2_row (a := 24) (by decide), up2_row (a := 24) (by decide), (jcL_at (n := n) n 0 F p (by omega) (by omega)).2]
    exact ⟨fun z => by unfold tb at z; rw [Nat.zero_div] at z; exact absurd z (by decide), fun z => absurd rfl z⟩
