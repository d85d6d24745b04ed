/-! The people behind the text, and the fair's text: both the same, by hand. -/
theorem plcF_at {F : FF} {l p q : Nat} (h : q ≠ p) (a : Nat) : plcF F l p a q = F a q := by unfold plcF; simp [up2, h]
theorem plcL_at {l : Nat} : ∀ (k q : Nat) (F : FF) (p : Nat), (p < q ∨ q + k ≤ p → ∀ a, plcL l k q F a p = F a p) ∧ (q ≤ p → p < q + k → plcL l k q F 11 p = cKind (tat l (F 7) (p * 9)) ∧ plcL l k q F 12 p = fig (tat l (F 7) (p * 9 + 1)) ∧ plcL l k q F 13 p = nmb l (F 7) (p * 9 + 2) ∧ plcL l k q F 14 p = 32 * nmb l (F 7) (p * 9 + 6) + nmb l (F 7) (p * 9 + 4) ∧ plcL l k q F 15 p = 32 * nmb l (F 7) (p * 9 + 6) + nmb l (F 7) (p * 9 + 4))
  | 0, q, F, p => ⟨fun _ _ => rfl, fun h1 h2 => absurd h2 (by omega)⟩
  | k + 1, q, F, p => by
    rw [plcL]
    obtain ⟨i1, i2⟩ := plcL_at (l := l) k (q + 1) (plcF F l q) p
    have e7 : plcF F l q 7 = F 7 := plcF_row (by decide) (by decide) (by decide) (by decide) (by decide)
    refine ⟨fun h a => ?_, fun h1 h2 => ?_⟩
    · rw [i1 (by omega) a]; exact plcF_at (by omega) a
    · rcases Nat.lt_or_eq_of_le h1 with z | z
      · have := i2 z (by omega)
        rw [e7] at this; exact this
      · subst z
        rw [i1 (by omega) 11, i1 (by omega) 12, i1 (by omega) 13, i1 (by omega) 14, i1 (by omega) 15]
        unfold plcF
        simp [up2]
/-- what both know of people -/
def PP (n : Nat) (F : FF) : Prop := (n ≤ 10 ∧ F 10 5 = nI n ∧ F 48 3 = nI n) ∧ ∀ p, p < n → (F 52 p = F 11 p ∧ F 53 p = F 12 p ∧ F 54 p = F 13 p ∧ F 55 p = F 14 p ∧ F 56 p = F 15 p) ∧ (∃ t : Nat, t < 4 ∧ F 12 p = nI t) ∧ (∃ x : Nat, x < 100 ∧ F 13 p = nI x) ∧ (∃ s : Nat, s < 1024 ∧ F 14 p = nI s) ∧ (∃ s : Nat, s < 1024 ∧ F 15 p = nI s)
theorem tell_ok {l : Nat} (hl : l ≤ 90) {F G : FF} (ht : ∀ j, tat l (G 50) j = tat l (F 7) j) :
    (rds G l).1 = cFlt l (F 7) l 0 ∧ (rds G l).2 48 3 = nI (cCnt l (F 7)) ∧ ∀ p, p < cCnt l (F 7) →
      (((rds G l).2 52 p = tellF F l 11 p ∧ (rds G l).2 53 p = tellF F l 12 p ∧ (rds G l).2 54 p = tellF F l 13 p ∧ (rds G l).2 55 p = tellF F l 14 p ∧ (rds G l).2 55 p = tellF F l 15 p) ∧ (∃ t : Nat, t < 4 ∧ tellF F l 12 p = nI t) ∧ (∃ x : Nat, x < 100 ∧ tellF F l 13 p = nI x) ∧ (∃ s : Nat, s < 1024 ∧ tellF F l 14 p = nI s)) := by
  obtain ⟨h1, h2, h3⟩ := pp_ok hl (b := F 7) 11 0 (up2 G 48 3 0) rfl (by omega) (by omega) (fun j => by rw [up2_row (by decide)]; exact ht j) (up2_same _ _ _ _)
  have e : cF l (F 7) (0 * 9) = cFlt l (F 7) l 0 := by unfold cF; rw [Nat.zero_mul, Nat.sub_zero]
  rw [e] at h1
  rw [Nat.zero_mul] at h1 h2 h3
  have er : rds G l = mrdL l 11 0 0 (up2 G 48 3 0) := rfl
  rw [← er] at h1 h2 h3
  refine ⟨h1, ?_, fun p hp => ?_⟩
  · unfold cCnt
    by_cases c : cFlt l (F 7) l 0 = -1
    · rw [if_pos c, (h2 (h1.trans c)).1]
      congr 1
      split <;> omega
    · rw [if_neg c, h3 (fun z => c (h1.symm.trans z))]; exact nI_0.symm
  · have hcc : cFlt l (F 7) l 0 = -1 := by
      unfold cCnt at hp; split at hp
      · assumption
      · omega
    have hpm : p < (l + 1) / 9 := by
      unfold cCnt at hp; rw [if_pos hcc] at hp; split at hp <;> omega
    obtain ⟨⟨w1, ⟨u, hu, u1, u2⟩, ⟨x, hx, x1, x2⟩, ⟨y, hy, y1, y2⟩⟩, r1, r2, r3, r4⟩ := (h2 (h1.trans hcc)).2 p (by omega) hpm
    have ht7 : up2 (up2 F 10 6 (cFlt l (F 7) l 0)) 10 5 (nI (cCnt l (F 7))) 7 = F 7 := by rw [up2_row (by decide), up2_row (by decide)]
    obtain ⟨t1, t2, t3, t4, t5⟩ := (plcL_at (l := l) (cCnt l (F 7)) 0 (up2 (up2 F 10 6 (cFlt l (F 7) l 0)) 10 5 (nI (cCnt l (F 7)))) p).2 (by omega) (by omega)
    rw [ht7] at t1 t2 t3 t4 t5
    obtain ⟨d, hd, ed⟩ := dig_of (x := tat l (F 7) (p * 9 + 1)) ⟨w1.1, Int32.le_trans w1.2 (by decide)⟩
    have hd4 : d < 4 := by
      have := w1.2; rw [ed] at this
      have := (nI_leI (b := 51) (by omega) (by omega)).mp this
      omega
    have es : 32 * nI y + nI x = nI (32 * y + x) := by rw [show (32 : Int32) = nI 32 from rfl, pk_mul, nI_add]
    unfold tellF
    rw [t1, t2, t3, t4, t5, r1, r2, r3, r4, ed, fig_dig (by omega), sub_dig, u1, u2, x1, x2, y1, y2, es]
    exact ⟨⟨rfl, rfl, rfl, rfl, rfl⟩, ⟨d, hd4, rfl⟩, ⟨u, by omega, rfl⟩, ⟨32 * y + x, by omega, rfl⟩⟩
/-! the fair -/
theorem dg_n {n : Nat} (hn : n ≤ 10) {x : Int32} : (0 ≤ x - 48 ∧ x - 48 ≤ nI n - 1) ↔ ¬ (fig x = -1 ∨ ¬ fig x < nI n) := by
  rw [n1_iff hn]
  constructor
  · rintro ⟨h1, h2⟩
    obtain ⟨u, hu, e⟩ := nI_ex h1 h2 (by omega)
    have ex : x = nI (48 + u) := by rw [← nI_add, show nI 48 = (48 : Int32) from rfl, ← e]; grind
    rw [ex, fig_dig (by omega)]
    exact fun z => z.elim (nI_m1 (by omega)) (fun y => y (nI_lt hu (by omega)))
  · intro h
    have h1 : ¬ fig x = -1 := fun z => h (Or.inl z)
    have h2 : fig x < nI n := Classical.not_not.mp (fun z => h (Or.inr z))
    obtain ⟨u, hu, e⟩ := dig_of (fig_ne.mp h1)
    subst e
    rw [fig_dig hu] at h2
    rw [sub_dig]
    exact ⟨nI_pos' (by omega), h2⟩
theorem dg_8 {x : Int32} : (0 ≤ x - 48 ∧ x - 48 ≤ 7) ↔ ¬ (fig x = -1 ∨ ¬ (0 ≤ fig x ∧ fig x < 8)) := by
  have h8 := dg_n (n := 8) (by omega) (x := x)
  rw [show nI 8 - 1 = (7 : Int32) from by decide] at h8
  rw [h8]
  constructor
  · intro h z
    refine h (z.elim Or.inl (fun y => ?_))
    by_cases c : fig x = -1
    · exact Or.inl c
    · right; intro q
      obtain ⟨u, hu, e⟩ := dig_of (fig_ne.mp c)
      rw [e, fig_dig hu] at y q
      exact y ⟨nI_pos' (by omega), q⟩
  · intro h z
    exact h (z.elim Or.inl (fun y => Or.inr (fun q => y q.2)))
theorem dg_eq {x : Int32} (h : ¬ fig x = -1) : x - 48 = fig x := by
  obtain ⟨u, hu, e⟩ := dig_of (fig_ne.mp h)
  rw [e, fig_dig hu, sub_dig]
def FRow (F G : FF) (s : Nat) : Prop := ∀ q, q < s → F 20 q = G 58 q ∧ F 21 q = G 59 q ∧ F 19 q = G 60 q
theorem FRow.add {F G : FF} {part : Nat} {dn f1 f2 : Int32} (h : FRow F G part) : FRow (fairP F part dn f1 f2) (mfP G part dn f1 f2) (part + 1) := by
  intro q hq
  unfold fairP mfP
  by_cases c : q = part
  · subst c; simp [up2]
  · simp [up2, c]; exact h q (by omega)
def FRes (A B : Int32 × FF) : Prop := A.1 = B.1 ∧ (B.1 = -1 → ∃ s, s ≤ 20 ∧ A.2 18 3 = nI s ∧ B.2 48 10 = nI s ∧ FRow A.2 B.2 s) ∧ (¬ B.1 = -1 → B.2 48 10 = 0)
set_option maxHeartbeats 1000000 in
theorem ff_ok {l n : Nat} (hl : l ≤ 60) (hn : n ≤ 10) (hl0 : l ≠ 0) {b : Nat → Int32} : ∀ (k part at_ : Nat) (F G : FF), part + k = 20 → 3 * part ≤ at_ → at_ ≤ l → (part = 0 → at_ = 0) → (∀ j, tat l (F 9) j = tat l b j) → (∀ j, tat l (B1 G) j = tat l b j) → G 48 10 = 0 → FRow F G part → FRes (fairL l n k part at_ F) (mfL l n (k + 1) part at_ G) := by
  intro k
  induction k with
  | zero =>
    intro part at_ F G hk h3 hal hp0 hF hG h0 hR
    rw [fairL, mfL]
    simp only [hG]
    have e : tat l b at_ = -1 := tat_end (by omega)
    rw [if_neg (show ¬ (¬ at_ < l ∧ at_ = 0) by omega), e, if_neg (by decide), if_pos (fun z => absurd z.1 (by decide))]
    exact ⟨rfl, fun z => absurd z (nI_m1 (by omega)), fun _ => h0⟩
  | succ k ih =>
    intro part at_ F G hk h3 hal hp0 hF hG h0 hR
    have out : ∀ (v : Nat) (F' G' : FF), v < 1000 → G' 48 10 = 0 → FRes (nI v, F') (nI v, G') := fun v F' G' hv e => ⟨rfl, fun z => absurd z (nI_m1 (by omega)), fun _ => e⟩
    have hP9 : ∀ dn f1 f2, fairP F part dn f1 f2 9 = F 9 := fun dn f1 f2 => by unfold fairP; rw [up2_row (by decide), up2_row (by decide), up2_row (by decide), up2_row (by decide)]
    have hPB : ∀ dn f1 f2, B1 (mfP G part dn f1 f2) = B1 G := fun dn f1 f2 => by unfold B1; rw [mfP_row (by decide) (by decide) (by decide)]
    have hP48 : ∀ dn f1 f2, mfP G part dn f1 f2 48 = G 48 := fun dn f1 f2 => mfP_row (by decide) (by decide) (by decide)
    have h183 : ∀ dn f1 f2, fairP F part dn f1 f2 18 3 = nI (part + 1) := fun dn f1 f2 => by unfold fairP; rw [up2_same]
    have fin : ∀ dn f1 f2, FRes (-1, fairP F part dn f1 f2) (-1, up2 (mfP G part dn f1 f2) 48 10 (nI (part + 1))) := fun dn f1 f2 => by
      refine ⟨rfl, fun _ => ⟨part + 1, by omega, h183 dn f1 f2, up2_same (mfP G part dn f1 f2) 48 10 (nI (part + 1)), fun q hq => ?_⟩, fun z => absurd rfl z⟩
      have := (hR.add (dn := dn) (f1 := f1) (f2 := f2)) q hq
      show _ = up2 (mfP G part dn f1 f2) 48 10 (nI (part + 1)) 58 q ∧ _ = up2 (mfP G part dn f1 f2) 48 10 (nI (part + 1)) 59 q ∧ _ = up2 (mfP G part dn f1 f2) 48 10 (nI (part + 1)) 60 q
      rw [up2_row (a := 58) (by decide), up2_row (a := 59) (by decide), up2_row (a := 60) (by decide)]; exact this
    have nxt : ∀ dn f1 f2 at2, 3 * (part + 1) ≤ at2 → at2 ≤ l → FRes (fairL l n k (part + 1) at2 (fairP F part dn f1 f2)) (mfL l n (k + 1) (part + 1) at2 (mfP G part dn f1 f2)) := fun dn f1 f2 at2 q1 q2 =>
      ih (part + 1) at2 _ _ (by omega) q1 q2 (by omega) (fun j => by rw [hP9]; exact hF j) (fun j => by rw [hPB]; exact hG j) (by rw [hP48]; exact h0) hR.add
    rw [fairL, mfL]
    simp only [hG, hF]
    rw [if_neg (show ¬ (¬ at_ < l ∧ at_ = 0) by omega)]
    by_cases c1 : tat l b at_ = 61
    · rw [if_pos c1, if_pos c1]
      by_cases c2 : fig (tat l b (at_ + 1)) = -1 ∨ ¬ fig (tat l b (at_ + 1)) < nI n
      · rw [if_pos c2, if_pos (show ¬ (0 ≤ tat l b (at_ + 1) - 48 ∧ tat l b (at_ + 1) - 48 ≤ nI n - 1) from fun z => (dg_n hn).mp z c2)]
        exact out (at_ + 1) _ _ (by omega) h0
      · have d1 := (dg_n hn).mpr c2
        rw [if_neg c2, if_neg (show ¬ ¬ (0 ≤ tat l b (at_ + 1) - 48 ∧ tat l b (at_ + 1) - 48 ≤ nI n - 1) from fun z => z d1)]
        have n1 : ¬ fig (tat l b (at_ + 1)) = -1 := fun z => c2 (Or.inl z)
        rw [dg_eq n1]
        by_cases c3 : fig (tat l b (at_ + 1 + 1)) = -1 ∨ fig (tat l b (at_ + 1 + 1)) = fig (tat l b (at_ + 1)) ∨ ¬ fig (tat l b (at_ + 1 + 1)) < nI n
        · have c3' : ¬ (0 ≤ tat l b (at_ + 1 + 1) - 48 ∧ tat l b (at_ + 1 + 1) - 48 ≤ nI n - 1) ∨ tat l b (at_ + 1 + 1) - 48 = fig (tat l b (at_ + 1)) := by
            by_cases q : fig (tat l b (at_ + 1 + 1)) = -1 ∨ ¬ fig (tat l b (at_ + 1 + 1)) < nI n
            · exact Or.inl (fun z => (dg_n hn).mp z q)
            · right
              rw [dg_eq (fun z => q (Or.inl z))]
              exact c3.elim (fun z => absurd (Or.inl z) q) (fun z => z.elim id (fun y => absurd (Or.inr y) q))
          rw [if_pos c3, if_pos c3']
          exact out (at_ + 1 + 1) _ _ (by omega) h0
        · have n2 : ¬ fig (tat l b (at_ + 1 + 1)) = -1 := fun z => c3 (Or.inl z)
          have c3' : ¬ (¬ (0 ≤ tat l b (at_ + 1 + 1) - 48 ∧ tat l b (at_ + 1 + 1) - 48 ≤ nI n - 1) ∨ tat l b (at_ + 1 + 1) - 48 = fig (tat l b (at_ + 1))) := by
            intro z
            rcases z with z | z
            · exact z ((dg_n hn).mpr (fun q => c3 (q.elim Or.inl (fun y => Or.inr (Or.inr y)))))
            · rw [dg_eq n2] at z; exact c3 (Or.inr (Or.inl z))
          rw [if_neg c3, if_neg c3', dg_eq n2]
          by_cases c4 : at_ + 1 + 2 = l
          · rw [if_pos c4, if_pos c4]; exact fin _ _ _
          · rw [if_neg c4, if_neg c4]
            by_cases c5 : ¬ tat l b (at_ + 1 + 2) = 59
            · rw [if_pos c5, if_pos c5]; exact out (at_ + 1 + 2) _ _ (by omega) (by rw [hP48]; exact h0)
            · rw [if_neg c5, if_neg c5]
              have := tat_lt (Classical.not_not.mp c5)
              exact nxt _ _ _ _ (by omega) (by omega)
    · rw [if_neg c1, if_neg c1]
      by_cases c2 : fig (tat l b at_) = -1 ∨ ¬ fig (tat l b at_) < nI n
      · rw [if_pos c2, if_pos (show ¬ (0 ≤ tat l b at_ - 48 ∧ tat l b at_ - 48 ≤ nI n - 1) from fun z => (dg_n hn).mp z c2)]
        exact out at_ _ _ (by omega) h0
      · have d1 := (dg_n hn).mpr c2
        rw [if_neg c2, if_neg (show ¬ ¬ (0 ≤ tat l b at_ - 48 ∧ tat l b at_ - 48 ≤ nI n - 1) from fun z => z d1)]
        have n1 : ¬ fig (tat l b at_) = -1 := fun z => c2 (Or.inl z)
        rw [dg_eq n1]
        by_cases c3 : fig (tat l b (at_ + 1)) = -1 ∨ ¬ (0 ≤ fig (tat l b (at_ + 1)) ∧ fig (tat l b (at_ + 1)) < 8)
        · rw [if_pos c3, if_pos (show ¬ (0 ≤ tat l b (at_ + 1) - 48 ∧ tat l b (at_ + 1) - 48 ≤ 7) from fun z => dg_8.mp z c3)]
          exact out (at_ + 1) _ _ (by omega) h0
        · have n2 : ¬ fig (tat l b (at_ + 1)) = -1 := fun z => c3 (Or.inl z)
          rw [if_neg c3, if_neg (show ¬ ¬ (0 ≤ tat l b (at_ + 1) - 48 ∧ tat l b (at_ + 1) - 48 ≤ 7) from fun z => z (dg_8.mpr c3)), dg_eq n2]
          by_cases c4 : at_ + 2 = l
          · rw [if_pos c4, if_pos c4]; exact fin _ _ _
          · rw [if_neg c4, if_neg c4]
            by_cases c5 : ¬ tat l b (at_ + 2) = 59
            · rw [if_pos c5, if_pos c5]; exact out (at_ + 2) _ _ (by omega) (by rw [hP48]; exact h0)
            · rw [if_neg c5, if_neg c5]
              have := tat_lt (Classical.not_not.mp c5)
              exact nxt _ _ _ _ (by omega) (by omega)
/-- what both know of the fair -/
def FI (F : FF) (l1 n : Nat) : Prop := ∀ G : FF, (∀ j, tat l1 (B1 G) j = tat l1 (F 9) j) → F 18 4 = (fds G l1 n).1 ∧ ∃ s, s ≤ 20 ∧ F 18 3 = nI s ∧ (fds G l1 n).2 48 10 = nI s ∧ FRow F (fds G l1 n).2 s
theorem fi_tell {F : FF} {l n : Nat} (hl : l ≤ 60) (hn : n ≤ 10) (h9 : ∀ a, a ≠ 18 → a ≠ 19 → a ≠ 20 → a ≠ 21 → tfF F l n a = F a) : FI (tfF F l n) l n := by
  intro G ht
  rw [h9 9 (by decide) (by decide) (by decide) (by decide)] at ht
  by_cases c : l = 0
  · subst c
    have e : fds G 0 n = (-1, up2 G 48 10 0) := by unfold fds; rw [mfL, if_pos (by omega)]
    rw [e]
    unfold tfF
    rw [if_pos rfl]
    exact ⟨by rw [up2_same], 0, by omega, by simp [up2]; rfl, by simp [up2]; rfl, fun q hq => absurd hq (by omega)⟩
  · have h := ff_ok hl hn c (b := F 9) 20 0 0 (up2 F 18 3 0) (up2 G 48 10 0) rfl (by omega) (by omega) (fun _ => rfl) (fun j => by rw [up2_row (by decide)]) (fun j => by rw [show B1 (up2 G 48 10 0) = B1 G from by unfold B1; rw [up2_row (by decide)]]; exact ht j) (up2_same _ _ _ _) (fun q hq => absurd hq (by omega))
    rw [show mfL l n (20 + 1) 0 0 (up2 G 48 10 0) = fds G l n from rfl] at h
    obtain ⟨h1, h2, h3⟩ := h
    unfold tfF
    rw [if_neg c]
    by_cases e : (fairL l n 20 0 0 (up2 F 18 3 0)).1 = -1
    · rw [if_pos e]
      obtain ⟨s, s1, s2, s3, s4⟩ := h2 (h1.symm.trans e)
      refine ⟨by rw [up2_same]; exact h1, s, s1, by rw [show ∀ (X : FF) y, up2 X 18 4 y 18 3 = X 18 3 from fun X y => by simp [up2]]; exact s2, s3, fun q hq => ?_⟩
      rw [up2_row (a := 20) (by decide), up2_row (a := 21) (by decide), up2_row (a := 19) (by decide)]; exact s4 q hq
    · rw [if_neg e]
      refine ⟨by rw [show ∀ (X : FF) y, up2 X 18 3 y 18 4 = X 18 4 from fun X y => by simp [up2], up2_same]; exact h1, 0, by omega, by rw [up2_same]; exact nI_0.symm, by rw [h3 (fun z => e (h1.trans z))]; exact nI_0.symm, fun q hq => absurd hq (by omega)⟩
theorem fairP_row {F : FF} {part : Nat} {dn f1 f2 : Int32} {a : Nat} (h1 : a ≠ 18) (h2 : a ≠ 19) (h3 : a ≠ 20) (h4 : a ≠ 21) : fairP F part dn f1 f2 a = F a := by unfold fairP; rw [up2_row h1, up2_row h4, up2_row h3, up2_row h2]
theorem fairL_row {l n a : Nat} (h1 : a ≠ 18) (h2 : a ≠ 19) (h3 : a ≠ 20) (h4 : a ≠ 21) : ∀ (k part st : Nat) (F : FF), (fairL l n k part st F).2 a = F a := by
  intro k
  induction k with
  | zero => intro part st F; rfl
  | succ k ih =>
    intro part st F
    have hp : ∀ dn f1 f2, fairP F part dn f1 f2 a = F a := fun _ _ _ => fairP_row h1 h2 h3 h4
    rw [fairL]
    split
    · split
      · rfl
      · split
        · rfl
        · split
          · exact hp _ _ _
          · split
            · exact hp _ _ _
            · rw [ih, hp]
    · split
      · rfl
      · split
        · rfl
        · split
          · exact hp _ _ _
          · split
            · exact hp _ _ _
            · rw [ih, hp]
theorem tfF_row {F : FF} {l n a : Nat} (h1 : a ≠ 18) (h2 : a ≠ 19) (h3 : a ≠ 20) (h4 : a ≠ 21) : tfF F l n a = F a := by
  unfold tfF
  split
  · rw [up2_row h1, up2_row h1]
  · split
    · rw [up2_row h1, fairL_row h1 h2 h3 h4, up2_row h1]
    · rw [up2_row h1, up2_row h1, fairL_row h1 h2 h3 h4, up2_row h1]
