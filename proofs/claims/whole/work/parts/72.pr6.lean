/-! The calls, one by one: both answer alike. Sixth part: texts, by hand. -/
def sr50 (G : FF) (b : Nat → Int32) : FF := fun a => if a = 50 then b else G a
theorem sr50_50 {G : FF} {b : Nat → Int32} : sr50 G b 50 = b := if_pos rfl
theorem sr50_row {G : FF} {b : Nat → Int32} {a : Nat} (h : a ≠ 50) : sr50 G b a = G a := if_neg h
theorem sr50_up {G : FF} {b : Nat → Int32} {k j : Nat} {v : Int32} (h : k ≠ 50) : up2 (sr50 G b) k j v = sr50 (up2 G k j v) b := by
  funext a i
  by_cases c : a = 50
  · subst c; rw [up2_row (fun z => h z.symm), sr50_50, sr50_50]
  · rw [sr50_row c]
    by_cases d : a = k
    · subst d; rw [up2_up1, up2_up1, sr50_row c]
    · rw [up2_row d, up2_row d, sr50_row c]
theorem sr50_mSt {G : FF} {b : Nat → Int32} {l n at_ : Nat} (ht : ∀ j, tat l b j = tat l (G 50) j) : mSt (sr50 G b) l n at_ = sr50 (mSt G l n at_) b := by
  unfold mSt
  rw [sr50_50, sr50_up (by decide), sr50_up (by decide), sr50_up (by decide), sr50_up (by decide)]
  simp only [ht, prA_c ht]
theorem mrd_c {l : Nat} {b : Nat → Int32} : ∀ (k n at_ : Nat) (G : FF), (∀ j, tat l b j = tat l (G 50) j) → mrdL l k n at_ (sr50 G b) = ((mrdL l k n at_ G).1, sr50 (mrdL l k n at_ G).2 b) := by
  intro k
  induction k with
  | zero => intro n at_ G _; rfl
  | succ k ih =>
    intro n at_ G ht
    rw [mrdL, mrdL]
    simp only [sr50_50, ht, prA_c ht, sr50_mSt ht, sr50_up (k := 48) (by decide)]
    by_cases c0 : ¬ at_ < l ∧ at_ = 0
    · rw [if_pos c0, if_pos c0]
    rw [if_neg c0, if_neg c0]
    by_cases c1 : n = 10 ∨ (¬ tat l (G 50) at_ = 115 ∧ ¬ tat l (G 50) at_ = 98 ∧ ¬ tat l (G 50) at_ = 110)
    · rw [if_pos c1, if_pos c1]
    rw [if_neg c1, if_neg c1]
    by_cases c2 : ¬ (48 ≤ tat l (G 50) (at_ + 1) ∧ tat l (G 50) (at_ + 1) ≤ 51)
    · rw [if_pos c2, if_pos c2]
    rw [if_neg c2, if_neg c2]
    by_cases c3 : ¬ 0 ≤ prA l (G 50) (at_ + 2)
    · rw [if_pos c3, if_pos c3]
    rw [if_neg c3, if_neg c3]
    by_cases c4 : ¬ 0 ≤ prA l (G 50) (at_ + 4)
    · rw [if_pos c4, if_pos c4]
    rw [if_neg c4, if_neg c4]
    by_cases c5 : ¬ prA l (G 50) (at_ + 4) ≤ 31
    · rw [if_pos c5, if_pos c5]
    rw [if_neg c5, if_neg c5]
    by_cases c6 : ¬ 0 ≤ prA l (G 50) (at_ + 6)
    · rw [if_pos c6, if_pos c6]
    rw [if_neg c6, if_neg c6]
    by_cases c7 : ¬ prA l (G 50) (at_ + 6) ≤ 31
    · rw [if_pos c7, if_pos c7]
    rw [if_neg c7, if_neg c7]
    by_cases c8 : at_ + 8 = l
    · rw [if_pos c8, if_pos c8]
    rw [if_neg c8, if_neg c8]
    by_cases c9 : ¬ tat l (G 50) (at_ + 8) = 59
    · rw [if_pos c9, if_pos c9]
    rw [if_neg c9, if_neg c9]
    exact ih (n + 1) (at_ + 8 + 1) (mSt G l n at_) (fun j => by rw [mSt_row (by omega)]; exact ht j)
theorem MR.b50 {F : FF} {l n : Nat} (h : MR F l n) {b : Nat → Int32} (ht : ∀ j, tat l b j = tat l (F 50) j) : MR (sr50 F b) l n ∧ (rds (sr50 F b) l).1 = (rds F l).1 := by
  have e : rds (sr50 F b) l = ((rds F l).1, sr50 (rds F l).2 b) := by
    unfold rds
    rw [sr50_up (by decide)]
    exact mrd_c 11 0 0 _ (fun j => by rw [up2_row (by decide)]; exact ht j)
  obtain ⟨h1, h2, h3, h4, h5⟩ := h
  exact ⟨⟨by rw [sr50_row (by decide)]; exact h1, h2, h3, by rw [sr50_row (by decide)]; exact h4, by rw [e, h5]⟩, by rw [e]⟩
theorem up_sr50 {F : FF} {j : Nat} {v : Int32} : up2 F 50 j v = sr50 F (up1 (F 50) j v) := by
  funext a
  by_cases c : a = 50
  · subst c; rw [up2_up1, sr50_50]
  · rw [up2_row c, sr50_row c]
/-- the people's text was told anew -/
theorem IV.told {F T U : FF} {l0 l1 n m l : Nat} (h : IV F l0 l1 n m) (hl : l ≤ 90) (hT : ∀ a, a ≠ 6 → a ≠ 7 → T a = F a) (hT6 : T 6 1 = nI l)
    (hU : ∀ a, a ≠ 49 → a ≠ 50 → U a = tfF (tellF T l) l1 (cCnt l (T 7)) a) (hU0 : U 49 0 = nI l) (hU1 : U 49 1 = nI l1) (hb : ∀ j, j < l → U 50 j = T 7 j) (hb1 : ∀ j, j < l1 → U 50 (90 + j) = F 9 j) :
    (rds U l).2 48 3 = nI (cCnt l (T 7)) ∧ IV (stL (cCnt l (T 7)) 0 (rds U l).2) l l1 (cCnt l (T 7)) m := by
  obtain ⟨hc, ht, ⟨hm, hf⟩, hpp, hfi, hst, hps, hfd, hsh⟩ := h
  have htat : ∀ j, tat l (U 50) j = tat l (T 7) j := fun j => by
    unfold tat
    by_cases c : j < l
    · rw [if_pos c, if_pos c, hb j c]
    · rw [if_neg c, if_neg c]
  obtain ⟨t1, t2, t3⟩ := tell_ok hl htat
  refine ⟨t2, ?_⟩
  have hn := cCnt_le l (T 7)
  generalize hn' : cCnt l (T 7) = n' at *
  generalize hF2 : stL n' 0 (rds U l).2 = F2
  -- rows
  have rR : ∀ a, a < 52 ∨ 55 < a → a ≠ 48 → a ≠ 56 → F2 a = U a := fun a h1 h2 h3 => by rw [← hF2, stL_row _ _ _ _ h3, rds_row h1 h2]
  have rT : ∀ a, (a < 10 ∨ 15 < a) → ¬ (18 ≤ a ∧ a ≤ 21) → (a < 52 ∨ 55 < a) → a ≠ 48 → a ≠ 49 → a ≠ 50 → a ≠ 56 → F2 a = T a := fun a h1 h2 h3 h4 h5 h6 h7 => by
    rw [rR a h3 h4 h7, hU a h5 h6, tfF_row (by omega) (by omega) (by omega) (by omega), tellF_row (by omega) (by omega) (by omega) (by omega) (by omega) (by omega)]
  have rF : ∀ a, a ≠ 6 → a ≠ 7 → (a < 10 ∨ 15 < a) → ¬ (18 ≤ a ∧ a ≤ 21) → (a < 52 ∨ 55 < a) → a ≠ 48 → a ≠ 49 → a ≠ 50 → a ≠ 56 → F2 a = F a := fun a g1 g2 h1 h2 h3 h4 h5 h6 h7 => by rw [rT a h1 h2 h3 h4 h5 h6 h7]; exact hT a g1 g2
  have r48 : ∀ j, j ≠ 3 → F2 48 j = F 48 j := fun j hj => by
    rw [← hF2, stL_row _ _ _ _ (by decide)]
    unfold rds
    rw [mrd_48 l 11 0 0 _ j hj, show up2 U 48 3 0 48 j = U 48 j by simp [up2, hj], hU 48 (by decide) (by decide), tfF_row (by decide) (by decide) (by decide) (by decide), tellF_row (by decide) (by decide) (by decide) (by decide) (by decide) (by decide), hT 48 (by decide) (by decide)]
  have r483 : F2 48 3 = nI n' := by rw [← hF2, stL_row _ _ _ _ (by decide)]; exact t2
  have rTell : ∀ a, 10 ≤ a → a ≤ 15 → F2 a = tellF T l a := fun a h1 h2 => by rw [rR a (by omega) (by omega) (by omega), hU a (by omega) (by omega), tfF_row (by omega) (by omega) (by omega) (by omega)]
  have rRd : ∀ a, 52 ≤ a → a ≤ 55 → F2 a = (rds U l).2 a := fun a h1 h2 => by rw [← hF2, stL_row _ _ _ _ (by omega)]
  have hid : rds F2 l = ((rds U l).1, F2) := rds_id (rR 50 (by omega) (by decide) (by decide)) rRd (by rw [r483, t2])
  have e10 : F2 10 = up2 (up2 T 10 6 (cFlt l (T 7) l 0)) 10 5 (nI n') 10 := by rw [rTell 10 (by omega) (by omega), tellF_10, hn']
  refine ⟨hc.of (rF 1 (by decide) (by decide) (by decide) (by decide) (by decide) (by decide) (by decide) (by decide) (by decide)) (rF 2 (by decide) (by decide) (by decide) (by decide) (by decide) (by decide) (by decide) (by decide) (by decide)) (rF 3 (by decide) (by decide) (by decide) (by decide) (by decide) (by decide) (by decide) (by decide) (by decide)) (rF 4 (by decide) (by decide) (by decide) (by decide) (by decide) (by decide) (by decide) (by decide) (by decide)), ⟨⟨?_, ?_⟩, ⟨?_, ?_, ht.2.2.2.1, ?_⟩⟩, ⟨⟨?_, hl, hn, r483, by rw [hid]⟩, ?_⟩, ⟨⟨hn, ?_, r483⟩, fun p hp => ?_⟩, ?_, ?_, ?_, ?_, fun s hs => ?_⟩
  · rw [rT 6 (by decide) (by decide) (by decide) (by decide) (by decide) (by decide) (by decide)]; exact hT6
  · intro j hj
    rw [rT 7 (by decide) (by decide) (by decide) (by decide) (by decide) (by decide) (by decide), rR 50 (by decide) (by decide) (by decide)]; exact (hb j hj).symm
  · rw [rF 8 (by decide) (by decide) (by decide) (by decide) (by decide) (by decide) (by decide) (by decide) (by decide)]; exact ht.2.1
  · rw [rR 49 (by decide) (by decide) (by decide)]; exact hU1
  · intro j hj
    rw [rF 9 (by decide) (by decide) (by decide) (by decide) (by decide) (by decide) (by decide) (by decide) (by decide), rR 50 (by decide) (by decide) (by decide)]; exact (hb1 j hj).symm
  · rw [rR 49 (by decide) (by decide) (by decide)]; exact hU0
  · rw [hid, e10, show up2 (up2 T 10 6 (cFlt l (T 7) l 0)) 10 5 (nI n') 10 6 = cFlt l (T 7) l 0 by simp [up2]]; exact t1.symm
  · rw [e10, up2_same]
  · obtain ⟨⟨a1, a2, a3, a4, a5⟩, b1, b2, b3⟩ := t3 p hp
    have e56 : F2 56 p = (rds U l).2 55 p := by rw [← hF2, stL_56, if_pos (by omega)]
    rw [rRd 52 (by decide) (by decide), rRd 53 (by decide) (by decide), rRd 54 (by decide) (by decide), rRd 55 (by decide) (by decide), rTell 11 (by decide) (by decide), rTell 12 (by decide) (by decide), rTell 13 (by decide) (by decide), rTell 14 (by decide) (by decide), rTell 15 (by decide) (by decide), e56]
    refine ⟨⟨a1, a2, a3, a4, a5⟩, b1, b2, b3, ?_⟩
    rw [← a5, a4]; exact b3
  · have h18 : ∀ a, (a = 9 ∨ (18 ≤ a ∧ a ≤ 21)) → F2 a = tfF (tellF T l) l1 n' a := fun a ha => by rw [rR a (by omega) (by omega) (by omega), hU a (by omega) (by omega)]
    exact (fi_tell ht.2.2.2.1 hn (fun a h1 h2 h3 h4 => tfF_row h1 h2 h3 h4)).of (h18 9 (by omega)) (h18 18 (by omega)) (h18 19 (by omega)) (h18 20 (by omega)) (h18 21 (by omega))
  · rw [rF 51 (by decide) (by decide) (by decide) (by decide) (by decide) (by decide) (by decide) (by decide) (by decide), rF 17 (by decide) (by decide) (by decide) (by decide) (by decide) (by decide) (by decide) (by decide) (by decide)]; exact hst
  · unfold PS2; rw [rF 33 (by decide) (by decide) (by decide) (by decide) (by decide) (by decide) (by decide) (by decide) (by decide), rF 34 (by decide) (by decide) (by decide) (by decide) (by decide) (by decide) (by decide) (by decide) (by decide), rF 65 (by decide) (by decide) (by decide) (by decide) (by decide) (by decide) (by decide) (by decide) (by decide), r48 21 (by decide)]; exact hps
  · rw [rF 5 (by decide) (by decide) (by decide) (by decide) (by decide) (by decide) (by decide) (by decide) (by decide), r48 31 (by decide)]; exact hfd
  · exact (hsh s hs).of (rF _ (by omega) (by omega) (by omega) (by omega) (by omega) (by omega) (by omega) (by omega) (by omega)) (rF _ (by omega) (by omega) (by omega) (by omega) (by omega) (by omega) (by omega) (by omega) (by omega)) (rF 69 (by decide) (by decide) (by decide) (by decide) (by decide) (by decide) (by decide) (by decide) (by decide)) (rF 70 (by decide) (by decide) (by decide) (by decide) (by decide) (by decide) (by decide) (by decide) (by decide)) (rF 71 (by decide) (by decide) (by decide) (by decide) (by decide) (by decide) (by decide) (by decide) (by decide)) (rF 72 (by decide) (by decide) (by decide) (by decide) (by decide) (by decide) (by decide) (by decide) (by decide))
/-- the fair's text was told anew -/
theorem IV.tolf {F T F2 : FF} {l0 l1 n m l : Nat} (h : IV F l0 l1 n m) (hl : l ≤ 60) (hT : ∀ a, a ≠ 8 → a ≠ 9 → T a = F a) (hT8 : T 8 1 = nI l)
    (hU : ∀ a, a ≠ 49 → a ≠ 50 → F2 a = tfF T l n a) (hU0 : F2 49 0 = F 49 0) (hU1 : F2 49 1 = nI l) (hb0 : ∀ j, j < 90 → F2 50 j = F 50 j) (hb : ∀ j, j < l → F2 50 (90 + j) = T 9 j) : IV F2 l0 l n m := by
  obtain ⟨hc, ht, ⟨hm, hf⟩, hpp, hfi, hst, hps, hfd, hsh⟩ := h
  have r : ∀ a, a ≠ 8 → a ≠ 9 → ¬ (18 ≤ a ∧ a ≤ 21) → a ≠ 49 → a ≠ 50 → F2 a = F a := fun a h1 h2 h3 h4 h5 => by rw [hU a h4 h5, tfF_row (by omega) (by omega) (by omega) (by omega)]; exact hT a h1 h2
  have rT : ∀ a, ¬ (18 ≤ a ∧ a ≤ 21) → a ≠ 49 → a ≠ 50 → F2 a = T a := fun a h3 h4 h5 => by rw [hU a h4 h5, tfF_row (by omega) (by omega) (by omega) (by omega)]
  have q : ∀ a, (a ≠ 8 ∧ a ≠ 9 ∧ ¬ (18 ≤ a ∧ a ≤ 21) ∧ a ≠ 49 ∧ a ≠ 50) → F2 a = F a := fun a z => r a z.1 z.2.1 z.2.2.1 z.2.2.2.1 z.2.2.2.2
  have hl0 := hm.2.1
  obtain ⟨hmb, hfb⟩ := hm.b50 (b := F2 50) (fun j => by
    unfold tat
    by_cases c : j < l0
    · rw [if_pos c, if_pos c, hb0 j (by omega)]
    · rw [if_neg c, if_neg c])
  obtain ⟨hm', hf'⟩ := hmb.of (F' := F2) (by rw [sr50_row (by decide), q 48 (by decide)]) (by rw [sr50_row (by decide), hU0]) (by rw [sr50_50]) (by rw [sr50_row (by decide), q 52 (by decide)]) (by rw [sr50_row (by decide), q 53 (by decide)]) (by rw [sr50_row (by decide), q 54 (by decide)]) (by rw [sr50_row (by decide), q 55 (by decide)])
  refine ⟨hc.of (q 1 (by decide)) (q 2 (by decide)) (q 3 (by decide)) (q 4 (by decide)), ⟨⟨by rw [q 6 (by decide)]; exact ht.1.1, fun j hj => ?_⟩, ⟨?_, hU1, hl, fun j hj => ?_⟩⟩, ⟨hm', by rw [hf', hfb, q 10 (by decide)]; exact hf⟩, hpp.of (by rw [q 10 (by decide)]) (by rw [q 48 (by decide)]) (fun a ha => q a (by omega)), ?_, by rw [q 51 (by decide), q 17 (by decide)]; exact hst, by unfold PS2; rw [q 33 (by decide), q 34 (by decide), q 65 (by decide), q 48 (by decide)]; exact hps, by rw [q 5 (by decide), q 48 (by decide)]; exact hfd, fun s hs => (hsh s hs).of (q _ (by omega)) (q _ (by omega)) (q 69 (by decide)) (q 70 (by decide)) (q 71 (by decide)) (q 72 (by decide))⟩
  · rw [q 7 (by decide), hb0 j (by omega)]; exact ht.1.2 j hj
  · rw [rT 8 (by decide) (by decide) (by decide)]; exact hT8
  · rw [rT 9 (by decide) (by decide) (by decide)]; exact (hb j hj).symm
  · have h18 : ∀ a, (a = 9 ∨ (18 ≤ a ∧ a ≤ 21)) → F2 a = tfF T l n a := fun a ha => hU a (by omega) (by omega)
    exact (fi_tell hl hpp.1.1 (fun a h1 h2 h3 h4 => tfF_row h1 h2 h3 h4)).of (h18 9 (by omega)) (h18 18 (by omega)) (h18 19 (by omega)) (h18 20 (by omega)) (h18 21 (by omega))
section PR6
variable (E : EE) (L : Nat) {F : FF} {l0 l1 n m : Nat}
theorem pr_type (h : IV F l0 l1 n m) (t b : Int32) : PrF E L mX10_type mX11_type [.int t, .int b] F := by
  obtain ⟨hc, ht, ⟨hm, hf⟩, hp, hfi, hst, hps, hfd, hsh⟩ := id h
  obtain ⟨⟨hn, hn5, hn3⟩, hpp⟩ := id hp
  by_cases c : ¬ (t = 0 ∨ t = 1) ∨ b < 0 ∨ 255 < b
  · exact pr3 (x_type_bad E L F t b c) (y_type_bad E L F t b c) rfl h.i (by decide) (by decide)
  · have c1 : t = 0 ∨ t = 1 := Classical.not_not.mp (fun z => c (Or.inl z))
    have hb : 0 ≤ b ∧ b ≤ 255 := ⟨Int32.not_lt.mp (fun z => c (Or.inr (Or.inl z))), Int32.not_lt.mp (fun z => c (Or.inr (Or.inr z)))⟩
    rcases c1 with rfl | rfl
    · by_cases d : l0 < 90
      · generalize hT : up2 (up2 F 7 l0 b) 6 1 (nI (l0 + 1)) = T
        have hx := x_type_ok0 E L F b hb l0 l1 ht.1.1 d ht.2.1 ht.2.2.2.1
        rw [hT] at hx
        generalize hF1 : tfF (tellF T (l0 + 1)) l1 (cCnt (l0 + 1) (T 7)) = F1 at hx
        have rT : ∀ a, a ≠ 6 → a ≠ 7 → T a = F a := fun a h1 h2 => by rw [← hT, up2_row h1, up2_row h2]
        have r1 : ∀ a, ¬ (10 ≤ a ∧ a ≤ 15) → ¬ (18 ≤ a ∧ a ≤ 21) → F1 a = T a := fun a h1 h2 => by rw [← hF1, tfF_row (by omega) (by omega) (by omega) (by omega), tellF_row (by omega) (by omega) (by omega) (by omega) (by omega) (by omega)]
        have e50 : F1 50 = F 50 := by rw [r1 50 (by decide) (by decide), rT 50 (by decide) (by decide)]
        have e49 : F1 49 = F 49 := by rw [r1 49 (by decide) (by decide), rT 49 (by decide) (by decide)]
        have t7 : T 7 = up1 (F 7) l0 b := by rw [← hT, up2_row (by decide), up2_up1]
        obtain ⟨g1, g2⟩ := h.told (T := T) (U := up2 (up2 F1 50 l0 b) 49 0 (nI (l0 + 1))) (l := l0 + 1) (by omega) rT (by rw [← hT, up2_same]) (fun a h1 h2 => by rw [up2_row h1, up2_row h2, hF1]) (up2_same _ _ _ _)
          (by rw [show ∀ (X : FF) y, up2 X 49 0 y 49 1 = X 49 1 from fun X y => by simp [up2], up2_row (by decide), e49]; exact ht.2.2.1)
          (fun j hj => by
            rw [up2_row (a := 50) (by decide), up2_up1, e50, t7]
            unfold up1
            by_cases z : j = l0
            · rw [if_pos z, if_pos z]
            · rw [if_neg z, if_neg z]; exact (ht.1.2 j (by omega)).symm)
          (fun j hj => by
            rw [up2_row (a := 50) (by decide), up2_up1, e50]
            unfold up1
            rw [if_neg (by omega)]; exact (ht.2.2.2.2 j hj).symm)
        exact pr3 hx (y_type_ok0 E L F1 b hb l0 (by rw [e49]; exact hm.1) d (cCnt (l0 + 1) (T 7)) (cCnt_le _ _) g1) (by rw [r1 6 (by decide) (by decide), ← hT, up2_same]) g2.i (by decide) (by decide)
      · have e : l0 = 90 := by have := hm.2.1; omega
        exact pr3 (x_type_full0 E L F b hb (by rw [ht.1.1, e]; decide)) (y_type_full0 E L F b hb (by rw [hm.1, e]; rfl)) rfl h.i (by decide) (by decide)
    · by_cases d : l1 < 60
      · have hx := x_type_ok1 E L F b hb n hn5 hn l1 ht.2.1 d
        generalize hT : up2 (up2 F 9 l1 b) 8 1 (nI (l1 + 1)) = T at hx
        generalize hF1 : tfF T (l1 + 1) n = F1 at hx
        have rT : ∀ a, a ≠ 8 → a ≠ 9 → T a = F a := fun a h1 h2 => by rw [← hT, up2_row h1, up2_row h2]
        have r1 : ∀ a, ¬ (18 ≤ a ∧ a ≤ 21) → F1 a = T a := fun a h2 => by rw [← hF1, tfF_row (by omega) (by omega) (by omega) (by omega)]
        have e50 : F1 50 = F 50 := by rw [r1 50 (by decide), rT 50 (by decide) (by decide)]
        have e49 : F1 49 = F 49 := by rw [r1 49 (by decide), rT 49 (by decide) (by decide)]
        have t9 : T 9 = up1 (F 9) l1 b := by rw [← hT, up2_row (by decide), up2_up1]
        have g := h.tolf (T := T) (F2 := up2 (up2 F1 50 (90 + l1) b) 49 1 (nI (l1 + 1))) (l := l1 + 1) (by omega) rT (by rw [← hT, up2_same]) (fun a h1 h2 => by rw [up2_row h1, up2_row h2, hF1])
          (by rw [show ∀ (X : FF) y, up2 X 49 1 y 49 0 = X 49 0 from fun X y => by simp [up2], up2_row (by decide), e49]) (up2_same _ _ _ _)
          (fun j hj => by rw [up2_row (a := 50) (by decide), up2_up1, e50]; unfold up1; rw [if_neg (by omega)])
          (fun j hj => by
            rw [up2_row (a := 50) (by decide), up2_up1, e50, t9]
            unfold up1
            by_cases z : j = l1
            · rw [if_pos z, if_pos (by omega)]
            · rw [if_neg z, if_neg (by omega)]; exact (ht.2.2.2.2 j (by omega)).symm)
        exact pr3 hx (y_type_ok1 E L F1 b hb l1 (by rw [e49]; exact ht.2.2.1) d) (by rw [r1 8 (by decide), ← hT, up2_same]) g.i (by decide) (by decide)
      · have e : l1 = 60 := by have := ht.2.2.2.1; omega
        exact pr3 (x_type_full1 E L F b hb (by rw [ht.2.1, e]; decide)) (y_type_full1 E L F b hb (by rw [ht.2.2.1, e]; rfl)) rfl h.i (by decide) (by decide)
theorem pr_wipe (h : IV F l0 l1 n m) (t : Int32) : PrF E L mX10_wipe mX11_wipe [.int t] F := by
  obtain ⟨hc, ht, ⟨hm, hf⟩, hp, hfi, hst, hps, hfd, hsh⟩ := id h
  obtain ⟨⟨hn, hn5, hn3⟩, hpp⟩ := id hp
  by_cases c : t = 0 ∨ t = 1
  · rcases c with rfl | rfl
    · generalize hT : up2 F 6 1 0 = T
      have hx := x_wipe_ok0 E L F l1 ht.2.1 ht.2.2.2.1
      rw [hT] at hx
      generalize hF1 : tfF (tellF T 0) l1 (cCnt 0 (T 7)) = F1 at hx
      have rT : ∀ a, a ≠ 6 → a ≠ 7 → T a = F a := fun a h1 h2 => by rw [← hT, up2_row h1]
      have r1 : ∀ a, ¬ (10 ≤ a ∧ a ≤ 15) → ¬ (18 ≤ a ∧ a ≤ 21) → F1 a = T a := fun a h1 h2 => by rw [← hF1, tfF_row (by omega) (by omega) (by omega) (by omega), tellF_row (by omega) (by omega) (by omega) (by omega) (by omega) (by omega)]
      have e50 : F1 50 = F 50 := by rw [r1 50 (by decide) (by decide), rT 50 (by decide) (by decide)]
      have e49 : F1 49 = F 49 := by rw [r1 49 (by decide) (by decide), rT 49 (by decide) (by decide)]
      obtain ⟨g1, g2⟩ := h.told (T := T) (U := up2 F1 49 0 0) (l := 0) (by omega) rT (by rw [← hT, up2_same]; rfl) (fun a h1 h2 => by rw [up2_row h1, hF1]) (up2_same _ _ _ _)
        (by rw [show ∀ (X : FF) y, up2 X 49 0 y 49 1 = X 49 1 from fun X y => by simp [up2], e49]; exact ht.2.2.1) (fun j hj => absurd hj (by omega))
        (fun j hj => by rw [up2_row (a := 50) (by decide), e50]; exact (ht.2.2.2.2 j hj).symm)
      exact pr3 hx (y_wipe_ok0 E L F1 (cCnt 0 (T 7)) (cCnt_le _ _) g1) (by rw [e49, hm.1, ht.1.1]) g2.i (by decide) (by decide)
    · have hx := x_wipe_ok1 E L F n hn5 hn
      generalize hT : up2 F 8 1 0 = T at hx
      generalize hF1 : tfF T 0 n = F1 at hx
      have rT : ∀ a, a ≠ 8 → a ≠ 9 → T a = F a := fun a h1 h2 => by rw [← hT, up2_row h1]
      have r1 : ∀ a, ¬ (18 ≤ a ∧ a ≤ 21) → F1 a = T a := fun a h2 => by rw [← hF1, tfF_row (by omega) (by omega) (by omega) (by omega)]
      have e50 : F1 50 = F 50 := by rw [r1 50 (by decide), rT 50 (by decide) (by decide)]
      have e49 : F1 49 = F 49 := by rw [r1 49 (by decide), rT 49 (by decide) (by decide)]
      have g := h.tolf (T := T) (F2 := up2 F1 49 1 0) (l := 0) (by omega) rT (by rw [← hT, up2_same]; rfl) (fun a h1 h2 => by rw [up2_row h1, hF1])
        (by rw [show ∀ (X : FF) y, up2 X 49 1 y 49 0 = X 49 0 from fun X y => by simp [up2], e49]) (up2_same _ _ _ _)
        (fun j hj => by rw [up2_row (a := 50) (by decide), e50]) (fun j hj => absurd hj (by omega))
      exact pr3 hx (y_wipe_ok1 E L F1) (by rw [e49, ht.2.2.1, ht.2.1]) g.i (by decide) (by decide)
  · exact pr3 (x_wipe_bad E L F t c) (y_wipe_bad E L F t c) rfl h.i (by decide) (by decide)
end PR6
