/-! Pure equalities, by hand: steps, broker, trial, home. -/
abbrev stOK (X : Nat → Int32) (p d : Nat) (near : Int32) (n : Nat) : Prop := ¬ nbr (X p) d = -1 ∧ mayS X p (nbr (X p) d) near n 0 = true
theorem law_pos {X : Nat → Int32} {p d n : Nat} {near : Int32} (h : stOK X p d near n) : lawS X p d near n = nbr (X p) d := by
  unfold lawS; rw [if_pos h]
theorem law_neg {X : Nat → Int32} {p d n : Nat} {near : Int32} : lawS X p d near n = -1 ↔ ¬ stOK X p d near n := by
  constructor
  · intro h z; rw [law_pos z] at h; exact z.1 h
  · intro h; unfold lawS; rw [if_neg h]
theorem stOK_c {X Y : Nat → Int32} {p d n : Nat} {near : Int32} (h : ∀ j, j < n → X j = Y j) (hp : p < n) : stOK X p d near n ↔ stOK Y p d near n := by
  unfold stOK; rw [h p hp, mayS_c h n 0 (by omega)]
/-! broker -/
theorem ask_D {D : Nat → Int32} {tr pr : Int32} {t : Nat} : asD D tr t pr = askD D tr t pr := by
  unfold asD askD
  by_cases h : tr = 1
  · rw [if_pos h]
    by_cases h2 : pr ≤ D t
    · rw [if_neg (fun z => z.2 h2), if_neg (Int32.not_lt.mpr h2), up1_id]
    · rw [if_pos ⟨h, h2⟩, if_pos (Int32.not_le.mp h2)]
  · rw [if_neg h, if_neg (fun z => h z.1)]
def CR (C C' : Nat → Int32) : Prop := ∀ j, (C j = -1 ∧ C' j = 100) ∨ (C j = C' j ∧ ∃ x : Nat, x < 100 ∧ C j = nI x)
def DR (D : Nat → Int32) : Prop := ∀ j, D j = -1 ∨ ∃ x : Nat, x < 100 ∧ D j = nI x
theorem CR.ask {C C' : Nat → Int32} (h : CR C C') {tr : Int32} {t x : Nat} (hx : x < 100) : CR (askC C tr t (nI x)) (asC C' tr t (nI x)) := by
  have key : (C t = -1 ∨ nI x < C t) ↔ ¬ C' t ≤ nI x := by
    rcases h t with ⟨e1, e2⟩ | ⟨e1, y, hy, e2⟩
    · rw [e1, e2]
      exact ⟨fun _ z => absurd ((nI_leI (a := 100) (by omega) (by omega)).mp z) (by omega), fun _ => Or.inl rfl⟩
    · rw [← e1, e2]
      constructor
      · rintro (z | z)
        · exact absurd z (nI_m1 (by omega))
        · exact Int32.not_le.mpr z
      · intro z; exact Or.inr (Int32.not_le.mp z)
  intro j
  unfold askC asC
  by_cases c : tr = 0 ∧ (C t = -1 ∨ nI x < C t)
  · rw [if_pos c, if_pos ⟨c.1, key.mp c.2⟩]
    unfold up1
    by_cases e : j = t
    · rw [if_pos e, if_pos e]; exact Or.inr ⟨rfl, x, hx, rfl⟩
    · rw [if_neg e, if_neg e]; exact h j
  · rw [if_neg c, if_neg (fun z => c ⟨z.1, key.mpr z.2⟩)]; exact h j
theorem DR.ask {D : Nat → Int32} (h : DR D) {tr : Int32} {t x : Nat} (hx : x < 100) : DR (askD D tr t (nI x)) := by
  intro j
  unfold askD
  by_cases c : tr = 1
  · rw [if_pos c]; unfold up1
    by_cases e : j = t
    · rw [if_pos e]; split
      · exact Or.inr ⟨x, hx, rfl⟩
      · exact h t
    · rw [if_neg e]; exact h j
  · rw [if_neg c]; exact h j
theorem mrM_eq {D C C' : Nat → Int32} (hD : DR D) (hC : CR C C') : mrM D C' = mrg D C := by
  unfold mrM mrg
  refine sumI_c 4 0 0 (fun t _ _ => ?_)
  unfold gMM gMG
  rcases hC t with ⟨e1, e2⟩ | ⟨e1, x, hx, e2⟩
  · have hle : D t ≤ C' t := by
      rw [e2]
      rcases hD t with e | ⟨y, hy, e⟩
      · rw [e]; decide
      · rw [e]; exact (nI_leI (b := 100) (by omega) (by omega)).mpr (by omega)
    rw [if_neg (show ¬ ¬ D t ≤ C' t from fun z => z hle), if_neg (show ¬ (¬ C t = -1 ∧ C t < D t) from fun z => z.1 e1)]
  · rw [← e1]
    refine ite_iff ⟨fun z => ⟨?_, Int32.not_le.mp z⟩, fun z => Int32.not_le.mpr z.2⟩
    rw [e2]; exact nI_m1 (by omega)
theorem pf_pm {K T P X al K' T' P' X' al' : Nat → Int32} {due clr sp : Int32} {n : Nat} (hK : ∀ q, q < n → K' q = K q) (hT : ∀ q, q < n → T' q = T q) (hP' : ∀ q, q < n → P' q = P q) (hX : ∀ q, q < n → X' q = X q) (hal : ∀ q, q < n → (al' q = 1 ↔ ¬ al q = 0)) (hP : PrOK P n) : ∀ (k p : Nat) (D C C' : Nat → Int32), p + k = n → DR D → CR C C' → pmL K' T' P' X' al' due clr sp k p D C' = pfL K T P X al due clr sp k p D C
  | 0, _, D, C, C', _, hD, hC => mrM_eq hD hC
  | k + 1, p, D, C, C', hp, hD, hC => by
    obtain ⟨x, hx, ex⟩ := hP p (by omega)
    have hp' : p < n := by omega
    rw [pmL, pfL, hX p hp', hK p hp', hT p hp', hP' p hp', ex, ask_D]
    rw [pf_pm hK hT hP' hX hal hP k (p + 1) _ _ _ (by omega) (hD.ask hx) (hC.ask (tr := K p) (t := (T p).toNatClampNeg) hx), pf_pm hK hT hP' hX hal hP k (p + 1) D C C' (by omega) hD hC]
    rw [ite_iff (show (awy sp (X p) = due ∧ al' p = 1) ↔ (awy sp (X p) = due ∧ ¬ al p = 0) from and_congr Iff.rfl (hal p hp'))]
theorem coL_66 {n : Nat} : ∀ (k p : Nat) (F : FF) (j : Nat), coL n k p F 66 j = if p ≤ j ∧ j < p + k then (if fnr (F 57) j j (-1) (F 51 1 * F 51 1) n 0 = -1 then 1 else 0) else F 66 j
  | 0, p, F, j => by rw [if_neg (by omega)]; rfl
  | k + 1, p, F, j => by
    rw [coL, coL_66 k (p + 1) _ j, up2_row (a := 57) (by decide), up2_row (a := 51) (by decide)]
    by_cases h : j = p
    · subst h; rw [if_neg (show ¬ (j + 1 ≤ j ∧ j < j + 1 + k) by omega), if_pos (show j ≤ j ∧ j < j + (k + 1) by omega), up2_same]
    · rw [show ∀ v, up2 F 66 p v 66 j = F 66 j from fun v => by simp [up2, h]]
      by_cases h2 : p + 1 ≤ j ∧ j < p + 1 + k
      · rw [if_pos h2, if_pos (show p ≤ j ∧ j < p + (k + 1) by omega)]
      · rw [if_neg h2, if_neg (show ¬ (p ≤ j ∧ j < p + (k + 1)) by omega)]
theorem alL_36 {n : Nat} : ∀ (k p : Nat) (F : FF) (j : Nat), alL n k p F 36 j = if p ≤ j ∧ j < p + k then (if fnr (F 15) j j (-1) (F 17 1 * F 17 1) n 0 = -1 then 1 else 0) else F 36 j
  | 0, p, F, j => by rw [if_neg (by omega)]; rfl
  | k + 1, p, F, j => by
    rw [alL, alL_36 k (p + 1) _ j, up2_row (a := 15) (by decide), up2_row (a := 17) (by decide)]
    by_cases h : j = p
    · subst h; rw [if_neg (show ¬ (j + 1 ≤ j ∧ j < j + 1 + k) by omega), if_pos (show j ≤ j ∧ j < j + (k + 1) by omega), up2_same]
    · rw [show ∀ v, up2 F 36 p v 36 j = F 36 j from fun v => by simp [up2, h]]
      by_cases h2 : p + 1 ≤ j ∧ j < p + 1 + k
      · rw [if_pos h2, if_pos (show p ≤ j ∧ j < p + (k + 1) by omega)]
      · rw [if_neg h2, if_neg (show ¬ (p ≤ j ∧ j < p + (k + 1)) by omega)]
/-! bits -/
theorem tb_bit (s i : Nat) : tb s i ↔ s.testBit i = true := by
  unfold tb; rw [Nat.testBit_eq_decide_div_mod_eq]; simp
theorem or_dec : ((List.range 1024).all fun s => (List.range 10).all fun i => decide (nI s ||| (1 <<< (nI i &&& 31)) = nI (s ||| 2 ^ i))) = true := by decide +kernel
theorem or_eq {s i : Nat} (hs : s < 1024) (hi : i < 10) : nI s ||| (1 <<< (nI i &&& 31)) = nI (s ||| 2 ^ i) :=
  of_decide_eq_true (List.all_eq_true.mp (List.all_eq_true.mp or_dec s (List.mem_range.mpr hs)) i (List.mem_range.mpr hi))
theorem or_lt {s i : Nat} (hs : s < 1024) (hi : i < 10) : s ||| 2 ^ i < 1024 :=
  Nat.or_lt_two_pow (n := 10) hs (Nat.pow_lt_pow_right (by decide) hi)
theorem tb_or {s i p : Nat} : tb (s ||| 2 ^ i) p ↔ tb s p ∨ p = i := by
  rw [tb_bit, tb_bit, Nat.testBit_or, Nat.testBit_two_pow, Bool.or_eq_true, decide_eq_true_eq]
  exact or_congr Iff.rfl eq_comm
/-! the trial -/
/-- what ties the trial of the class to that of the reference -/
def JRel (n : Nat) (h : Nat) (F G : FF) : Prop :=
  (G 48 16 = F 22 3 ∧ G 48 17 = F 22 4 ∧ G 48 18 = F 22 5) ∧ (∀ p, p < n → G 57 p = F 23 p) ∧ (h < 1024 ∧ ∀ p, p < n → (tb h p ↔ ¬ F 24 p = 0))
def JSt (n s : Nat) (F G : FF) : Prop :=
  (∀ p, p < n → G 52 p = F 11 p ∧ G 53 p = F 12 p ∧ G 54 p = F 13 p) ∧ PrOK (F 13) n ∧ (∀ j, j < 3 → G 51 j = F 17 j) ∧
  (∀ q, q < s → G 58 q = F 20 q ∧ G 59 q = F 21 q ∧ G 60 q = F 19 q) ∧ (∀ q, q < s → ∃ a b : Nat, a < n ∧ F 20 q = nI a ∧ F 21 q = nI b ∧ ((F 19 q = 0 ∧ b < 8) ∨ (F 19 q = 1 ∧ b < n)))
theorem JSt.of {n s : Nat} {F G F' G' : FF} (h : JSt n s F G) (e11 : F' 11 = F 11) (e12 : F' 12 = F 12) (e13 : F' 13 = F 13) (e17 : F' 17 = F 17) (e19 : F' 19 = F 19) (e20 : F' 20 = F 20) (e21 : F' 21 = F 21) (g52 : G' 52 = G 52) (g53 : G' 53 = G 53) (g54 : G' 54 = G 54) (g51 : G' 51 = G 51) (g58 : G' 58 = G 58) (g59 : G' 59 = G 59) (g60 : G' 60 = G 60) : JSt n s F' G' := by
  unfold JSt; rw [e11, e12, e13, e17, e19, e20, e21, g52, g53, g54, g51, g58, g59, g60]; exact h
theorem jg_mj {n s : Nat} (hn : n ≤ 10) : ∀ (k q h : Nat) (F G : FF), q + k = s → JSt n s F G → JRel n h F G →
    ((mjL n k q (nI h) G 48 16 = jgL n k q F 22 3 ∧ mjL n k q (nI h) G 48 17 = jgL n k q F 22 4 ∧ mjL n k q (nI h) G 48 18 = jgL n k q F 22 5) ∧ ∀ p, p < n → mjL n k q (nI h) G 57 p = jgL n k q F 23 p)
  | 0, _, _, _, _, _, _, hR => ⟨hR.1, hR.2.1⟩
  | k + 1, q, h, F, G, hq, hS, hR => by
    obtain ⟨⟨r1, r2, r3⟩, r4, r5, r6⟩ := hR
    have hR0 : JRel n h F G := ⟨⟨r1, r2, r3⟩, r4, r5, r6⟩
    obtain ⟨s1, s2, s3, s4, s5⟩ := id hS
    obtain ⟨a, b, ha, e1, e2, hk⟩ := s5 q (by omega)
    obtain ⟨q58, q59, q60⟩ := s4 q (by omega)
    rw [mjL, jgL, r1]
    by_cases c : F 22 3 = -1
    · rw [if_pos c, if_pos c, q58, q59, q60, e1, e2, nI_clamp (show a < 2 ^ 31 by omega)]
      have hb31 : b < 2 ^ 31 := by rcases hk with z | z <;> omega
      rw [nI_clamp hb31]
      unfold jgS
      by_cases c2 : F 19 q = 0
      · rw [if_pos c2, if_pos c2]
        have e : mjC G n a b ↔ stOK (F 23) a b (F 17 2 * F 17 2) n := by
          rw [← stOK_c r4 ha, ← s3 2 (by omega)]
        by_cases c3 : mjC G n a b
        · have c4 := e.mp c3
          rw [if_pos c3, if_neg (show ¬ movT F n a b = -1 from fun z => law_neg.mp z c4)]
          refine jg_mj hn k (q + 1) h _ _ (by omega) (hS.of rfl rfl rfl rfl rfl rfl rfl rfl rfl rfl rfl rfl rfl rfl) ⟨⟨?_, r2, r3⟩, fun p hp => ?_, r5, r6⟩
          · exact c.symm
          · unfold movT
            rw [law_pos c4, r4 a ha]
            by_cases z : p = a
            · subst z; rw [up2_same, up2_same]
            · rw [show ∀ v, up2 (up2 G 48 16 (-1)) 57 a v 57 p = G 57 p from fun v => by simp [up2, z], show ∀ v, up2 F 23 a v 23 p = F 23 p from fun v => by simp [up2, z]]
              exact r4 p hp
        · have c4 : ¬ stOK (F 23) a b (F 17 2 * F 17 2) n := fun z => c3 (e.mpr z)
          rw [if_neg c3, if_pos (show movT F n a b = -1 from law_neg.mpr c4)]
          refine jg_mj hn k (q + 1) h _ _ (by omega) (hS.of rfl rfl rfl rfl rfl rfl rfl rfl rfl rfl rfl rfl rfl rfl) ⟨⟨rfl, r2, r3⟩, fun p hp => ?_, r5, r6⟩
          rw [up2_id _ 57 a (by rw [up2_row (by decide)])]
          exact r4 p hp
      · have hb : b < n := by
          rcases hk with z | z
          · exact absurd z.1 c2
          · exact z.2
        rw [if_neg c2, if_neg c2]
        have ev : mvd G n (G 51 0) (-1) a b = cvd F (F 23) n (F 17 0) (-1) a b := by
          rw [s3 0 (by omega)]
          exact vd_gen (fun p hp => (s1 p hp).1) (fun p hp => (s1 p hp).2.1) (fun p hp => (s1 p hp).2.2) r4 (s3 1 (by omega)) s2 ha hb
        have eb : ∀ p, p < n → (bit (nI h) p ↔ ¬ F 24 p = 0) := fun p hp => (tb_iff r5 (by omega)).trans (r6 p hp)
        have e : (mvd G n (G 51 0) (-1) a b = 0 ∧ ¬ bit (nI h) a ∧ ¬ bit (nI h) b) ↔ strC F n a b := by
          rw [ev]; unfold strC
          rw [eb a ha, eb b hb]
          constructor
          · rintro ⟨z1, z2, z3⟩; exact ⟨Classical.not_not.mp z2, Classical.not_not.mp z3, z1⟩
          · rintro ⟨z1, z2, z3⟩; exact ⟨z3, fun z => z z1, fun z => z z2⟩
        by_cases c3 : strC F n a b
        · rw [if_pos (e.mpr c3), if_pos c3]
          rw [show nI h ||| (1 <<< (nI a &&& 31) ||| 1 <<< (nI b &&& 31)) = nI (h ||| 2 ^ a ||| 2 ^ b) from (by rw [← Int32.or_assoc, or_eq r5 (by omega), or_eq (or_lt r5 (by omega)) (by omega)])]
          refine jg_mj hn k (q + 1) _ _ _ (by omega) (hS.of rfl rfl rfl rfl rfl rfl rfl rfl rfl rfl rfl rfl rfl rfl) ⟨⟨r1, ?_, ?_⟩, r4, or_lt (or_lt r5 (by omega)) (by omega), fun p hp => ?_⟩
          · show G 48 17 + 1 = F 22 4 + 1
            rw [r2]
          · show G 48 18 + gan (G 52) (G 54) a b = F 22 5 + gan (F 11) (F 13) a b
            rw [r3, gan_gen (fun p hp => (s1 p hp).1) (fun p hp => (s1 p hp).2.2) ha hb]
          · rw [tb_or, tb_or, r6 p hp]
            show _ ↔ ¬ (if p = b then (1 : Int32) else if p = a then 1 else F 24 p) = 0
            by_cases z1 : p = b
            · rw [if_pos z1]; exact ⟨fun _ => by decide, fun _ => Or.inr z1⟩
            · rw [if_neg z1]
              by_cases z2 : p = a
              · rw [if_pos z2]; exact ⟨fun _ => by decide, fun _ => Or.inl (Or.inr z2)⟩
              · rw [if_neg z2]
                exact ⟨fun z => z.elim (fun y => y.elim id (fun y => absurd y z2)) (fun y => absurd y z1), fun z => Or.inl (Or.inl z)⟩
        · rw [if_neg (fun z => c3 (e.mp z)), if_neg c3]
          exact jg_mj hn k (q + 1) h _ _ (by omega) (hS.of rfl rfl rfl rfl rfl rfl rfl rfl rfl rfl rfl rfl rfl rfl) ⟨⟨rfl, r2, r3⟩, r4, r5, r6⟩
    · rw [if_neg c, if_neg c]; exact ⟨⟨r1, r2, r3⟩, r4⟩
/-! home -/
theorem home_eq {n : Nat} : ∀ (k p : Nat) (acc : Int32) (F G : FF), p + k = n → (∀ q, q < n → G 55 q = F 14 q ∧ G 56 q = F 15 q) → (mhL k p acc G).1 = (homeL k p acc F).1
  | 0, _, _, _, _, _, _ => rfl
  | k + 1, p, acc, F, G, hk, h => by
    rw [mhL, homeL, (h p (by omega)).1, (h p (by omega)).2]
    have e : (acc + if F 15 p = F 14 p then 0 else 1) = if F 15 p = F 14 p then acc else acc + 1 := by
      by_cases c : F 15 p = F 14 p
      · rw [if_pos c, if_pos c, Int32.add_zero]
      · rw [if_neg c, if_neg c]
    rw [e]
    refine home_eq (n := n) k (p + 1) _ _ _ (by omega) (fun q hq => ⟨?_, ?_⟩)
    · rw [up2_row (by decide), up2_row (by decide)]; exact (h q hq).1
    · by_cases c : q = p
      · subst c; rw [up2_same, up2_same]
      · rw [show ∀ v, up2 G 56 p v 56 q = G 56 q from fun v => by simp [up2, c], show ∀ v, up2 F 15 p v 15 q = F 15 q from fun v => by simp [up2, c]]
        exact (h q hq).2
theorem homeL_row {x : Nat} (h : x ≠ 15) : ∀ (k p : Nat) (acc : Int32) (F : FF), (homeL k p acc F).2 x = F x
  | 0, _, _, _ => rfl
  | k + 1, p, acc, F => by rw [homeL, homeL_row h k, up2_row h]
theorem mhL_row {x : Nat} (h : x ≠ 56) : ∀ (k p : Nat) (acc : Int32) (F : FF), (mhL k p acc F).2 x = F x
  | 0, _, _, _ => rfl
  | k + 1, p, acc, F => by rw [mhL, mhL_row h k, up2_row h]
theorem homeL_15 : ∀ (k p : Nat) (acc : Int32) (F : FF) (j : Nat), (homeL k p acc F).2 15 j = if p ≤ j ∧ j < p + k then F 14 j else F 15 j
  | 0, p, acc, F, j => by rw [if_neg (by omega)]; rfl
  | k + 1, p, acc, F, j => by
    rw [homeL, homeL_15 k (p + 1) _ _ j, up2_row (a := 14) (by decide)]
    by_cases h : j = p
    · subst h; rw [if_neg (show ¬ (j + 1 ≤ j ∧ j < j + 1 + k) by omega), if_pos (show j ≤ j ∧ j < j + (k + 1) by omega), up2_same]
    · rw [show ∀ v, up2 F 15 p v 15 j = F 15 j from fun v => by simp [up2, h]]
      by_cases h2 : p + 1 ≤ j ∧ j < p + 1 + k
      · rw [if_pos h2, if_pos (show p ≤ j ∧ j < p + (k + 1) by omega)]
      · rw [if_neg h2, if_neg (show ¬ (p ≤ j ∧ j < p + (k + 1)) by omega)]
theorem mhL_56 : ∀ (k p : Nat) (acc : Int32) (F : FF) (j : Nat), (mhL k p acc F).2 56 j = if p ≤ j ∧ j < p + k then F 55 j else F 56 j
  | 0, p, acc, F, j => by rw [if_neg (by omega)]; rfl
  | k + 1, p, acc, F, j => by
    rw [mhL, mhL_56 k (p + 1) _ _ j, up2_row (a := 55) (by decide)]
    by_cases h : j = p
    · subst h; rw [if_neg (show ¬ (j + 1 ≤ j ∧ j < j + 1 + k) by omega), if_pos (show j ≤ j ∧ j < j + (k + 1) by omega), up2_same]
    · rw [show ∀ v, up2 F 56 p v 56 j = F 56 j from fun v => by simp [up2, h]]
      by_cases h2 : p + 1 ≤ j ∧ j < p + 1 + k
      · rw [if_pos h2, if_pos (show p ≤ j ∧ j < p + (k + 1) by omega)]
      · rw [if_neg h2, if_neg (show ¬ (p ≤ j ∧ j < p + (k + 1)) by omega)]
