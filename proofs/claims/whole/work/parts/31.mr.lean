/-! The reference: people, places, binding. Printed by wip/whole/gen/spec15.py. -/
theorem up2_id {α : Type} (F : Nat → Nat → α) (k j : Nat) {v : α} (h : F k j = v) : up2 F k j v = F := by
  subst h; funext a b; unfold up2
  by_cases h1 : a = k <;> by_cases h2 : b = j <;> simp [h1, h2]
theorem mSt_low {F : FF} {l n at_ a j : Nat} (h : j ≠ n) : mSt F l n at_ a j = F a j := by unfold mSt; simp [up2, h]
theorem mSt_row {F : FF} {l n at_ a : Nat} (h : a < 52 ∨ 55 < a) : mSt F l n at_ a = F a := by
  funext j; unfold mSt; simp [up2, show a ≠ 52 by omega, show a ≠ 53 by omega, show a ≠ 54 by omega, show a ≠ 55 by omega]
theorem mrd_low (l : Nat) : ∀ (k n at_ : Nat) (G : FF) (j a : Nat), j < n → a ≠ 48 → (mrdL l k n at_ G).2 a j = G a j := by
  intro k
  induction k with
  | zero => intro n at_ G j a _ _; rfl
  | succ k ih =>
    intro n at_ G j a hj ha
    by_cases c0 : ¬ at_ < l ∧ at_ = 0
    · have e : mrdL l (k + 1) n at_ G = (-1, G) := by simp only [mrdL]; rw [if_pos c0]
      rw [e]
    by_cases c1 : n = 10 ∨ (¬ tat l (G 50) at_ = 115 ∧ ¬ tat l (G 50) at_ = 98 ∧ ¬ tat l (G 50) at_ = 110)
    · have e : mrdL l (k + 1) n at_ G = (nI at_, G) := by simp only [mrdL]; rw [if_neg c0, if_pos c1]
      rw [e]
    by_cases c2 : ¬ (48 ≤ tat l (G 50) (at_ + 1) ∧ tat l (G 50) (at_ + 1) ≤ 51)
    · have e : mrdL l (k + 1) n at_ G = (nI (at_ + 1), G) := by simp only [mrdL]; rw [if_neg c0, if_neg c1, if_pos c2]
      rw [e]
    by_cases c3 : ¬ 0 ≤ prA l (G 50) (at_ + 2)
    · have e : mrdL l (k + 1) n at_ G = (-2 - prA l (G 50) (at_ + 2), G) := by simp only [mrdL]; rw [if_neg c0, if_neg c1, if_neg c2, if_pos c3]
      rw [e]
    by_cases c4 : ¬ 0 ≤ prA l (G 50) (at_ + 4)
    · have e : mrdL l (k + 1) n at_ G = (-2 - prA l (G 50) (at_ + 4), G) := by simp only [mrdL]; rw [if_neg c0, if_neg c1, if_neg c2, if_neg c3, if_pos c4]
      rw [e]
    by_cases c5 : ¬ prA l (G 50) (at_ + 4) ≤ 31
    · have e : mrdL l (k + 1) n at_ G = (nI (at_ + 4), G) := by simp only [mrdL]; rw [if_neg c0, if_neg c1, if_neg c2, if_neg c3, if_neg c4, if_pos c5]
      rw [e]
    by_cases c6 : ¬ 0 ≤ prA l (G 50) (at_ + 6)
    · have e : mrdL l (k + 1) n at_ G = (-2 - prA l (G 50) (at_ + 6), G) := by simp only [mrdL]; rw [if_neg c0, if_neg c1, if_neg c2, if_neg c3, if_neg c4, if_neg c5, if_pos c6]
      rw [e]
    by_cases c7 : ¬ prA l (G 50) (at_ + 6) ≤ 31
    · have e : mrdL l (k + 1) n at_ G = (nI (at_ + 6), G) := by simp only [mrdL]; rw [if_neg c0, if_neg c1, if_neg c2, if_neg c3, if_neg c4, if_neg c5, if_neg c6, if_pos c7]
      rw [e]
    by_cases c8 : at_ + 8 = l
    · have e : mrdL l (k + 1) n at_ G = (-1, up2 (mSt G l n at_) 48 3 (nI (n + 1))) := by simp only [mrdL]; rw [if_neg c0, if_neg c1, if_neg c2, if_neg c3, if_neg c4, if_neg c5, if_neg c6, if_neg c7, if_pos c8]
      rw [e]
      show up2 (mSt G l n at_) 48 3 (nI (n + 1)) a j = _
      rw [show up2 (mSt G l n at_) 48 3 (nI (n + 1)) a j = mSt G l n at_ a j from (by simp [up2, ha])]
      exact mSt_low (by omega)
    by_cases c9 : ¬ tat l (G 50) (at_ + 8) = 59
    · have e : mrdL l (k + 1) n at_ G = (nI (at_ + 8), mSt G l n at_) := by simp only [mrdL]; rw [if_neg c0, if_neg c1, if_neg c2, if_neg c3, if_neg c4, if_neg c5, if_neg c6, if_neg c7, if_neg c8, if_pos c9]
      rw [e]
      show mSt G l n at_ a j = _
      exact mSt_low (by omega)
    have e : mrdL l (k + 1) n at_ G = mrdL l k (n + 1) (at_ + 8 + 1) (mSt G l n at_) := by simp only [mrdL]; rw [if_neg c0, if_neg c1, if_neg c2, if_neg c3, if_neg c4, if_neg c5, if_neg c6, if_neg c7, if_neg c8, if_neg c9]
    rw [e]
    rw [ih (n + 1) _ _ j a (by omega) ha]
    exact mSt_low (by omega)
theorem mrd_row (l : Nat) : ∀ (k n at_ : Nat) (G : FF) (a : Nat), a < 52 ∨ 55 < a → a ≠ 48 → (mrdL l k n at_ G).2 a = G a := by
  intro k
  induction k with
  | zero => intro n at_ G a _ _; rfl
  | succ k ih =>
    intro n at_ G a hj ha
    by_cases c0 : ¬ at_ < l ∧ at_ = 0
    · have e : mrdL l (k + 1) n at_ G = (-1, G) := by simp only [mrdL]; rw [if_pos c0]
      rw [e]
    by_cases c1 : n = 10 ∨ (¬ tat l (G 50) at_ = 115 ∧ ¬ tat l (G 50) at_ = 98 ∧ ¬ tat l (G 50) at_ = 110)
    · have e : mrdL l (k + 1) n at_ G = (nI at_, G) := by simp only [mrdL]; rw [if_neg c0, if_pos c1]
      rw [e]
    by_cases c2 : ¬ (48 ≤ tat l (G 50) (at_ + 1) ∧ tat l (G 50) (at_ + 1) ≤ 51)
    · have e : mrdL l (k + 1) n at_ G = (nI (at_ + 1), G) := by simp only [mrdL]; rw [if_neg c0, if_neg c1, if_pos c2]
      rw [e]
    by_cases c3 : ¬ 0 ≤ prA l (G 50) (at_ + 2)
    · have e : mrdL l (k + 1) n at_ G = (-2 - prA l (G 50) (at_ + 2), G) := by simp only [mrdL]; rw [if_neg c0, if_neg c1, if_neg c2, if_pos c3]
      rw [e]
    by_cases c4 : ¬ 0 ≤ prA l (G 50) (at_ + 4)
    · have e : mrdL l (k + 1) n at_ G = (-2 - prA l (G 50) (at_ + 4), G) := by simp only [mrdL]; rw [if_neg c0, if_neg c1, if_neg c2, if_neg c3, if_pos c4]
      rw [e]
    by_cases c5 : ¬ prA l (G 50) (at_ + 4) ≤ 31
    · have e : mrdL l (k + 1) n at_ G = (nI (at_ + 4), G) := by simp only [mrdL]; rw [if_neg c0, if_neg c1, if_neg c2, if_neg c3, if_neg c4, if_pos c5]
      rw [e]
    by_cases c6 : ¬ 0 ≤ prA l (G 50) (at_ + 6)
    · have e : mrdL l (k + 1) n at_ G = (-2 - prA l (G 50) (at_ + 6), G) := by simp only [mrdL]; rw [if_neg c0, if_neg c1, if_neg c2, if_neg c3, if_neg c4, if_neg c5, if_pos c6]
      rw [e]
    by_cases c7 : ¬ prA l (G 50) (at_ + 6) ≤ 31
    · have e : mrdL l (k + 1) n at_ G = (nI (at_ + 6), G) := by simp only [mrdL]; rw [if_neg c0, if_neg c1, if_neg c2, if_neg c3, if_neg c4, if_neg c5, if_neg c6, if_pos c7]
      rw [e]
    by_cases c8 : at_ + 8 = l
    · have e : mrdL l (k + 1) n at_ G = (-1, up2 (mSt G l n at_) 48 3 (nI (n + 1))) := by simp only [mrdL]; rw [if_neg c0, if_neg c1, if_neg c2, if_neg c3, if_neg c4, if_neg c5, if_neg c6, if_neg c7, if_pos c8]
      rw [e]
      show up2 (mSt G l n at_) 48 3 (nI (n + 1)) a = _
      rw [show up2 (mSt G l n at_) 48 3 (nI (n + 1)) a = mSt G l n at_ a from (by funext j; simp [up2, ha])]
      exact mSt_row hj
    by_cases c9 : ¬ tat l (G 50) (at_ + 8) = 59
    · have e : mrdL l (k + 1) n at_ G = (nI (at_ + 8), mSt G l n at_) := by simp only [mrdL]; rw [if_neg c0, if_neg c1, if_neg c2, if_neg c3, if_neg c4, if_neg c5, if_neg c6, if_neg c7, if_neg c8, if_pos c9]
      rw [e]
      exact mSt_row hj
    have e : mrdL l (k + 1) n at_ G = mrdL l k (n + 1) (at_ + 8 + 1) (mSt G l n at_) := by simp only [mrdL]; rw [if_neg c0, if_neg c1, if_neg c2, if_neg c3, if_neg c4, if_neg c5, if_neg c6, if_neg c7, if_neg c8, if_neg c9]
    rw [e]
    rw [ih (n + 1) _ _ a hj ha]
    exact mSt_row hj
theorem mrd_48 (l : Nat) : ∀ (k n at_ : Nat) (G : FF) (j : Nat), j ≠ 3 → (mrdL l k n at_ G).2 48 j = G 48 j := by
  intro k
  induction k with
  | zero => intro n at_ G a _; rfl
  | succ k ih =>
    intro n at_ G j hj
    by_cases c0 : ¬ at_ < l ∧ at_ = 0
    · have e : mrdL l (k + 1) n at_ G = (-1, G) := by simp only [mrdL]; rw [if_pos c0]
      rw [e]
    by_cases c1 : n = 10 ∨ (¬ tat l (G 50) at_ = 115 ∧ ¬ tat l (G 50) at_ = 98 ∧ ¬ tat l (G 50) at_ = 110)
    · have e : mrdL l (k + 1) n at_ G = (nI at_, G) := by simp only [mrdL]; rw [if_neg c0, if_pos c1]
      rw [e]
    by_cases c2 : ¬ (48 ≤ tat l (G 50) (at_ + 1) ∧ tat l (G 50) (at_ + 1) ≤ 51)
    · have e : mrdL l (k + 1) n at_ G = (nI (at_ + 1), G) := by simp only [mrdL]; rw [if_neg c0, if_neg c1, if_pos c2]
      rw [e]
    by_cases c3 : ¬ 0 ≤ prA l (G 50) (at_ + 2)
    · have e : mrdL l (k + 1) n at_ G = (-2 - prA l (G 50) (at_ + 2), G) := by simp only [mrdL]; rw [if_neg c0, if_neg c1, if_neg c2, if_pos c3]
      rw [e]
    by_cases c4 : ¬ 0 ≤ prA l (G 50) (at_ + 4)
    · have e : mrdL l (k + 1) n at_ G = (-2 - prA l (G 50) (at_ + 4), G) := by simp only [mrdL]; rw [if_neg c0, if_neg c1, if_neg c2, if_neg c3, if_pos c4]
      rw [e]
    by_cases c5 : ¬ prA l (G 50) (at_ + 4) ≤ 31
    · have e : mrdL l (k + 1) n at_ G = (nI (at_ + 4), G) := by simp only [mrdL]; rw [if_neg c0, if_neg c1, if_neg c2, if_neg c3, if_neg c4, if_pos c5]
      rw [e]
    by_cases c6 : ¬ 0 ≤ prA l (G 50) (at_ + 6)
    · have e : mrdL l (k + 1) n at_ G = (-2 - prA l (G 50) (at_ + 6), G) := by simp only [mrdL]; rw [if_neg c0, if_neg c1, if_neg c2, if_neg c3, if_neg c4, if_neg c5, if_pos c6]
      rw [e]
    by_cases c7 : ¬ prA l (G 50) (at_ + 6) ≤ 31
    · have e : mrdL l (k + 1) n at_ G = (nI (at_ + 6), G) := by simp only [mrdL]; rw [if_neg c0, if_neg c1, if_neg c2, if_neg c3, if_neg c4, if_neg c5, if_neg c6, if_pos c7]
      rw [e]
    by_cases c8 : at_ + 8 = l
    · have e : mrdL l (k + 1) n at_ G = (-1, up2 (mSt G l n at_) 48 3 (nI (n + 1))) := by simp only [mrdL]; rw [if_neg c0, if_neg c1, if_neg c2, if_neg c3, if_neg c4, if_neg c5, if_neg c6, if_neg c7, if_pos c8]
      rw [e]
      show up2 (mSt G l n at_) 48 3 (nI (n + 1)) 48 j = _
      rw [show up2 (mSt G l n at_) 48 3 (nI (n + 1)) 48 j = mSt G l n at_ 48 j from (by simp [up2, hj])]
      rw [mSt_row (by omega)]
    by_cases c9 : ¬ tat l (G 50) (at_ + 8) = 59
    · have e : mrdL l (k + 1) n at_ G = (nI (at_ + 8), mSt G l n at_) := by simp only [mrdL]; rw [if_neg c0, if_neg c1, if_neg c2, if_neg c3, if_neg c4, if_neg c5, if_neg c6, if_neg c7, if_neg c8, if_pos c9]
      rw [e]
      show mSt G l n at_ 48 j = _
      rw [mSt_row (by omega)]
    have e : mrdL l (k + 1) n at_ G = mrdL l k (n + 1) (at_ + 8 + 1) (mSt G l n at_) := by simp only [mrdL]; rw [if_neg c0, if_neg c1, if_neg c2, if_neg c3, if_neg c4, if_neg c5, if_neg c6, if_neg c7, if_neg c8, if_neg c9]
    rw [e]
    rw [ih (n + 1) _ _ j hj]
    rw [mSt_row (by omega)]
theorem mrd_id (l : Nat) : ∀ (k n at_ : Nat) (G F : FF), F 50 = G 50 → (∀ a, 52 ≤ a → a ≤ 55 → F a = (mrdL l k n at_ G).2 a) → F 48 3 = G 48 3 → mrdL l k n at_ F = ((mrdL l k n at_ G).1, up2 F 48 3 ((mrdL l k n at_ G).2 48 3)) := by
  intro k
  induction k with
  | zero => intro n at_ G F _ _ e3; exact congrArg (fun z => ((-1 : Int32), z)) (up2_id F 48 3 e3).symm
  | succ k ih =>
    intro n at_ G F e50 hr e3
    by_cases c0 : ¬ at_ < l ∧ at_ = 0
    · have e : mrdL l (k + 1) n at_ G = (-1, G) := by simp only [mrdL]; rw [if_pos c0]
      have eF : mrdL l (k + 1) n at_ F = (-1, F) := by simp only [mrdL]; rw [e50]; rw [if_pos c0]
      rw [e] at hr ⊢
      rw [eF]
      exact congrArg (fun z => (-1, z)) (up2_id F 48 3 e3).symm
    by_cases c1 : n = 10 ∨ (¬ tat l (G 50) at_ = 115 ∧ ¬ tat l (G 50) at_ = 98 ∧ ¬ tat l (G 50) at_ = 110)
    · have e : mrdL l (k + 1) n at_ G = (nI at_, G) := by simp only [mrdL]; rw [if_neg c0, if_pos c1]
      have eF : mrdL l (k + 1) n at_ F = (nI at_, F) := by simp only [mrdL]; rw [e50]; rw [if_neg c0, if_pos c1]
      rw [e] at hr ⊢
      rw [eF]
      exact congrArg (fun z => (nI at_, z)) (up2_id F 48 3 e3).symm
    by_cases c2 : ¬ (48 ≤ tat l (G 50) (at_ + 1) ∧ tat l (G 50) (at_ + 1) ≤ 51)
    · have e : mrdL l (k + 1) n at_ G = (nI (at_ + 1), G) := by simp only [mrdL]; rw [if_neg c0, if_neg c1, if_pos c2]
      have eF : mrdL l (k + 1) n at_ F = (nI (at_ + 1), F) := by simp only [mrdL]; rw [e50]; rw [if_neg c0, if_neg c1, if_pos c2]
      rw [e] at hr ⊢
      rw [eF]
      exact congrArg (fun z => (nI (at_ + 1), z)) (up2_id F 48 3 e3).symm
    by_cases c3 : ¬ 0 ≤ prA l (G 50) (at_ + 2)
    · have e : mrdL l (k + 1) n at_ G = (-2 - prA l (G 50) (at_ + 2), G) := by simp only [mrdL]; rw [if_neg c0, if_neg c1, if_neg c2, if_pos c3]
      have eF : mrdL l (k + 1) n at_ F = (-2 - prA l (G 50) (at_ + 2), F) := by simp only [mrdL]; rw [e50]; rw [if_neg c0, if_neg c1, if_neg c2, if_pos c3]
      rw [e] at hr ⊢
      rw [eF]
      exact congrArg (fun z => (-2 - prA l (G 50) (at_ + 2), z)) (up2_id F 48 3 e3).symm
    by_cases c4 : ¬ 0 ≤ prA l (G 50) (at_ + 4)
    · have e : mrdL l (k + 1) n at_ G = (-2 - prA l (G 50) (at_ + 4), G) := by simp only [mrdL]; rw [if_neg c0, if_neg c1, if_neg c2, if_neg c3, if_pos c4]
      have eF : mrdL l (k + 1) n at_ F = (-2 - prA l (G 50) (at_ + 4), F) := by simp only [mrdL]; rw [e50]; rw [if_neg c0, if_neg c1, if_neg c2, if_neg c3, if_pos c4]
      rw [e] at hr ⊢
      rw [eF]
      exact congrArg (fun z => (-2 - prA l (G 50) (at_ + 4), z)) (up2_id F 48 3 e3).symm
    by_cases c5 : ¬ prA l (G 50) (at_ + 4) ≤ 31
    · have e : mrdL l (k + 1) n at_ G = (nI (at_ + 4), G) := by simp only [mrdL]; rw [if_neg c0, if_neg c1, if_neg c2, if_neg c3, if_neg c4, if_pos c5]
      have eF : mrdL l (k + 1) n at_ F = (nI (at_ + 4), F) := by simp only [mrdL]; rw [e50]; rw [if_neg c0, if_neg c1, if_neg c2, if_neg c3, if_neg c4, if_pos c5]
      rw [e] at hr ⊢
      rw [eF]
      exact congrArg (fun z => (nI (at_ + 4), z)) (up2_id F 48 3 e3).symm
    by_cases c6 : ¬ 0 ≤ prA l (G 50) (at_ + 6)
    · have e : mrdL l (k + 1) n at_ G = (-2 - prA l (G 50) (at_ + 6), G) := by simp only [mrdL]; rw [if_neg c0, if_neg c1, if_neg c2, if_neg c3, if_neg c4, if_neg c5, if_pos c6]
      have eF : mrdL l (k + 1) n at_ F = (-2 - prA l (G 50) (at_ + 6), F) := by simp only [mrdL]; rw [e50]; rw [if_neg c0, if_neg c1, if_neg c2, if_neg c3, if_neg c4, if_neg c5, if_pos c6]
      rw [e] at hr ⊢
      rw [eF]
      exact congrArg (fun z => (-2 - prA l (G 50) (at_ + 6), z)) (up2_id F 48 3 e3).symm
    by_cases c7 : ¬ prA l (G 50) (at_ + 6) ≤ 31
    · have e : mrdL l (k + 1) n at_ G = (nI (at_ + 6), G) := by simp only [mrdL]; rw [if_neg c0, if_neg c1, if_neg c2, if_neg c3, if_neg c4, if_neg c5, if_neg c6, if_pos c7]
      have eF : mrdL l (k + 1) n at_ F = (nI (at_ + 6), F) := by simp only [mrdL]; rw [e50]; rw [if_neg c0, if_neg c1, if_neg c2, if_neg c3, if_neg c4, if_neg c5, if_neg c6, if_pos c7]
      rw [e] at hr ⊢
      rw [eF]
      exact congrArg (fun z => (nI (at_ + 6), z)) (up2_id F 48 3 e3).symm
    by_cases c8 : at_ + 8 = l
    · have e : mrdL l (k + 1) n at_ G = (-1, up2 (mSt G l n at_) 48 3 (nI (n + 1))) := by simp only [mrdL]; rw [if_neg c0, if_neg c1, if_neg c2, if_neg c3, if_neg c4, if_neg c5, if_neg c6, if_neg c7, if_pos c8]
      have eF : mrdL l (k + 1) n at_ F = (-1, up2 (mSt F l n at_) 48 3 (nI (n + 1))) := by simp only [mrdL]; rw [e50]; rw [if_neg c0, if_neg c1, if_neg c2, if_neg c3, if_neg c4, if_neg c5, if_neg c6, if_neg c7, if_pos c8]
      rw [e] at hr ⊢
      rw [eF]
      have q52 : F 52 n = cKind (tat l (F 50) at_) := by rw [e50, (congrFun (hr 52 (by decide) (by decide)) n)]; simp [mSt, up2]
      have q53 : F 53 n = tat l (F 50) (at_ + 1) - 48 := by rw [e50, (congrFun (hr 53 (by decide) (by decide)) n)]; simp [mSt, up2]
      have q54 : F 54 n = prA l (F 50) (at_ + 2) := by rw [e50, (congrFun (hr 54 (by decide) (by decide)) n)]; simp [mSt, up2]
      have q55 : F 55 n = 32 * prA l (F 50) (at_ + 6) + prA l (F 50) (at_ + 4) := by rw [e50, (congrFun (hr 55 (by decide) (by decide)) n)]; simp [mSt, up2]
      have eS : mSt F l n at_ = F := by unfold mSt; rw [up2_id F 52 n q52, up2_id F 53 n q53, up2_id F 54 n q54, up2_id F 55 n q55]
      rw [eS]
      show ((-1 : Int32), up2 F 48 3 (nI (n + 1))) = ((-1 : Int32), up2 F 48 3 (up2 (mSt G l n at_) 48 3 (nI (n + 1)) 48 3))
      rw [up2_same]
    by_cases c9 : ¬ tat l (G 50) (at_ + 8) = 59
    · have e : mrdL l (k + 1) n at_ G = (nI (at_ + 8), mSt G l n at_) := by simp only [mrdL]; rw [if_neg c0, if_neg c1, if_neg c2, if_neg c3, if_neg c4, if_neg c5, if_neg c6, if_neg c7, if_neg c8, if_pos c9]
      have eF : mrdL l (k + 1) n at_ F = (nI (at_ + 8), mSt F l n at_) := by simp only [mrdL]; rw [e50]; rw [if_neg c0, if_neg c1, if_neg c2, if_neg c3, if_neg c4, if_neg c5, if_neg c6, if_neg c7, if_neg c8, if_pos c9]
      rw [e] at hr ⊢
      rw [eF]
      have q52 : F 52 n = cKind (tat l (F 50) at_) := by rw [e50, (congrFun (hr 52 (by decide) (by decide)) n)]; simp [mSt, up2]
      have q53 : F 53 n = tat l (F 50) (at_ + 1) - 48 := by rw [e50, (congrFun (hr 53 (by decide) (by decide)) n)]; simp [mSt, up2]
      have q54 : F 54 n = prA l (F 50) (at_ + 2) := by rw [e50, (congrFun (hr 54 (by decide) (by decide)) n)]; simp [mSt, up2]
      have q55 : F 55 n = 32 * prA l (F 50) (at_ + 6) + prA l (F 50) (at_ + 4) := by rw [e50, (congrFun (hr 55 (by decide) (by decide)) n)]; simp [mSt, up2]
      have eS : mSt F l n at_ = F := by unfold mSt; rw [up2_id F 52 n q52, up2_id F 53 n q53, up2_id F 54 n q54, up2_id F 55 n q55]
      rw [eS]
      exact congrArg (fun z => (nI (at_ + 8), z)) (up2_id F 48 3 (e3.trans (show G 48 3 = mSt G l n at_ 48 3 by rw [mSt_row (by omega)]))).symm
    have e : mrdL l (k + 1) n at_ G = mrdL l k (n + 1) (at_ + 8 + 1) (mSt G l n at_) := by simp only [mrdL]; rw [if_neg c0, if_neg c1, if_neg c2, if_neg c3, if_neg c4, if_neg c5, if_neg c6, if_neg c7, if_neg c8, if_neg c9]
    have eF : mrdL l (k + 1) n at_ F = mrdL l k (n + 1) (at_ + 8 + 1) (mSt F l n at_) := by simp only [mrdL]; rw [e50]; rw [if_neg c0, if_neg c1, if_neg c2, if_neg c3, if_neg c4, if_neg c5, if_neg c6, if_neg c7, if_neg c8, if_neg c9]
    rw [e] at hr ⊢
    rw [eF]
    have q52 : F 52 n = cKind (tat l (F 50) at_) := by rw [e50, ((congrFun (hr 52 (by decide) (by decide)) n).trans (mrd_low l k (n + 1) (at_ + 8 + 1) (mSt G l n at_) n 52 (by omega) (by decide)))]; simp [mSt, up2]
    have q53 : F 53 n = tat l (F 50) (at_ + 1) - 48 := by rw [e50, ((congrFun (hr 53 (by decide) (by decide)) n).trans (mrd_low l k (n + 1) (at_ + 8 + 1) (mSt G l n at_) n 53 (by omega) (by decide)))]; simp [mSt, up2]
    have q54 : F 54 n = prA l (F 50) (at_ + 2) := by rw [e50, ((congrFun (hr 54 (by decide) (by decide)) n).trans (mrd_low l k (n + 1) (at_ + 8 + 1) (mSt G l n at_) n 54 (by omega) (by decide)))]; simp [mSt, up2]
    have q55 : F 55 n = 32 * prA l (F 50) (at_ + 6) + prA l (F 50) (at_ + 4) := by rw [e50, ((congrFun (hr 55 (by decide) (by decide)) n).trans (mrd_low l k (n + 1) (at_ + 8 + 1) (mSt G l n at_) n 55 (by omega) (by decide)))]; simp [mSt, up2]
    have eS : mSt F l n at_ = F := by unfold mSt; rw [up2_id F 52 n q52, up2_id F 53 n q53, up2_id F 54 n q54, up2_id F 55 n q55]
    rw [eS]
    exact ih (n + 1) (at_ + 8 + 1) (mSt G l n at_) F (e50.trans (mSt_row (by omega)).symm) hr (e3.trans (by rw [mSt_row (by omega)]))
theorem up2_up2 {α : Type} (F : Nat → Nat → α) (k j : Nat) (u v : α) : up2 (up2 F k j u) k j v = up2 F k j v := by
  funext a b; unfold up2; by_cases h1 : a = k <;> by_cases h2 : b = j <;> simp [h1, h2]
theorem rds_id {l : Nat} {G F : FF} (e50 : F 50 = G 50) (hr : ∀ a, 52 ≤ a → a ≤ 55 → F a = (rds G l).2 a) (e3 : F 48 3 = (rds G l).2 48 3) : rds F l = ((rds G l).1, F) := by
  have h := mrd_id l 11 0 0 (up2 G 48 3 0) (up2 F 48 3 0) e50 (fun a h1 h2 => by rw [show up2 F 48 3 0 a = F a from (by funext j; simp [up2, show a ≠ 48 by omega])]; exact hr a h1 h2) rfl
  unfold rds
  rw [h, up2_up2]
  exact congrArg (fun z => ((rds G l).1, z)) (up2_id F 48 3 e3)
/-- the reference has read its text -/
def MR (F : FF) (l n : Nat) : Prop := F 49 0 = nI l ∧ l ≤ 90 ∧ n ≤ 10 ∧ F 48 3 = nI n ∧ (rds F l).2 = F
theorem MR.of {F F' : FF} {l n : Nat} (h : MR F l n) (e48 : F' 48 3 = F 48 3) (e49 : F' 49 0 = F 49 0) (e50 : F' 50 = F 50) (e52 : F' 52 = F 52) (e53 : F' 53 = F 53) (e54 : F' 54 = F 54) (e55 : F' 55 = F 55) : MR F' l n ∧ (rds F' l).1 = (rds F l).1 := by
  have q := h.2.2.2.2
  have hh : rds F' l = ((rds F l).1, F') := rds_id e50 (by
    intro a h1 h2
    rw [q]
    rcases (by omega : a = 52 ∨ a = 53 ∨ a = 54 ∨ a = 55) with z | z | z | z <;> (subst z; assumption)) (by rw [q]; exact e48)
  exact ⟨⟨e49.trans h.1, h.2.1, h.2.2.1, e48.trans h.2.2.2.1, by rw [hh]⟩, by rw [hh]⟩
theorem MR.set {F : FF} {l n : Nat} (h : MR F l n) {a : Nat} (ha : a ≠ 48 ∧ a ≠ 49 ∧ a ≠ 50 ∧ (a < 52 ∨ 55 < a)) (j : Nat) (v : Int32) : MR (up2 F a j v) l n ∧ (rds (up2 F a j v) l).1 = (rds F l).1 := by
  have hq : ∀ b, b ≠ a → up2 F a j v b = F b := fun b hb => by funext x; simp [up2, hb]
  exact h.of (by rw [hq _ (by omega)]) (by rw [hq _ (by omega)]) (hq _ (by omega)) (hq _ (by omega)) (hq _ (by omega)) (hq _ (by omega)) (hq _ (by omega))
theorem MR.set48 {F : FF} {l n : Nat} (h : MR F l n) (j : Nat) (hj : j ≠ 3) (v : Int32) : MR (up2 F 48 j v) l n ∧ (rds (up2 F 48 j v) l).1 = (rds F l).1 := by
  have hq : ∀ b, b ≠ 48 → up2 F 48 j v b = F b := fun b hb => by funext x; simp [up2, hb]
  exact h.of (by simp [up2]; omega) (by rw [hq _ (by omega)]) (hq _ (by omega)) (hq _ (by omega)) (hq _ (by omega)) (hq _ (by omega)) (hq _ (by omega))
theorem awy_comm (s t : Int32) : awy s t = awy t s := by unfold awy; grind
abbrev mtr (K T P : Nat → Int32) (a b : Nat) : Prop := (K a = 0 ∧ K b = 1 ∨ K a = 1 ∧ K b = 0) ∧ T a = T b ∧ 0 ≤ gan K P a b
def mvB (K T P X : Nat → Int32) (clr due w : Int32) (n a b : Nat) : Int32 :=
  if awy (X a) (X b) ≠ due * due then 1 else if fnr X a b w clr n 0 ≠ -1 then 2 else if mtr K T P a b then 0 else 3
def mvd (F : FF) (n : Nat) (due w : Int32) (a b : Nat) : Int32 := mvB (F 52) (F 53) (F 54) (F 57) (F 51 1 * F 51 1) due w n a b
def stL : Nat → Nat → FF → FF
  | 0, _, F => F
  | k + 1, p, F => stL k (p + 1) (up2 F 56 p (F 55 p))
def lyL : Nat → Nat → FF → FF
  | 0, _, F => F
  | k + 1, p, F => lyL k (p + 1) (up2 F 57 p (F 56 p))
theorem stL_row : ∀ (k p : Nat) (F : FF) (a : Nat), a ≠ 56 → stL k p F a = F a
  | 0, _, _, _, _ => rfl
  | k + 1, p, F, a, h => by rw [stL, stL_row k (p + 1) _ a h]; funext j; simp [up2, h]
theorem lyL_row : ∀ (k p : Nat) (F : FF) (a : Nat), a ≠ 57 → lyL k p F a = F a
  | 0, _, _, _, _ => rfl
  | k + 1, p, F, a, h => by rw [lyL, lyL_row k (p + 1) _ a h]; funext j; simp [up2, h]
theorem lyL_57 : ∀ (k p : Nat) (F : FF) (j : Nat), lyL k p F 57 j = if p ≤ j ∧ j < p + k then F 56 j else F 57 j
  | 0, p, F, j => by rw [if_neg (by omega)]; rfl
  | k + 1, p, F, j => by
    rw [lyL, lyL_57 k (p + 1) _ j]
    by_cases h : j = p
    · subst h; rw [if_neg (by omega), if_pos (by omega)]; simp [up2]
    · rw [show up2 F 57 p (F 56 p) 56 j = F 56 j from by simp [up2], show up2 F 57 p (F 56 p) 57 j = F 57 j from by simp [up2, h]]
      by_cases h2 : p + 1 ≤ j ∧ j < p + 1 + k
      · rw [if_pos h2, if_pos (by omega)]
      · rw [if_neg h2, if_neg (by omega)]
theorem stL_56 : ∀ (k p : Nat) (F : FF) (j : Nat), stL k p F 56 j = if p ≤ j ∧ j < p + k then F 55 j else F 56 j
  | 0, p, F, j => by rw [if_neg (by omega)]; rfl
  | k + 1, p, F, j => by
    rw [stL, stL_56 k (p + 1) _ j]
    by_cases h : j = p
    · subst h; rw [if_neg (by omega), if_pos (by omega)]; simp [up2]
    · rw [show up2 F 56 p (F 55 p) 55 j = F 55 j from by simp [up2], show up2 F 56 p (F 55 p) 56 j = F 56 j from by simp [up2, h]]
      by_cases h2 : p + 1 ≤ j ∧ j < p + 1 + k
      · rw [if_pos h2, if_pos (by omega)]
      · rw [if_neg h2, if_neg (by omega)]
def ly (F : FF) (n : Nat) : FF := lyL n 0 F
theorem ly_row {F : FF} {n a : Nat} (h : a ≠ 57) : ly F n a = F a := lyL_row n 0 F a h
theorem ly_57 {F : FF} {n j : Nat} (h : j < n) : ly F n 57 j = F 56 j := by unfold ly; rw [lyL_57, if_pos (by omega)]
theorem MR.lyy {F : FF} {l n : Nat} (h : MR F l n) (m : Nat) : MR (ly F m) l n ∧ (rds (ly F m) l).1 = (rds F l).1 :=
  h.of (by rw [ly_row (by decide)]) (by rw [ly_row (by decide)]) (ly_row (by decide)) (ly_row (by decide)) (ly_row (by decide)) (ly_row (by decide)) (ly_row (by decide))
