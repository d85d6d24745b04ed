/-! What holds between the class and the reference ahead of every call, by hand. -/
def SHr (F : FF) (s : Nat) : Prop := ((F (40 + 2 * s) 1 = 0 ∧ F 69 s = 1) ∨ (F (40 + 2 * s) 1 = 1 ∧ F 69 s = 0)) ∧ F (40 + 2 * s) 2 = F 70 s ∧ (∃ z : Nat, z ≤ 60 ∧ F (40 + 2 * s) 3 = nI z ∧ F 71 s = nI z) ∧ ∀ j, j < 60 → F (41 + 2 * s) j = F 72 (60 * s + j)
def TxR (F : FF) (l0 l1 : Nat) : Prop := (F 6 1 = nI l0 ∧ ∀ j, j < l0 → F 7 j = F 50 j) ∧ (F 8 1 = nI l1 ∧ F 49 1 = nI l1 ∧ l1 ≤ 60 ∧ ∀ j, j < l1 → F 9 j = F 50 (90 + j))
def PS2 (F : FF) (m : Nat) : Prop := m ≤ 8 ∧ F 33 1 = nI m ∧ F 48 21 = nI m ∧ ∀ j, j < m → F 65 j = F 34 j
def IV (F : FF) (l0 l1 n m : Nat) : Prop := CST F ∧ TxR F l0 l1 ∧ (MR F l0 n ∧ F 10 6 = (rds F l0).1) ∧ PP n F ∧ FI F l1 n ∧ (∀ j, j < 3 → F 51 j = F 17 j) ∧ PS2 F m ∧ F 5 11 = F 48 31 ∧ ∀ s, s < 4 → SHr F s
def INV (F : FF) : Prop := ∃ l0 l1 n m, IV F l0 l1 n m
/-- rows that count -/
def imp (a : Nat) : Prop := ¬ (22 ≤ a ∧ a ≤ 32) ∧ ¬ (35 ≤ a ∧ a ≤ 38) ∧ a ≠ 48 ∧ ¬ (57 ≤ a ∧ a ≤ 64) ∧ ¬ (66 ≤ a ∧ a ≤ 68) ∧ a ≠ 73
theorem FI.of {F F' : FF} {l1 n : Nat} (h : FI F l1 n) (e9 : F' 9 = F 9) (e18 : F' 18 = F 18) (e19 : F' 19 = F 19) (e20 : F' 20 = F 20) (e21 : F' 21 = F 21) : FI F' l1 n := by
  unfold FI FRow; rw [e9, e18, e19, e20, e21]; exact h
theorem PP.of {F F' : FF} {n : Nat} (h : PP n F) (e10 : F' 10 5 = F 10 5) (e48 : F' 48 3 = F 48 3) (hr : ∀ a, (11 ≤ a ∧ a ≤ 15) ∨ (52 ≤ a ∧ a ≤ 56) → F' a = F a) : PP n F' := by
  unfold PP; rw [e10, e48, hr 11 (by omega), hr 12 (by omega), hr 13 (by omega), hr 14 (by omega), hr 15 (by omega), hr 52 (by omega), hr 53 (by omega), hr 54 (by omega), hr 55 (by omega), hr 56 (by omega)]; exact h
theorem SHr.of {F F' : FF} {s : Nat} (h : SHr F s) (e1 : F' (40 + 2 * s) = F (40 + 2 * s)) (e2 : F' (41 + 2 * s) = F (41 + 2 * s)) (e69 : F' 69 = F 69) (e70 : F' 70 = F 70) (e71 : F' 71 = F 71) (e72 : F' 72 = F 72) : SHr F' s := by
  unfold SHr; rw [e1, e2, e69, e70, e71, e72]; exact h
theorem IV.keep {F F' : FF} {l0 l1 n m : Nat} (h : IV F l0 l1 n m) (hr : ∀ a, imp a → F' a = F a) (h3 : F' 48 3 = F 48 3) (h21 : F' 48 21 = F 48 21) (h31 : F' 48 31 = F 48 31) : IV F' l0 l1 n m := by
  obtain ⟨hc, ht, ⟨hm, hf⟩, hp, hfi, hst, hps, hfd, hsh⟩ := h
  have r : ∀ a, imp a → F' a = F a := hr
  obtain ⟨hm', hf'⟩ := hm.of (F' := F') h3 (by rw [r 49 (by unfold imp; omega)]) (r 50 (by unfold imp; omega)) (r 52 (by unfold imp; omega)) (r 53 (by unfold imp; omega)) (r 54 (by unfold imp; omega)) (r 55 (by unfold imp; omega))
  refine ⟨hc.of (r 1 (by unfold imp; omega)) (r 2 (by unfold imp; omega)) (r 3 (by unfold imp; omega)) (r 4 (by unfold imp; omega)), ?_, ⟨hm', by rw [r 10 (by unfold imp; omega), hf']; exact hf⟩, hp.of (by rw [r 10 (by unfold imp; omega)]) h3 (fun a ha => r a (by unfold imp; omega)), hfi.of (r 9 (by unfold imp; omega)) (r 18 (by unfold imp; omega)) (r 19 (by unfold imp; omega)) (r 20 (by unfold imp; omega)) (r 21 (by unfold imp; omega)), ?_, ?_, ?_, fun s hs => ?_⟩
  · unfold TxR; rw [r 6 (by unfold imp; omega), r 7 (by unfold imp; omega), r 8 (by unfold imp; omega), r 9 (by unfold imp; omega), r 49 (by unfold imp; omega), r 50 (by unfold imp; omega)]; exact ht
  · rw [r 51 (by unfold imp; omega), r 17 (by unfold imp; omega)]; exact hst
  · unfold PS2; rw [r 33 (by unfold imp; omega), r 34 (by unfold imp; omega), r 65 (by unfold imp; omega), h21]; exact hps
  · rw [r 5 (by unfold imp; omega), h31]; exact hfd
  · exact (hsh s hs).of (r _ (by unfold imp; omega)) (r _ (by unfold imp; omega)) (r 69 (by unfold imp; omega)) (r 70 (by unfold imp; omega)) (r 71 (by unfold imp; omega)) (r 72 (by unfold imp; omega))
/-- a change of one row that doesn't count -/
theorem IV.row {F F' : FF} {l0 l1 n m : Nat} (h : IV F l0 l1 n m) (hr : ∀ a, imp a ∨ a = 48 → F' a = F a) : IV F' l0 l1 n m :=
  h.keep (fun a ha => hr a (Or.inl ha)) (by rw [hr 48 (Or.inr rfl)]) (by rw [hr 48 (Or.inr rfl)]) (by rw [hr 48 (Or.inr rfl)])
theorem IV.ppr {F : FF} {l0 l1 n m : Nat} (h : IV F l0 l1 n m) : PPr n F F := by
  obtain ⟨hc, ht, hm, hp, hfi, hst, -⟩ := h
  exact ⟨fun p q => ⟨(hp.2 p q).1.1, (hp.2 p q).1.2.1, (hp.2 p q).1.2.2.1, (hp.2 p q).1.2.2.2.2⟩, fun p q => (hp.2 p q).2.2.1, hst⟩
/-! the answer of both, and what holds then -/
def PrF (E : EE) (L : Nat) (M1 M2 : MTy) (as : List Value) (F : FF) : Prop := ∃ d1, d1 ≤ 16 ∧ Ev2 E L d1 M1 (.ref 5 :: as) F (fun r1 F1 => ∃ (v : Int32) (d2 : Nat), d2 ≤ 16 ∧ r1 = some (.int v) ∧ Ev2 E L d2 M2 (.ref 48 :: as) F1 (fun r2 F2 => r2 = some (.int v) ∧ INV F2))
theorem pr3 {E : EE} {L : Nat} {M1 M2 : MTy} {as : List Value} {F F1 F2 : FF} {v v' : Int32} {d1 d2 : Nat} (h1 : Ev3 E L d1 M1 (.ref 5 :: as) F (some (.int v)) F1) (h2 : Ev3 E L d2 M2 (.ref 48 :: as) F1 (some (.int v')) F2) (e : Value.int v' = Value.int v) (hI : INV F2) (hd1 : d1 ≤ 16) (hd2 : d2 ≤ 16) : PrF E L M1 M2 as F :=
  ⟨d1, hd1, Ev2.post h1 (fun _ _ q => ⟨v, d2, hd2, q.1, by rw [q.2]; exact Ev2.post h2 (fun _ _ q2 => ⟨by rw [q2.1, e], by rw [q2.2]; exact hI⟩)⟩)⟩
/-! which number it is -/
theorem of1 {x : Int32} (h : ¬ (x < 0 ∨ 1 < x)) : x = 0 ∨ x = 1 := by
  rcases pk_ix x (n := 2) (by omega) with q | q | ⟨j, h1, h2⟩
  · exact absurd (Or.inl q) h
  · exact absurd (Or.inr (Int32.lt_of_lt_of_le (by decide) q)) h
  · rcases (by omega : j = 0 ∨ j = 1) with z | z <;> subst z
    · exact Or.inl h2
    · exact Or.inr h2
theorem of2 {x : Int32} (h : ¬ (x < 0 ∨ 2 < x)) : x = 0 ∨ x = 1 ∨ x = 2 := by
  rcases pk_ix x (n := 3) (by omega) with q | q | ⟨j, h1, h2⟩
  · exact absurd (Or.inl q) h
  · exact absurd (Or.inr (Int32.lt_of_lt_of_le (by decide) q)) h
  · rcases (by omega : j = 0 ∨ j = 1 ∨ j = 2) with z | z | z <;> subst z
    · exact Or.inl h2
    · exact Or.inr (Or.inl h2)
    · exact Or.inr (Or.inr h2)
theorem of3 {x : Int32} (h : ¬ (x < 0 ∨ 3 < x)) : x = 0 ∨ x = 1 ∨ x = 2 ∨ x = 3 := by
  rcases pk_ix x (n := 4) (by omega) with q | q | ⟨j, h1, h2⟩
  · exact absurd (Or.inl q) h
  · exact absurd (Or.inr (Int32.lt_of_lt_of_le (by decide) q)) h
  · rcases (by omega : j = 0 ∨ j = 1 ∨ j = 2 ∨ j = 3) with z | z | z | z <;> subst z
    · exact Or.inl h2
    · exact Or.inr (Or.inl h2)
    · exact Or.inr (Or.inr (Or.inl h2))
    · exact Or.inr (Or.inr (Or.inr h2))
theorem of8 {x : Int32} (h : ¬ (x.toInt < 0 ∨ 8 < x.toInt)) : ∃ j : Nat, j ≤ 8 ∧ x = nI j := by
  rcases pk_ix x (n := 9) (by omega) with q | q | ⟨j, h1, h2⟩
  · rw [Int32.lt_iff_toInt_lt] at q; exact absurd (Or.inl q) h
  · rw [Int32.le_iff_toInt_le, nI_toInt (by omega)] at q; exact absurd (Or.inr (by omega)) h
  · exact ⟨j, by omega, h2⟩
theorem of4 {x : Int32} (h : ¬ (x.toInt < 0 ∨ 4 < x.toInt)) : ∃ j : Nat, j ≤ 4 ∧ x = nI j := by
  rcases pk_ix x (n := 5) (by omega) with q | q | ⟨j, h1, h2⟩
  · rw [Int32.lt_iff_toInt_lt] at q; exact absurd (Or.inl q) h
  · rw [Int32.le_iff_toInt_le, nI_toInt (by omega)] at q; exact absurd (Or.inr (by omega)) h
  · exact ⟨j, by omega, h2⟩
theorem of_n {x : Int32} {n : Nat} (hn : n < 2 ^ 31) (h : 0 ≤ x ∧ x < nI n) : ∃ a, a < n ∧ x = nI a := nI_ex h.1 h.2 hn
