/-! The people's text: both read the same, by hand. -/
theorem dig_of {x : Int32} (h : 48 ≤ x ∧ x ≤ 57) : ∃ u : Nat, u ≤ 9 ∧ x = nI (48 + u) := by
  rcases pk_ix x (n := 58) (by omega) with q | q | ⟨j, h1, h2⟩
  · exact absurd (Int32.lt_of_le_of_lt h.1 q) (by decide)
  · exact absurd (Int32.le_trans q h.2) (by decide)
  · subst h2
    have := (nI_leI (a := 48) (by omega) (by omega)).mp h.1
    exact ⟨j - 48, by omega, by rw [show 48 + (j - 48) = j by omega]⟩
theorem fig_dig {u : Nat} (h : u ≤ 9) : fig (nI (48 + u)) = nI u := by
  unfold fig
  rw [if_pos ⟨(nI_leI (a := 48) (by omega) (by omega)).mpr (by omega), (nI_leI (b := 57) (by omega) (by omega)).mpr (by omega)⟩, show (48 : Int32) = nI 48 from rfl, pk_sub (by omega), show 48 + u - 48 = u by omega]
theorem sub_dig {u : Nat} : nI (48 + u) - 48 = nI u := by rw [show (48 : Int32) = nI 48 from rfl, pk_sub (by omega), show 48 + u - 48 = u by omega]
theorem fig_no {x : Int32} (h : ¬ (48 ≤ x ∧ x ≤ 57)) : fig x = -1 := by unfold fig; rw [if_neg h]
theorem fig_ne {x : Int32} : ¬ fig x = -1 ↔ (48 ≤ x ∧ x ≤ 57) := by
  constructor
  · intro h; exact Classical.not_not.mp (fun z => h (fig_no z))
  · intro h; obtain ⟨u, hu, rfl⟩ := dig_of h; rw [fig_dig hu]; exact nI_m1 (by omega)
theorem prA_cases (l : Nat) (b : Nat → Int32) {j : Nat} (hj : j < 1000) : (¬ isFg l b j ∧ ¬ 0 ≤ prA l b j ∧ -2 - prA l b j = nI j) ∨ (isFg l b j ∧ ¬ isFg l b (j + 1) ∧ ¬ 0 ≤ prA l b j ∧ -2 - prA l b j = nI (j + 1)) ∨ (isFg l b j ∧ isFg l b (j + 1) ∧ ∃ u : Nat, u ≤ 99 ∧ prA l b j = nI u ∧ nmb l b j = nI u) := by
  have neg : ∀ c : Nat, 2 ≤ c → c < 4 → ¬ (0 : Int32) ≤ -nI c - nI j := fun c h2 h4 z => by
    have e : -nI c - nI j = -nI (c + j) := by rw [← nI_add]; grind
    rw [e, Int32.le_iff_toInt_le, Int32.toInt_neg, nI_toInt (by omega), show (0 : Int32).toInt = 0 from rfl, Int.bmod_eq_of_le (by omega) (by omega)] at z
    omega
  by_cases h1 : isFg l b j
  · by_cases h2 : isFg l b (j + 1)
    · right; right
      obtain ⟨u, hu, eu⟩ := dig_of h1
      obtain ⟨v, hv, ev⟩ := dig_of h2
      refine ⟨h1, h2, 10 * u + v, by omega, ?_, ?_⟩
      · unfold prA
        rw [if_neg (fun z => z h1), if_neg (fun z => z h2), eu, ev, sub_dig, Int32.sub_eq_add_neg, Int32.add_assoc, ← Int32.sub_eq_add_neg, sub_dig, show (10 : Int32) = nI 10 from rfl, pk_mul, nI_add]
      · unfold nmb
        rw [eu, ev, fig_dig hu, fig_dig hv, show (10 : Int32) = nI 10 from rfl, pk_mul, nI_add]
    · right; left
      have e : prA l b j = -3 - nI j := by unfold prA; rw [if_neg (fun z => z h1), if_pos h2]
      rw [e]
      refine ⟨h1, h2, neg 3 (by omega) (by omega), ?_⟩
      rw [← nI_1]; grind
  · left
    have e : prA l b j = -2 - nI j := by unfold prA; rw [if_pos h1]
    rw [e]
    refine ⟨h1, neg 2 (by omega) (by omega), by grind⟩
theorem prA_c {l : Nat} {b b' : Nat → Int32} (h : ∀ j, tat l b j = tat l b' j) (j : Nat) : prA l b j = prA l b' j := by
  unfold prA isFg; rw [h j, h (j + 1)]
theorem tat_end {l : Nat} {b : Nat → Int32} {j : Nat} (h : ¬ j < l) : tat l b j = -1 := by unfold tat; rw [if_neg h]
theorem fg_lt {l : Nat} {b : Nat → Int32} {j : Nat} (h : isFg l b j) : j < l := by
  rcases Nat.lt_or_ge j l with z | z
  · exact z
  · unfold isFg at h; rw [tat_end (by omega)] at h; exact absurd h.1 (by decide)
/-! the class's FAULT from a place on -/
def cF (l : Nat) (b : Nat → Int32) (i : Nat) : Int32 := cFlt l b (l - i) i
theorem cF_on {l : Nat} {b : Nat → Int32} {i : Nat} (h : i < l) (e : fltAt l b i = -1) : cF l b i = cF l b (i + 1) := by
  unfold cF; rw [show l - i = (l - (i + 1)) + 1 by omega, cFlt, if_pos e]
theorem cF_bad {l : Nat} {b : Nat → Int32} {i : Nat} (hi : i ≤ l) (h : i < l → fltAt l b i = nI i) (h2 : i = l → l ≠ 0 ∧ l % 9 ≠ 8) (hl : l ≤ 90) : cF l b i = nI i := by
  unfold cF
  rcases Nat.lt_or_eq_of_le hi with z | z
  · rw [show l - i = (l - (i + 1)) + 1 by omega, cFlt, if_neg (by rw [h z]; exact nI_m1 (by omega)), h z]
  · rw [z, Nat.sub_self, cFlt, if_neg (fun y => y.elim (h2 z).1 (h2 z).2)]
theorem cF_val {l : Nat} {b : Nat → Int32} {i : Nat} {v : Int32} (hi : i < l) (h : fltAt l b i = v) (hv : ¬ v = -1) : cF l b i = v := by
  unfold cF; rw [show l - i = (l - (i + 1)) + 1 by omega, cFlt, if_neg (by rw [h]; exact hv), h]
theorem cF_end {l : Nat} {b : Nat → Int32} (h : l % 9 = 8) : cF l b l = -1 := by
  unfold cF; rw [Nat.sub_self, cFlt, if_pos (Or.inr h)]
section FLT
variable {l : Nat} {b : Nat → Int32} {n : Nat}
theorem fl_0 (hn : n < 10) : fltAt l b (n * 9) = if tat l b (n * 9) = 115 ∨ tat l b (n * 9) = 98 ∨ tat l b (n * 9) = 110 then -1 else nI (n * 9) := by
  unfold fltAt; rw [if_neg (by omega), if_pos (by omega)]
theorem fl_1 (hn : n < 10) : fltAt l b (n * 9 + 1) = if fig (tat l b (n * 9 + 1)) ≠ -1 ∧ fig (tat l b (n * 9 + 1)) < 4 then -1 else nI (n * 9 + 1) := by
  unfold fltAt; rw [if_neg (by omega), if_neg (by omega), if_pos (by omega)]
theorem fl_57 (hn : n < 10) {o : Nat} (ho : o = 5 ∨ o = 7) : fltAt l b (n * 9 + o) = if fig (tat l b (n * 9 + o)) = -1 then nI (n * 9 + o) else if nmb l b (n * 9 + o - 1) < 32 then -1 else nI (n * 9 + o - 1) := by
  unfold fltAt; rw [if_neg (by omega), if_neg (by omega), if_neg (by omega), if_pos (by omega)]
theorem fl_8 (hn : n < 10) : fltAt l b (n * 9 + 8) = if tat l b (n * 9 + 8) = 59 then -1 else nI (n * 9 + 8) := by
  unfold fltAt; rw [if_neg (by omega), if_neg (by omega), if_neg (by omega), if_neg (by omega), if_pos (by omega)]
theorem fl_f (hn : n < 10) {o : Nat} (ho : o = 2 ∨ o = 3 ∨ o = 4 ∨ o = 6) : fltAt l b (n * 9 + o) = if fig (tat l b (n * 9 + o)) ≠ -1 then -1 else nI (n * 9 + o) := by
  unfold fltAt; rw [if_neg (by omega), if_neg (by omega), if_neg (by omega), if_neg (by omega), if_neg (by omega)]
/-- a figure at a place that wants one -/
theorem cF_fig (hl : l ≤ 90) (hn : n < 10) {o : Nat} (ho : o = 2 ∨ o = 3 ∨ o = 4 ∨ o = 6) (hi : n * 9 + o ≤ l) : (isFg l b (n * 9 + o) → n * 9 + o + 1 ≤ l ∧ cF l b (n * 9 + o) = cF l b (n * 9 + o + 1)) ∧ (¬ isFg l b (n * 9 + o) → cF l b (n * 9 + o) = nI (n * 9 + o)) := by
  refine ⟨fun h => ⟨fg_lt h, cF_on (fg_lt h) (by rw [fl_f hn ho, if_pos (fig_ne.mpr h)])⟩, fun h => cF_bad hi (fun _ => ?_) (fun e => by omega) hl⟩
  rw [fl_f hn ho, if_neg (fun z => z (fig_no h))]
/-- the second figure of X or Y -/
theorem cF_two (hl : l ≤ 90) (hn : n < 10) {o : Nat} (ho : o = 5 ∨ o = 7) (hi : n * 9 + o ≤ l) : (¬ isFg l b (n * 9 + o) → cF l b (n * 9 + o) = nI (n * 9 + o)) ∧ (isFg l b (n * 9 + o) → n * 9 + o + 1 ≤ l ∧ (nmb l b (n * 9 + o - 1) < 32 → cF l b (n * 9 + o) = cF l b (n * 9 + o + 1)) ∧ (¬ nmb l b (n * 9 + o - 1) < 32 → cF l b (n * 9 + o) = nI (n * 9 + o - 1))) := by
  refine ⟨fun h => cF_bad hi (fun _ => by rw [fl_57 hn ho, if_pos (fig_no h)]) (fun e => by omega) hl, fun h => ⟨fg_lt h, fun h2 => cF_on (fg_lt h) ?_, fun h2 => cF_val (fg_lt h) ?_ (nI_m1 (by omega))⟩⟩
  · rw [fl_57 hn ho, if_neg (fig_ne.mpr h), if_pos h2]
  · rw [fl_57 hn ho, if_neg (fig_ne.mpr h), if_neg h2]
end FLT
/-- a part as it should be -/
def WFp (l : Nat) (b : Nat → Int32) (p : Nat) : Prop := (48 ≤ tat l b (p * 9 + 1) ∧ tat l b (p * 9 + 1) ≤ 51) ∧ (∃ u : Nat, u ≤ 99 ∧ prA l b (p * 9 + 2) = nI u ∧ nmb l b (p * 9 + 2) = nI u) ∧ (∃ u : Nat, u ≤ 31 ∧ prA l b (p * 9 + 4) = nI u ∧ nmb l b (p * 9 + 4) = nI u) ∧ (∃ u : Nat, u ≤ 31 ∧ prA l b (p * 9 + 6) = nI u ∧ nmb l b (p * 9 + 6) = nI u)
def RWp (l : Nat) (b : Nat → Int32) (G : FF) (p : Nat) : Prop := G 52 p = cKind (tat l b (p * 9)) ∧ G 53 p = tat l b (p * 9 + 1) - 48 ∧ G 54 p = prA l b (p * 9 + 2) ∧ G 55 p = 32 * prA l b (p * 9 + 6) + prA l b (p * 9 + 4)
theorem lt32 {u : Nat} (hu : u ≤ 99) : (nI u < 32 ↔ u < 32) ∧ (nI u ≤ 31 ↔ u ≤ 31) := ⟨nI_ltI (b := 32) (by omega) (by omega), nI_leI (b := 31) (by omega) (by omega)⟩
theorem th4 {x : Int32} : (fig x ≠ -1 ∧ fig x < 4) ↔ (48 ≤ x ∧ x ≤ 51) := by
  constructor
  · rintro ⟨h1, h2⟩
    obtain ⟨u, hu, rfl⟩ := dig_of (fig_ne.mp h1)
    rw [fig_dig hu] at h2
    have := (nI_ltI (b := 4) (by omega) (by omega)).mp h2
    exact ⟨(nI_leI (a := 48) (by omega) (by omega)).mpr (by omega), (nI_leI (b := 51) (by omega) (by omega)).mpr (by omega)⟩
  · intro h
    obtain ⟨u, hu, rfl⟩ := dig_of ⟨h.1, Int32.le_trans h.2 (by decide)⟩
    have := (nI_leI (b := 51) (by omega) (by omega)).mp h.2
    rw [fig_dig hu]
    exact ⟨nI_m1 (by omega), (nI_ltI (b := 4) (by omega) (by omega)).mpr (by omega)⟩
set_option maxHeartbeats 1000000 in
theorem pp_ok {l : Nat} (hl : l ≤ 90) {b : Nat → Int32} : ∀ (k n : Nat) (G : FF), n + k = 11 → n ≤ 10 → n * 9 ≤ l → (∀ j, tat l (G 50) j = tat l b j) → G 48 3 = 0 →
    (mrdL l k n (n * 9) G).1 = cF l b (n * 9) ∧ ((mrdL l k n (n * 9) G).1 = -1 → (mrdL l k n (n * 9) G).2 48 3 = nI ((l + 1) / 9) ∧ ∀ p, n ≤ p → p < (l + 1) / 9 → WFp l b p ∧ RWp l b (mrdL l k n (n * 9) G).2 p) ∧ (¬ (mrdL l k n (n * 9) G).1 = -1 → (mrdL l k n (n * 9) G).2 48 3 = 0) := by
  intro k
  induction k with
  | zero => intro n G hk hn; omega
  | succ k ih =>
    intro n G hk hn hnl ht h0
    have hP : ∀ j, prA l (G 50) j = prA l b j := prA_c ht
    -- a way out with a fault
    have out : ∀ v : Nat, v < 1000 → cF l b (n * 9) = nI v → (nI v = cF l b (n * 9) ∧ (nI v = -1 → G 48 3 = nI ((l + 1) / 9) ∧ ∀ p, n ≤ p → p < (l + 1) / 9 → WFp l b p ∧ RWp l b G p) ∧ (¬ nI v = -1 → G 48 3 = 0)) := fun v hv e => ⟨e.symm, fun z => absurd z (nI_m1 (by omega)), fun _ => h0⟩
    have out2 : ∀ v : Nat, v < 1000 → cF l b (n * 9) = nI v → (nI v = cF l b (n * 9) ∧ (nI v = -1 → mSt G l n (n * 9) 48 3 = nI ((l + 1) / 9) ∧ ∀ p, n ≤ p → p < (l + 1) / 9 → WFp l b p ∧ RWp l b (mSt G l n (n * 9)) p) ∧ (¬ nI v = -1 → mSt G l n (n * 9) 48 3 = 0)) := fun v hv e => ⟨e.symm, fun z => absurd z (nI_m1 (by omega)), fun _ => by rw [mSt_row (by omega)]; exact h0⟩
    rw [mrdL]
    simp only [ht, hP]
    by_cases c0 : ¬ n * 9 < l ∧ n * 9 = 0
    · rw [if_pos c0]
      have e0 : l = 0 := by omega
      subst e0
      rw [c0.2]
      refine ⟨by unfold cF; rw [cFlt, if_pos (Or.inl rfl)], fun _ => ⟨h0, fun p h1 h2 => absurd h2 (by omega)⟩, fun z => absurd rfl z⟩
    rw [if_neg c0]
    by_cases c1 : n = 10 ∨ (¬ tat l b (n * 9) = 115 ∧ ¬ tat l b (n * 9) = 98 ∧ ¬ tat l b (n * 9) = 110)
    · rw [if_pos c1]
      refine out (n * 9) (by omega) (cF_bad hnl (fun z => ?_) (fun e => by omega) hl)
      rcases c1 with c1 | c1
      · omega
      · rw [fl_0 (by omega), if_neg (fun y => y.elim c1.1 (fun y => y.elim c1.2.1 c1.2.2))]
    rw [if_neg c1]
    have hn10 : n < 10 := by
      rcases Nat.lt_or_ge n 10 with z | z
      · exact z
      · exact absurd (Or.inl (by omega)) c1
    have ck : tat l b (n * 9) = 115 ∨ tat l b (n * 9) = 98 ∨ tat l b (n * 9) = 110 := Classical.not_not.mp (fun z => c1 (Or.inr ⟨fun y => z (Or.inl y), fun y => z (Or.inr (Or.inl y)), fun y => z (Or.inr (Or.inr y))⟩))
    have hlt0 : n * 9 < l := by
      rcases Nat.lt_or_ge (n * 9) l with z | z
      · exact z
      · rw [tat_end (by omega)] at ck; exact absurd ck (by decide)
    have e0 : cF l b (n * 9) = cF l b (n * 9 + 1) := cF_on hlt0 (by rw [fl_0 hn10, if_pos ck])
    rw [e0] at out out2 ⊢
    by_cases c2 : ¬ (48 ≤ tat l b (n * 9 + 1) ∧ tat l b (n * 9 + 1) ≤ 51)
    · rw [if_pos c2]
      exact out (n * 9 + 1) (by omega) (cF_bad (by omega) (fun z => by rw [fl_1 hn10, if_neg (fun y => c2 (th4.mp y))]) (fun e => by omega) hl)
    rw [if_neg c2]
    have c2' := Classical.not_not.mp c2
    have hlt1 : n * 9 + 1 < l := fg_lt (show isFg l b (n * 9 + 1) from ⟨c2'.1, Int32.le_trans c2'.2 (by decide)⟩)
    have e1 : cF l b (n * 9 + 1) = cF l b (n * 9 + 2) := cF_on hlt1 (by rw [fl_1 hn10, if_pos (th4.mpr c2')])
    rw [e1] at out out2 ⊢
    have q2 := cF_fig (b := b) hl hn10 (o := 2) (by omega) (by omega)
    rcases prA_cases l b (j := n * 9 + 2) (by omega) with ⟨p1, p2, p3⟩ | ⟨p1, p1', p2, p3⟩ | ⟨p1, p1', u, hu, p2, p3⟩
    · rw [if_pos p2, p3]; exact out (n * 9 + 2) (by omega) (q2.2 p1)
    · rw [if_pos p2, p3]
      have q3 := cF_fig (b := b) hl hn10 (o := 3) (by omega) (q2.1 p1).1
      exact out (n * 9 + 2 + 1) (by omega) ((q2.1 p1).2.trans (q3.2 p1'))
    rw [if_neg (by rw [p2]; exact fun z => z (nI_pos' (by omega)))]
    have q3 := cF_fig (b := b) hl hn10 (o := 3) (by omega) (q2.1 p1).1
    have e2 : cF l b (n * 9 + 2) = cF l b (n * 9 + 4) := (q2.1 p1).2.trans (q3.1 p1').2
    rw [e2] at out out2 ⊢
    have q4 := cF_fig (b := b) hl hn10 (o := 4) (by omega) (q3.1 p1').1
    rcases prA_cases l b (j := n * 9 + 4) (by omega) with ⟨r1, r2, r3⟩ | ⟨r1, r1', r2, r3⟩ | ⟨r1, r1', x, hx, r2, r3⟩
    · rw [if_pos r2, r3]; exact out (n * 9 + 4) (by omega) (q4.2 r1)
    · rw [if_pos r2, r3]
      have q5 := cF_two (b := b) hl hn10 (o := 5) (by omega) (q4.1 r1).1
      exact out (n * 9 + 4 + 1) (by omega) ((q4.1 r1).2.trans (q5.1 r1'))
    rw [if_neg (by rw [r2]; exact fun z => z (nI_pos' (by omega)))]
    have q5 := cF_two (b := b) hl hn10 (o := 5) (by omega) (q4.1 r1).1
    obtain ⟨q5a, q5b, q5c⟩ := q5.2 r1'
    rw [show n * 9 + 5 - 1 = n * 9 + 4 by omega, r3, (lt32 hx).1] at q5b q5c
    rw [r2]
    by_cases c5 : ¬ nI x ≤ 31
    · rw [if_pos c5]; exact out (n * 9 + 4) (by omega) ((q4.1 r1).2.trans (q5c (fun z => c5 ((lt32 hx).2.mpr (by omega)))))
    rw [if_neg c5]
    have hx32 : x ≤ 31 := (lt32 hx).2.mp (Classical.not_not.mp c5)
    have e4 : cF l b (n * 9 + 4) = cF l b (n * 9 + 6) := (q4.1 r1).2.trans (q5b (by omega))
    rw [e4] at out out2 ⊢
    have q6 := cF_fig (b := b) hl hn10 (o := 6) (by omega) q5a
    rcases prA_cases l b (j := n * 9 + 6) (by omega) with ⟨s1, s2, s3⟩ | ⟨s1, s1', s2, s3⟩ | ⟨s1, s1', y, hy, s2, s3⟩
    · rw [if_pos s2, s3]; exact out (n * 9 + 6) (by omega) (q6.2 s1)
    · rw [if_pos s2, s3]
      have q7 := cF_two (b := b) hl hn10 (o := 7) (by omega) (q6.1 s1).1
      exact out (n * 9 + 6 + 1) (by omega) ((q6.1 s1).2.trans (q7.1 s1'))
    rw [if_neg (by rw [s2]; exact fun z => z (nI_pos' (by omega)))]
    have q7 := cF_two (b := b) hl hn10 (o := 7) (by omega) (q6.1 s1).1
    obtain ⟨q7a, q7b, q7c⟩ := q7.2 s1'
    rw [show n * 9 + 7 - 1 = n * 9 + 6 by omega, s3, (lt32 hy).1] at q7b q7c
    rw [s2]
    by_cases c7 : ¬ nI y ≤ 31
    · rw [if_pos c7]; exact out (n * 9 + 6) (by omega) ((q6.1 s1).2.trans (q7c (fun z => c7 ((lt32 hy).2.mpr (by omega)))))
    rw [if_neg c7]
    have hy32 : y ≤ 31 := (lt32 hy).2.mp (Classical.not_not.mp c7)
    have e6 : cF l b (n * 9 + 6) = cF l b (n * 9 + 8) := (q6.1 s1).2.trans (q7b (by omega))
    rw [e6] at out2 ⊢
    have wf : WFp l b n := ⟨c2', ⟨u, hu, p2, p3⟩, ⟨x, by omega, r2, r3⟩, ⟨y, by omega, s2, s3⟩⟩
    have rw0 : RWp l b (mSt G l n (n * 9)) n := by
      unfold RWp mSt
      refine ⟨?_, ?_, ?_, ?_⟩
      · rw [up2_row (by decide), up2_row (by decide), up2_row (by decide), up2_same, ht]
      · rw [up2_row (by decide), up2_row (by decide), up2_same, ht]
      · rw [up2_row (by decide), up2_same, hP]
      · rw [up2_same, hP, hP]
    by_cases c8 : n * 9 + 8 = l
    · rw [if_pos c8]
      refine ⟨by rw [c8]; exact (cF_end (by omega)).symm, fun _ => ⟨?_, fun p h1 h2 => ?_⟩, fun z => absurd rfl z⟩
      · show up2 (mSt G l n (n * 9)) 48 3 (nI (n + 1)) 48 3 = _
        rw [up2_same]; exact congrArg nI (by omega)
      · have : p = n := by omega
        subst this
        refine ⟨wf, ?_⟩
        unfold RWp at rw0 ⊢
        show up2 (mSt G l p (p * 9)) 48 3 (nI (p + 1)) 52 p = _ ∧ up2 (mSt G l p (p * 9)) 48 3 (nI (p + 1)) 53 p = _ ∧ up2 (mSt G l p (p * 9)) 48 3 (nI (p + 1)) 54 p = _ ∧ up2 (mSt G l p (p * 9)) 48 3 (nI (p + 1)) 55 p = _
        rw [up2_row (a := 52) (by decide), up2_row (a := 53) (by decide), up2_row (a := 54) (by decide), up2_row (a := 55) (by decide)]; exact rw0
    rw [if_neg c8]
    by_cases c9 : ¬ tat l b (n * 9 + 8) = 59
    · rw [if_pos c9]
      exact out2 (n * 9 + 8) (by omega) (cF_bad q7a (fun z => by rw [fl_8 hn10, if_neg c9]) (fun e => by omega) hl)
    rw [if_neg c9]
    have hlt8 : n * 9 + 8 < l := by omega
    have e8 : cF l b (n * 9 + 8) = cF l b ((n + 1) * 9) := by rw [cF_on hlt8 (by rw [fl_8 hn10, if_pos (Classical.not_not.mp c9)]), show n * 9 + 8 + 1 = (n + 1) * 9 by omega]
    rw [e8, show n * 9 + 8 + 1 = (n + 1) * 9 by omega]
    obtain ⟨i1, i2, i3⟩ := ih (n + 1) (mSt G l n (n * 9)) (by omega) (by omega) (by omega) (fun j => by rw [mSt_row (by omega)]; exact ht j) (by rw [mSt_row (by omega)]; exact h0)
    refine ⟨i1, fun z => ⟨(i2 z).1, fun p h1 h2 => ?_⟩, i3⟩
    rcases Nat.lt_or_eq_of_le h1 with y | y
    · exact (i2 z).2 p y h2
    · subst y
      refine ⟨wf, ?_⟩
      unfold RWp
      rw [mrd_low l k (n + 1) _ _ n 52 (by omega) (by decide), mrd_low l k (n + 1) _ _ n 53 (by omega) (by decide), mrd_low l k (n + 1) _ _ n 54 (by omega) (by decide), mrd_low l k (n + 1) _ _ n 55 (by omega) (by decide)]
      exact rw0
