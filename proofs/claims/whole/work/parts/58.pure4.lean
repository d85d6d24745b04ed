/-! The most at once: the reference's table, and both together, by hand. -/
def PPr (n : Nat) (F G : FF) : Prop := (∀ p, p < n → G 52 p = F 11 p ∧ G 53 p = F 12 p ∧ G 54 p = F 13 p ∧ G 56 p = F 15 p) ∧ PrOK (F 13) n ∧ (∀ j, j < 3 → G 51 j = F 17 j)
theorem vd_ly {n : Nat} {F G : FF} (h : PPr n F G) {due w : Int32} {a b : Nat} (ha : a < n) (hb : b < n) : mvd (ly G n) n due w a b = cvd F (F 15) n due w a b := by
  refine vd_gen (fun p hp => ?_) (fun p hp => ?_) (fun p hp => ?_) (fun p hp => ?_) ?_ h.2.1 ha hb
  · rw [ly_row (by decide)]; exact (h.1 p hp).1
  · rw [ly_row (by decide)]; exact (h.1 p hp).2.1
  · rw [ly_row (by decide)]; exact (h.1 p hp).2.2.1
  · rw [ly_57 hp]; exact (h.1 p hp).2.2.2
  · rw [ly_row (by decide)]; exact h.2.2 1 (by omega)
theorem gan_nat {K T P : Nat → Int32} {n a b : Nat} (hP : PrOK P n) (ha : a < n) (hb : b < n) (h : trd K T P a b) : ∃ x : Nat, x ≤ 99 ∧ gan K P a b = nI x := by
  obtain ⟨x, hx, ex⟩ := hP a ha
  obtain ⟨y, hy, ey⟩ := hP b hb
  unfold gan
  rcases h with ⟨h1, h2, -, h4⟩ | ⟨h1, h2, -, h4⟩
  · rw [ex, ey] at h4 ⊢
    have := (nI_leI (by omega) (by omega)).mp h4
    rw [if_neg (by rw [h1]; decide), pk_sub (by omega)]
    exact ⟨y - x, by omega, rfl⟩
  · rw [ex, ey] at h4 ⊢
    have := (nI_leI (by omega) (by omega)).mp h4
    rw [if_pos h2, pk_sub (by omega)]
    exact ⟨x - y, by omega, rfl⟩
def POPT (n m : Nat) (bd : Nat → Nat → Prop) (g : Nat → Nat → Nat) (v : Nat → Nat) : Prop :=
  v 0 = 0 ∧ (∀ p q, p < q → q < n → bd p q → g p q ≤ 99) ∧ ∀ s, 0 < s → s < m → ∀ i, i = lwb s 10 0 → v (cl s i) ≤ v s ∧ (∀ j, i < j → j < n → tb s j → bd i j → 1000000 + g i j + v (cl (cl s i) j) ≤ v s) ∧ (v s = v (cl s i) ∨ ∃ j, i < j ∧ j < n ∧ tb s j ∧ bd i j ∧ v s = 1000000 + g i j + v (cl (cl s i) j))
theorem POPT.le {n m0 : Nat} {bd : Nat → Nat → Prop} {g : Nat → Nat → Nat} {v : Nat → Nat} (hn : n ≤ 10) (hm0 : m0 ≤ 2 ^ n) (h : POPT n m0 bd g v) : ∀ (m s : Nat), s < m → s < m0 → v s ≤ 1000099 * (cnt n s / 2)
  | 0, s, hm, _ => absurd hm (by omega)
  | m + 1, s, hm, hs => by
    rcases Nat.eq_zero_or_pos s with z | z
    · subst z; rw [h.1]; omega
    · have hs2 : s < 2 ^ n := by omega
      have h1024 := Nat.lt_of_lt_of_le hs2 (p2_le hn)
      obtain ⟨hl1, hl2, hl3⟩ := lwb_ok z h1024
      have hln := lwb_n z hs2 hn
      have hc1 := cnt_cl hn hs2 hln hl2
      have hlt := cl_lt hl2
      rcases (h.2.2 s z hs _ rfl).2.2 with e | ⟨j, hj1, hj2, hj3, hj4, e⟩
      · have ih := POPT.le hn hm0 h m (cl s (lwb s 10 0)) (by omega) (by omega)
        rw [e]; omega
      · have ht : tb (cl s (lwb s 10 0)) j := (tb_cl h1024 hl1 (by omega)).mpr ⟨hj3, by omega⟩
        have hc2 := cnt_cl (s := cl s (lwb s 10 0)) hn (by omega) hj2 ht
        have hlt2 := cl_lt ht
        have ih := POPT.le hn hm0 h m (cl (cl s (lwb s 10 0)) j) (by omega) (by omega)
        have hg := h.2.1 _ _ hj1 hj2 hj4
        rw [e]; omega
theorem POPT.le5 {n m0 : Nat} {bd : Nat → Nat → Prop} {g : Nat → Nat → Nat} {v : Nat → Nat} (hn : n ≤ 10) (hm0 : m0 ≤ 2 ^ n) (h : POPT n m0 bd g v) {s : Nat} (hs : s < m0) : v s ≤ 5000495 := by
  have h1 := POPT.le hn hm0 h (s + 1) s (by omega) hs
  have h2 := cnt_le s n
  omega
theorem goI_ok {n s i r : Nat} {bd : Nat → Nat → Prop} {g : Nat → Nat → Nat} {v : Nat → Nat} (hrs : r < s) (hg99 : ∀ p q, p < q → q < n → bd p q → g p q ≤ 99) (hv : ∀ q, q < s → v q ≤ 5000495) : ∀ (k j c : Nat) (F : FF), j + k = n → i < j → c ≤ 7000000 → (∀ q, i < q → q < n → (bnd F n i q ↔ bd i q)) → (∀ q, i < q → q < n → bd i q → gan (F 52) (F 54) i q = nI (g i q)) → (∀ q, q < s → F 61 q = nI (v q)) → F 61 s = nI c →
    (∀ q, q ≠ s → goI n s i r k j F 61 q = F 61 q) ∧ ∃ c', goI n s i r k j F 61 s = nI c' ∧ c ≤ c' ∧ c' ≤ 7000000 ∧ (∀ q, j ≤ q → q < n → tb s q → bd i q → 1000000 + g i q + v (cl r q) ≤ c') ∧ (c' = c ∨ ∃ q, j ≤ q ∧ q < n ∧ tb s q ∧ bd i q ∧ c' = 1000000 + g i q + v (cl r q))
  | 0, j, c, F, hj, _, hc, _, _, _, e => ⟨fun _ _ => rfl, c, e, Nat.le_refl _, hc, fun q h1 h2 => absurd h2 (by omega), Or.inl rfl⟩
  | k + 1, j, c, F, hj, hij, hc, hb, hgn, hF, e => by
    have hcl := cl_le r j
    rw [goI]
    by_cases cc : tb s j ∧ bnd F n i j
    · rw [if_pos cc]
      have hbd := (hb j hij (by omega)).mp cc.2
      have hg1 := hg99 i j hij (by omega) hbd
      have hv1 := hv (cl r j) (by omega)
      have eby : by_ F i j r = nI (1000000 + g i j + v (cl r j)) := by
        unfold by_; rw [hgn j hij (by omega) hbd, hF (cl r j) (by omega), show (1000000 : Int32) = nI 1000000 from rfl, nI_add, nI_add]
      have ew : (if by_ F i j r ≤ F 61 s then F 61 s else by_ F i j r) = nI (if 1000000 + g i j + v (cl r j) ≤ c then c else 1000000 + g i j + v (cl r j)) := by
        rw [eby, e]
        by_cases z : 1000000 + g i j + v (cl r j) ≤ c
        · rw [if_pos z, if_pos ((nI_leI (by omega) (by omega)).mpr z)]
        · rw [if_neg z, if_neg (fun y => z ((nI_leI (by omega) (by omega)).mp y))]
      rw [ew]
      obtain ⟨h1, c', h2, h3, h4, h5, h6⟩ := goI_ok hrs hg99 hv k (j + 1) (if 1000000 + g i j + v (cl r j) ≤ c then c else 1000000 + g i j + v (cl r j)) (up2 F 61 s (nI (if 1000000 + g i j + v (cl r j) ≤ c then c else 1000000 + g i j + v (cl r j)))) (by omega) (by omega) (by split <;> omega) hb hgn (fun q hq => by rw [show ∀ y, up2 F 61 s y 61 q = F 61 q from fun y => by simp [up2, show q ≠ s by omega]]; exact hF q hq) (up2_same _ _ _ _)
      refine ⟨fun q hq => by rw [h1 q hq]; simp [up2, hq], c', h2, ?_, h4, fun q q1 q2 q3 q4 => ?_, ?_⟩
      · split at h3 <;> omega
      · rcases Nat.lt_or_eq_of_le q1 with z | z
        · exact h5 q z q2 q3 q4
        · subst z; split at h3 <;> omega
      · rcases h6 with z | ⟨q, q1, q2, q3, q4, q5⟩
        · split at z
          · exact Or.inl z
          · exact Or.inr ⟨j, by omega, by omega, cc.1, hbd, z⟩
        · exact Or.inr ⟨q, by omega, q2, q3, q4, q5⟩
    · rw [if_neg cc]
      obtain ⟨h1, c', h2, h3, h4, h5, h6⟩ := goI_ok hrs hg99 hv k (j + 1) c F (by omega) (by omega) hc hb hgn hF e
      refine ⟨h1, c', h2, h3, h4, fun q q1 q2 q3 q4 => ?_, ?_⟩
      · rcases Nat.lt_or_eq_of_le q1 with z | z
        · exact h5 q z q2 q3 q4
        · subst z; exact absurd ⟨q3, (hb j hij q2).mpr q4⟩ cc
      · rcases h6 with z | ⟨q, q1, q2, q3, q4, q5⟩
        · exact Or.inl z
        · exact Or.inr ⟨q, by omega, q2, q3, q4, q5⟩
theorem bnd_c {F G : FF} {n i j : Nat} (h : ∀ a, a ≠ 61 → a ≠ 62 → G a = F a) : bnd G n i j ↔ bnd F n i j := by
  unfold bnd mvd; rw [h 51 (by decide) (by decide), h 52 (by decide) (by decide), h 53 (by decide) (by decide), h 54 (by decide) (by decide), h 57 (by decide) (by decide)]
theorem goO_ok {n : Nat} (hn : n ≤ 10) {bd : Nat → Nat → Prop} {g : Nat → Nat → Nat} (F0 : FF) (hb : ∀ p q, p < q → q < n → (bnd F0 n p q ↔ bd p q)) (hgn : ∀ p q, p < q → q < n → bd p q → gan (F0 52) (F0 54) p q = nI (g p q)) :
    ∀ (k s : Nat) (v : Nat → Nat) (F : FF), s + k = 2 ^ n → 0 < s → (∀ a, a ≠ 61 → F a = F0 a) → POPT n s bd g v → (∀ q, q < s → F 61 q = nI (v q)) → ∃ v', POPT n (2 ^ n) bd g v' ∧ ∀ q, q < 2 ^ n → goO n k s F 61 q = nI (v' q)
  | 0, s, v, F, hs, _, _, hP, hF => by
    have e : s = 2 ^ n := by omega
    subst e; exact ⟨v, hP, hF⟩
  | k + 1, s, v, F, hs, h0, hA, hP, hF => by
    rw [goO]
    have hsn : s < 2 ^ n := by omega
    have h1024 := Nat.lt_of_lt_of_le hsn (p2_le hn)
    obtain ⟨hl1, hl2, hl3⟩ := lwb_ok h0 h1024
    have hln := lwb_n h0 hsn hn
    have hclt := cl_lt hl2
    have h5 : ∀ q, q < s → v q ≤ 5000495 := fun q hq => hP.le5 hn (by omega) hq
    generalize hi : lwb s 10 0 = i at hl1 hl2 hl3 hln hclt
    have hr5 := h5 _ hclt
    obtain ⟨u1, c', u2, u3, u4, u5, u6⟩ := goI_ok (n := n) (s := s) (i := i) (r := cl s i) hclt hP.2.1 h5 (n - (i + 1)) (i + 1) (v (cl s i)) (up2 F 61 s (F 61 (cl s i))) (by omega) (by omega) (by omega)
      (fun q q1 q2 => by
        rw [← hb i q q1 q2]
        exact bnd_c (fun a h1 h2 => by rw [up2_row h1]; exact hA a h1))
      (fun q q1 q2 q3 => by rw [up2_row (by decide), up2_row (by decide), hA 52 (by decide), hA 54 (by decide)]; exact hgn i q q1 q2 q3)
      (fun q hq => by rw [show ∀ y, up2 F 61 s y 61 q = F 61 q from fun y => by simp [up2, show q ≠ s by omega]]; exact hF q hq) (by rw [up2_same]; exact hF _ hclt)
    have eS : goS n s F = goI n s i (cl s i) (n - (i + 1)) (i + 1) (up2 F 61 s (F 61 (cl s i))) := by unfold goS; rw [hi]
    rw [← eS] at u1 u2
    refine goO_ok hn F0 hb hgn k (s + 1) (fun q => if q = s then c' else v q) (goS n s F) (by omega) (by omega) (fun a ha => by rw [goS_row ha]; exact hA a ha) ⟨?_, hP.2.1, ?_⟩ ?_
    · show (if (0 : Nat) = s then c' else v 0) = 0
      rw [if_neg (by omega)]; exact hP.1
    · intro t ht0 hts j hj
      have hcj : cl t j ≤ t := cl_le t j
      by_cases et : t = s
      · subst et
        rw [hi] at hj; subst hj
        have ene : cl t j ≠ t := by omega
        simp only [if_neg ene, if_true]
        refine ⟨u3, fun q q1 q2 q3 q4 => ?_, ?_⟩
        · have hc2 := cl_le (cl t j) q
          rw [if_neg (show cl (cl t j) q ≠ t by omega)]; exact u5 q q1 q2 q3 q4
        · rcases u6 with z | ⟨q, q1, q2, q3, q4, q5⟩
          · exact Or.inl z
          · have hc2 := cl_le (cl t j) q
            refine Or.inr ⟨q, q1, q2, q3, q4, ?_⟩
            rw [if_neg (show cl (cl t j) q ≠ t by omega)]; exact q5
      · obtain ⟨p1, p2, p3⟩ := hP.2.2 t ht0 (by omega) j hj
        simp only [if_neg et, if_neg (show cl t j ≠ s by omega)]
        refine ⟨p1, fun q q1 q2 q3 q4 => ?_, ?_⟩
        · have hc2 := cl_le (cl t j) q
          rw [if_neg (show cl (cl t j) q ≠ s by omega)]; exact p2 q q1 q2 q3 q4
        · rcases p3 with z | ⟨q, q1, q2, q3, q4, q5⟩
          · exact Or.inl z
          · have hc2 := cl_le (cl t j) q
            refine Or.inr ⟨q, q1, q2, q3, q4, ?_⟩
            rw [if_neg (show cl (cl t j) q ≠ s by omega)]; exact q5
    · intro q hq
      show goS n s F 61 q = nI (if q = s then c' else v q)
      by_cases e : q = s
      · rw [if_pos e, e]; exact u2
      · rw [if_neg e, u1 q e, show ∀ y, up2 F 61 s y 61 q = F 61 q from fun y => by simp [up2, e]]; exact hF q (by omega)
/-! with whom -/
abbrev wsC (F : FF) (n s i r j : Nat) : Prop := tb s j ∧ bnd F n i j ∧ by_ F i j r = F 61 s
theorem wsL_char (F : FF) (n s i r : Nat) : ∀ (k : Nat) (v : Int32), (∃ j, i < j ∧ j ≤ i + k ∧ wsC F n s i r j ∧ wsL F n s i r k v = nI j ∧ ∀ j', i < j' → j' < j → ¬ wsC F n s i r j') ∨ ((∀ j, i < j → j ≤ i + k → ¬ wsC F n s i r j) ∧ wsL F n s i r k v = v)
  | 0, v => Or.inr ⟨fun j h1 h2 => absurd h2 (by omega), rfl⟩
  | k + 1, v => by
    rw [wsL]
    rcases wsL_char F n s i r k (if tb s (i + k + 1) ∧ bnd F n i (i + k + 1) ∧ by_ F i (i + k + 1) r = F 61 s then nI (i + k + 1) else v) with ⟨j, h1, h2, h3, h4, h5⟩ | ⟨h1, h2⟩
    · exact Or.inl ⟨j, h1, by omega, h3, h4, h5⟩
    · by_cases c : wsC F n s i r (i + k + 1)
      · rw [if_pos c] at h2
        rw [if_pos c]
        exact Or.inl ⟨i + k + 1, by omega, by omega, c, h2, fun j' q1 q2 => h1 j' q1 (by omega)⟩
      · rw [if_neg c] at h2
        rw [if_neg c]
        refine Or.inr ⟨fun j q1 q2 => ?_, h2⟩
        rcases Nat.lt_or_eq_of_le q2 with z | z
        · exact h1 j q1 (by omega)
        · rw [z]; exact c
theorem wsL_c {F G : FF} {n s i r : Nat} (h : ∀ a, a ≠ 62 → G a = F a) : ∀ (k : Nat) (v : Int32), wsL G n s i r k v = wsL F n s i r k v
  | 0, _ => rfl
  | k + 1, v => by
    rw [wsL, wsL, wsL_c h k]
    congr 1
    refine ite_iff ?_
    have e : bnd G n i (i + k + 1) ↔ bnd F n i (i + k + 1) := bnd_c (fun a _ h2 => h a h2)
    unfold by_
    rw [e, h 52 (by decide), h 54 (by decide), h 61 (by decide)]
def wW (R : FF) (n : Nat) : Nat → Nat → Int32 := fun s p => wsL R n s p (cl s p) (n - 1 - p) (-1)
theorem wW_ok {n : Nat} (hn : n ≤ 10) {bd : Nat → Nat → Prop} {g : Nat → Nat → Nat} {v : Nat → Nat} {R : FF} (hb : ∀ p q, p < q → q < n → (bnd R n p q ↔ bd p q)) (hgn : ∀ p q, p < q → q < n → bd p q → gan (R 52) (R 54) p q = nI (g p q)) (hP : POPT n (2 ^ n) bd g v) (hR : ∀ q, q < 2 ^ n → R 61 q = nI (v q)) : WS n bd g v (wW R n) := by
  intro s p hs hp ht
  have hclt := cl_lt ht
  have key : ∀ j, p < j → j < n → (wsC R n s p (cl s p) j ↔ (tb s j ∧ bd p j ∧ 1000000 + g p j + v (cl (cl s p) j) = v s)) := by
    intro j h1 h2
    unfold wsC
    rw [hb p j h1 h2]
    constructor
    · rintro ⟨a1, a2, a3⟩
      refine ⟨a1, a2, ?_⟩
      have hg1 := hP.2.1 p j h1 h2 a2
      have hc2 := cl_le (cl s p) j
      have hv1 := hP.le5 hn (Nat.le_refl _) (s := cl (cl s p) j) (by omega)
      have hv2 := hP.le5 hn (Nat.le_refl _) hs
      unfold by_ at a3
      rw [hgn p j h1 h2 a2, hR _ (by omega), hR s hs, show (1000000 : Int32) = nI 1000000 from rfl, nI_add, nI_add, nI_eq (by omega) (by omega)] at a3
      exact a3
    · rintro ⟨a1, a2, a3⟩
      refine ⟨a1, a2, ?_⟩
      have hc2 := cl_le (cl s p) j
      unfold by_
      rw [hgn p j h1 h2 a2, hR _ (by omega), hR s hs, show (1000000 : Int32) = nI 1000000 from rfl, nI_add, nI_add, a3]
  rcases wsL_char R n s p (cl s p) (n - 1 - p) (-1) with ⟨j, h1, h2, h3, h4, h5⟩ | ⟨h1, h2⟩
  · have hk := (key j h1 (by omega)).mp h3
    refine Or.inr ⟨j, h1, by omega, h4, hk.1, hk.2.1, hk.2.2, fun j' q1 q2 q3 q4 q5 => h5 j' q1 q2 ((key j' q1 (by omega)).mpr ⟨q3, q4, q5⟩)⟩
  · exact Or.inl ⟨h2, fun j q1 q2 q3 q4 q5 => h1 j q1 (by omega) ((key j q1 q2).mpr ⟨q3, q4, q5⟩)⟩
theorem wo_gc {n : Nat} (hn : n ≤ 10) {R : FF} (hw : ∀ s p, s < 2 ^ n → p < n → tb s p → (wW R n s p = -1 ∨ ∃ j, p < j ∧ j < n ∧ wW R n s p = nI j ∧ tb s j)) : ∀ (k i s : Nat) (F : FF) (M : Nat → Int32), i + k = n → s < 2 ^ n → (∀ a, a ≠ 62 → F a = R a) → (∀ j, j < n → (j < i ∨ ¬ tb s j) → F 62 j = M j) → (∀ j, j < n → i ≤ j → tb s j → M j = -1) → ∀ j, j < n → woL n k i s F 62 j = GC (wW R n) k i s M j
  | 0, i, s, F, M, hi, _, _, h1, _ => fun j hj => h1 j hj (Or.inl (by omega))
  | k + 1, i, s, F, M, hi, hs, hF, h1, h2 => by
    have h1024 := Nat.lt_of_lt_of_le hs (p2_le hn)
    have ew : wsL F n s i (cl s i) (n - 1 - i) (-1) = wW R n s i := wsL_c hF _ _
    rw [woL, GC, ew]
    have hcl := cl_le s i
    by_cases ht : tb s i
    · rw [if_pos ht, if_pos ht]
      rcases hw s i hs (by omega) ht with e | ⟨j0, q1, q2, e, q3⟩
      · rw [if_pos e, if_pos e]
        refine wo_gc hn hw k (i + 1) (cl s i) _ M (by omega) (by omega) (fun a ha => by rw [up2_row ha]; exact hF a ha) (fun j hj hc => ?_) (fun j hj hc ht2 => ?_)
        · rw [up2_up1]; unfold up1
          by_cases z : j = i
          · rw [if_pos z, z]; exact (h2 i (by omega) (Nat.le_refl _) ht).symm
          · rw [if_neg z]
            refine h1 j hj ?_
            rcases hc with y | y
            · exact Or.inl (by omega)
            · exact Or.inr (fun x => y ((tb_cl h1024 (by omega) (by omega)).mpr ⟨x, z⟩))
        · exact h2 j hj (by omega) ((tb_cl h1024 (by omega) (by omega)).mp ht2).1
      · have hne : ¬ wW R n s i = -1 := by rw [e]; exact nI_m1 (by omega)
        rw [if_neg hne, if_neg hne, e, nI_clamp (show j0 < 2 ^ 31 by omega)]
        have hcl2 := cl_le (cl s i) j0
        have tb2 : ∀ j, j < n → (tb (cl (cl s i) j0) j ↔ (tb s j ∧ j ≠ i ∧ j ≠ j0)) := fun j hj => by
          rw [tb_cl (by omega) (by omega) (by omega), tb_cl h1024 (by omega) (by omega), and_assoc]
        refine wo_gc hn hw k (i + 1) (cl (cl s i) j0) _ _ (by omega) (by omega) (fun a ha => by rw [up2_row ha, up2_row ha]; exact hF a ha) (fun j hj hc => ?_) (fun j hj hc ht2 => ?_)
        · rw [up2_up1, up2_up1]; unfold up1
          by_cases z : j = j0
          · rw [if_pos z, if_pos z]
          · rw [if_neg z, if_neg z]
            by_cases z2 : j = i
            · rw [if_pos z2, if_pos z2]
            · rw [if_neg z2, if_neg z2]
              refine h1 j hj ?_
              rcases hc with y | y
              · exact Or.inl (by omega)
              · exact Or.inr (fun x => y ((tb2 j hj).mpr ⟨x, z2, z⟩))
        · obtain ⟨x1, x2, x3⟩ := (tb2 j hj).mp ht2
          unfold up1; rw [if_neg x3, if_neg x2]; exact h2 j hj (by omega) x1
    · rw [if_neg ht, if_neg ht]
      refine wo_gc hn hw k (i + 1) s F M (by omega) hs hF (fun j hj hc => ?_) (fun j hj hc ht2 => h2 j hj (by omega) ht2)
      rcases hc with y | y
      · by_cases z : j = i
        · subst z; exact h1 j hj (Or.inr ht)
        · exact h1 j hj (Or.inl (by omega))
      · exact h1 j hj (Or.inr y)
