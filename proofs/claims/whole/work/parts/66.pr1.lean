/-! The calls, one by one: both answer alike. First part, by hand. -/
theorem solF_row {F : FF} {n a : Nat} (h1 : a ≠ 25) (h2 : a ≠ 26) (h3 : a ≠ 27) (h4 : a ≠ 28) : solF F n a = F a := by
  unfold solF; rw [chF_row h1 h3 h4, up2_row h1, up2_row h1, slO_row h2 h3]
theorem jgS_row {n q a b x : Nat} {F : FF} (h1 : x ≠ 22) (h2 : x ≠ 23) (h3 : x ≠ 24) : jgS n F q a b x = F x := by
  unfold jgS strF
  split
  · split
    · exact up2_row h1
    · exact up2_row h2
  · split
    · rw [up2_row h1, up2_row h1, up2_row h3, up2_row h3]
    · exact up2_row h1
theorem jgL_row {n x : Nat} (h1 : x ≠ 22) (h2 : x ≠ 23) (h3 : x ≠ 24) : ∀ (k q : Nat) (F : FF), jgL n k q F x = F x
  | 0, _, _ => rfl
  | k + 1, q, F => by
    rw [jgL]; split
    · rw [jgL_row h1 h2 h3 k, jgS_row h1 h2 h3]
    · rfl
theorem jgF_row {F : FF} {n s x : Nat} (h1 : x ≠ 22) (h2 : x ≠ 23) (h3 : x ≠ 24) : jgF F n s x = F x := by
  unfold jgF; rw [jgL_row h1 h2 h3, up2_row h1, up2_row h1, up2_row h1, jcL_row n 0 F x h2 h3]
theorem mjL_row {n x : Nat} (h1 : x ≠ 48) (h2 : x ≠ 57) : ∀ (k q : Nat) (had : Int32) (F : FF), mjL n k q had F x = F x
  | 0, _, _, _ => rfl
  | k + 1, q, had, F => by
    rw [mjL]; split
    · split
      · split
        · rw [mjL_row h1 h2 k, up2_row h2, up2_row h1]
        · rw [mjL_row h1 h2 k, up2_row h2, up2_row h1]
      · split
        · rw [mjL_row h1 h2 k, up2_row h1, up2_row h1]
        · rw [mjL_row h1 h2 k, up2_row h1]
    · rfl
theorem mjL_48 {n j : Nat} (h1 : j ≠ 16) (h2 : j ≠ 17) (h3 : j ≠ 18) : ∀ (k q : Nat) (had : Int32) (F : FF), mjL n k q had F 48 j = F 48 j
  | 0, _, _, _ => rfl
  | k + 1, q, had, F => by
    have e : ∀ (X : FF) i y, j ≠ i → up2 X 48 i y 48 j = X 48 j := fun X i y h => by simp [up2, h]
    rw [mjL]; split
    · split
      · split
        · rw [mjL_48 h1 h2 h3 k, up2_row (by decide), e _ _ _ h1]
        · rw [mjL_48 h1 h2 h3 k, up2_row (by decide), e _ _ _ h1]
      · split
        · rw [mjL_48 h1 h2 h3 k, e _ _ _ h3, e _ _ _ h2]
        · rw [mjL_48 h1 h2 h3 k, e _ _ _ h1]
    · rfl
theorem mjF_row {F : FF} {n s x : Nat} (h1 : x ≠ 48) (h2 : x ≠ 57) : mjF F n s x = F x := by
  unfold mjF; rw [mjL_row h1 h2, up2_row h1, up2_row h1, up2_row h1, ly_row h2]
theorem mjF_48 {F : FF} {n s j : Nat} (h1 : j ≠ 16) (h2 : j ≠ 17) (h3 : j ≠ 18) : mjF F n s 48 j = F 48 j := by
  have e : ∀ (X : FF) i y, j ≠ i → up2 X 48 i y 48 j = X 48 j := fun X i y h => by simp [up2, h]
  unfold mjF; rw [mjL_48 h1 h2 h3, e _ _ _ h3, e _ _ _ h2, e _ _ _ h1, ly_row (by decide)]
/-! kept -/
theorem IV.ly {F : FF} {l0 l1 n m : Nat} (h : IV F l0 l1 n m) (k : Nat) : IV (ly F k) l0 l1 n m := h.row (fun a ha => ly_row (by unfold imp at ha; omega))
theorem IV.sol {F : FF} {l0 l1 n m : Nat} (h : IV F l0 l1 n m) (k : Nat) : IV (solF F k) l0 l1 n m := h.row (fun a ha => solF_row (by unfold imp at ha; omega) (by unfold imp at ha; omega) (by unfold imp at ha; omega) (by unfold imp at ha; omega))
theorem IV.lo {F : FF} {l0 l1 n m : Nat} (h : IV F l0 l1 n m) (k : Nat) : IV (loF F k) l0 l1 n m := h.row (fun a ha => loF_row (by unfold imp at ha; omega) (by unfold imp at ha; omega) (by unfold imp at ha; omega))
theorem IV.jg {F : FF} {l0 l1 n m : Nat} (h : IV F l0 l1 n m) (k s : Nat) : IV (jgF F k s) l0 l1 n m := h.row (fun a ha => jgF_row (by unfold imp at ha; omega) (by unfold imp at ha; omega) (by unfold imp at ha; omega))
theorem IV.fds {F : FF} {l0 l1 n m : Nat} (h : IV F l0 l1 n m) (l k : Nat) : IV (fds F l k).2 l0 l1 n m :=
  h.keep (fun a ha => fds_row (by unfold imp at ha; omega) (by unfold imp at ha; omega) (by unfold imp at ha; omega) (by unfold imp at ha; omega)) (fds_48 (by decide)) (fds_48 (by decide)) (fds_48 (by decide))
theorem IV.mj {F : FF} {l0 l1 n m : Nat} (h : IV F l0 l1 n m) (k s : Nat) : IV (mjF F k s) l0 l1 n m :=
  h.keep (fun a ha => mjF_row (by unfold imp at ha; omega) (by unfold imp at ha; omega)) (mjF_48 (by decide) (by decide) (by decide)) (mjF_48 (by decide) (by decide) (by decide)) (mjF_48 (by decide) (by decide) (by decide))
theorem IV.sr {F : FF} {l0 l1 n m : Nat} (h : IV F l0 l1 n m) (k a b s : Nat) : IV (srch F k a b s) l0 l1 n m := h.row (fun x hx => srch_row (by unfold imp at hx; omega) (by unfold imp at hx; omega) (by unfold imp at hx; omega) (by unfold imp at hx; omega))
theorem IV.lf {F : FF} {l0 l1 n m : Nat} (h : IV F l0 l1 n m) (k a b s : Nat) : IV (lfF F k a b s) l0 l1 n m := h.row (fun x hx => lfF_row (by unfold imp at hx; omega) (by unfold imp at hx; omega) (by unfold imp at hx; omega))
theorem IV.i {F : FF} {l0 l1 n m : Nat} (h : IV F l0 l1 n m) : INV F := ⟨l0, l1, n, m, h⟩
theorem IV.tat1 {F : FF} {l0 l1 n m : Nat} (h : IV F l0 l1 n m) : ∀ j, tat l1 (B1 F) j = tat l1 (F 9) j := fun j => by
  unfold tat B1
  by_cases c : j < l1
  · rw [if_pos c, if_pos c]; exact (h.2.1.2.2.2.2 j c).symm
  · rw [if_neg c, if_neg c]
/-- of one that is there -/
theorem IV.at {F : FF} {l0 l1 n m : Nat} (h : IV F l0 l1 n m) {p : Nat} (hp : p < n) : (F 52 p = F 11 p ∧ F 53 p = F 12 p ∧ F 54 p = F 13 p ∧ F 55 p = F 14 p ∧ F 56 p = F 15 p) ∧ ∃ s : Nat, s < 1024 ∧ F 15 p = nI s := ⟨(h.2.2.2.1.2 p hp).1, (h.2.2.2.1.2 p hp).2.2.2.2⟩
section PR1
variable (E : EE) (L : Nat) {F : FF} {l0 l1 n m : Nat}
theorem pr_fault (h : IV F l0 l1 n m) (t : Int32) : PrF E L mX10_fault mX11_fault [.int t] F := by
  obtain ⟨hc, ht, ⟨hm, hf⟩, hp, hfi, hst, hps, hfd, hsh⟩ := id h
  by_cases c : t = 0 ∨ t = 1
  · rcases c with rfl | rfl
    · exact pr3 (x_fault_ok0 E L F) (y_fault_ok0 E L F l0 n hm) (by rw [hf]) h.i (by decide) (by decide)
    · exact pr3 (x_fault_ok1 E L F) (y_fault_ok1 E L F l0 n hm l1 ht.2.2.2.1 ht.2.2.1) (by rw [(hfi F h.tat1).1]) (h.fds _ _).i (by decide) (by decide)
  · exact pr3 (x_fault_bad E L F t c) (y_fault_bad E L F t c) rfl h.i (by decide) (by decide)
theorem IV.set {v : Int32} {j : Nat} (hj : j < 3) (h : IV F l0 l1 n m) : IV (up2 (up2 F 17 j v) 51 j v) l0 l1 n m := by
  obtain ⟨hc, ht, ⟨hm, hf⟩, hp, hfi, hst, hps, hfd, hsh⟩ := h
  have r : ∀ a, a ≠ 17 → a ≠ 51 → up2 (up2 F 17 j v) 51 j v a = F a := fun a h1 h2 => by rw [up2_row h2, up2_row h1]
  obtain ⟨hm', hf'⟩ := hm.of (F' := up2 (up2 F 17 j v) 51 j v) (by rw [r 48 (by decide) (by decide)]) (by rw [r 49 (by decide) (by decide)]) (r 50 (by decide) (by decide)) (r 52 (by decide) (by decide)) (r 53 (by decide) (by decide)) (r 54 (by decide) (by decide)) (r 55 (by decide) (by decide))
  refine ⟨hc.of (r 1 (by decide) (by decide)) (r 2 (by decide) (by decide)) (r 3 (by decide) (by decide)) (r 4 (by decide) (by decide)), ?_, ⟨hm', by rw [hf', r 10 (by decide) (by decide)]; exact hf⟩, hp.of (by rw [r 10 (by decide) (by decide)]) (by rw [r 48 (by decide) (by decide)]) (fun a ha => r a (by omega) (by omega)), hfi.of (r 9 (by decide) (by decide)) (r 18 (by decide) (by decide)) (r 19 (by decide) (by decide)) (r 20 (by decide) (by decide)) (r 21 (by decide) (by decide)), fun i hi => ?_, ?_, ?_, fun s hs => (hsh s hs).of (r _ (by omega) (by omega)) (r _ (by omega) (by omega)) (r 69 (by decide) (by decide)) (r 70 (by decide) (by decide)) (r 71 (by decide) (by decide)) (r 72 (by decide) (by decide))⟩
  · unfold TxR; rw [r 6 (by decide) (by decide), r 7 (by decide) (by decide), r 8 (by decide) (by decide), r 9 (by decide) (by decide), r 49 (by decide) (by decide), r 50 (by decide) (by decide)]; exact ht
  · rw [up2_up1, up2_row (a := 17) (by decide), up2_up1, up2_row (a := 51) (by decide)]
    unfold up1
    by_cases c : i = j
    · rw [if_pos c, if_pos c]
    · rw [if_neg c, if_neg c]; exact hst i hi
  · unfold PS2; rw [r 33 (by decide) (by decide), r 34 (by decide) (by decide), r 65 (by decide) (by decide), r 48 (by decide) (by decide)]; exact hps
  · rw [r 5 (by decide) (by decide), r 48 (by decide) (by decide)]; exact hfd
theorem pr_set (h : IV F l0 l1 n m) (t v : Int32) : PrF E L mX10_set mX11_set [.int t, .int v] F := by
  obtain ⟨hc, ht, ⟨hm, hf⟩, hp, hfi, hst, hps, hfd, hsh⟩ := id h
  by_cases c : t < 0 ∨ 2 < t
  · exact pr3 (x_set_bad E L F t v c) (y_set_bad E L F t v c) rfl h.i (by decide) (by decide)
  · rcases of2 c with rfl | rfl | rfl
    · by_cases d : v < 1 ∨ 90 < v
      · exact pr3 (x_set_bad0 E L F v (by rw [hc.2.2.1.1, hc.2.2.2.1]; exact d)) (y_set_bad0 E L F v d) rfl h.i (by decide) (by decide)
      · exact pr3 (x_set_ok0 E L F v (by rw [hc.2.2.1.1, hc.2.2.2.1]; exact d)) (y_set_ok0 E L _ v d) (by rw [up2_row (by decide), hst 0 (by omega)]) (IV.set (by omega) h).i (by decide) (by decide)
    · by_cases d : v < 0 ∨ 90 < v
      · exact pr3 (x_set_bad1 E L F v (by rw [hc.2.2.1.2.1, hc.2.2.2.2.1]; exact d)) (y_set_bad1 E L F v d) rfl h.i (by decide) (by decide)
      · exact pr3 (x_set_ok1 E L F v (by rw [hc.2.2.1.2.1, hc.2.2.2.2.1]; exact d)) (y_set_ok1 E L _ v d) (by rw [up2_row (by decide), hst 1 (by omega)]) (IV.set (by omega) h).i (by decide) (by decide)
    · by_cases d : v < 0 ∨ 40 < v
      · exact pr3 (x_set_bad2 E L F v (by rw [hc.2.2.1.2.2, hc.2.2.2.2.2]; exact d)) (y_set_bad2 E L F v d) rfl h.i (by decide) (by decide)
      · exact pr3 (x_set_ok2 E L F v (by rw [hc.2.2.1.2.2, hc.2.2.2.2.2]; exact d)) (y_set_ok2 E L _ v d) (by rw [up2_row (by decide), hst 2 (by omega)]) (IV.set (by omega) h).i (by decide) (by decide)
theorem pr_person (h : IV F l0 l1 n m) (p w : Int32) : PrF E L mX10_person mX11_person [.int p, .int w] F := by
  obtain ⟨hc, ht, ⟨hm, hf⟩, hp, hfi, hst, hps, hfd, hsh⟩ := id h
  obtain ⟨⟨hn, hn5, hn3⟩, hpp⟩ := id hp
  by_cases c : 0 ≤ p ∧ p < nI n
  · obtain ⟨a, ha, rfl⟩ := of_n (by omega) c
    obtain ⟨⟨q1, q2, q3, q4, q5⟩, -⟩ := h.at ha
    by_cases d : w.toInt < 0 ∨ 4 < w.toInt
    · refine pr3 (x_person_out E L F n hn5 hn a ha w d) (y_person_out E L F l0 n hm a ha w (fun z => ?_)) rfl h.i (by decide) (by decide)
      rw [Int32.le_iff_toInt_le, Int32.le_iff_toInt_le, show (0 : Int32).toInt = 0 from rfl, show (4 : Int32).toInt = 4 from rfl] at z
      omega
    · obtain ⟨j, hj, rfl⟩ := of4 d
      rcases (by omega : j = 0 ∨ j = 1 ∨ j = 2 ∨ j = 3 ∨ j = 4) with z | z | z | z | z <;> subst z
      · exact pr3 (x_person0 E L F n hn5 hn a ha) (y_person0 E L F l0 n hm a ha) (by rw [q1]) h.i (by decide) (by decide)
      · exact pr3 (x_person1 E L F n hn5 hn a ha) (y_person1 E L F l0 n hm a ha) (by rw [q2]) h.i (by decide) (by decide)
      · exact pr3 (x_person2 E L F n hn5 hn a ha) (y_person2 E L F l0 n hm a ha) (by rw [q3]) h.i (by decide) (by decide)
      · exact pr3 (x_person3 E L F n hn5 hn a ha) (y_person3 E L F l0 n hm a ha) (by rw [q5]) h.i (by decide) (by decide)
      · exact pr3 (x_person4 E L F n hn5 hn a ha) (y_person4 E L F l0 n hm a ha) (by rw [q5]) h.i (by decide) (by decide)
  · exact pr3 (x_person_bad E L F p w (by rw [hn5]; exact c)) (y_person_bad E L F l0 n hm p w c) rfl h.i (by decide) (by decide)
theorem pr_away (h : IV F l0 l1 n m) (p q : Int32) : PrF E L mX10_away mX11_away [.int p, .int q] F := by
  obtain ⟨hc, ht, ⟨hm, hf⟩, hp, hfi, hst, hps, hfd, hsh⟩ := id h
  obtain ⟨⟨hn, hn5, hn3⟩, hpp⟩ := id hp
  by_cases c : (0 ≤ p ∧ p < nI n) ∧ (0 ≤ q ∧ q < nI n)
  · obtain ⟨a, ha, rfl⟩ := of_n (by omega) c.1
    obtain ⟨b, hb, rfl⟩ := of_n (by omega) c.2
    exact pr3 (x_away E L F n hn5 hn a b ha hb) (y_away E L F l0 n hm a b ha hb) (by rw [(h.at ha).1.2.2.2.2, (h.at hb).1.2.2.2.2]) h.i (by decide) (by decide)
  · have c' : ¬ (0 ≤ p ∧ p < nI n) ∨ ¬ (0 ≤ q ∧ q < nI n) := Classical.not_and_iff_not_or_not.mp c
    exact pr3 (x_away_bad E L F p q (by rw [hn5]; exact c')) (y_away_bad E L F l0 n hm p q c') rfl h.i (by decide) (by decide)
theorem two_iff {p q : Int32} : (0 ≤ p ∧ p < nI n ∧ 0 ≤ q ∧ q < nI n ∧ ¬ p = q) ↔ ((0 ≤ p ∧ p < nI n) ∧ (0 ≤ q ∧ q < nI n) ∧ ¬ p = q) :=
  ⟨fun z => ⟨⟨z.1, z.2.1⟩, ⟨z.2.2.1, z.2.2.2.1⟩, z.2.2.2.2⟩, fun z => ⟨z.1.1, z.1.2, z.2.1.1, z.2.1.2, z.2.2⟩⟩
theorem pr_binds (h : IV F l0 l1 n m) (p q w : Int32) : PrF E L mX10_binds mX11_binds [.int p, .int q, .int w] F := by
  obtain ⟨hc, ht, ⟨hm, hf⟩, hp, hfi, hst, hps, hfd, hsh⟩ := id h
  obtain ⟨⟨hn, hn5, hn3⟩, hpp⟩ := id hp
  have hpr := h.ppr
  by_cases c : ((0 ≤ p ∧ p < nI n) ∧ (0 ≤ q ∧ q < nI n) ∧ ¬ p = q) ∧ ¬ (w < 0 ∨ 3 < w)
  · obtain ⟨⟨c1, c2, c3⟩, cw⟩ := c
    obtain ⟨a, ha, rfl⟩ := of_n (by omega) c1
    obtain ⟨b, hb, rfl⟩ := of_n (by omega) c2
    have hab : a ≠ b := fun z => c3 (by rw [z])
    rcases of3 cw with rfl | rfl | rfl | rfl
    · exact pr3 (x_binds0 E L F n hn5 hn a b ha hb hab) (y_binds0 E L F l0 n hm a b ha hb hab) (by rw [vd_ly hpr ha hb, hst 0 (by omega)]) (h.ly n).i (by decide) (by decide)
    · exact pr3 (x_binds1 E L F n hn5 hn a b ha hb hab) (y_binds1 E L F l0 n hm a b ha hb hab) (by rw [hst 1 (by omega), fnr_c (Y := F 15) (fun j hj => by rw [ly_57 hj]; exact (h.at hj).1.2.2.2.2) ha hb n 0 (by omega)]) (h.ly n).i (by decide) (by decide)
    · exact pr3 (x_binds2 E L F n hn5 hn a b ha hb hab) (y_binds2 E L F l0 n hm a b ha hb hab) (by rw [vd_ly hpr ha hb, hst 0 (by omega), gan_gen (F := F) (n := n) (fun j hj => (h.at hj).1.1) (fun j hj => (h.at hj).1.2.2.1) ha hb]) (h.ly n).i (by decide) (by decide)
    · exact pr3 (x_binds3 E L F n hn5 hn a b ha hb hab) (y_binds3 E L F l0 n hm a b ha hb hab) (by rw [vd_ly hpr ha hb, hst 0 (by omega), (h.at ha).1.2.2.1, (h.at hb).1.2.2.1]) (h.ly n).i (by decide) (by decide)
  · have c' : ¬ ((0 ≤ p ∧ p < nI n) ∧ (0 ≤ q ∧ q < nI n) ∧ ¬ p = q) ∨ w < 0 ∨ 3 < w := by
      rcases Classical.not_and_iff_not_or_not.mp c with z | z
      · exact Or.inl z
      · exact Or.inr (Classical.not_not.mp z)
    exact pr3 (x_binds_bad E L F p q w (by rw [hn5, two_iff]; exact c')) (y_binds_bad E L F l0 n hm p q w c') rfl h.i (by decide) (by decide)
theorem pr_pairs (h : IV F l0 l1 n m) : PrF E L mX10_pairs mX11_pairs [] F := by
  obtain ⟨hc, ht, ⟨hm, hf⟩, hp, hfi, hst, hps, hfd, hsh⟩ := id h
  obtain ⟨⟨hn, hn5, hn3⟩, hpp⟩ := id hp
  exact pr3 (x_pairs E L F n hn5 hn) (y_pairs E L F l0 n hm) (by rw [a_pairs h.ppr, hst 0 (by omega)]) (h.ly n).i (by decide) (by decide)
theorem pr_once (h : IV F l0 l1 n m) (p : Int32) : PrF E L mX10_once mX11_once [.int p] F := by
  obtain ⟨hc, ht, ⟨hm, hf⟩, hp, hfi, hst, hps, hfd, hsh⟩ := id h
  obtain ⟨⟨hn, hn5, hn3⟩, hpp⟩ := id hp
  have h2 := h.sol n
  obtain ⟨e1, e2, e3⟩ := once_eq hn (F := F) (G := solF F n) (by
    obtain ⟨p1, p2, p3⟩ := h.ppr
    refine ⟨fun q hq => ?_, p2, ?_⟩
    · rw [solF_row (by decide) (by decide) (by decide) (by decide), solF_row (by decide) (by decide) (by decide) (by decide), solF_row (by decide) (by decide) (by decide) (by decide), solF_row (by decide) (by decide) (by decide) (by decide)]; exact p1 q hq
    · rw [solF_row (by decide) (by decide) (by decide) (by decide)]; exact p3)
  by_cases c : p = -1
  · subst c; exact pr3 (x_once_none E L F n hn5 hn) (y_once_none E L _ l0 n h2.2.2.1.1) (by rw [e1]) (h2.lo n).i (by decide) (by decide)
  · by_cases d : 0 ≤ p ∧ p < nI n
    · obtain ⟨a, ha, rfl⟩ := of_n (by omega) d
      exact pr3 (x_once E L F n hn5 hn a ha) (y_once E L _ l0 n h2.2.2.1.1 a ha) (by rw [e3 a ha]) (h2.lo n).i (by decide) (by decide)
    · exact pr3 (x_once_bad E L F p (by rw [hn5]; exact d) c) (y_once_bad E L F l0 n hm p d c) rfl h.i (by decide) (by decide)
theorem pr_worth (h : IV F l0 l1 n m) : PrF E L mX10_worth mX11_worth [] F := by
  obtain ⟨hc, ht, ⟨hm, hf⟩, hp, hfi, hst, hps, hfd, hsh⟩ := id h
  obtain ⟨⟨hn, hn5, hn3⟩, hpp⟩ := id hp
  have h2 := h.sol n
  obtain ⟨e1, e2, e3⟩ := once_eq hn (F := F) (G := solF F n) (by
    obtain ⟨p1, p2, p3⟩ := h.ppr
    refine ⟨fun q hq => ?_, p2, ?_⟩
    · rw [solF_row (by decide) (by decide) (by decide) (by decide), solF_row (by decide) (by decide) (by decide) (by decide), solF_row (by decide) (by decide) (by decide) (by decide), solF_row (by decide) (by decide) (by decide) (by decide)]; exact p1 q hq
    · rw [solF_row (by decide) (by decide) (by decide) (by decide)]; exact p3)
  exact pr3 (x_worth E L F n hn5 hn) (y_worth E L _ l0 n h2.2.2.1.1) (by rw [e2]) (h2.lo n).i (by decide) (by decide)
end PR1
