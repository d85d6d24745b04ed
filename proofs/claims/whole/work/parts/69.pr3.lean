/-! The calls, one by one: both answer alike. Third part: where people stand, by hand. -/
theorem IV.sps {F F' : FF} {l0 l1 n m : Nat} (h : IV F l0 l1 n m) (hr : ∀ a, a ≠ 15 → a ≠ 56 → a ≠ 57 → F' a = F a) (hs : ∀ p, p < n → F' 56 p = F' 15 p ∧ ∃ s : Nat, s < 1024 ∧ F' 15 p = nI s) : IV F' l0 l1 n m := by
  obtain ⟨hc, ht, ⟨hm, hf⟩, hpp, hfi, hst, hps, hfd, hsh⟩ := h
  have r : ∀ a, (a ≠ 15 ∧ a ≠ 56 ∧ a ≠ 57) → F' a = F a := fun a z => hr a z.1 z.2.1 z.2.2
  obtain ⟨hm', hf'⟩ := hm.of (F' := F') (by rw [r 48 (by decide)]) (by rw [r 49 (by decide)]) (r 50 (by decide)) (r 52 (by decide)) (r 53 (by decide)) (r 54 (by decide)) (r 55 (by decide))
  refine ⟨hc.of (r 1 (by decide)) (r 2 (by decide)) (r 3 (by decide)) (r 4 (by decide)), ?_, ⟨hm', by rw [hf', r 10 (by decide)]; exact hf⟩, ⟨by rw [r 10 (by decide), r 48 (by decide)]; exact hpp.1, fun p hp => ?_⟩, hfi.of (r 9 (by decide)) (r 18 (by decide)) (r 19 (by decide)) (r 20 (by decide)) (r 21 (by decide)), by rw [r 51 (by decide), r 17 (by decide)]; exact hst, by unfold PS2; rw [r 33 (by decide), r 34 (by decide), r 65 (by decide), r 48 (by decide)]; exact hps, by rw [r 5 (by decide), r 48 (by decide)]; exact hfd, fun s hs => (hsh s hs).of (r _ (by omega)) (r _ (by omega)) (r 69 (by decide)) (r 70 (by decide)) (r 71 (by decide)) (r 72 (by decide))⟩
  · unfold TxR; rw [r 6 (by decide), r 7 (by decide), r 8 (by decide), r 9 (by decide), r 49 (by decide), r 50 (by decide)]; exact ht
  · obtain ⟨⟨q1, q2, q3, q4, q5⟩, t1, t2, t3, t4⟩ := hpp.2 p hp
    rw [r 52 (by decide), r 53 (by decide), r 54 (by decide), r 55 (by decide), r 11 (by decide), r 12 (by decide), r 13 (by decide), r 14 (by decide)]
    exact ⟨⟨q1, q2, q3, q4, (hs p hp).1⟩, t1, t2, t3, (hs p hp).2⟩
theorem st_iff {F G : FF} {n a d : Nat} (ha : a < n) (h56 : ∀ p, p < n → G 56 p = F 15 p) (h2 : G 51 2 = F 17 2) : stC G n a d ↔ stOK (F 15) a d (F 17 2 * F 17 2) n := by
  unfold stC stOK
  rw [h56 a ha, h2, mayS_c (Y := F 15) (fun j hj => by rw [ly_57 hj]; exact h56 j hj) n 0 (by omega)]
theorem nbr_to {F : FF} {a d : Nat} {s : Nat} (hs : s < 1024) (e : F 15 a = nI s) (hd : d < 8) (h : ¬ nbr (F 15 a) d = -1) : ∃ v, v < 1024 ∧ nbr (F 15 a) d = nI v := by
  rw [e] at h ⊢; exact (nbr_cases hs hd).resolve_left h
theorem pr_step (E : EE) (L : Nat) {F : FF} {l0 l1 n m : Nat} (h : IV F l0 l1 n m) (p d : Int32) : PrF E L mX10_step mX11_step [.int p, .int d] F := by
  obtain ⟨hc, ht, ⟨hm, hf⟩, hp, hfi, hst, hps, hfd, hsh⟩ := id h
  obtain ⟨⟨hn, hn5, hn3⟩, hpp⟩ := id hp
  by_cases c : (0 ≤ p ∧ p < nI n) ∧ (0 ≤ d ∧ d < 8)
  · obtain ⟨a, ha, rfl⟩ := of_n (by omega) c.1
    obtain ⟨e, he, rfl⟩ := dir_of c.2
    have hi := st_iff (F := F) (G := F) (d := e) ha (fun p hp => (h.at hp).1.2.2.2.2) (hst 2 (by omega))
    by_cases s : stOK (F 15) a e (F 17 2 * F 17 2) n
    · have hl : ¬ lawS (F 15) a e (F 17 2 * F 17 2) n = -1 := fun z => law_neg.mp z s
      obtain ⟨-, s0, hs0, es0⟩ := h.at ha
      obtain ⟨v, hv8, hv⟩ := nbr_to hs0 es0 he s.1
      have eF : ∀ x y, x ≠ 15 → up2 F 15 a y x = F x := fun x y hx => up2_row hx
      have hsF : stC (up2 F 15 a (lawS (F 15) a e (F 17 2 * F 17 2) n)) n a e := by
        rw [st_iff (F := F) (G := up2 F 15 a (lawS (F 15) a e (F 17 2 * F 17 2) n)) ha (fun p hp => by rw [eF 56 _ (by decide)]; exact (h.at hp).1.2.2.2.2) (by rw [eF 51 _ (by decide)]; exact hst 2 (by omega))]
        exact s
      have hm1 := (hm.set (a := 15) (by decide) a (lawS (F 15) a e (F 17 2 * F 17 2) n)).1
      refine pr3 (x_step1 E L F hc n hn5 hn a e ha he hl) (y_step1 E L _ l0 n hm1 a e ha he hsF) rfl (h.sps (fun x h1 h2 h3 => ?_) (fun q hq => ?_)).i (by decide) (by decide)
      · rw [up2_row h2, ly_row h3, up2_row h1]
      · rw [up2_up1, ly_row (by decide), eF 56 _ (by decide), (h.at ha).1.2.2.2.2, up2_row (a := 15) (by decide), ly_row (by decide), up2_up1, law_pos s, hv]
        unfold up1
        by_cases z : q = a
        · rw [if_pos z, if_pos z]; exact ⟨rfl, v, hv8, rfl⟩
        · rw [if_neg z, if_neg z]; exact ⟨(h.at hq).1.2.2.2.2, (h.at hq).2⟩
    · exact pr3 (x_step0 E L F hc n hn5 hn a e ha he (law_neg.mpr s)) (y_step0 E L F l0 n hm a e ha he (fun z => s (hi.mp z))) rfl (h.ly n).i (by decide) (by decide)
  · have c' : ¬ (0 ≤ p ∧ p < nI n) ∨ ¬ (0 ≤ d ∧ d < 8) := Classical.not_and_iff_not_or_not.mp c
    exact pr3 (x_step_bad E L F p d (by rw [hn5]; exact c')) (y_step_bad E L F l0 n hm p d c') rfl h.i (by decide) (by decide)
theorem pr_home (E : EE) (L : Nat) {F : FF} {l0 l1 n m : Nat} (h : IV F l0 l1 n m) : PrF E L mX10_home mX11_home [] F := by
  obtain ⟨hc, ht, ⟨hm, hf⟩, hp, hfi, hst, hps, hfd, hsh⟩ := id h
  obtain ⟨⟨hn, hn5, hn3⟩, hpp⟩ := id hp
  have r : ∀ a, a ≠ 15 → (homeL n 0 0 F).2 a = F a := fun a ha => homeL_row ha n 0 0 F
  obtain ⟨hm1, -⟩ := hm.of (F' := (homeL n 0 0 F).2) (by rw [r 48 (by decide)]) (by rw [r 49 (by decide)]) (r 50 (by decide)) (r 52 (by decide)) (r 53 (by decide)) (r 54 (by decide)) (r 55 (by decide))
  refine pr3 (x_home E L F n hn5 hn) (me_home E L _ l0 n hm1) ?_ (h.sps (fun x h1 h2 h3 => ?_) (fun q hq => ?_)).i (by decide) (by decide)
  · rw [home_eq (n := n) n 0 0 F (homeL n 0 0 F).2 (by omega) (fun q hq => ⟨by rw [r 55 (by decide)]; exact (h.at hq).1.2.2.2.1, by rw [r 56 (by decide)]; exact (h.at hq).1.2.2.2.2⟩)]
  · rw [mhL_row h2, r x h1]
  · rw [mhL_56, if_pos (by omega), mhL_row (by decide), homeL_15, if_pos (by omega), r 55 (by decide)]
    exact ⟨(h.at hq).1.2.2.2.1, (hpp q hq).2.2.2.1⟩
/-! read -/
theorem rdL_row {n a P x : Nat} (hx : x ≠ 15) : ∀ (k j : Nat) (F : FF), (rdL n a P k j F).2 x = F x
  | 0, _, _ => rfl
  | k + 1, j, F => by
    rw [rdL]; split
    · split
      · rfl
      · rw [rdL_row hx k, up2_row hx]
    · rfl
theorem rdM_row {n a s x : Nat} (h1 : x ≠ 56) (h2 : x ≠ 57) : ∀ (k j : Nat) (F : FF), (rdM n a s k j F).2 x = F x
  | 0, _, _ => rfl
  | k + 1, j, F => by
    rw [rdM]; split
    · split
      · rw [rdM_row h1 h2 k, up2_row h1, ly_row h2]
      · exact ly_row h2
    · rfl
theorem rd_eq {n a s P : Nat} (ha : a < n) (hP : P + 1 ≠ 15) : ∀ (k j : Nat) (F G : FF), j + k ≤ 60 → (∀ i, i < 60 → F (P + 1) i = G 72 (60 * s + i)) → G 51 2 = F 17 2 → P ≠ 14 → (∀ p, p < n → G 56 p = F 15 p ∧ ∃ t : Nat, t < 1024 ∧ F 15 p = nI t) → (rdM n a s k j G).1 = (rdL n a P k j F).1 ∧ ∀ p, p < n → (rdM n a s k j G).2 56 p = (rdL n a P k j F).2 15 p ∧ ∃ t : Nat, t < 1024 ∧ (rdL n a P k j F).2 15 p = nI t
  | 0, j, F, G, _, _, _, _, h => ⟨rfl, h⟩
  | k + 1, j, F, G, hj, hi, h2, hp14, h => by
    have hi0 := hi j (by omega)
    rw [rdM, rdL, ← hi0]
    have e7 : (0 ≤ F (P + 1) j ∧ F (P + 1) j ≤ 7) ↔ (0 ≤ F (P + 1) j ∧ F (P + 1) j < 8) := and_congr Iff.rfl (i32_le_pred 8 7 _ (by decide))
    by_cases c : 0 ≤ F (P + 1) j ∧ F (P + 1) j < 8
    · rw [if_pos c, if_pos (e7.mpr c)]
      obtain ⟨d, hd8, ed⟩ := dir_of c
      rw [ed, nI_clamp (show d < 2 ^ 31 by omega)]
      have hst := st_iff (F := F) (G := G) (d := d) ha (fun p hp => (h p hp).1) h2
      by_cases s1 : stOK (F 15) a d (F 17 2 * F 17 2) n
      · rw [if_pos (hst.mpr s1), if_neg (fun z => law_neg.mp z s1), law_pos s1]
        obtain ⟨t0, ht0, et0⟩ := (h a ha).2
        obtain ⟨v, hv8, hv⟩ := nbr_to ht0 et0 hd8 s1.1
        refine rd_eq ha hP k (j + 1) _ _ (by omega) (fun i hi' => ?_) ?_ hp14 (fun p hp => ?_)
        · rw [up2_row hP, up2_row (by decide), ly_row (by decide)]; exact hi i hi'
        · rw [up2_row (by decide), ly_row (by decide), up2_row (by decide)]; exact h2
        · rw [up2_up1, up2_up1, ly_row (by decide), (h a ha).1, hv]
          unfold up1
          by_cases z : p = a
          · rw [if_pos z, if_pos z]; exact ⟨rfl, v, hv8, rfl⟩
          · rw [if_neg z, if_neg z]; exact h p hp
      · rw [if_neg (fun z => s1 (hst.mp z)), if_pos (law_neg.mpr s1)]
        refine ⟨rfl, fun p hp => ?_⟩
        show ly G n 56 p = F 15 p ∧ _
        rw [ly_row (by decide)]; exact h p hp
    · rw [if_neg c, if_neg (fun z => c (e7.mp z))]; exact ⟨rfl, h⟩
