/-! How far: from where to start; the way; by hand. -/
theorem vdB_c {K T P X Y : Nat → Int32} {clr due w : Int32} {n a b : Nat} (h : ∀ j, j < n → X j = Y j) (ha : a < n) (hb : b < n) : vdB K T P X clr due w n a b = vdB K T P Y clr due w n a b := by
  unfold vdB; rw [h a ha, h b hb, fnr_c h ha hb n 0 (by omega)]
abbrev gWl (F : FF) (n a b w : Nat) : Prop := cvd F (up1 (F 15) a (nI w)) n (F 17 0) (-1) a b = 0
abbrev frS (F : FF) (n a w : Nat) : Prop := mayS (F 15) a (nI w) (F 17 2 * F 17 2) n 0 = true
def GV (F : FF) (n a b s0 : Nat) (C R : FF) (v : Nat) : Prop := (gWl F n a b v ∧ (v = s0 ∨ frS F n a v) → C 31 v = 0 ∧ R 63 v = 0) ∧ (¬ (gWl F n a b v ∧ (v = s0 ∨ frS F n a v)) → C 31 v = -1 ∧ R 63 v = -1)
def PH (F G : FF) (n a b s0 w z t : Nat) (C R : FF) : Prop :=
  ((∀ x, x ≠ 29 → x ≠ 30 → x ≠ 31 → x ≠ 32 → C x = F x) ∧ (∀ j, j < n → j ≠ a → C 30 j = F 15 j)) ∧ ((∀ x, x ≠ 57 → x ≠ 63 → x ≠ 64 → R x = G x) ∧ (∀ j, j < n → j ≠ a → R 57 j = F 15 j)) ∧
  (C 29 4 = nI z ∧ z ≤ w) ∧ (∀ v, v < w → GV F n a b s0 C R v) ∧ (∀ v, w ≤ v → v < 1024 → C 31 v = -1) ∧
  (¬ gWl F n a b s0 → z = t ∧ ∀ i, i < t → C 32 i = R 64 i ∧ ∃ u, u < w ∧ R 64 i = nI u ∧ frS F n a u ∧ gWl F n a b u)
set_option maxHeartbeats 1000000 in
theorem ph_loop {F G : FF} {n a b s0 : Nat} (h : PPr n F G) (ha : a < n) (hb : b < n) (hs0 : s0 < 1024) : ∀ (k w z t : Nat) (C R : FF), w + k = 1024 → PH F G n a b s0 w z t C R → ∃ z', PH F G n a b s0 1024 z' (fr1 n a b s0 k w t R).1 (qgL n a b (nI s0) k w C) (fr1 n a b s0 k w t R).2 := by
  intro k
  induction k with
  | zero =>
    intro w z t C R hk hP
    have e : w = 1024 := by omega
    rw [e] at hP
    exact ⟨z, hP⟩
  | succ k ih =>
    intro w z t C R hk hP
    obtain ⟨⟨eC, e30⟩, ⟨eR, e57⟩, ⟨ez, hz⟩, hv, hv2, hq⟩ := id hP
    have ezq : ∀ y, zq (up2 C 30 a y) = z := fun y => zq_eq (by rw [up2_row (by decide)]; exact ez) (by omega)
    -- what both ask
    have x30 : ∀ j, j < n → up2 C 30 a (nI w) 30 j = up1 (F 15) a (nI w) j := fun j hj => by
      rw [up2_up1]; unfold up1
      by_cases c : j = a
      · rw [if_pos c, if_pos c]
      · rw [if_neg c, if_neg c]; exact e30 j hj c
    have qg : (cvd (up2 C 30 a (nI w)) (up2 C 30 a (nI w) 30) n (C 17 0) (-1) a b = 0) ↔ gWl F n a b w := by
      unfold gWl cvd
      rw [vdB_c x30 ha hb, up2_row (a := 11) (by decide), up2_row (a := 12) (by decide), up2_row (a := 13) (by decide), up2_row (a := 17) (by decide), eC 11 (by decide) (by decide) (by decide) (by decide), eC 12 (by decide) (by decide) (by decide) (by decide), eC 13 (by decide) (by decide) (by decide) (by decide), eC 17 (by decide) (by decide) (by decide) (by decide)]
    have qo : opnC (up2 C 30 a (nI w)) n a (nI w) (nI s0) ↔ (w = s0 ∨ frS F n a w) := by
      unfold opnC frS
      rw [nI_eq (by omega) (by omega), up2_row (a := 17) (by decide), eC 17 (by decide) (by decide) (by decide) (by decide), mayS_ign (Y := F 15) (fun j hj hja => by rw [x30 j hj]; unfold up1; rw [if_neg hja]) n 0 (by omega)]
    have x57 : ∀ j, j < n → fG R a w 57 j = up1 (F 15) a (nI w) j := fun j hj => by
      show up2 (up2 R 63 w (-1)) 57 a (nI w) 57 j = _
      rw [up2_up1, up2_row (by decide)]; unfold up1
      by_cases c : j = a
      · rw [if_pos c, if_pos c]
      · rw [if_neg c, if_neg c]; exact e57 j hj c
    have eG : ∀ x, x ≠ 57 → x ≠ 63 → x ≠ 64 → fG R a w x = G x := fun x h1 h2 h3 => by rw [fG_row h1 h2]; exact eR x h1 h2 h3
    have rf : free (fG R a w) n a w ↔ frS F n a w := by
      unfold free frS
      rw [eG 51 (by decide) (by decide) (by decide), h.2.2 2 (by omega), mayS_ign (Y := F 15) (fun j hj hja => by rw [x57 j hj]; unfold up1; rw [if_neg hja]) n 0 (by omega)]
    have rg : bnd (fG R a w) n a b ↔ gWl F n a b w := by
      unfold bnd gWl
      rw [eG 51 (by decide) (by decide) (by decide), h.2.2 0 (by omega)]
      rw [vd_gen (F := F) (X := up1 (F 15) a (nI w)) (fun p hp => by rw [eG 52 (by decide) (by decide) (by decide)]; exact (h.1 p hp).1) (fun p hp => by rw [eG 53 (by decide) (by decide) (by decide)]; exact (h.1 p hp).2.1) (fun p hp => by rw [eG 54 (by decide) (by decide) (by decide)]; exact (h.1 p hp).2.2.1) x57 (by rw [eG 51 (by decide) (by decide) (by decide)]; exact h.2.2 1 (by omega)) h.2.1 ha hb]
    rw [qgL, fr1]
    have c31 : ∀ v, v ≠ w → fG R a w 63 v = R 63 v := fun v hv => by
      show up2 (up2 R 63 w (-1)) 57 a (nI w) 63 v = _
      rw [up2_row (by decide), up2_up1]; unfold up1; rw [if_neg hv]
    have r64 : fG R a w 64 = R 64 := by show up2 (up2 R 63 w (-1)) 57 a (nI w) 64 = _; rw [up2_row (by decide), up2_row (by decide)]
    by_cases cc : gWl F n a b w ∧ (w = s0 ∨ frS F n a w)
    · have eS : qgS n a b (nI s0) C w = up2 (up2 (up2 (up2 C 30 a (nI w)) 31 w 0) 32 z (nI w)) 29 4 (nI (z + 1)) := by
        unfold qgS
        rw [if_pos ⟨qg.mpr cc.1, qo.mpr cc.2⟩, enq_up (by rw [ezq]; omega), ezq]
      rw [eS, if_pos ⟨cc.2.elim Or.inl (fun y => Or.inr (rf.mpr y)), rg.mpr cc.1⟩]
      have k31 : ∀ v, up2 (up2 (up2 (up2 C 30 a (nI w)) 31 w 0) 32 z (nI w)) 29 4 (nI (z + 1)) 31 v = if v = w then 0 else C 31 v := fun v => by rw [up2_row (by decide), up2_row (by decide), up2_up1, up2_row (by decide)]; rfl
      have kC : ∀ x, x ≠ 29 → x ≠ 30 → x ≠ 31 → x ≠ 32 → up2 (up2 (up2 (up2 C 30 a (nI w)) 31 w 0) 32 z (nI w)) 29 4 (nI (z + 1)) x = F x := fun x h1 h2 h3 h4 => by rw [up2_row h1, up2_row h4, up2_row h3, up2_row h2]; exact eC x h1 h2 h3 h4
      have k30 : ∀ j, j < n → j ≠ a → up2 (up2 (up2 (up2 C 30 a (nI w)) 31 w 0) 32 z (nI w)) 29 4 (nI (z + 1)) 30 j = F 15 j := fun j hj hja => by
        rw [up2_row (by decide), up2_row (by decide), up2_row (by decide), x30 j hj]; unfold up1; rw [if_neg hja]
      by_cases cf : free (fG R a w) n a w
      · rw [if_pos cf]
        refine ih (w + 1) (z + 1) (t + 1) _ _ (by omega) ⟨⟨kC, k30⟩, ⟨fun x h1 h2 h3 => by rw [up2_row h3, up2_row h2]; exact eG x h1 h2 h3, fun j hj hja => by rw [up2_row (by decide), up2_row (by decide), x57 j hj]; unfold up1; rw [if_neg hja]⟩, ⟨up2_same _ _ _ _, by omega⟩, fun v hvw => ?_, fun v h1 h2 => by rw [k31, if_neg (by omega)]; exact hv2 v (by omega) h2, fun hng => ?_⟩
        · unfold GV
          rw [k31, up2_row (a := 63) (by decide), up2_up1]
          unfold up1
          by_cases e : v = w
          · subst e; rw [if_pos rfl, if_pos rfl]; exact ⟨fun _ => ⟨rfl, rfl⟩, fun y => absurd cc y⟩
          · rw [if_neg e, if_neg e, c31 v e]; exact hv v (by omega)
        · obtain ⟨p1, p2⟩ := hq hng
          subst p1
          refine ⟨rfl, fun i hi => ?_⟩
          rw [up2_row (a := 32) (by decide)]
          by_cases e : i = z
          · subst e; rw [up2_same, up2_same]; exact ⟨rfl, w, by omega, rfl, rf.mp cf, cc.1⟩
          · rw [show ∀ y, up2 (up2 (up2 C 30 a (nI w)) 31 w 0) 32 z y 32 i = C 32 i from fun y => by simp [up2, e], show ∀ y, up2 (up2 (fG R a w) 63 w 0) 64 z y 64 i = R 64 i from fun y => by simp [up2, e]]
            obtain ⟨q1, u, q2, q3⟩ := p2 i (by omega)
            exact ⟨q1, u, by omega, q3⟩
      · rw [if_neg cf]
        refine ih (w + 1) (z + 1) t _ _ (by omega) ⟨⟨kC, k30⟩, ⟨fun x h1 h2 h3 => by rw [up2_row h2]; exact eG x h1 h2 h3, fun j hj hja => by rw [up2_row (by decide), x57 j hj]; unfold up1; rw [if_neg hja]⟩, ⟨up2_same _ _ _ _, by omega⟩, fun v hvw => ?_, fun v h1 h2 => by rw [k31, if_neg (by omega)]; exact hv2 v (by omega) h2, fun hng => ?_⟩
        · unfold GV
          rw [k31, up2_up1]
          unfold up1
          by_cases e : v = w
          · subst e; rw [if_pos rfl, if_pos rfl]; exact ⟨fun _ => ⟨rfl, rfl⟩, fun y => absurd cc y⟩
          · rw [if_neg e, if_neg e, c31 v e]; exact hv v (by omega)
        · have e := cc.2.resolve_right (fun y => cf (rf.mpr y))
          subst e; exact absurd cc.1 hng
    · have eS : qgS n a b (nI s0) C w = up2 C 30 a (nI w) := by
        unfold qgS; rw [if_neg (fun y => cc ⟨qg.mp y.1, qo.mp y.2⟩)]
      rw [eS, if_neg (fun y => cc ⟨rg.mp y.2, y.1.elim Or.inl (fun q => Or.inr (rf.mp q))⟩)]
      refine ih (w + 1) z t _ _ (by omega) ⟨⟨fun x h1 h2 h3 h4 => by rw [up2_row h2]; exact eC x h1 h2 h3 h4, fun j hj hja => by rw [x30 j hj]; unfold up1; rw [if_neg hja]⟩, ⟨eG, fun j hj hja => by rw [x57 j hj]; unfold up1; rw [if_neg hja]⟩, ⟨by rw [up2_row (by decide)]; exact ez, by omega⟩, fun v hvw => ?_, fun v h1 h2 => by rw [up2_row (by decide)]; exact hv2 v (by omega) h2, fun hng => ?_⟩
      · unfold GV
        rw [up2_row (a := 31) (by decide)]
        by_cases e : v = w
        · subst e
          refine ⟨fun y => absurd y cc, fun _ => ⟨hv2 v (Nat.le_refl _) (by omega), ?_⟩⟩
          show up2 (up2 R 63 v (-1)) 57 a (nI v) 63 v = _
          rw [up2_row (by decide), up2_same]
        · rw [c31 v e]; exact hv v (by omega)
      · obtain ⟨p1, p2⟩ := hq hng
        refine ⟨p1, fun i hi => ?_⟩
        rw [up2_row (a := 32) (by decide), r64]
        obtain ⟨q1, u, q2, q3⟩ := p2 i hi
        exact ⟨q1, u, by omega, q3⟩
theorem ph_all {F G : FF} {n a b s0 : Nat} (hn : n ≤ 10) (h : PPr n F G) (ha : a < n) (hb : b < n) (hs0 : s0 < 1024) : ∃ z', PH F G n a b s0 1024 z' (fr1 n a b s0 1024 0 0 (ly G n)).1 (qgL n a b (nI s0) 1024 0 (up2 (fillF (cpyF F 15 30 0 0 10) 31 1024 (-1)) 29 4 0)) (fr1 n a b s0 1024 0 0 (ly G n)).2 := by
  refine ph_loop h ha hb hs0 1024 0 0 0 _ _ (by omega) ⟨⟨fun x h1 h2 h3 h4 => ?_, fun j hj hja => ?_⟩, ⟨fun x h1 h2 h3 => ly_row h1, fun j hj hja => by rw [ly_57 hj]; exact (h.1 j hj).2.2.2⟩, ⟨up2_same _ _ _ _, by omega⟩, fun v hv => absurd hv (by omega), fun v h1 h2 => ?_, fun _ => ⟨rfl, fun i hi => absurd hi (by omega)⟩⟩
  · funext j; simp [up2, fillF, cpyF, h1, h2, h3]
  · simp [up2, fillF, cpyF, show j < 10 by omega]
  · simp [up2, fillF, h2]
theorem fr1_rq {G : FF} {n a b s0 : Nat} : RQ (fr1 n a b s0 1024 0 0 (ly G n)).2 (fr1 n a b s0 1024 0 0 (ly G n)).1 0 (fun _ => 0) := by
  have h := fr1_ok (n := n) (a := a) (b := b) (bg := s0) 1024 0 0 (ly G n) (by omega) (Q1_0 _) (fun v hv => absurd hv (Nat.not_lt_zero _))
  refine ⟨h.1.1, fun i hi => ?_, fun i hi => Nat.zero_le _, fun i j h1 h2 h3 => ⟨Nat.le_refl _, Nat.zero_le _⟩⟩
  obtain ⟨x, h1, h2, h3⟩ := h.1.2 i hi
  exact ⟨x, h1, h2, by rw [h3]; exact nI_0.symm⟩
theorem lf63 {G : FF} {n a b s0 : Nat} : lfF G n a b s0 63 = frO n a 1025 0 (fr1 n a b s0 1024 0 0 (ly G n)).1 (fr1 n a b s0 1024 0 0 (ly G n)).2 63 := by unfold lfF; rw [up2_row (by decide)]
theorem far_eq {F G : FF} {n a b s0 : Nat} (hn : n ≤ 10) (h : PPr n F G) (ha : a < n) (hb : b < n) (hs0 : s0 < 1024) : Far (frS F n a) s0 (srch F n a b s0) (lfF G n a b s0) := by
  obtain ⟨z, hP⟩ := ph_all (b := b) hn h ha hb hs0
  have hrq := fr1_rq (G := G) (n := n) (a := a) (b := b) (s0 := s0)
  unfold Far
  rw [lf63]
  unfold srch
  generalize qgL n a b (nI s0) 1024 0 (up2 (fillF (cpyF F 15 30 0 0 10) 31 1024 (-1)) 29 4 0) = C at hP
  generalize (fr1 n a b s0 1024 0 0 (ly G n)).2 = R at hP hrq
  generalize (fr1 n a b s0 1024 0 0 (ly G n)).1 = t at hP hrq
  obtain ⟨⟨eC, e30⟩, ⟨eR, e57⟩, ⟨ez, hz⟩, hv, hv2, hq⟩ := hP
  by_cases cg : gWl F n a b s0
  · obtain ⟨q1, q2⟩ := (hv s0 hs0).1 ⟨cg, Or.inl rfl⟩
    have hne : ¬ C 31 s0 = -1 := by rw [q1]; decide
    rw [srL_stop hne]
    have hL := frO_lt (n := n) (a := a) (D := 0) 1025 0 t R _ hrq (fun _ => by omega)
    refine ⟨by rw [(hL s0 hs0).1 (by rw [q2]; decide), q1, q2], fun D hD h3 v hv x hx => ?_⟩
    rw [q1] at hD
    have := (nI_eq (a := 0) (by omega) (by omega)).mp (nI_0.trans hD)
    omega
  · obtain ⟨p1, p2⟩ := hq cg
    subst p1
    have hs : C 31 s0 = -1 := ((hv s0 hs0).2 (fun y => cg y.1)).1
    have hcr : ∀ v, v < 1024 → C 31 v = R 63 v := fun v hv' => by
      by_cases c : gWl F n a b v ∧ (v = s0 ∨ frS F n a v)
      · rw [((hv v hv').1 c).1, ((hv v hv').1 c).2]
      · rw [((hv v hv').2 c).1, ((hv v hv').2 c).2]
    refine s_loop (C0 := C) (R0 := R) hs0 (fun v hv' => ?_) (fun v hv' => ?_) 1024 0 z C R _ (by omega) (fun _ _ _ _ => rfl) (fun _ _ _ => rfl) hs (fun v hv' => ?_) ⟨z, ?_, ez⟩ ⟨ez, fun i hi => ?_⟩ hrq
    · unfold opnC frS
      rw [nI_eq (by omega) (by omega), eC 17 (by decide) (by decide) (by decide) (by decide), mayS_ign (Y := F 15) e30 n 0 (by omega)]
      exact Or.comm
    · unfold free frS
      rw [eR 51 (by decide) (by decide) (by decide), h.2.2 2 (by omega), mayS_ign (Y := F 15) e57 n 0 (by omega)]
    · by_cases c : gWl F n a b v ∧ (v = s0 ∨ frS F n a v)
      · right; left
        exact ⟨c.2.symm, 0, by omega, by rw [((hv v hv').1 c).1]; exact nI_0.symm, by rw [((hv v hv').1 c).2]; exact nI_0.symm⟩
      · left; exact (hv v hv').2 c
    · rw [cn_same 1024 hcr]; exact hrq.1
    · obtain ⟨q1, u, q2, q3, q4, -⟩ := p2 i hi
      exact ⟨q1, u, q2, q3, Or.inl q4⟩
theorem far_none {F G : FF} {n a b s0 : Nat} (hn : n ≤ 10) (h : PPr n F G) (ha : a < n) (hb : b < n) (hs0 : s0 < 1024) (ht : ¬ trd (F 11) (F 12) (F 13) a b) : lfF G n a b s0 63 s0 = -1 := by
  obtain ⟨z, hP⟩ := ph_all (b := b) hn h ha hb hs0
  rw [lf63]
  generalize qgL n a b (nI s0) 1024 0 (up2 (fillF (cpyF F 15 30 0 0 10) 31 1024 (-1)) 29 4 0) = C at hP
  generalize (fr1 n a b s0 1024 0 0 (ly G n)).2 = R at hP
  generalize (fr1 n a b s0 1024 0 0 (ly G n)).1 = t at hP
  obtain ⟨-, -, -, hv, -, hq⟩ := hP
  have ng : ∀ v, ¬ gWl F n a b v := fun v y => ht (cvd_trd y)
  obtain ⟨p1, p2⟩ := hq (ng s0)
  have t0 : t = 0 := by
    rcases Nat.eq_zero_or_pos t with y | y
    · exact y
    · obtain ⟨-, u, -, -, -, q⟩ := p2 0 y
      exact absurd q (ng u)
  rw [t0, frO, if_neg (by omega)]
  exact ((hv s0 hs0).2 (fun y => ng s0 y.1)).2
theorem lf_free {F G : FF} {n a b s0 : Nat} (hn : n ≤ 10) (h : PPr n F G) (ha : a < n) (hb : b < n) (hs0 : s0 < 1024) (v : Nat) : free (lfF G n a b s0) n a v ↔ frS F n a v := by
  obtain ⟨z, hP⟩ := ph_all (b := b) hn h ha hb hs0
  obtain ⟨-, ⟨eR, e57⟩, -⟩ := hP
  unfold free frS
  rw [lfF_row (x := 51) (by decide) (by decide) (by decide), h.2.2 2 (by omega), mayS_ign (Y := F 15) (n := n) (fun j hj hja => ?_) n 0 (by omega)]
  unfold lfF
  rw [show ∀ (X : FF) y, up2 X 57 a y 57 j = X 57 j from fun X y => by simp [up2, hja], frO_row (by decide) (by decide)]
  exact e57 j hj hja
/-! the way -/
theorem ldL_char {S : Nat → Int32} {w : Nat} : ∀ (k d : Nat), (∃ e, d ≤ e ∧ e < d + k ∧ (¬ nbr (nI w) e = -1 ∧ S (nbr (nI w) e).toNatClampNeg = S w - 1) ∧ ldL S w k d = nI e ∧ ∀ e', d ≤ e' → e' < e → ¬ (¬ nbr (nI w) e' = -1 ∧ S (nbr (nI w) e').toNatClampNeg = S w - 1)) ∨ ((∀ e, d ≤ e → e < d + k → ¬ (¬ nbr (nI w) e = -1 ∧ S (nbr (nI w) e).toNatClampNeg = S w - 1)) ∧ ldL S w k d = -1)
  | 0, d => Or.inr ⟨fun e h1 h2 => absurd h2 (by omega), rfl⟩
  | k + 1, d => by
    rw [ldL]
    by_cases c : ¬ nbr (nI w) d = -1 ∧ S (nbr (nI w) d).toNatClampNeg = S w - 1
    · rw [if_pos c]; exact Or.inl ⟨d, by omega, by omega, c, rfl, fun e' h1 h2 => by omega⟩
    · rw [if_neg c]
      rcases ldL_char (S := S) (w := w) k (d + 1) with ⟨e, h1, h2, h3, h4, h5⟩ | ⟨h1, h2⟩
      · refine Or.inl ⟨e, by omega, by omega, h3, h4, fun e' q1 q2 => ?_⟩
        by_cases y : e' = d
        · rw [y]; exact c
        · exact h5 e' (by omega) q2
      · refine Or.inr ⟨fun e q1 q2 => ?_, h2⟩
        by_cases y : e = d
        · rw [y]; exact c
        · exact h1 e (by omega) (by omega)
theorem wyL_char {F : FF} {n a w : Nat} : ∀ (k : Nat) (told : Int32), (∃ e, e < k ∧ wyC F n a w e ∧ wyL F n a w k told = nI e ∧ ∀ e', e' < e → ¬ wyC F n a w e') ∨ ((∀ e, e < k → ¬ wyC F n a w e) ∧ wyL F n a w k told = told)
  | 0, told => Or.inr ⟨fun e h => absurd h (by omega), rfl⟩
  | k + 1, told => by
    rw [wyL]
    rcases wyL_char (F := F) (n := n) (a := a) (w := w) k (if wyC F n a w k then nI k else told) with ⟨e, h1, h2, h3, h4⟩ | ⟨h1, h2⟩
    · exact Or.inl ⟨e, by omega, h2, h3, h4⟩
    · by_cases c : wyC F n a w k
      · rw [if_pos c] at h2 ⊢
        exact Or.inl ⟨k, by omega, c, h2, h1⟩
      · rw [if_neg c] at h2 ⊢
        refine Or.inr ⟨fun e q => ?_, h2⟩
        by_cases y : e = k
        · rw [y]; exact c
        · exact h1 e (by omega)
theorem ld_wy {C R : FF} {fr : Nat → Prop} {s0 n a w D y : Nat} (hF : Far fr s0 C R) (hfr : ∀ v, free R n a v ↔ fr v) (hD : C 31 s0 = nI D) (hD2 : D ≤ 1024) (hw : w < 1024) (e1 : C 31 w = nI y) (e2 : R 63 w = nI y) (hy : y ≤ D) : ldD (C 31) w = wyD R n a w := by
  unfold ldD wyD
  rw [e1, e2]
  rcases Nat.eq_zero_or_pos y with z | z
  · subst z; rw [if_neg (by decide), if_neg (by decide)]
  · have hp : (0 : Int32) < nI y := (nI_ltI (a := 0) (by omega) (by omega)).mpr z
    rw [if_pos hp, if_pos hp]
    have key : ∀ e, e < 8 → ((¬ nbr (nI w) e = -1 ∧ C 31 (nbr (nI w) e).toNatClampNeg = C 31 w - 1) ↔ wyC R n a w e) := fun e he => by
      rcases nbr_cases hw he with hv | ⟨v, hv8, hv⟩
      · exact ⟨fun q => absurd hv q.1, fun q => absurd hv q.1⟩
      · rw [wyC_iff hv hv8, hv, nI_clamp (show v < 2 ^ 31 by omega), e1, e2, nI_sub1 z, hF.2 D hD hD2 v hv8 (y - 1) (by omega), hfr v]
        exact ⟨fun q => q.2, fun q => ⟨nI_m1 (by omega), q⟩⟩
    rcases ldL_char (S := C 31) (w := w) 8 0 with ⟨e, h1, h2, h3, h4, h5⟩ | ⟨h1, h2⟩
    · rcases wyL_char (F := R) (n := n) (a := a) (w := w) 8 (-1) with ⟨i, g1, g2, g3, g4⟩ | ⟨g1, g2⟩
      · rw [h4, g3]
        have hle : e ≤ i := by
          rcases Nat.lt_or_ge i e with q | q
          · exact absurd ((key i g1).mpr g2) (h5 i (by omega) q)
          · exact q
        have hge : i ≤ e := by
          rcases Nat.lt_or_ge e i with q | q
          · exact absurd ((key e (by omega)).mp h3) (g4 e q)
          · exact q
        rw [show e = i by omega]
      · exact absurd ((key e (by omega)).mp h3) (g1 e (by omega))
    · rcases wyL_char (F := R) (n := n) (a := a) (w := w) 8 (-1) with ⟨i, g1, g2, g3, g4⟩ | ⟨g1, g2⟩
      · exact absurd ((key i g1).mpr g2) (h1 i (by omega) (by omega))
      · rw [h2, g2]
theorem wy_past {R : FF} {n a iN : Nat} : ∀ (k c w y : Nat) (told : Int32), w < 1024 → R 63 w = nI y → y ≤ 1024 → c + y ≤ iN → y < k → wyO R n a iN k c w told = -1
  | 0, _, _, y, _, _, _, _, _, h => absurd h (by omega)
  | k + 1, c, w, y, told, hw, e, hy, hc, hk => by
    rw [wyO, if_neg (by omega)]
    rcases wyD_spec (F := R) (n := n) (a := a) (w := w) with z | ⟨h0, d, hd, ed, c1, c2, c3⟩
    · rw [if_pos z]
    · rw [if_neg (by rw [ed]; exact nI_m1 (by omega)), ed, nI_clamp (show d < 2 ^ 31 by omega)]
      obtain ⟨v, hv8, hv⟩ : ∃ v, v < 1024 ∧ nbr (nI w) d = nI v := (nbr_cases hw hd).resolve_left c1
      rw [hv, nI_clamp (show v < 2 ^ 31 by omega)] at c3 ⊢
      rw [e] at h0 c3
      have hy0 : 0 < y := (nI_ltI (a := 0) (by omega) (by omega)).mp h0
      rw [nI_sub1 hy0] at c3
      exact wy_past k (c + 1) v (y - 1) _ hv8 c3 (by omega) (by omega) (by omega)
theorem dr_wy {C R : FF} {fr : Nat → Prop} {s0 n a D iN : Nat} (hF : Far fr s0 C R) (hfr : ∀ v, free R n a v ↔ fr v) (hD : C 31 s0 = nI D) (hD2 : D ≤ 1024) (hiN : iN < 1024) : ∀ (k c w y : Nat) (last : Int32), c + k = 1024 → w < 1024 → C 31 w = nI y → R 63 w = nI y → y ≤ D → drL (C 31) iN k c w last = wyO R n a iN (k + 1) c w last := by
  intro k
  induction k with
  | zero => intro c w y last hc hw e1 e2 hy; rw [drL, wyO, if_pos (by omega)]
  | succ k ih =>
    intro c w y last hc hw e1 e2 hy
    rw [drL, wyO, ld_wy hF hfr hD hD2 hw e1 e2 hy]
    by_cases c0 : iN < c
    · rw [if_pos c0, if_pos c0]
    · rw [if_neg c0, if_neg c0]
      rcases wyD_spec (F := R) (n := n) (a := a) (w := w) with z | ⟨h0, d, hd, ed, c1, c2, c3⟩
      · rw [if_pos z, if_pos z]
      · have hne : ¬ wyD R n a w = -1 := by rw [ed]; exact nI_m1 (by omega)
        rw [if_neg hne, if_neg hne, ed, nI_clamp (show d < 2 ^ 31 by omega)]
        obtain ⟨v, hv8, hv⟩ : ∃ v, v < 1024 ∧ nbr (nI w) d = nI v := (nbr_cases hw hd).resolve_left c1
        rw [hv, nI_clamp (show v < 2 ^ 31 by omega)] at c2 c3 ⊢
        rw [e2] at h0 c3
        have hy0 : 0 < y := (nI_ltI (a := 0) (by omega) (by omega)).mp h0
        rw [nI_sub1 hy0] at c3
        exact ih (c + 1) v (y - 1) _ (by omega) hv8 ((hF.2 D hD hD2 v hv8 (y - 1) (by omega)).mpr ⟨(hfr v).mp c2, c3⟩) c3 (by omega)
theorem way_eq {C R : FF} {fr : Nat → Prop} {s0 n a iN : Nat} (hs0 : s0 < 1024) (hF : Far fr s0 C R) (hfr : ∀ v, free R n a v ↔ fr v) (hB : FB R) (hiN : iN < 2147483648) : (if C 31 s0 ≤ nI iN then -1 else drL (C 31) iN 1024 0 s0 (-1)) = wyO R n a iN 1025 0 s0 (-1) := by
  rcases hB s0 hs0 with e | ⟨D, hD2, e⟩
  · have e1 : C 31 s0 = -1 := hF.1.trans e
    rw [e1, if_pos (Int32.le_of_lt (m1_lt (by omega))), wyO, if_neg (by omega), if_pos (show wyD R n a s0 = -1 by unfold wyD; rw [e, if_neg (by decide)])]
  · have e1 : C 31 s0 = nI D := hF.1.trans e
    by_cases c : D ≤ iN
    · rw [e1, if_pos ((nI_leI (by omega) (by omega)).mpr c)]
      exact (wy_past 1025 0 s0 D (-1) hs0 e hD2 (by omega) (by omega)).symm
    · rw [e1, if_neg (fun z => c ((nI_leI (by omega) (by omega)).mp z))]
      exact dr_wy hF hfr e1 hD2 (by omega) 1024 0 s0 D (-1) (by omega) hs0 e1 e (Nat.le_refl _)
