/-! How far: the class's search against the reference's, by hand. -/
theorem cn_up1 {r : Nat → Int32} {j : Nat} (hj : r j = -1) {v : Int32} (hv : ¬ v = -1) : ∀ k, j < k → cn (up1 r j v) k = cn r k + 1
  | 0, h => absurd h (by omega)
  | k + 1, h => by
    rw [cn, cn]
    by_cases e : j = k
    · subst e
      rw [cn_same j (fun i hi => show up1 r j v i = r i by unfold up1; rw [if_neg (by omega)]), show up1 r j v j = v by unfold up1; rw [if_pos rfl], if_neg hv, if_pos hj]
    · rw [cn_up1 hj hv k (by omega), show up1 r j v k = r k by unfold up1; rw [if_neg (by omega)]]
      omega
theorem mayS_ign {X Y : Nat → Int32} {p : Nat} {t near : Int32} {n : Nat} (h : ∀ j, j < n → j ≠ p → X j = Y j) : ∀ (k i : Nat), i + k ≤ n → mayS X p t near k i = mayS Y p t near k i
  | 0, _, _ => rfl
  | k + 1, i, hi => by
    rw [mayS, mayS, mayS_ign h k (i + 1) (by omega)]
    refine ite_iff ?_
    by_cases e : i = p
    · exact ⟨fun z => absurd e z.1, fun z => absurd e z.1⟩
    · rw [h i (by omega) e]
def RQ (R : FF) (t h : Nat) (f : Nat → Nat) : Prop := t ≤ cn (R 63) 1024 ∧ (∀ i, i < t → ∃ w, w < 1024 ∧ R 64 i = nI w ∧ R 63 w = nI (f i)) ∧ (∀ i, i < t → f i ≤ i) ∧ (∀ i j, h ≤ i → i ≤ j → j < t → f i ≤ f j ∧ f j ≤ f i + 1)
theorem RQ.t {R : FF} {t h : Nat} {f : Nat → Nat} (hq : RQ R t h f) : t ≤ 1024 := Nat.le_trans hq.1 (cn_le _ _)
theorem RQ.next {R : FF} {t h : Nat} {f : Nat → Nat} (hq : RQ R t h f) : RQ R t (h + 1) f := ⟨hq.1, hq.2.1, hq.2.2.1, fun i j h1 h2 h3 => hq.2.2.2 i j (by omega) h2 h3⟩
theorem RQ.set {R : FF} {t h v y : Nat} {f : Nat → Nat} (hq : RQ R t h f) (hv : v < 1024) (e : R 63 v = -1) (hy : y ≤ 2000) : RQ (up2 R 63 v (nI y)) t h f ∧ t + 1 ≤ cn (up2 R 63 v (nI y) 63) 1024 := by
  have hc : cn (up2 R 63 v (nI y) 63) 1024 = cn (R 63) 1024 + 1 := by rw [up2_up1]; exact cn_up1 e (nI_m1 (by omega)) 1024 hv
  have ht := hq.t
  refine ⟨⟨by rw [hc]; exact Nat.le_succ_of_le hq.1, fun i hi => ?_, hq.2.2⟩, by rw [hc]; exact Nat.succ_le_succ hq.1⟩
  clear hc
  obtain ⟨w, h1, h2, h3⟩ := hq.2.1 i hi
  have hfi := hq.2.2.1 i hi
  refine ⟨w, h1, h2, ?_⟩
  have hne : w ≠ v := fun z => by rw [z, e] at h3; exact nI_m1 (by omega) h3.symm
  simp [up2, hne, h3]
theorem RQ.push {R : FF} {t h v : Nat} {f : Nat → Nat} (hq : RQ R t h f) (hv : v < 1024) (ht : h < t) (hc : t + 1 ≤ cn (R 63) 1024) (e : R 63 v = nI (f h + 1)) : RQ (up2 R 64 t (nI v)) (t + 1) h (fun i => if i = t then f h + 1 else f i) := by
  have hfh := hq.2.2.1 h ht
  refine ⟨hc, fun i hi => ?_, fun i hi => ?_, fun i j h1 h2 h3 => ?_⟩
  · clear hc
    by_cases z : i = t
    · subst z; exact ⟨v, hv, up2_same _ _ _ _, by simp only [if_true]; exact e⟩
    · obtain ⟨w, a1, a2, a3⟩ := hq.2.1 i (by omega)
      exact ⟨w, a1, by simp [up2, z, a2], by simp only [if_neg z]; exact a3⟩
  · clear hc
    by_cases z : i = t
    · subst z; simp only [if_true]; omega
    · simp only [if_neg z]; exact hq.2.2.1 i (by omega)
  · clear hc
    by_cases zj : j = t
    · subst zj
      by_cases zi : i = j
      · subst zi; simp only [if_true]; omega
      · simp only [if_true, if_neg zi]
        have := hq.2.2.2 h i (Nat.le_refl _) h1 (by omega)
        omega
    · have zi : i ≠ t := by omega
      simp only [if_neg zj, if_neg zi]
      exact hq.2.2.2 i j h1 h2 (by omega)
theorem fr_step {n a h k d t : Nat} {R : FF} {f : Nat → Nat} (hd : d < 8) (hq : RQ R t h f) (ht : h < t) : ∃ w, w < 1024 ∧ R 64 h = nI w ∧ R 63 w = nI (f h) ∧
    ((frN n a h (k + 1) d t R = frN n a h k (d + 1) t R ∧ (nbr (nI w) d = -1 ∨ ∃ v, v < 1024 ∧ nbr (nI w) d = nI v ∧ ¬ R 63 v = -1)) ∨
     ∃ v, v < 1024 ∧ nbr (nI w) d = nI v ∧ R 63 v = -1 ∧
      ((free R n a v ∧ frN n a h (k + 1) d t R = frN n a h k (d + 1) (t + 1) (up2 (up2 R 63 v (nI (f h + 1))) 64 t (nI v)) ∧ RQ (up2 (up2 R 63 v (nI (f h + 1))) 64 t (nI v)) (t + 1) h (fun i => if i = t then f h + 1 else f i)) ∨
       (¬ free R n a v ∧ frN n a h (k + 1) d t R = frN n a h k (d + 1) t (up2 R 63 v (nI (f h + 1))) ∧ RQ (up2 R 63 v (nI (f h + 1))) t h f))) := by
  obtain ⟨w, hw, ew, ex⟩ := hq.2.1 h ht
  have hfh := hq.2.2.1 h ht
  have ht1 := hq.t
  refine ⟨w, hw, ew, ex, ?_⟩
  rw [frN_h n a h k d t R ew hw ex]
  rcases nbr_cases hw hd with hv | ⟨v, hv8, hv⟩
  · rw [if_neg (fun z => z.1 hv)]; exact Or.inl ⟨rfl, Or.inl hv⟩
  · rw [hv, nI_clamp (show v < 2 ^ 31 by omega)]
    by_cases e : R 63 v = -1
    · rw [if_pos ⟨nI_m1 (by omega), e⟩]
      have hs := hq.set hv8 e (y := f h + 1) (by omega)
      refine Or.inr ⟨v, hv8, rfl, e, ?_⟩
      by_cases c : free R n a v
      · rw [if_pos c]; exact Or.inl ⟨c, rfl, hs.1.push hv8 ht hs.2 (up2_same _ _ _ _)⟩
      · rw [if_neg c]; exact Or.inr ⟨c, rfl, hs.1⟩
    · rw [if_neg (fun z => e z.2)]; exact Or.inl ⟨rfl, Or.inr ⟨v, hv8, rfl, e⟩⟩
/-! what comes later is farther -/
def LT (D : Nat) (R R' : FF) : Prop := ∀ v, v < 1024 → (¬ R 63 v = -1 → R' 63 v = R 63 v) ∧ (R 63 v = -1 → R' 63 v = -1 ∨ ∃ y, D ≤ y ∧ y ≤ 1024 ∧ R' 63 v = nI y)
theorem LT.rf {D : Nat} {R : FF} : LT D R R := fun _ _ => ⟨fun _ => rfl, fun z => Or.inl z⟩
theorem LT.tr {D : Nat} {R S T : FF} (h1 : LT D R S) (h2 : LT D S T) : LT D R T := fun v hv => by
  refine ⟨fun z => ?_, fun z => ?_⟩
  · have e := (h1 v hv).1 z
    rw [(h2 v hv).1 (by rw [e]; exact z), e]
  · rcases (h1 v hv).2 z with e | ⟨y, y1, y2, e⟩
    · exact (h2 v hv).2 e
    · right; exact ⟨y, y1, y2, by rw [(h2 v hv).1 (by rw [e]; exact nI_m1 (by omega)), e]⟩
theorem LT.set {D : Nat} {R S : FF} {v y : Nat} (e : R 63 v = -1) (hy : D ≤ y) (hy2 : y ≤ 1024) (hS : S 63 = up1 (R 63) v (nI y)) : LT D R S := fun u hu => by
  rw [hS]; unfold up1
  by_cases z : u = v
  · subst z; rw [if_pos rfl]; exact ⟨fun q => absurd e q, fun _ => Or.inr ⟨y, hy, hy2, rfl⟩⟩
  · rw [if_neg z]; exact ⟨fun _ => rfl, fun q => Or.inl q⟩
theorem frN_lt {n a h D : Nat} : ∀ (k d t : Nat) (R : FF) (f : Nat → Nat), d + k = 8 → h < t → RQ R t h f → D ≤ f h + 1 → LT D R (frN n a h k d t R).2 ∧ h < (frN n a h k d t R).1 ∧ ∃ f', RQ (frN n a h k d t R).2 (frN n a h k d t R).1 h f' ∧ f' h = f h
  | 0, _, _, _, f, _, ht, hq, _ => ⟨LT.rf, ht, f, hq, rfl⟩
  | k + 1, d, t, R, f, hd, ht, hq, hD => by
    have hfh := hq.2.2.1 h ht
    have ht1 := hq.t
    obtain ⟨w, hw, ew, ex, ⟨e, -⟩ | ⟨v, hv8, hv, e0, ⟨c, e, hq2⟩ | ⟨c, e, hq2⟩⟩⟩ := fr_step (n := n) (a := a) (k := k) (d := d) (by omega) hq ht
    · rw [e]; exact frN_lt k (d + 1) t R f (by omega) ht hq hD
    · rw [e]
      obtain ⟨i1, i2, f', i3, i4⟩ := frN_lt (n := n) (a := a) (D := D) k (d + 1) (t + 1) _ _ (by omega) (show h < t + 1 by omega) hq2 (by rw [if_neg (by omega)]; exact hD)
      rw [if_neg (by omega)] at i4
      exact ⟨(LT.set e0 hD (by omega) (by rw [up2_row (by decide), up2_up1])).tr i1, i2, f', i3, i4⟩
    · rw [e]
      obtain ⟨i1, i2, f', i3, i4⟩ := frN_lt (n := n) (a := a) (D := D) k (d + 1) t _ _ (by omega) ht hq2 hD
      exact ⟨(LT.set e0 hD (by omega) up2_up1).tr i1, i2, f', i3, i4⟩
theorem frO_lt {n a D : Nat} : ∀ (k h t : Nat) (R : FF) (f : Nat → Nat), RQ R t h f → (h < t → D ≤ f h + 1) → LT D R (frO n a k h t R)
  | 0, _, _, _, _, _, _ => LT.rf
  | k + 1, h, t, R, f, hq, hD => by
    rw [frO]
    by_cases c : h < t
    · rw [if_pos c]
      obtain ⟨i1, i2, f', i3, i4⟩ := frN_lt (n := n) (a := a) (h := h) (D := D) 8 0 t R f rfl c hq (hD c)
      refine i1.tr (frO_lt k (h + 1) _ _ f' i3.next (fun z => ?_))
      have h1 := i3.2.2.2 h (h + 1) (Nat.le_refl _) (by omega) z
      have h2 := hD c
      omega
    · rw [if_neg c]; exact LT.rf
/-! the two searches, side by side -/
def CO (fr : Nat → Prop) (s0 : Nat) (C R : FF) : Prop := ∀ v, v < 1024 → (C 31 v = -1 ∧ R 63 v = -1) ∨ ((fr v ∨ v = s0) ∧ ∃ x, x ≤ 1024 ∧ C 31 v = nI x ∧ R 63 v = nI x) ∨ (¬ (fr v ∨ v = s0) ∧ C 31 v = -2 ∧ ∃ x, x ≤ 1024 ∧ R 63 v = nI x)
theorem CO.iff {fr : Nat → Prop} {s0 : Nat} {C R : FF} (h : CO fr s0 C R) {v : Nat} (hv : v < 1024) : C 31 v = -1 ↔ R 63 v = -1 := by
  rcases h v hv with ⟨e1, e2⟩ | ⟨-, x, hx, e1, e2⟩ | ⟨-, e1, x, hx, e2⟩
  · exact ⟨fun _ => e2, fun _ => e1⟩
  · rw [e1, e2]
  · rw [e1, e2]; exact ⟨fun z => absurd z (by decide), fun z => absurd z (nI_m1 (by omega))⟩
def QE (fr : Nat → Prop) (s0 : Nat) (C R : FF) (t : Nat) : Prop := C 29 4 = nI t ∧ ∀ i, i < t → C 32 i = R 64 i ∧ ∃ w, w < 1024 ∧ R 64 i = nI w ∧ (fr w ∨ w = s0)
def CZ (C : FF) : Prop := ∃ z, z ≤ cn (C 31) 1024 ∧ C 29 4 = nI z
theorem CZ.lt {C : FF} (h : CZ C) {v : Nat} (hv : v < 1024) (e : C 31 v = -1) : zq C < 1024 ∧ C 29 4 = nI (zq C) := by
  obtain ⟨z, h1, h2⟩ := h
  have h3 := cn_le (C 31) 1024
  rw [zq_eq h2 (by omega)]
  exact ⟨Nat.lt_of_le_of_lt h1 (cn_lt e 1024 hv), h2⟩
def NV (fr : Nat → Prop) (n a s0 w h : Nat) (C0 R0 C R : FF) (t : Nat) (f : Nat → Nat) : Prop :=
  ((∀ x, x ≠ 29 → x ≠ 31 → x ≠ 32 → C x = C0 x) ∧ (∀ x, x ≠ 63 → x ≠ 64 → R x = R0 x)) ∧ (h < t ∧ R 64 h = nI w ∧ C 31 w = nI (f h)) ∧ CO fr s0 C R ∧ CZ C ∧ (C 31 s0 = -1 → QE fr s0 C R t) ∧ RQ R t h f ∧ (C 31 s0 = -1 ∨ C 31 s0 = nI (f h + 1))
theorem enq_up {C : FF} {v : Nat} {x : Int32} (h : zq C < 1024) : enqF C v x = up2 (up2 (up2 C 31 v x) 32 (zq C) (nI v)) 29 4 (nI (zq C + 1)) := by unfold enqF; rw [if_pos h]
set_option maxHeartbeats 1000000 in
theorem n_loop {fr : Nat → Prop} {n a s0 w h : Nat} {C0 R0 : FF} (hs0 : s0 < 1024) (hw : w < 1024) (hC0 : ∀ v, v < 1024 → (opnC C0 n a (nI v) (nI s0) ↔ (fr v ∨ v = s0))) (hR0 : ∀ v, v < 1024 → (free R0 n a v ↔ fr v)) :
    ∀ (k d t : Nat) (C R : FF) (f : Nat → Nat), d + k = 8 → NV fr n a s0 w h C0 R0 C R t f → ∃ f', f' h = f h ∧ NV fr n a s0 w h C0 R0 (qnL n a (nI s0) w k d C) (frN n a h k d t R).2 (frN n a h k d t R).1 f'
  | 0, _, _, _, _, f, _, hN => ⟨f, rfl, hN⟩
  | k + 1, d, t, C, R, f, hd, hN => by
    obtain ⟨⟨eC, eR⟩, ⟨ht, e64, e31⟩, hco, hcz, hqe, hq, hsd⟩ := id hN
    have hfh := hq.2.2.1 h ht
    have ht1 := hq.t
    rw [qnL]
    have eop : ∀ v, v < 1024 → (opnC C n a (nI v) (nI s0) ↔ (fr v ∨ v = s0)) := fun v hv => by
      rw [← hC0 v hv]; unfold opnC; rw [eC 30 (by decide) (by decide) (by decide), eC 17 (by decide) (by decide) (by decide)]
    have efr : ∀ v, v < 1024 → (free R n a v ↔ fr v) := fun v hv => by
      rw [← hR0 v hv]; unfold free; rw [eR 57 (by decide) (by decide), eR 51 (by decide) (by decide)]
    obtain ⟨w', hw', ew, ex, hcase⟩ := fr_step (n := n) (a := a) (k := k) (d := d) (by omega) hq ht
    have eww : w' = w := (nI_eq (by omega) (by omega)).mp (ew.symm.trans e64)
    subst eww
    rcases hcase with ⟨e, hno⟩ | ⟨v, hv8, hv, e0, hcs⟩
    · have eq : qnS n a (nI s0) w' d C = C := by
        unfold qnS
        rcases hno with z | ⟨v, hv8, hv, hne⟩
        · rw [if_pos (Or.inl z)]
        · rw [hv, nI_clamp (show v < 2 ^ 31 by omega), if_pos (Or.inr (fun z => hne ((hco.iff hv8).mp z)))]
      rw [eq, e]; exact n_loop hs0 hw hC0 hR0 k (d + 1) t C R f (by omega) hN
    · have c0 : C 31 v = -1 := (hco.iff hv8).mpr e0
      have hvw : v ≠ w' := fun z => by rw [z] at c0; rw [c0] at e31; exact nI_m1 (by omega) e31.symm
      have eqp : (fr v ∨ v = s0) → qnS n a (nI s0) w' d C = enqF C v (nI (f h + 1)) := fun o => by
        unfold qnS
        rw [hv, nI_clamp (show v < 2 ^ 31 by omega), if_neg (fun z => z.elim (nI_m1 (by omega)) (fun y => y c0)), e31, nI_1, if_pos ((eop v hv8).mpr o)]
      have eqn : ¬ (fr v ∨ v = s0) → qnS n a (nI s0) w' d C = up2 C 31 v (-2) := fun o => by
        unfold qnS
        rw [hv, nI_clamp (show v < 2 ^ 31 by omega), if_neg (fun z => z.elim (nI_m1 (by omega)) (fun y => y c0)), if_neg (fun z => o ((eop v hv8).mp z))]
      obtain ⟨hz1, hz2⟩ := hcz.lt hv8 c0
      -- the cells behind
      have hcells : ∀ (C' R' : FF), R' 63 = up1 (R 63) v (nI (f h + 1)) → ((fr v ∨ v = s0) → C' 31 = up1 (C 31) v (nI (f h + 1))) → (¬ (fr v ∨ v = s0) → C' 31 = up1 (C 31) v (-2)) → CO fr s0 C' R' := by
        intro C' R' hR' h1 h2 u hu
        by_cases z : u = v
        · subst z
          rw [hR']
          by_cases o : fr u ∨ u = s0
          · rw [h1 o]; right; left; exact ⟨o, f h + 1, by omega, by simp [up1], by simp [up1]⟩
          · rw [h2 o]; right; right; exact ⟨o, by simp [up1], f h + 1, by omega, by simp [up1]⟩
        · have e1 : C' 31 u = C 31 u := by
            by_cases o : fr v ∨ v = s0
            · rw [h1 o]; simp [up1, z]
            · rw [h2 o]; simp [up1, z]
          have e2 : R' 63 u = R 63 u := by rw [hR']; simp [up1, z]
          rw [e1, e2]; exact hco u hu
      by_cases o : fr v ∨ v = s0
      · rw [eqp o, enq_up hz1]
        -- C' and its rows
        have c31 : up2 (up2 (up2 C 31 v (nI (f h + 1))) 32 (zq C) (nI v)) 29 4 (nI (zq C + 1)) 31 = up1 (C 31) v (nI (f h + 1)) := by rw [up2_row (by decide), up2_row (by decide), up2_up1]
        have cz' : CZ (up2 (up2 (up2 C 31 v (nI (f h + 1))) 32 (zq C) (nI v)) 29 4 (nI (zq C + 1))) := by
          refine ⟨zq C + 1, ?_, up2_same _ _ _ _⟩
          rw [c31, cn_up1 c0 (nI_m1 (by omega)) 1024 hv8]
          obtain ⟨z, q1, q2⟩ := hcz
          have q3 := cn_le (C 31) 1024
          rw [zq_eq q2 (by omega)]; exact Nat.succ_le_succ q1
        have cw : up2 (up2 (up2 C 31 v (nI (f h + 1))) 32 (zq C) (nI v)) 29 4 (nI (zq C + 1)) 31 w' = nI (f h) := by rw [c31]; unfold up1; rw [if_neg (fun z => hvw z.symm)]; exact e31
        have hsd' : up2 (up2 (up2 C 31 v (nI (f h + 1))) 32 (zq C) (nI v)) 29 4 (nI (zq C + 1)) 31 s0 = -1 ∨ up2 (up2 (up2 C 31 v (nI (f h + 1))) 32 (zq C) (nI v)) 29 4 (nI (zq C + 1)) 31 s0 = nI (f h + 1) := by
          rw [c31]; unfold up1
          by_cases z : s0 = v
          · rw [if_pos z]; exact Or.inr rfl
          · rw [if_neg z]; exact hsd
        rcases hcs with ⟨c, e, hq2⟩ | ⟨c, e, hq2⟩
        · rw [e]
          have efh : (fun i => if i = t then f h + 1 else f i) h = f h := if_neg (show h ≠ t by omega)
          have hqeN : (up2 (up2 (up2 C 31 v (nI (f h + 1))) 32 (zq C) (nI v)) 29 4 (nI (zq C + 1))) 31 s0 = -1 → QE fr s0 (up2 (up2 (up2 C 31 v (nI (f h + 1))) 32 (zq C) (nI v)) 29 4 (nI (zq C + 1))) (up2 (up2 R 63 v (nI (f h + 1))) 64 t (nI v)) (t + 1) := by
            intro hs
            have hvs : v ≠ s0 := fun z => by rw [c31] at hs; unfold up1 at hs; rw [if_pos z.symm] at hs; exact nI_m1 (by omega) hs
            have hs1 : C 31 s0 = -1 := by rw [c31] at hs; unfold up1 at hs; rw [if_neg (fun z => hvs z.symm)] at hs; exact hs
            obtain ⟨p1, p2⟩ := hqe hs1
            have ezt : zq C = t := zq_eq p1 ht1
            refine ⟨by rw [up2_same, ezt], fun i hi => ?_⟩
            rw [up2_row (a := 32) (by decide), ezt]
            by_cases z : i = t
            · subst z; rw [up2_same, up2_same]; exact ⟨rfl, v, hv8, rfl, o⟩
            · rw [show ∀ y, up2 (up2 C 31 v (nI (f h + 1))) 32 t y 32 i = C 32 i from fun y => by simp [up2, z], show ∀ y, up2 (up2 R 63 v (nI (f h + 1))) 64 t y 64 i = R 64 i from fun y => by simp [up2, z]]
              exact p2 i (by omega)
          obtain ⟨f', i1, i2⟩ := n_loop hs0 hw hC0 hR0 k (d + 1) (t + 1) (up2 (up2 (up2 C 31 v (nI (f h + 1))) 32 (zq C) (nI v)) 29 4 (nI (zq C + 1))) (up2 (up2 R 63 v (nI (f h + 1))) 64 t (nI v)) (fun i => if i = t then f h + 1 else f i) (by omega)
            ⟨⟨fun x x1 x2 x3 => by rw [up2_row x1, up2_row x3, up2_row x2]; exact eC x x1 x2 x3, fun x x1 x2 => by rw [up2_row x2, up2_row x1]; exact eR x x1 x2⟩, ⟨by omega, by rw [show ∀ y, up2 (up2 R 63 v (nI (f h + 1))) 64 t y 64 h = R 64 h from fun y => by simp [up2, show h ≠ t by omega]]; exact e64, by rw [cw, efh]⟩,
              hcells _ _ (by rw [up2_row (by decide), up2_up1]) (fun _ => c31) (fun z => absurd o z), cz', hqeN, hq2, by rw [efh]; exact hsd'⟩
          exact ⟨f', i1.trans efh, i2⟩
        · rw [e]
          have evs : v = s0 := o.resolve_left (fun z => c ((efr v hv8).mpr z))
          refine n_loop hs0 hw hC0 hR0 k (d + 1) t _ _ f (by omega)
            ⟨⟨fun x x1 x2 x3 => by rw [up2_row x1, up2_row x3, up2_row x2]; exact eC x x1 x2 x3, fun x x1 x2 => by rw [up2_row x1]; exact eR x x1 x2⟩, ⟨ht, by rw [up2_row (by decide)]; exact e64, cw⟩,
              hcells _ _ up2_up1 (fun _ => c31) (fun z => absurd o z), cz', fun hs => ?_, hq2, hsd'⟩
          rw [c31] at hs; unfold up1 at hs; rw [if_pos evs.symm] at hs; exact absurd hs (nI_m1 (by omega))
      · rw [eqn o]
        rcases hcs with ⟨c, e, hq2⟩ | ⟨c, e, hq2⟩
        · exact absurd (Or.inl ((efr v hv8).mp c)) o
        · rw [e]
          refine n_loop hs0 hw hC0 hR0 k (d + 1) t _ _ f (by omega)
            ⟨⟨fun x x1 x2 x3 => by rw [up2_row x2]; exact eC x x1 x2 x3, fun x x1 x2 => by rw [up2_row x1]; exact eR x x1 x2⟩, ⟨ht, by rw [up2_row (by decide)]; exact e64, by rw [up2_up1]; unfold up1; rw [if_neg (fun z => hvw z.symm)]; exact e31⟩,
              hcells _ _ up2_up1 (fun z => absurd z o) (fun _ => up2_up1), ?_, fun hs => ?_, hq2, by rw [up2_up1]; unfold up1; rw [if_neg (fun z => o (Or.inr z.symm))]; exact hsd⟩
          · obtain ⟨z, q1, q2⟩ := hcz
            refine ⟨z, ?_, by rw [up2_row (by decide)]; exact q2⟩
            rw [up2_up1, cn_up1 c0 (by decide) 1024 hv8]; exact Nat.le_succ_of_le q1
          · have hvs : v ≠ s0 := fun z => o (Or.inr z)
            have hs1 : C 31 s0 = -1 := by rw [up2_up1] at hs; unfold up1 at hs; rw [if_neg (fun z => hvs z.symm)] at hs; exact hs
            obtain ⟨p1, p2⟩ := hqe hs1
            exact ⟨by rw [up2_row (by decide)]; exact p1, fun i hi => by rw [up2_row (by decide), up2_row (by decide)]; exact p2 i hi⟩
/-- the ends of both: the same at the start, and the same nearer than it -/
def Far (fr : Nat → Prop) (s0 : Nat) (C R : FF) : Prop := C 31 s0 = R 63 s0 ∧ ∀ D, C 31 s0 = nI D → D ≤ 1024 → ∀ v, v < 1024 → ∀ x, x < D → (C 31 v = nI x ↔ (fr v ∧ R 63 v = nI x))
theorem CO.far {fr : Nat → Prop} {s0 : Nat} {C R : FF} (h : CO fr s0 C R) (hs0 : s0 < 1024) {D : Nat} (hD : C 31 s0 = nI D) (hD2 : D ≤ 1024) {R' : FF} (hL : LT D R R') : Far fr s0 C R' := by
  have hs : ¬ R 63 s0 = -1 := fun z => by rw [(h.iff hs0).mpr z] at hD; exact nI_m1 (by omega) hD.symm
  have e1 : C 31 s0 = R 63 s0 := by
    rcases h s0 hs0 with ⟨z, -⟩ | ⟨-, x, hx, z1, z2⟩ | ⟨z, -⟩
    · rw [z] at hD; exact absurd hD.symm (nI_m1 (by omega))
    · rw [z1, z2]
    · exact absurd (Or.inr rfl) z
  refine ⟨by rw [(hL s0 hs0).1 hs]; exact e1, fun D' hD' h3 v hv x hx => ?_⟩
  have eD : D' = D := (nI_eq (by omega) (by omega)).mp (hD'.symm.trans hD)
  subst eD
  rcases h v hv with ⟨z1, z2⟩ | ⟨o, y, hy, z1, z2⟩ | ⟨o, z1, y, hy, z2⟩
  · rw [z1]
    refine ⟨fun z => absurd z.symm (nI_m1 (by omega)), fun z => ?_⟩
    rcases (hL v hv).2 z2 with q | ⟨y, q1, q2, q3⟩
    · rw [q] at z; exact absurd z.2.symm (nI_m1 (by omega))
    · rw [q3] at z
      have := (nI_eq (by omega) (by omega)).mp z.2
      omega
  · rw [(hL v hv).1 (by rw [z2]; exact nI_m1 (by omega)), z1, z2]
    refine ⟨fun z => ⟨?_, z⟩, fun z => z.2⟩
    rcases o with q | q
    · exact q
    · subst q; rw [hD] at z1; rw [z] at z1
      have := (nI_eq (by omega) (by omega)).mp z1
      omega
  · rw [z1]
    refine ⟨fun z => ?_, fun z => absurd (Or.inl z.1) o⟩
    have hx2 := congrArg Int32.toInt z
    rw [nI_toInt (by omega), show (-2 : Int32).toInt = -2 from rfl] at hx2
    omega
theorem srL_stop {n a s0 : Nat} {C : FF} (h : ¬ C 31 s0 = -1) : ∀ k h0, srL n a s0 k h0 C = C
  | 0, _ => rfl
  | k + 1, h0 => by rw [srL, if_neg (fun z => h z.2)]
theorem s_loop {fr : Nat → Prop} {n a s0 : Nat} {C0 R0 : FF} (hs0 : s0 < 1024) (hC0 : ∀ v, v < 1024 → (opnC C0 n a (nI v) (nI s0) ↔ (fr v ∨ v = s0))) (hR0 : ∀ v, v < 1024 → (free R0 n a v ↔ fr v)) :
    ∀ (k h t : Nat) (C R : FF) (f : Nat → Nat), h + k = 1024 → (∀ x, x ≠ 29 → x ≠ 31 → x ≠ 32 → C x = C0 x) → (∀ x, x ≠ 63 → x ≠ 64 → R x = R0 x) → C 31 s0 = -1 → CO fr s0 C R → CZ C → QE fr s0 C R t → RQ R t h f → Far fr s0 (srL n a s0 k h C) (frO n a (k + 1) h t R) := by
  intro k
  induction k with
  | zero =>
    intro h t C R f hk _ _ hs hco _ _ hq
    have ht := hq.t
    rw [srL, frO, if_neg (by omega)]
    refine ⟨by rw [hs, (hco.iff hs0).mp hs], fun D hD h3 => ?_⟩
    rw [hs] at hD; exact absurd hD.symm (nI_m1 (by omega))
  | succ k ih =>
    intro h t C R f hk eC eR hs hco hcz hqe hq
    have ht := hq.t
    have ez : zq C = t := zq_eq hqe.1 ht
    rw [srL, frO, ez]
    by_cases c : h < t
    · rw [if_pos ⟨c, hs⟩, if_pos c]
      obtain ⟨w, hw, ew, ex⟩ := hq.2.1 h c
      have hfh := hq.2.2.1 h c
      obtain ⟨q1, w', q2, q3, q4⟩ := hqe.2 h c
      have eww : w' = w := (nI_eq (by omega) (by omega)).mp (q3.symm.trans ew)
      subst eww
      have e32 : C 32 h = nI w' := q1.trans ew
      rw [e32, nI_clamp (show w' < 2 ^ 31 by omega)]
      have e31 : C 31 w' = nI (f h) := by
        rcases hco w' hw with ⟨-, z⟩ | ⟨-, x, hx, z1, z2⟩ | ⟨z, -⟩
        · rw [z] at ex; exact absurd ex.symm (nI_m1 (by omega))
        · rw [z1, ← z2]; exact ex
        · exact absurd q4 z
      obtain ⟨f', i1, ⟨⟨eC', eR'⟩, ⟨ht', -, -⟩, hco', hcz', hqe', hq', hsd'⟩⟩ := n_loop (h := h) hs0 hw hC0 hR0 8 0 t C R f rfl ⟨⟨eC, eR⟩, ⟨c, ew, e31⟩, hco, hcz, fun _ => hqe, hq, Or.inl hs⟩
      by_cases hs' : qnL n a (nI s0) w' 8 0 C 31 s0 = -1
      · exact ih (h + 1) _ _ _ f' (by omega) eC' eR' hs' hco' hcz' (hqe' hs') hq'.next
      · rw [srL_stop hs']
        have hD := hsd'.resolve_left hs'
        have hf' := hq'.2.2.1 h ht'
        have ht2 := hq'.t
        refine hco'.far hs0 hD (by omega) (frO_lt (k + 1) (h + 1) _ _ f' hq'.next (fun z => ?_))
        have := hq'.2.2.2 h (h + 1) (Nat.le_refl _) (by omega) z
        omega
    · rw [if_neg (fun z => c z.1), if_neg c]
      refine ⟨by rw [hs, (hco.iff hs0).mp hs], fun D hD h3 => ?_⟩
      rw [hs] at hD; exact absurd hD.symm (nI_m1 (by omega))
