/-! The most at once: the class's search against any best value that fits, by hand. -/
theorem lwb_min {s : Nat} : ∀ (k i q : Nat), i ≤ q → tb s q → lwb s k i ≤ q
  | 0, _, _, h, _ => h
  | k + 1, i, q, h, ht => by
    rw [lwb]; split
    · exact h
    · next hc =>
      refine lwb_min k (i + 1) q ?_ ht
      rcases Nat.lt_or_eq_of_le h with z | z
      · exact z
      · subst z; exact absurd ht hc
theorem tb_cl_dec : ((List.range 1024).all fun s => (List.range 10).all fun i => (List.range 10).all fun q => decide (tb (cl s i) q ↔ (tb s q ∧ q ≠ i))) = true := by decide +kernel
theorem tb_cl {s i q : Nat} (hs : s < 1024) (hi : i < 10) (hq : q < 10) : tb (cl s i) q ↔ (tb s q ∧ q ≠ i) :=
  of_decide_eq_true (List.all_eq_true.mp (List.all_eq_true.mp (List.all_eq_true.mp tb_cl_dec s (List.mem_range.mpr hs)) i (List.mem_range.mpr hi)) q (List.mem_range.mpr hq))
theorem cl_lt {s i : Nat} (h : tb s i) : cl s i < s := by
  unfold cl; rw [if_pos h]
  have h1 : 0 < 2 ^ i := Nat.pow_pos (by decide)
  have h2 : 2 ^ i ≤ s := by
    rcases Nat.lt_or_ge s (2 ^ i) with z | z
    · unfold tb at h; rw [Nat.div_eq_of_lt z] at h; exact absurd h (by decide)
    · exact z
  omega
def cnt : Nat → Nat → Nat
  | 0, _ => 0
  | m + 1, s => cnt m s + (if tb s m then 1 else 0)
theorem cnt_c {s s' : Nat} : ∀ m, (∀ q, q < m → (tb s' q ↔ tb s q)) → cnt m s' = cnt m s
  | 0, _ => rfl
  | m + 1, h => by rw [cnt, cnt, cnt_c m (fun q hq => h q (by omega)), ite_iff (h m (by omega))]
theorem cnt_rm {s s' i : Nat} : ∀ m, i < m → tb s i → (∀ q, q < m → (tb s' q ↔ (tb s q ∧ q ≠ i))) → cnt m s' + 1 = cnt m s
  | 0, h, _, _ => absurd h (by omega)
  | m + 1, h, ht, hq => by
    rw [cnt, cnt]
    by_cases e : i = m
    · subst e
      rw [cnt_c i (fun q h1 => (hq q (by omega)).trans ⟨fun z => z.1, fun z => ⟨z, by omega⟩⟩), if_pos ht, if_neg (fun z => ((hq i (by omega)).mp z).2 rfl)]
    · have := cnt_rm m (by omega) ht (fun q h1 => hq q (by omega))
      rw [ite_iff ((hq m (by omega)).trans ⟨fun z => z.1, fun z => ⟨z, fun y => e y.symm⟩⟩)]
      omega
theorem cnt_cl {n s i : Nat} (hn : n ≤ 10) (hs : s < 2 ^ n) (hi : i < n) (ht : tb s i) : cnt n (cl s i) + 1 = cnt n s :=
  cnt_rm n hi ht (fun q hq => tb_cl (Nat.lt_of_lt_of_le hs (p2_le hn)) (by omega) (by omega))
theorem cnt_le (s : Nat) : ∀ m, cnt m s ≤ m
  | 0 => Nat.le_refl _
  | m + 1 => by have := cnt_le s m; rw [cnt]; split <;> omega
def OPT (n : Nat) (bd : Nat → Nat → Prop) (g : Nat → Nat → Nat) (v : Nat → Nat) : Prop :=
  v 0 = 0 ∧ (∀ p q, p < q → q < n → bd p q → g p q ≤ 99) ∧ ∀ s, 0 < s → s < 2 ^ n → ∀ i, i = lwb s 10 0 → v (cl s i) ≤ v s ∧ (∀ j, i < j → j < n → tb s j → bd i j → 1000000 + g i j + v (cl (cl s i) j) ≤ v s) ∧ (v s = v (cl s i) ∨ ∃ j, i < j ∧ j < n ∧ tb s j ∧ bd i j ∧ v s = 1000000 + g i j + v (cl (cl s i) j))
theorem OPT.le {n : Nat} {bd : Nat → Nat → Prop} {g : Nat → Nat → Nat} {v : Nat → Nat} (hn : n ≤ 10) (h : OPT n bd g v) : ∀ (m s : Nat), s < m → s < 2 ^ n → v s ≤ 1000099 * (cnt n s / 2)
  | 0, s, hm, _ => absurd hm (by omega)
  | m + 1, s, hm, hs => by
    rcases Nat.eq_zero_or_pos s with z | z
    · subst z; rw [h.1]; omega
    · have h1024 := Nat.lt_of_lt_of_le hs (p2_le hn)
      obtain ⟨hl1, hl2, hl3⟩ := lwb_ok z h1024
      have hln := lwb_n z hs hn
      have hc1 := cnt_cl hn hs hln hl2
      have hlt := cl_lt hl2
      rcases (h.2.2 s z hs _ rfl).2.2 with e | ⟨j, hj1, hj2, hj3, hj4, e⟩
      · have ih := OPT.le hn h m (cl s (lwb s 10 0)) (by omega) (by omega)
        rw [e]; omega
      · have ht : tb (cl s (lwb s 10 0)) j := (tb_cl h1024 hl1 (by omega)).mpr ⟨hj3, by omega⟩
        have hc2 := cnt_cl (s := cl s (lwb s 10 0)) hn (by omega) hj2 ht
        have hlt2 := cl_lt ht
        have ih := OPT.le hn h m (cl (cl s (lwb s 10 0)) j) (by omega) (by omega)
        have hg := h.2.1 _ _ hj1 hj2 hj4
        rw [e]; omega
def GC (w : Nat → Nat → Int32) : Nat → Nat → Nat → (Nat → Int32) → (Nat → Int32)
  | 0, _, _, M => M
  | k + 1, p, s, M => if tb s p then (if w s p = -1 then GC w k (p + 1) (cl s p) M
      else GC w k (p + 1) (cl (cl s p) (w s p).toNatClampNeg) (up1 (up1 M p (w s p)) (w s p).toNatClampNeg (nI p)))
    else GC w k (p + 1) s M
def WS (n : Nat) (bd : Nat → Nat → Prop) (g : Nat → Nat → Nat) (v : Nat → Nat) (w : Nat → Nat → Int32) : Prop := ∀ s p, s < 2 ^ n → p < n → tb s p →
  (w s p = -1 ∧ ∀ j, p < j → j < n → tb s j → bd p j → 1000000 + g p j + v (cl (cl s p) j) ≠ v s) ∨
  ∃ j, p < j ∧ j < n ∧ w s p = nI j ∧ tb s j ∧ bd p j ∧ 1000000 + g p j + v (cl (cl s p) j) = v s ∧ ∀ j', p < j' → j' < j → tb s j' → bd p j' → 1000000 + g p j' + v (cl (cl s p) j') ≠ v s
def BV (F : FF) (x : Int) : Prop := (F 25 4 = -1 ∧ F 25 5 = -1 ∧ x = -1) ∨ ∃ mp mg : Nat, F 25 4 = nI mp ∧ F 25 5 = nI mg ∧ mp ≤ 10 ∧ mg < 1000000 ∧ x = ((1000000 * mp + mg : Nat) : Int)
theorem BV.of {F F' : FF} {x : Int} (h : BV F x) (e : F' 25 = F 25) : BV F' x := by unfold BV; rw [e]; exact h
def FS (F : FF) (n p s : Nat) : Prop := s < 2 ^ n ∧ ∀ q, q < n → (tb s q ↔ (p ≤ q ∧ F 27 q = -1))
def Out (F F' : FF) (n : Nat) (x T : Int) (M : Nat → Int32) : Prop := F' 27 = F 27 ∧ (x < T → BV F' T ∧ ∀ j, j < n → F' 28 j = M j) ∧ (¬ x < T → F' 25 = F 25 ∧ F' 28 = F 28)
theorem prune {F : FF} {x : Int} {md gd fr vs : Nat} (hB : BV F x) (h5 : md + fr / 2 ≤ 5) (hg : gd ≤ 99 * md) (hf : fr ≤ 10) (hv : vs ≤ 1000099 * (fr / 2)) (c : nI md + nI fr / 2 < F 25 4) : ¬ x < ((1000000 * md + gd + vs : Nat) : Int) := by
  rw [show (2 : Int32) = nI 2 from rfl, pk_div (by omega) (by omega) (by omega), nI_add] at c
  rcases hB with ⟨e, -, -⟩ | ⟨mp, mg, e1, -, h1, h2, rfl⟩
  · rw [e] at c; exact absurd c (Int32.not_lt.mpr (Int32.le_of_lt (m1_lt (by omega))))
  · rw [e1] at c
    have := (nI_ltI (by omega) (by omega)).mp c
    omega
theorem keep_out {F : FF} {x : Int} {md gd n : Nat} (hn : n ≤ 10) (hB : BV F x) (hmd : md ≤ 5) (hgd : gd < 1000000) : Out F (keepF F (nI md) (nI gd)) n x ((1000000 * md + gd : Nat) : Int) (F 27) := by
  have key : (F 25 4 < nI md ∨ (nI md = F 25 4 ∧ F 25 5 < nI gd)) ↔ x < ((1000000 * md + gd : Nat) : Int) := by
    rcases hB with ⟨e1, e2, e3⟩ | ⟨mp, mg, e1, e2, h1, h2, e3⟩
    · rw [e1, e3]; exact ⟨fun _ => by omega, fun _ => Or.inl (m1_lt (by omega))⟩
    · rw [e1, e2, e3, nI_ltI (by omega) (by omega), nI_ltI (by omega) (by omega), nI_eq (by omega) (by omega)]
      omega
  unfold keepF
  by_cases c : F 25 4 < nI md ∨ (nI md = F 25 4 ∧ F 25 5 < nI gd)
  · rw [if_pos c]
    refine ⟨by funext j; simp [cpyF, up2], fun _ => ⟨Or.inr ⟨md, gd, by simp [cpyF, up2], by simp [cpyF, up2], by omega, hgd, rfl⟩, fun j hj => ?_⟩, fun z => absurd (key.mp c) z⟩
    simp [cpyF, up2, show j < 10 by omega]
  · rw [if_neg c]
    exact ⟨rfl, fun z => absurd (key.mpr z) c, fun _ => ⟨rfl, rfl⟩⟩
theorem up2_up1 {F : FF} {k j : Nat} {v : Int32} : up2 F k j v k = up1 (F k) j v := by funext q; simp [up2, up1]
set_option maxHeartbeats 2000000 in
theorem ch_ok {n : Nat} (hn : n ≤ 10) {bd : Nat → Nat → Prop} {g : Nat → Nat → Nat} {v : Nat → Nat} {w : Nat → Nat → Int32} (hO : OPT n bd g v) (hW : WS n bd g v w) (F0 : FF) (h26 : ∀ p q, p < q → q < n → (¬ F0 26 (p * 10 + q) = 0 ↔ bd p q)) (hg : ∀ p q, p < q → q < n → bd p q → gan (F0 11) (F0 13) p q = nI (g p q)) :
    ∀ (k p md gd fr s : Nat) (F : FF) (x : Int), p + k = n → (∀ a, a ≠ 25 → a ≠ 27 → a ≠ 28 → F a = F0 a) → FS F n p s → fr = cnt n s → md + fr / 2 ≤ 5 → gd ≤ 99 * md → BV F x →
      Out F (chF k p (nI fr) (nI md) (nI gd) F) n x ((1000000 * md + gd + v s : Nat) : Int) (GC w k p s (F 27)) := by
  intro k
  induction k with
  | zero =>
    intro p md gd fr s F x hp hF hS hfr h5 hgd hB
    have hs0 : s = 0 := by
      rcases Nat.eq_zero_or_pos s with z | z
      · exact z
      · have hl := lwb_ok z (Nat.lt_of_lt_of_le hS.1 (p2_le hn))
        have hln := lwb_n z hS.1 hn
        have := ((hS.2 _ hln).mp hl.2.1).1
        omega
    have hcn := cnt_le s n
    rw [chF]
    by_cases c : nI md + nI fr / 2 < F 25 4
    · rw [if_pos c]
      have hv := hO.le hn (s + 1) s (by omega) hS.1
      rw [← hfr] at hv
      exact ⟨rfl, fun z => absurd z (prune hB h5 hgd (by omega) hv c), fun _ => ⟨rfl, rfl⟩⟩
    · rw [if_neg c, hs0, hO.1, Nat.add_zero]
      exact keep_out hn hB (by omega) (by omega)
  | succ k ih =>
    intro p md gd fr s F x hp hF hS hfr h5 hgd hB
    have hcn := cnt_le s n
    have h1024 := Nat.lt_of_lt_of_le hS.1 (p2_le hn)
    have hv := hO.le hn (s + 1) s (by omega) hS.1
    rw [← hfr] at hv
    rw [chF]
    by_cases c : nI md + nI fr / 2 < F 25 4
    · rw [if_pos c]
      exact ⟨rfl, fun z => absurd z (prune hB h5 hgd (by omega) hv c), fun _ => ⟨rfl, rfl⟩⟩
    rw [if_neg c]
    by_cases m : F 27 p = -1
    · rw [if_pos m]
      have htp : tb s p := (hS.2 p (by omega)).mpr ⟨Nat.le_refl _, m⟩
      have hs0 : 0 < s := by
        rcases Nat.eq_zero_or_pos s with z | z
        · subst z; unfold tb at htp; rw [Nat.zero_div] at htp; exact absurd htp (by decide)
        · exact z
      have hl : p = lwb s 10 0 := by
        have h1 := lwb_min 10 0 p (Nat.zero_le _) htp
        have h2 := ((hS.2 _ (lwb_n hs0 hS.1 hn)).mp (lwb_ok hs0 h1024).2.1).1
        omega
      obtain ⟨o1, o2, o3⟩ := hO.2.2 s hs0 hS.1 p hl
      have hc1 := cnt_cl hn hS.1 (show p < n by omega) htp
      have hclt := cl_lt htp
      have tbr : ∀ q, q < n → (tb (cl s p) q ↔ (p + 1 ≤ q ∧ F 27 q = -1)) := fun q hq => by
        rw [tb_cl h1024 (by omega) (by omega), hS.2 q hq]
        exact ⟨fun z => ⟨by omega, z.1.2⟩, fun z => ⟨⟨by omega, z.2⟩, by omega⟩⟩
      have hws := hW s p hS.1 (by omega) htp
      generalize hT : (1000000 * md + gd + v s) = T
      generalize htg : GC w (k + 1) p s (F 27) = tgt
      rw [GC, if_pos htp] at htg
      -- the loop over whom
      have step : ∀ (q : Nat) (Fq : FF), p < q → q < n → Fq 27 = F 27 → (∀ a, a ≠ 25 → a ≠ 27 → a ≠ 28 → Fq a = F0 a) → ∀ y : Int, BV Fq y →
          (chB (chF k (p + 1)) p (nI fr) (nI md) (nI gd) q Fq 27 = F 27 ∧ (∀ a, a ≠ 25 → a ≠ 27 → a ≠ 28 → chB (chF k (p + 1)) p (nI fr) (nI md) (nI gd) q Fq a = F0 a) ∧
            ((tb s q ∧ bd p q) → (y < ((1000000 * md + gd + (1000000 + g p q + v (cl (cl s p) q)) : Nat) : Int) → BV (chB (chF k (p + 1)) p (nI fr) (nI md) (nI gd) q Fq) ((1000000 * md + gd + (1000000 + g p q + v (cl (cl s p) q)) : Nat) : Int) ∧ ∀ j, j < n → chB (chF k (p + 1)) p (nI fr) (nI md) (nI gd) q Fq 28 j = GC w k (p + 1) (cl (cl s p) q) (up1 (up1 (F 27) p (nI q)) q (nI p)) j) ∧
              (¬ y < ((1000000 * md + gd + (1000000 + g p q + v (cl (cl s p) q)) : Nat) : Int) → chB (chF k (p + 1)) p (nI fr) (nI md) (nI gd) q Fq 25 = Fq 25 ∧ chB (chF k (p + 1)) p (nI fr) (nI md) (nI gd) q Fq 28 = Fq 28)) ∧
            (¬ (tb s q ∧ bd p q) → chB (chF k (p + 1)) p (nI fr) (nI md) (nI gd) q Fq = Fq)) := by
        intro q Fq hpq hq e27 hFq y hy
        have ec : (Fq 27 q = -1 ∧ ¬ Fq 26 (p * 10 + q) = 0) ↔ (tb s q ∧ bd p q) := by
          rw [e27, hFq 26 (by decide) (by decide) (by decide), h26 p q hpq hq, hS.2 q hq]
          exact ⟨fun z => ⟨⟨by omega, z.1⟩, z.2⟩, fun z => ⟨z.1.2, z.2⟩⟩
        unfold chB
        by_cases cc : tb s q ∧ bd p q
        · rw [if_pos (ec.mpr cc)]
          have hgq := hg p q hpq hq cc.2
          have hg99 := hO.2.1 p q hpq hq cc.2
          have htq : tb (cl s p) q := (tb_cl h1024 (by omega) (by omega)).mpr ⟨cc.1, by omega⟩
          have hc2 := cnt_cl (s := cl s p) hn (by have := hS.1; omega) hq htq
          have hclt2 := cl_lt htq
          have efr : nI fr - 2 = nI (fr - 2) := by rw [show (2 : Int32) = nI 2 from rfl, pk_sub (by omega)]
          rw [hFq 11 (by decide) (by decide) (by decide), hFq 13 (by decide) (by decide) (by decide), hgq, efr, nI_1, nI_add]
          have hI := ih (p + 1) (md + 1) (gd + g p q) (fr - 2) (cl (cl s p) q) (up2 (up2 Fq 27 p (nI q)) 27 q (nI p)) y (by omega) (fun a h1 h2 h3 => by rw [up2_row h2, up2_row h2]; exact hFq a h1 h2 h3)
            ⟨by have := hS.1; omega, fun q' hq' => by
              rw [tb_cl (by omega) (by omega) (by omega), tbr q' hq']
              rw [up2_up1, up2_up1, e27]
              unfold up1
              by_cases z : q' = q
              · rw [if_pos z]; exact ⟨fun y => absurd z y.2, fun y => absurd y.2 (nI_m1 (by omega))⟩
              · rw [if_neg z]
                by_cases z2 : q' = p
                · exact ⟨fun y => by omega, fun y => by omega⟩
                · rw [if_neg z2]; exact ⟨fun y => y.1, fun y => ⟨y, z⟩⟩⟩ (by omega) (by omega) (by omega) (hy.of (by rw [up2_row (by decide), up2_row (by decide)]))
          rw [show 1000000 * (md + 1) + (gd + g p q) + v (cl (cl s p) q) = 1000000 * md + gd + (1000000 + g p q + v (cl (cl s p) q)) by omega] at hI
          generalize hF2 : chF k (p + 1) (nI (fr - 2)) (nI (md + 1)) (nI (gd + g p q)) (up2 (up2 Fq 27 p (nI q)) 27 q (nI p)) = F2 at hI ⊢
          obtain ⟨i1, i2, i3⟩ := hI
          have erow : ∀ a, a ≠ 27 → up2 (up2 F2 27 p (-1)) 27 q (-1) a = F2 a := fun a h => by rw [up2_row h, up2_row h]
          refine ⟨?_, fun a h1 h2 h3 => ?_, fun _ => ⟨fun z => ?_, fun z => ?_⟩, fun z => absurd cc z⟩
          · rw [up2_up1, up2_up1, i1, up2_up1, up2_up1, e27]
            funext j
            unfold up1
            have mq : F 27 q = -1 := ((hS.2 q hq).mp cc.1).2
            by_cases z1 : j = q
            · rw [if_pos z1, z1, mq]
            · rw [if_neg z1, if_neg z1]
              by_cases z2 : j = p
              · rw [if_pos z2, z2, m]
              · rw [if_neg z2, if_neg z2]
          · rw [erow a h2, ← hF2, chF_row h1 h2 h3, up2_row h2, up2_row h2]; exact hFq a h1 h2 h3
          · obtain ⟨b1, b2⟩ := i2 z
            refine ⟨b1.of (erow 25 (by decide)), fun j hj => ?_⟩
            rw [erow 28 (by decide), b2 j hj, up2_up1, up2_up1, e27]
          · obtain ⟨b1, b2⟩ := i3 z
            exact ⟨by rw [erow 25 (by decide), b1, up2_row (by decide), up2_row (by decide)], by rw [erow 28 (by decide), b2, up2_row (by decide), up2_row (by decide)]⟩
        · rw [if_neg (fun z => cc (ec.mp z))]
          exact ⟨e27, hFq, fun z => absurd z cc, fun _ => rfl⟩
      have fold : ∀ (j q : Nat) (Fq : FF), q + j = n → p < q → Fq 27 = F 27 → (∀ a, a ≠ 25 → a ≠ 27 → a ≠ 28 → Fq a = F0 a) →
          (¬ x < (T : Int) → Fq 25 = F 25 ∧ Fq 28 = F 28) → (x < (T : Int) → ((∃ j0, p < j0 ∧ j0 < q ∧ w s p = nI j0) → BV Fq (T : Int) ∧ ∀ i, i < n → Fq 28 i = tgt i) ∧ ((¬ ∃ j0, p < j0 ∧ j0 < q ∧ w s p = nI j0) → ∃ y : Int, y < (T : Int) ∧ BV Fq y)) →
          (qfold (chB (chF k (p + 1)) p (nI fr) (nI md) (nI gd)) j q Fq 27 = F 27 ∧ (∀ a, a ≠ 25 → a ≠ 27 → a ≠ 28 → qfold (chB (chF k (p + 1)) p (nI fr) (nI md) (nI gd)) j q Fq a = F0 a) ∧
          (¬ x < (T : Int) → qfold (chB (chF k (p + 1)) p (nI fr) (nI md) (nI gd)) j q Fq 25 = F 25 ∧ qfold (chB (chF k (p + 1)) p (nI fr) (nI md) (nI gd)) j q Fq 28 = F 28) ∧ (x < (T : Int) → ((∃ j0, p < j0 ∧ j0 < n ∧ w s p = nI j0) → BV (qfold (chB (chF k (p + 1)) p (nI fr) (nI md) (nI gd)) j q Fq) (T : Int) ∧ ∀ i, i < n → qfold (chB (chF k (p + 1)) p (nI fr) (nI md) (nI gd)) j q Fq 28 i = tgt i) ∧ ((¬ ∃ j0, p < j0 ∧ j0 < n ∧ w s p = nI j0) → ∃ y : Int, y < (T : Int) ∧ BV (qfold (chB (chF k (p + 1)) p (nI fr) (nI md) (nI gd)) j q Fq) y))) := by
        intro j
        induction j with
        | zero =>
          intro q Fq hq hpq e27 hFq hA hC
          have : q = n := by omega
          subst this
          exact ⟨e27, hFq, hA, hC⟩
        | succ j jh =>
          intro q Fq hq hpq e27 hFq hA hC
          rw [qfold]
          by_cases hx : x < (T : Int)
          · obtain ⟨hC1, hC2⟩ := hC hx
            by_cases hd : ∃ j0, p < j0 ∧ j0 < q ∧ w s p = nI j0
            · obtain ⟨b1, b2⟩ := hC1 hd
              obtain ⟨s1, s2, s3, s4⟩ := step q Fq hpq (by omega) e27 hFq _ b1
              refine jh (q + 1) _ (by omega) (by omega) s1 s2 (fun z => absurd hx z) (fun _ => ⟨fun _ => ?_, fun z => absurd (by obtain ⟨j0, z1, z2, z3⟩ := hd; exact ⟨j0, z1, by omega, z3⟩) z⟩)
              by_cases cc : tb s q ∧ bd p q
              · have hle := o2 q hpq (by omega) cc.1 cc.2
                obtain ⟨u1, u2⟩ := (s3 cc).2 (by omega)
                exact ⟨b1.of u1, fun i hi => by rw [u2]; exact b2 i hi⟩
              · rw [s4 cc]; exact ⟨b1, b2⟩
            · obtain ⟨y, hy, b1⟩ := hC2 hd
              obtain ⟨s1, s2, s3, s4⟩ := step q Fq hpq (by omega) e27 hFq y b1
              rcases hws with ⟨w1, w2⟩ | ⟨j0, w1, w2, w3, w4, w5, w6, w7⟩
              · refine jh (q + 1) _ (by omega) (by omega) s1 s2 (fun z => absurd hx z) (fun _ => ⟨fun z => ?_, fun _ => ?_⟩)
                · obtain ⟨j0, z1, z2, z3⟩ := z
                  rw [w1] at z3; exact absurd z3.symm (nI_m1 (by omega))
                · by_cases cc : tb s q ∧ bd p q
                  · have hle := o2 q hpq (by omega) cc.1 cc.2
                    have hne := w2 q hpq (by omega) cc.1 cc.2
                    by_cases hy2 : y < ((1000000 * md + gd + (1000000 + g p q + v (cl (cl s p) q)) : Nat) : Int)
                    · exact ⟨_, by omega, ((s3 cc).1 hy2).1⟩
                    · exact ⟨y, hy, b1.of ((s3 cc).2 hy2).1⟩
                  · rw [s4 cc]; exact ⟨y, hy, b1⟩
              · by_cases hq0 : q = j0
                · subst hq0
                  refine jh (q + 1) _ (by omega) (by omega) s1 s2 (fun z => absurd hx z) (fun _ => ⟨fun _ => ?_, fun z => absurd ⟨q, hpq, by omega, w3⟩ z⟩)
                  have hu := (s3 ⟨w4, w5⟩).1 (by omega)
                  rw [w6, hT] at hu
                  refine ⟨hu.1, fun i hi => ?_⟩
                  rw [hu.2 i hi, ← htg, if_neg (by rw [w3]; exact nI_m1 (by omega)), w3, nI_clamp (by omega)]
                · have hlt : q < j0 := by
                    rcases Nat.lt_or_ge q j0 with z | z
                    · exact z
                    · exact absurd ⟨j0, w1, by omega, w3⟩ hd
                  refine jh (q + 1) _ (by omega) (by omega) s1 s2 (fun z => absurd hx z) (fun _ => ⟨fun z => ?_, fun _ => ?_⟩)
                  · obtain ⟨j1, z1, z2, z3⟩ := z
                    rw [w3] at z3
                    have := (nI_eq (by omega) (by omega)).mp z3
                    omega
                  · by_cases cc : tb s q ∧ bd p q
                    · have hle := o2 q hpq (by omega) cc.1 cc.2
                      have hne := w7 q hpq hlt cc.1 cc.2
                      by_cases hy2 : y < ((1000000 * md + gd + (1000000 + g p q + v (cl (cl s p) q)) : Nat) : Int)
                      · exact ⟨_, by omega, ((s3 cc).1 hy2).1⟩
                      · exact ⟨y, hy, b1.of ((s3 cc).2 hy2).1⟩
                    · rw [s4 cc]; exact ⟨y, hy, b1⟩
          · obtain ⟨a1, a2⟩ := hA hx
            obtain ⟨s1, s2, s3, s4⟩ := step q Fq hpq (by omega) e27 hFq x (hB.of a1)
            refine jh (q + 1) _ (by omega) (by omega) s1 s2 (fun _ => ?_) (fun z => absurd z hx)
            by_cases cc : tb s q ∧ bd p q
            · have hle := o2 q hpq (by omega) cc.1 cc.2
              obtain ⟨u1, u2⟩ := (s3 cc).2 (by omega)
              exact ⟨u1.trans a1, u2.trans a2⟩
            · rw [s4 cc]; exact ⟨a1, a2⟩
      have hfold := fold k (p + 1) F (by omega) (by omega) rfl hF (fun _ => ⟨rfl, rfl⟩) (fun hx => ⟨fun z => by obtain ⟨j0, z1, z2, z3⟩ := z; omega, fun _ => ⟨x, hx, hB⟩⟩)
      generalize hF4 : qfold (chB (chF k (p + 1)) p (nI fr) (nI md) (nI gd)) k (p + 1) F = F4 at hfold ⊢
      obtain ⟨f1, f2, f3, f4⟩ := hfold
      have efr : nI fr - 1 = nI (fr - 1) := nI_sub1 (by omega)
      rw [efr]
      have hFS : FS F4 n (p + 1) (cl s p) := ⟨by have := hS.1; omega, fun q hq => by rw [f1]; exact tbr q hq⟩
      by_cases hx : x < (T : Int)
      · obtain ⟨g1, g2⟩ := f4 hx
        by_cases hd : ∃ j0, p < j0 ∧ j0 < n ∧ w s p = nI j0
        · obtain ⟨b1, b2⟩ := g1 hd
          obtain ⟨i1, i2, i3⟩ := ih (p + 1) md gd (fr - 1) (cl s p) F4 _ (by omega) f2 hFS (by omega) (by omega) hgd b1
          obtain ⟨u1, u2⟩ := i3 (by omega)
          exact ⟨i1.trans f1, fun _ => ⟨b1.of u1, fun i hi => by rw [u2]; exact b2 i hi⟩, fun z => absurd hx z⟩
        · obtain ⟨y, hy, b1⟩ := g2 hd
          obtain ⟨i1, i2, i3⟩ := ih (p + 1) md gd (fr - 1) (cl s p) F4 y (by omega) f2 hFS (by omega) (by omega) hgd b1
          rcases hws with ⟨w1, w2⟩ | ⟨j0, w1, w2, w3, -⟩
          · have hvs : v s = v (cl s p) := by
              rcases o3 with z | ⟨j, z1, z2, z3, z4, z5⟩
              · exact z
              · exact absurd z5.symm (w2 j z1 z2 z3 z4)
            rw [← hvs, hT] at i2
            obtain ⟨u1, u2⟩ := i2 hy
            refine ⟨i1.trans f1, fun _ => ⟨u1, fun i hi => ?_⟩, fun z => absurd hx z⟩
            rw [u2 i hi, ← htg, if_pos w1, f1]
          · exact absurd ⟨j0, w1, w2, w3⟩ hd
      · obtain ⟨a1, a2⟩ := f3 hx
        obtain ⟨i1, i2, i3⟩ := ih (p + 1) md gd (fr - 1) (cl s p) F4 x (by omega) f2 hFS (by omega) (by omega) hgd (hB.of a1)
        obtain ⟨u1, u2⟩ := i3 (by omega)
        exact ⟨i1.trans f1, fun z => absurd z hx, fun _ => ⟨u1.trans a1, u2.trans a2⟩⟩
    · rw [if_neg m]
      have hnt : ¬ tb s p := fun z => m ((hS.2 p (by omega)).mp z).2
      rw [GC, if_neg hnt]
      refine ih (p + 1) md gd fr s F x (by omega) hF ⟨hS.1, fun q hq => ?_⟩ hfr h5 hgd hB
      rw [hS.2 q hq]
      refine ⟨fun z => ⟨?_, z.2⟩, fun z => ⟨by omega, z.2⟩⟩
      rcases Nat.lt_or_eq_of_le z.1 with y | y
      · exact y
      · subst y; exact absurd z.2 m
