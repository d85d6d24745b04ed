/-! Stall. Printed by wip/whole/gen/spec7.py. -/
def askF (F : FF) (tr : Int32) (t : Nat) (pr : Int32) : FF :=
  if tr = 1 then up2 F 37 t (if F 37 t < pr then pr else F 37 t)
  else if tr = 0 ∧ (F 38 t = -1 ∨ pr < F 38 t) then up2 F 38 t pr else F
def up1 (D : Nat → Int32) (t : Nat) (v : Int32) : Nat → Int32 := fun j => if j = t then v else D j
def askD (D : Nat → Int32) (tr : Int32) (t : Nat) (pr : Int32) : Nat → Int32 := if tr = 1 then up1 D t (if D t < pr then pr else D t) else D
def askC (C : Nat → Int32) (tr : Int32) (t : Nat) (pr : Int32) : Nat → Int32 := if tr = 0 ∧ (C t = -1 ∨ pr < C t) then up1 C t pr else C
theorem askF_row {F : FF} {tr pr : Int32} {t a : Nat} (h1 : a ≠ 37) (h2 : a ≠ 38) : askF F tr t pr a = F a := by
  unfold askF; split <;> (try split) <;> first | rfl | (funext j; simp [up2, h1, h2])
theorem askF_37 {F : FF} {tr pr : Int32} {t : Nat} : askF F tr t pr 37 = askD (F 37) tr t pr := by
  unfold askF askD; split
  · rfl
  · split <;> rfl
theorem askF_38 {F : FF} {tr pr : Int32} {t : Nat} : askF F tr t pr 38 = askC (F 38) tr t pr := by
  unfold askF askC
  by_cases h : tr = 1
  · have h2 : ¬ (tr = 0 ∧ (F 38 t = -1 ∨ pr < F 38 t)) := by rw [h]; exact fun z => absurd z.1 (by decide)
    rw [if_pos h, if_neg h2]; rfl
  · rw [if_neg h]; split <;> rfl
def gMG (D C : Nat → Int32) (t : Nat) : Int32 := if ¬ C t = -1 ∧ C t < D t then D t - C t else 0
def mrg (D C : Nat → Int32) : Int32 := sumI (gMG D C) 4 0 0
def pfL (K T P X al : Nat → Int32) (due clr sp : Int32) : Nat → Nat → (Nat → Int32) → (Nat → Int32) → Int32
  | 0, _, D, C => mrg D C
  | k + 1, p, D, C => if awy sp (X p) < clr then 0
    else if awy sp (X p) = due ∧ ¬ al p = 0 then pfL K T P X al due clr sp k (p + 1) (askD D (K p) (T p).toNatClampNeg (P p)) (askC C (K p) (T p).toNatClampNeg (P p))
    else pfL K T P X al due clr sp k (p + 1) D C
def cPf (F : FF) (n : Nat) (al : Nat → Int32) (sp : Int32) : Int32 := pfL (F 11) (F 12) (F 13) (F 15) al (F 17 0 * F 17 0) (F 17 1 * F 17 1) sp n 0 (fun _ => -1) (fun _ => -1)
theorem askD_c {D D' : Nat → Int32} {tr pr : Int32} {t : Nat} (h : ∀ j, j < 4 → D j = D' j) : ∀ j, j < 4 → askD D tr t pr j = askD D' tr t pr j := by
  intro j hj
  unfold askD
  by_cases ht : tr = 1
  · rw [if_pos ht, if_pos ht]
    unfold up1
    by_cases hjt : j = t
    · subst hjt; simp [h j hj]
    · simp [hjt, h j hj]
  · rw [if_neg ht, if_neg ht]; exact h j hj
theorem askC_c {D D' : Nat → Int32} {tr pr : Int32} {t : Nat} (h : ∀ j, j < 4 → D j = D' j) : ∀ j, j < 4 → askC D tr t pr j = askC D' tr t pr j := by
  intro j hj
  unfold askC
  by_cases ht4 : t < 4
  · rw [h t ht4]
    split
    · unfold up1; by_cases hjt : j = t
      · simp [hjt]
      · simp [hjt, h j hj]
    · exact h j hj
  · have hne : j ≠ t := by omega
    split <;> split <;> simp [up1, hne, h j hj]
theorem pfL_c {K T P X al : Nat → Int32} {due clr sp : Int32} : ∀ (k p : Nat) (D D' C C' : Nat → Int32), (∀ j, j < 4 → D j = D' j) → (∀ j, j < 4 → C j = C' j) → pfL K T P X al due clr sp k p D C = pfL K T P X al due clr sp k p D' C'
  | 0, p, D, D', C, C', h1, h2 => by
    simp only [pfL, mrg, sumI, gMG]
    rw [h1 0 (by decide), h1 1 (by decide), h1 2 (by decide), h1 3 (by decide), h2 0 (by decide), h2 1 (by decide), h2 2 (by decide), h2 3 (by decide)]
  | k + 1, p, D, D', C, C', h1, h2 => by
    simp only [pfL]
    rw [pfL_c k (p + 1) _ _ _ _ (askD_c h1) (askC_c h2), pfL_c k (p + 1) D D' C C' h1 h2]
def ThOK (F : FF) (n : Nat) : Prop := ∀ p, p < n → ∃ t : Nat, t < 4 ∧ F 12 p = nI t
def alL (n : Nat) : Nat → Nat → FF → FF
  | 0, _, F => F
  | k + 1, p, F => alL n k (p + 1) (up2 F 36 p (if fnr (F 15) p p (-1) (F 17 1 * F 17 1) n 0 = -1 then 1 else 0))
def brL (g : Nat → Int32) : Nat → Nat → Int32 → Int32 → Int32 × Int32
  | 0, _, best, most => (best, most)
  | k + 1, w, best, most => if most < g w then brL g k (w + 1) (nI w) (g w) else brL g k (w + 1) best most
theorem b_X6_ask_0_2 : bl2 mX6_ask 0 [(.iload_n 1, 1, 1, 0, .null), (.iconst 1, 1, 0, 0, .int 1)] 2 (.if_icmp .ne 19) 3 = true := by decide +kernel
theorem b_X6_ask_21_22 : bl2 mX6_ask 21 [(.iload_n 1, 1, 1, 0, .null)] 22 (.ifCond .ne 30) 3 = true := by decide +kernel
theorem b_X6_ask_52_52 : bl2 mX6_ask 52 [] 52 (.return_) 1 = true := by decide +kernel
theorem b_X6_ask_25_30 : bl2 mX6_ask 25 [(.aload_n 0, 1, 0, 0, .null), (.getfield 19, 3, 6, 3, .null), (.iload_n 2, 1, 2, 0, .null)] 30 (.iaload) 1 = true := by decide +kernel
theorem b_X6_ask_31_32 : bl2 mX6_ask 31 [(.iconst (-1), 1, 0, 0, .int (-1))] 32 (.if_icmp .eq 13) 3 = true := by decide +kernel
theorem b_X6_ask_45_51 : bl2 mX6_ask 45 [(.aload_n 0, 1, 0, 0, .null), (.getfield 19, 3, 6, 3, .null), (.iload_n 2, 1, 2, 0, .null), (.iload_n 3, 1, 3, 0, .null)] 51 (.iastore) 1 = true := by decide +kernel
theorem b_X6_ask_35_41 : bl2 mX6_ask 35 [(.iload_n 3, 1, 3, 0, .null), (.aload_n 0, 1, 0, 0, .null), (.getfield 19, 3, 6, 3, .null), (.iload_n 2, 1, 2, 0, .null)] 41 (.iaload) 1 = true := by decide +kernel
theorem b_X6_ask_42_42 : bl2 mX6_ask 42 [] 42 (.if_icmp .ge 10) 3 = true := by decide +kernel
theorem b_X6_ask_5_15 : bl2 mX6_ask 5 [(.aload_n 0, 1, 0, 0, .null), (.getfield 15, 3, 6, 2, .null), (.iload_n 2, 1, 2, 0, .null), (.aload_n 0, 1, 0, 0, .null), (.getfield 15, 3, 6, 2, .null), (.iload_n 2, 1, 2, 0, .null)] 15 (.iaload) 1 = true := by decide +kernel
theorem b_X6_ask_16_17 : bl2 mX6_ask 16 [(.iload_n 3, 1, 3, 0, .null)] 17 (.invokestatic 85) 3 = true := by decide +kernel
theorem b_X6_ask_20_20 : bl2 mX6_ask 20 [] 20 (.iastore) 1 = true := by decide +kernel
set_option maxRecDepth 20000 in
set_option maxHeartbeats 1000000 in
theorem ev_ask (E : EE) (L : Nat) (F : FF) (tr pr : Int32) (t : Nat) (ht : t < 4) : Ev3 E L 2 mX6_ask [.ref 35, .int tr, .int (nI t), .int pr] F none (askF F tr t pr) := by
  refine Ev3.of okX6_ask.2.2.1 (Nat.le_of_ble_eq_true rfl) ?_
  show R2 E L mX6_ask 2 0 [some (.ref 35), some (.int tr), some (.int (nI t)), some (.int pr)] [] F _
  refine R2.B (ls2 := [some (.ref 35), some (.int tr), some (.int (nI t)), some (.int pr)]) (st2 := [.int 1, .int tr]) b_X6_ask_0_2 rfl (fun hd => ?_)
  refine R2.icmp_ne 21 hd (by decide) (fun c2 => ?_) (fun c2 => ?_)
  · refine R2.B (ls2 := [some (.ref 35), some (.int tr), some (.int (nI t)), some (.int pr)]) (st2 := [.int tr]) b_X6_ask_21_22 rfl (fun hd => ?_)
    refine R2.if_ne 52 hd (by decide) (fun c22 => ?_) (fun c22 => ?_)
    · refine R2.B (ls2 := [some (.ref 35), some (.int tr), some (.int (nI t)), some (.int pr)]) (st2 := []) b_X6_ask_52_52 rfl (fun hd => ?_)
      exact R2.ret3 (r := none) hd trivial rfl rfl (by clear hd; unfold askF; grind)
    · refine R2.B (ls2 := [some (.ref 35), some (.int tr), some (.int (nI t)), some (.int pr)]) (st2 := [.int (nI t), .ref 38]) b_X6_ask_25_30 rfl (fun hd => ?_)
      refine R2.iald t rfl hd rfl (fun _ => rfl) (by decide) (by omega) ?_
      refine R2.B (ls2 := [some (.ref 35), some (.int tr), some (.int (nI t)), some (.int pr)]) (st2 := [.int (-1), .int (F 38 t)]) b_X6_ask_31_32 rfl (fun hd => ?_)
      refine R2.icmp_eq 45 hd (by decide) (fun c32 => ?_) (fun c32 => ?_)
      · refine R2.B (ls2 := [some (.ref 35), some (.int tr), some (.int (nI t)), some (.int pr)]) (st2 := [.int pr, .int (nI t), .ref 38]) b_X6_ask_45_51 rfl (fun hd => ?_)
        refine R2.iast t rfl hd (by decide) rfl (fun _ => rfl) (by decide) (by omega) ?_
        refine R2.B (ls2 := [some (.ref 35), some (.int tr), some (.int (nI t)), some (.int pr)]) (st2 := []) b_X6_ask_52_52 rfl (fun hd => ?_)
        exact R2.ret3 (r := none) hd trivial rfl rfl (by clear hd; unfold askF; grind)
      · refine R2.B (ls2 := [some (.ref 35), some (.int tr), some (.int (nI t)), some (.int pr)]) (st2 := [.int (nI t), .ref 38, .int pr]) b_X6_ask_35_41 rfl (fun hd => ?_)
        refine R2.iald t rfl hd rfl (fun _ => rfl) (by decide) (by omega) ?_
        refine R2.B (ls2 := [some (.ref 35), some (.int tr), some (.int (nI t)), some (.int pr)]) (st2 := [.int (F 38 t), .int pr]) b_X6_ask_42_42 rfl (fun hd => ?_)
        refine R2.icmp_ge 52 hd (by decide) (fun c42 => ?_) (fun c42 => ?_)
        · refine R2.B (ls2 := [some (.ref 35), some (.int tr), some (.int (nI t)), some (.int pr)]) (st2 := []) b_X6_ask_52_52 rfl (fun hd => ?_)
          exact R2.ret3 (r := none) hd trivial rfl rfl (by clear hd; unfold askF; grind)
        · refine R2.B (ls2 := [some (.ref 35), some (.int tr), some (.int (nI t)), some (.int pr)]) (st2 := [.int pr, .int (nI t), .ref 38]) b_X6_ask_45_51 rfl (fun hd => ?_)
          refine R2.iast t rfl hd (by decide) rfl (fun _ => rfl) (by decide) (by omega) ?_
          refine R2.B (ls2 := [some (.ref 35), some (.int tr), some (.int (nI t)), some (.int pr)]) (st2 := []) b_X6_ask_52_52 rfl (fun hd => ?_)
          exact R2.ret3 (r := none) hd trivial rfl rfl (by clear hd; unfold askF; grind)
  · refine R2.B (ls2 := [some (.ref 35), some (.int tr), some (.int (nI t)), some (.int pr)]) (st2 := [.int (nI t), .ref 37, .int (nI t), .ref 37]) b_X6_ask_5_15 rfl (fun hd => ?_)
    refine R2.iald t rfl hd rfl (fun _ => rfl) (by decide) (by omega) ?_
    refine R2.B (ls2 := [some (.ref 35), some (.int tr), some (.int (nI t)), some (.int pr)]) (st2 := [.int pr, .int (F 37 t), .int (nI t), .ref 37]) b_X6_ask_16_17 rfl (fun hd => ?_)
    refine R2.mmax hd ma_6_85 (by decide) (Nat.le_of_ble_eq_true rfl) ?_
    refine R2.B (ls2 := [some (.ref 35), some (.int tr), some (.int (nI t)), some (.int pr)]) (st2 := [.int (if F 37 t < pr then pr else F 37 t), .int (nI t), .ref 37]) b_X6_ask_20_20 rfl (fun hd => ?_)
    refine R2.iast t rfl hd (by decide) rfl (fun _ => rfl) (by decide) (by omega) ?_
    refine R2.B (ls2 := [some (.ref 35), some (.int tr), some (.int (nI t)), some (.int pr)]) (st2 := [.int tr]) b_X6_ask_21_22 rfl (fun hd => ?_)
    refine R2.if_ne 52 hd (by decide) (fun c22 => ?_) (fun c22 => ?_)
    · refine R2.B (ls2 := [some (.ref 35), some (.int tr), some (.int (nI t)), some (.int pr)]) (st2 := []) b_X6_ask_52_52 rfl (fun hd => ?_)
      exact R2.ret3 (r := none) hd trivial rfl rfl (by clear hd; unfold askF; grind)
    · refine R2.B (ls2 := [some (.ref 35), some (.int tr), some (.int (nI t)), some (.int pr)]) (st2 := [.int (nI t), .ref 38]) b_X6_ask_25_30 rfl (fun hd => ?_)
      refine R2.iald t rfl hd rfl (fun _ => rfl) (by decide) (by omega) ?_
      refine R2.B (ls2 := [some (.ref 35), some (.int tr), some (.int (nI t)), some (.int pr)]) (st2 := [.int (-1), .int (F 38 t)]) b_X6_ask_31_32 rfl (fun hd => ?_)
      refine R2.icmp_eq 45 hd (by decide) (fun c32 => ?_) (fun c32 => ?_)
      · refine R2.B (ls2 := [some (.ref 35), some (.int tr), some (.int (nI t)), some (.int pr)]) (st2 := [.int pr, .int (nI t), .ref 38]) b_X6_ask_45_51 rfl (fun hd => ?_)
        refine R2.iast t rfl hd (by decide) rfl (fun _ => rfl) (by decide) (by omega) ?_
        refine R2.B (ls2 := [some (.ref 35), some (.int tr), some (.int (nI t)), some (.int pr)]) (st2 := []) b_X6_ask_52_52 rfl (fun hd => ?_)
        exact R2.ret3 (r := none) hd trivial rfl rfl (by clear hd; unfold askF; grind)
      · refine R2.B (ls2 := [some (.ref 35), some (.int tr), some (.int (nI t)), some (.int pr)]) (st2 := [.int (nI t), .ref 38, .int pr]) b_X6_ask_35_41 rfl (fun hd => ?_)
        refine R2.iald t rfl hd rfl (fun _ => rfl) (by decide) (by omega) ?_
        refine R2.B (ls2 := [some (.ref 35), some (.int tr), some (.int (nI t)), some (.int pr)]) (st2 := [.int (F 38 t), .int pr]) b_X6_ask_42_42 rfl (fun hd => ?_)
        refine R2.icmp_ge 52 hd (by decide) (fun c42 => ?_) (fun c42 => ?_)
        · refine R2.B (ls2 := [some (.ref 35), some (.int tr), some (.int (nI t)), some (.int pr)]) (st2 := []) b_X6_ask_52_52 rfl (fun hd => ?_)
          exact R2.ret3 (r := none) hd trivial rfl rfl (by clear hd; unfold askF; grind)
        · refine R2.B (ls2 := [some (.ref 35), some (.int tr), some (.int (nI t)), some (.int pr)]) (st2 := [.int pr, .int (nI t), .ref 38]) b_X6_ask_45_51 rfl (fun hd => ?_)
          refine R2.iast t rfl hd (by decide) rfl (fun _ => rfl) (by decide) (by omega) ?_
          refine R2.B (ls2 := [some (.ref 35), some (.int tr), some (.int (nI t)), some (.int pr)]) (st2 := []) b_X6_ask_52_52 rfl (fun hd => ?_)
          exact R2.ret3 (r := none) hd trivial rfl rfl (by clear hd; unfold askF; grind)
theorem b_X6_margins_4_6 : bl2 mX6_margins 4 [(.iload_n 2, 1, 2, 0, .null), (.iconst 4, 1, 0, 0, .int 4)] 6 (.if_icmp .ge 50) 3 = true := by decide +kernel
theorem b_X6_margins_56_57 : bl2 mX6_margins 56 [(.iload_n 1, 1, 1, 0, .null)] 57 (.ireturn) 1 = true := by decide +kernel
theorem b_X6_margins_9_14 : bl2 mX6_margins 9 [(.aload_n 0, 1, 0, 0, .null), (.getfield 19, 3, 6, 3, .null), (.iload_n 2, 1, 2, 0, .null)] 14 (.iaload) 1 = true := by decide +kernel
theorem b_X6_margins_15_16 : bl2 mX6_margins 15 [(.iconst (-1), 1, 0, 0, .int (-1))] 16 (.if_icmp .eq 34) 3 = true := by decide +kernel
theorem b_X6_margins_50_4 : bl2 mX6_margins 50 [(.iinc 2 1, 3, 2, 0, .int 1), (.goto (-49), 3, 4, 0, .null)] 4 (.iload_n 2) 1 = true := by decide +kernel
theorem b_X6_margins_19_24 : bl2 mX6_margins 19 [(.aload_n 0, 1, 0, 0, .null), (.getfield 15, 3, 6, 2, .null), (.iload_n 2, 1, 2, 0, .null)] 24 (.iaload) 1 = true := by decide +kernel
theorem b_X6_margins_25_30 : bl2 mX6_margins 25 [(.aload_n 0, 1, 0, 0, .null), (.getfield 19, 3, 6, 3, .null), (.iload_n 2, 1, 2, 0, .null)] 30 (.iaload) 1 = true := by decide +kernel
theorem b_X6_margins_31_31 : bl2 mX6_margins 31 [] 31 (.if_icmp .le 19) 3 = true := by decide +kernel
theorem b_X6_margins_34_40 : bl2 mX6_margins 34 [(.iload_n 1, 1, 1, 0, .null), (.aload_n 0, 1, 0, 0, .null), (.getfield 15, 3, 6, 2, .null), (.iload_n 2, 1, 2, 0, .null)] 40 (.iaload) 1 = true := by decide +kernel
theorem b_X6_margins_41_46 : bl2 mX6_margins 41 [(.aload_n 0, 1, 0, 0, .null), (.getfield 19, 3, 6, 3, .null), (.iload_n 2, 1, 2, 0, .null)] 46 (.iaload) 1 = true := by decide +kernel
theorem b_X6_margins_47_4 : bl2 mX6_margins 47 [(.isub, 1, 0, 0, .null), (.iadd, 1, 0, 0, .null), (.istore_n 1, 1, 1, 0, .null), (.iinc 2 1, 3, 2, 0, .int 1), (.goto (-49), 3, 4, 0, .null)] 4 (.iload_n 2) 1 = true := by decide +kernel
set_option maxRecDepth 20000 in
set_option maxHeartbeats 2000000 in
theorem lp_margins (E : EE) (L : Nat) (F : FF) : ∀ (k : Nat) (t : Nat) (acc : Int32), t + k = 4 → R2 E L mX6_margins 1 4 [some (.ref 35), some (.int acc), some (.int (nI t))] [] F (fun r' F' => r' = some (.int (sumI (gMG (F 37) (F 38)) k t acc)) ∧ F' = F) := by
  intro k
  induction k with
  | zero =>
    intro t acc hi
    refine R2.B (ls2 := [some (.ref 35), some (.int acc), some (.int (nI t))]) (st2 := [.int 4, .int (nI t)]) b_X6_margins_4_6 rfl (fun hd => ?_)
    refine R2.icmp_ge 56 hd (by decide) (fun c6 => ?_) (fun c6 => absurd (nI_le (a := 4) (by omega) (by omega)) c6)
    refine R2.B (ls2 := [some (.ref 35), some (.int acc), some (.int (nI t))]) (st2 := [.int acc]) b_X6_margins_56_57 rfl (fun hd => ?_)
    exact R2.ret3 (r := some (.int acc)) hd trivial rfl rfl rfl
  | succ k ih =>
    intro t acc hi
    refine R2.B (ls2 := [some (.ref 35), some (.int acc), some (.int (nI t))]) (st2 := [.int 4, .int (nI t)]) b_X6_margins_4_6 rfl (fun hd => ?_)
    refine R2.icmp_ge 56 hd (by decide) (fun c6 => absurd c6 (nI_ge (b := 4) (by omega) (by omega))) (fun c6 => ?_)
    refine R2.B (ls2 := [some (.ref 35), some (.int acc), some (.int (nI t))]) (st2 := [.int (nI t), .ref 38]) b_X6_margins_9_14 rfl (fun hd => ?_)
    refine R2.iald t rfl hd rfl (fun _ => rfl) (by decide) (by omega) ?_
    refine R2.B (ls2 := [some (.ref 35), some (.int acc), some (.int (nI t))]) (st2 := [.int (-1), .int (F 38 t)]) b_X6_margins_15_16 rfl (fun hd => ?_)
    refine R2.icmp_eq 50 hd (by decide) (fun c16 => ?_) (fun c16 => ?_)
    · refine R2.B (ls2 := [some (.ref 35), some (.int acc), some (.int ((nI t) + 1))]) (st2 := []) b_X6_margins_50_4 rfl (fun hd => ?_)
      rw [show ((nI t) + 1 : Int32) = nI (t + 1) from nI_add t 1]
      rw [show sumI (gMG (F 37) (F 38)) (k + 1) t acc = sumI (gMG (F 37) (F 38)) k (t + 1) acc from (by simp only [sumI, gMG]; rw [if_neg (by clear hd; grind), Int32.add_zero])]
      exact ih (t + 1) _ (by omega)
    · refine R2.B (ls2 := [some (.ref 35), some (.int acc), some (.int (nI t))]) (st2 := [.int (nI t), .ref 37]) b_X6_margins_19_24 rfl (fun hd => ?_)
      refine R2.iald t rfl hd rfl (fun _ => rfl) (by decide) (by omega) ?_
      refine R2.B (ls2 := [some (.ref 35), some (.int acc), some (.int (nI t))]) (st2 := [.int (nI t), .ref 38, .int (F 37 t)]) b_X6_margins_25_30 rfl (fun hd => ?_)
      refine R2.iald t rfl hd rfl (fun _ => rfl) (by decide) (by omega) ?_
      refine R2.B (ls2 := [some (.ref 35), some (.int acc), some (.int (nI t))]) (st2 := [.int (F 38 t), .int (F 37 t)]) b_X6_margins_31_31 rfl (fun hd => ?_)
      refine R2.icmp_le 50 hd (by decide) (fun c31 => ?_) (fun c31 => ?_)
      · refine R2.B (ls2 := [some (.ref 35), some (.int acc), some (.int ((nI t) + 1))]) (st2 := []) b_X6_margins_50_4 rfl (fun hd => ?_)
        rw [show ((nI t) + 1 : Int32) = nI (t + 1) from nI_add t 1]
        rw [show sumI (gMG (F 37) (F 38)) (k + 1) t acc = sumI (gMG (F 37) (F 38)) k (t + 1) acc from (by simp only [sumI, gMG]; rw [if_neg (by clear hd; grind), Int32.add_zero])]
        exact ih (t + 1) _ (by omega)
      · refine R2.B (ls2 := [some (.ref 35), some (.int acc), some (.int (nI t))]) (st2 := [.int (nI t), .ref 37, .int acc]) b_X6_margins_34_40 rfl (fun hd => ?_)
        refine R2.iald t rfl hd rfl (fun _ => rfl) (by decide) (by omega) ?_
        refine R2.B (ls2 := [some (.ref 35), some (.int acc), some (.int (nI t))]) (st2 := [.int (nI t), .ref 38, .int (F 37 t), .int acc]) b_X6_margins_41_46 rfl (fun hd => ?_)
        refine R2.iald t rfl hd rfl (fun _ => rfl) (by decide) (by omega) ?_
        refine R2.B (ls2 := [some (.ref 35), some (.int (acc + ((F 37 t) - (F 38 t)))), some (.int ((nI t) + 1))]) (st2 := []) b_X6_margins_47_4 rfl (fun hd => ?_)
        rw [show ((nI t) + 1 : Int32) = nI (t + 1) from nI_add t 1]
        rw [show sumI (gMG (F 37) (F 38)) (k + 1) t acc = sumI (gMG (F 37) (F 38)) k (t + 1) (acc + ((F 37 t) - (F 38 t))) from (by simp only [sumI, gMG]; rw [if_pos ⟨c16, Int32.not_le.mp c31⟩])]
        exact ih (t + 1) _ (by omega)
theorem b_X6_margins_0_4 : bl2 mX6_margins 0 [(.iconst 0, 1, 0, 0, .int 0), (.istore_n 1, 1, 1, 0, .null), (.iconst 0, 1, 0, 0, .int 0), (.istore_n 2, 1, 2, 0, .null)] 4 (.iload_n 2) 1 = true := by decide +kernel
set_option maxRecDepth 20000 in
set_option maxHeartbeats 1000000 in
theorem ev_margins (E : EE) (L : Nat) (F : FF) : Ev3 E L 1 mX6_margins [.ref 35] F (some (.int (mrg (F 37) (F 38)))) F := by
  refine Ev3.of okX6_margins.2.2.1 (Nat.le_of_ble_eq_true rfl) ?_
  show R2 E L mX6_margins 1 0 [some (.ref 35), none, none] [] F _
  refine R2.B (ls2 := [some (.ref 35), some (.int 0), some (.int 0)]) (st2 := []) b_X6_margins_0_4 rfl (fun hd => ?_)
  exact lp_margins E L F 4 0 0 (by omega)
theorem b_X6_profitOn_46_52 : bl2 mX6_profitOn 46 [(.iload 5, 2, 5, 0, .null), (.aload_n 2, 1, 2, 0, .null), (.getfield 39, 3, 0, 5, .null)] 52 (.if_icmp .ge 72) 3 = true := by decide +kernel
theorem b_X6_profitOn_124_125 : bl2 mX6_profitOn 124 [(.aload_n 0, 1, 0, 0, .null)] 125 (.invokevirtual 81) 3 = true := by decide +kernel
theorem b_X6_profitOn_128_128 : bl2 mX6_profitOn 128 [] 128 (.ireturn) 1 = true := by decide +kernel
theorem b_X6_profitOn_55_62 : bl2 mX6_profitOn 55 [(.iload_n 1, 1, 1, 0, .null), (.aload_n 2, 1, 2, 0, .null), (.getfield 44, 3, 0, 4, .null), (.iload 5, 2, 5, 0, .null)] 62 (.iaload) 1 = true := by decide +kernel
theorem b_X6_profitOn_63_63 : bl2 mX6_profitOn 63 [] 63 (.invokestatic 64) 3 = true := by decide +kernel
theorem b_X6_profitOn_66_72 : bl2 mX6_profitOn 66 [(.istore 6, 2, 6, 0, .null), (.iload 6, 2, 6, 0, .null), (.iload 4, 2, 4, 0, .null)] 72 (.if_icmp .ge 5) 3 = true := by decide +kernel
theorem b_X6_profitOn_77_80 : bl2 mX6_profitOn 77 [(.iload 6, 2, 6, 0, .null), (.iload_n 3, 1, 3, 0, .null)] 80 (.if_icmp .ne 38) 3 = true := by decide +kernel
theorem b_X6_profitOn_118_46 : bl2 mX6_profitOn 118 [(.iinc 5 1, 3, 5, 0, .int 1), (.goto (-75), 3, 46, 0, .null)] 46 (.iload 5) 2 = true := by decide +kernel
theorem b_X6_profitOn_83_89 : bl2 mX6_profitOn 83 [(.aload_n 0, 1, 0, 0, .null), (.getfield 9, 3, 6, 1, .null), (.iload 5, 2, 5, 0, .null)] 89 (.baload) 1 = true := by decide +kernel
theorem b_X6_profitOn_90_90 : bl2 mX6_profitOn 90 [] 90 (.ifCond .eq 28) 3 = true := by decide +kernel
theorem b_X6_profitOn_93_100 : bl2 mX6_profitOn 93 [(.aload_n 0, 1, 0, 0, .null), (.aload_n 2, 1, 2, 0, .null), (.getfield 68, 3, 0, 0, .null), (.iload 5, 2, 5, 0, .null)] 100 (.iaload) 1 = true := by decide +kernel
theorem b_X6_profitOn_101_107 : bl2 mX6_profitOn 101 [(.aload_n 2, 1, 2, 0, .null), (.getfield 71, 3, 0, 1, .null), (.iload 5, 2, 5, 0, .null)] 107 (.iaload) 1 = true := by decide +kernel
theorem b_X6_profitOn_108_114 : bl2 mX6_profitOn 108 [(.aload_n 2, 1, 2, 0, .null), (.getfield 74, 3, 0, 2, .null), (.iload 5, 2, 5, 0, .null)] 114 (.iaload) 1 = true := by decide +kernel
theorem b_X6_profitOn_115_115 : bl2 mX6_profitOn 115 [] 115 (.invokevirtual 77) 3 = true := by decide +kernel
theorem b_X6_profitOn_75_76 : bl2 mX6_profitOn 75 [(.iconst 0, 1, 0, 0, .int 0)] 76 (.ireturn) 1 = true := by decide +kernel
set_option maxRecDepth 20000 in
set_option maxHeartbeats 2000000 in
theorem lp_profit (E : EE) (L : Nat) (F0 : FF) (n : Nat) (hn : F0 10 5 = nI n) (hn10 : n ≤ 10) (hth : ThOK F0 n) (sp due clr : Int32) : ∀ (k : Nat) (p : Nat) (F : FF), p + k = n → (∀ a, a ≠ 37 → a ≠ 38 → F a = F0 a) → R2 E L mX6_profitOn 3 46 [some (.ref 35), some (.int sp), some (.ref 10), some (.int due), some (.int clr), some (.int (nI p)), none] [] F (fun r' F' => r' = some (.int (pfL (F0 11) (F0 12) (F0 13) (F0 15) (F0 36) due clr sp k p (F 37) (F 38))) ∧ ∀ a, a ≠ 37 → a ≠ 38 → F' a = F0 a) := by
  intro k
  induction k with
  | zero =>
    intro p F hi hs
    refine R2.B (ls2 := [some (.ref 35), some (.int sp), some (.ref 10), some (.int due), some (.int clr), some (.int (nI p)), none]) (st2 := [.int (F 10 5), .int (nI p)]) b_X6_profitOn_46_52 rfl (fun hd => ?_)
    rw [show (F 10 5 : Int32) = nI n from (by rw [hs 10 (by decide) (by decide)]; exact hn)]
    refine R2.icmp_ge 124 hd (by decide) (fun c52 => ?_) (fun c52 => absurd (nI_le (by omega) (by omega)) c52)
    refine R2.B (ls2 := [some (.ref 35), some (.int sp), some (.ref 10), some (.int due), some (.int clr), some (.int (nI p)), none]) (st2 := [.ref 35]) b_X6_profitOn_124_125 rfl (fun hd => ?_)
    refine R2.callV3 (M2 := mX6_margins) (As := []) (rest := []) hd lk_6_81 okX6_margins (by decide) rfl (ev_margins E L _) (by decide) rfl rfl (Nat.le_of_ble_eq_true rfl) ?_
    refine R2.B (ls2 := [some (.ref 35), some (.int sp), some (.ref 10), some (.int due), some (.int clr), some (.int (nI p)), none]) (st2 := [.int (mrg (F 37) (F 38))]) b_X6_profitOn_128_128 rfl (fun hd => ?_)
    exact R2.ret (r := some (.int (mrg (F 37) (F 38)))) hd trivial rfl ⟨rfl, hs⟩
  | succ k ih =>
    intro p F hi hs
    obtain ⟨t, ht, et⟩ := hth p (by omega)
    refine R2.B (ls2 := [some (.ref 35), some (.int sp), some (.ref 10), some (.int due), some (.int clr), some (.int (nI p)), none]) (st2 := [.int (F 10 5), .int (nI p)]) b_X6_profitOn_46_52 rfl (fun hd => ?_)
    rw [show (F 10 5 : Int32) = nI n from (by rw [hs 10 (by decide) (by decide)]; exact hn)]
    refine R2.icmp_ge 124 hd (by decide) (fun c52 => absurd c52 (nI_ge (by omega) (by omega))) (fun c52 => ?_)
    refine R2.B (ls2 := [some (.ref 35), some (.int sp), some (.ref 10), some (.int due), some (.int clr), some (.int (nI p)), none]) (st2 := [.int (nI p), .ref 15, .int sp]) b_X6_profitOn_55_62 rfl (fun hd => ?_)
    refine R2.iald p rfl hd rfl (fun _ => rfl) (by decide) (by omega) ?_
    refine R2.top (show (F 15 p : Int32) = F0 15 p from (by rw [hs 15 (by decide) (by decide)])) ?_
    refine R2.B (ls2 := [some (.ref 35), some (.int sp), some (.ref 10), some (.int due), some (.int clr), some (.int (nI p)), none]) (st2 := [.int (F0 15 p), .int sp]) b_X6_profitOn_63_63 rfl (fun hd => ?_)
    refine R2.callS3 (M2 := mX10_between) (As := [.int sp, .int (F0 15 p)]) (rest := []) hd lk_6_64 okX10_between (by decide) (ev_between E L F sp (F0 15 p)) (by decide) rfl rfl (Nat.le_of_ble_eq_true rfl) ?_
    refine R2.B (ls2 := [some (.ref 35), some (.int sp), some (.ref 10), some (.int due), some (.int clr), some (.int (nI p)), some (.int (awy sp (F0 15 p)))]) (st2 := [.int clr, .int (awy sp (F0 15 p))]) b_X6_profitOn_66_72 rfl (fun hd => ?_)
    refine R2.icmp_ge 77 hd (by decide) (fun c72 => ?_) (fun c72 => ?_)
    · refine R2.B (ls2 := [some (.ref 35), some (.int sp), some (.ref 10), some (.int due), some (.int clr), some (.int (nI p)), some (.int (awy sp (F0 15 p)))]) (st2 := [.int due, .int (awy sp (F0 15 p))]) b_X6_profitOn_77_80 rfl (fun hd => ?_)
      refine R2.icmp_ne 118 hd (by decide) (fun c80 => ?_) (fun c80 => ?_)
      · refine R2.B (ls2 := [some (.ref 35), some (.int sp), some (.ref 10), some (.int due), some (.int clr), some (.int ((nI p) + 1)), some (.int (awy sp (F0 15 p)))]) (st2 := []) b_X6_profitOn_118_46 rfl (fun hd => ?_)
        rw [show ((nI p) + 1 : Int32) = nI (p + 1) from nI_add p 1]
        rw [show pfL (F0 11) (F0 12) (F0 13) (F0 15) (F0 36) due clr sp (k + 1) p (F 37) (F 38) = pfL (F0 11) (F0 12) (F0 13) (F0 15) (F0 36) due clr sp k (p + 1) (F 37) (F 38) from (by simp only [pfL]; rw [if_neg (Int32.not_lt.mpr c72), if_neg (by clear hd; grind)])]
        refine R2.forget (ls2 := [some (.ref 35), some (.int sp), some (.ref 10), some (.int due), some (.int clr), some (.int (nI (p + 1))), none]) ⟨rfl, ⟨rfl, ⟨rfl, ⟨rfl, ⟨rfl, ⟨rfl, trivial⟩⟩⟩⟩⟩⟩ ?_
        exact ih (p + 1) F (by omega) hs
      · refine R2.B (ls2 := [some (.ref 35), some (.int sp), some (.ref 10), some (.int due), some (.int clr), some (.int (nI p)), some (.int (awy sp (F0 15 p)))]) (st2 := [.int (nI p), .ref 36]) b_X6_profitOn_83_89 rfl (fun hd => ?_)
        refine R2.zald p rfl hd rfl (fun _ => rfl) (by decide) (by omega) ?_
        refine R2.top (show (F 36 p : Int32) = F0 36 p from (by rw [hs 36 (by decide) (by decide)])) ?_
        refine R2.B (ls2 := [some (.ref 35), some (.int sp), some (.ref 10), some (.int due), some (.int clr), some (.int (nI p)), some (.int (awy sp (F0 15 p)))]) (st2 := [.int (F0 36 p)]) b_X6_profitOn_90_90 rfl (fun hd => ?_)
        refine R2.if_eq 118 hd (by decide) (fun c90 => ?_) (fun c90 => ?_)
        · refine R2.B (ls2 := [some (.ref 35), some (.int sp), some (.ref 10), some (.int due), some (.int clr), some (.int ((nI p) + 1)), some (.int (awy sp (F0 15 p)))]) (st2 := []) b_X6_profitOn_118_46 rfl (fun hd => ?_)
          rw [show ((nI p) + 1 : Int32) = nI (p + 1) from nI_add p 1]
          rw [show pfL (F0 11) (F0 12) (F0 13) (F0 15) (F0 36) due clr sp (k + 1) p (F 37) (F 38) = pfL (F0 11) (F0 12) (F0 13) (F0 15) (F0 36) due clr sp k (p + 1) (F 37) (F 38) from (by simp only [pfL]; rw [if_neg (Int32.not_lt.mpr c72), if_neg (by clear hd; grind)])]
          refine R2.forget (ls2 := [some (.ref 35), some (.int sp), some (.ref 10), some (.int due), some (.int clr), some (.int (nI (p + 1))), none]) ⟨rfl, ⟨rfl, ⟨rfl, ⟨rfl, ⟨rfl, ⟨rfl, trivial⟩⟩⟩⟩⟩⟩ ?_
          exact ih (p + 1) F (by omega) hs
        · refine R2.B (ls2 := [some (.ref 35), some (.int sp), some (.ref 10), some (.int due), some (.int clr), some (.int (nI p)), some (.int (awy sp (F0 15 p)))]) (st2 := [.int (nI p), .ref 11, .ref 35]) b_X6_profitOn_93_100 rfl (fun hd => ?_)
          refine R2.iald p rfl hd rfl (fun _ => rfl) (by decide) (by omega) ?_
          refine R2.top (show (F 11 p : Int32) = F0 11 p from (by rw [hs 11 (by decide) (by decide)])) ?_
          refine R2.B (ls2 := [some (.ref 35), some (.int sp), some (.ref 10), some (.int due), some (.int clr), some (.int (nI p)), some (.int (awy sp (F0 15 p)))]) (st2 := [.int (nI p), .ref 12, .int (F0 11 p), .ref 35]) b_X6_profitOn_101_107 rfl (fun hd => ?_)
          refine R2.iald p rfl hd rfl (fun _ => rfl) (by decide) (by omega) ?_
          refine R2.top (show (F 12 p : Int32) = nI t from (by rw [hs 12 (by decide) (by decide)]; exact et)) ?_
          refine R2.B (ls2 := [some (.ref 35), some (.int sp), some (.ref 10), some (.int due), some (.int clr), some (.int (nI p)), some (.int (awy sp (F0 15 p)))]) (st2 := [.int (nI p), .ref 13, .int (nI t), .int (F0 11 p), .ref 35]) b_X6_profitOn_108_114 rfl (fun hd => ?_)
          refine R2.iald p rfl hd rfl (fun _ => rfl) (by decide) (by omega) ?_
          refine R2.top (show (F 13 p : Int32) = F0 13 p from (by rw [hs 13 (by decide) (by decide)])) ?_
          refine R2.B (ls2 := [some (.ref 35), some (.int sp), some (.ref 10), some (.int due), some (.int clr), some (.int (nI p)), some (.int (awy sp (F0 15 p)))]) (st2 := [.int (F0 13 p), .int (nI t), .int (F0 11 p), .ref 35]) b_X6_profitOn_115_115 rfl (fun hd => ?_)
          refine R2.callV3 (M2 := mX6_ask) (As := [.int (F0 11 p), .int (nI t), .int (F0 13 p)]) (rest := []) hd lk_6_77 okX6_ask (by decide) rfl (ev_ask E L F (F0 11 p) (F0 13 p) t ht) (by decide) rfl rfl (Nat.le_of_ble_eq_true rfl) ?_
          refine R2.B (ls2 := [some (.ref 35), some (.int sp), some (.ref 10), some (.int due), some (.int clr), some (.int ((nI p) + 1)), some (.int (awy sp (F0 15 p)))]) (st2 := []) b_X6_profitOn_118_46 rfl (fun hd => ?_)
          rw [show ((nI p) + 1 : Int32) = nI (p + 1) from nI_add p 1]
          rw [show pfL (F0 11) (F0 12) (F0 13) (F0 15) (F0 36) due clr sp (k + 1) p (F 37) (F 38) = pfL (F0 11) (F0 12) (F0 13) (F0 15) (F0 36) due clr sp k (p + 1) (askF F (F0 11 p) t (F0 13 p) 37) (askF F (F0 11 p) t (F0 13 p) 38) from (by simp only [pfL]; rw [if_neg (Int32.not_lt.mpr c72), if_pos ⟨c80, c90⟩, askF_37, askF_38, et, nI_clamp (by omega)])]
          refine R2.forget (ls2 := [some (.ref 35), some (.int sp), some (.ref 10), some (.int due), some (.int clr), some (.int (nI (p + 1))), none]) ⟨rfl, ⟨rfl, ⟨rfl, ⟨rfl, ⟨rfl, ⟨rfl, trivial⟩⟩⟩⟩⟩⟩ ?_
          exact ih (p + 1) _ (by omega) (fun a h1 h2 => (askF_row h1 h2).trans (hs a h1 h2))
    · refine R2.B (ls2 := [some (.ref 35), some (.int sp), some (.ref 10), some (.int due), some (.int clr), some (.int (nI p)), some (.int (awy sp (F0 15 p)))]) (st2 := [.int 0]) b_X6_profitOn_75_76 rfl (fun hd => ?_)
      exact R2.ret (r := some (.int 0)) hd trivial rfl ⟨(congrArg (fun z => some (Value.int z)) (by simp only [pfL]; rw [if_pos (Int32.not_le.mp c72)])), hs⟩
theorem b_X6_profitOn_0_13 : bl2 mX6_profitOn 0 [(.aload_n 0, 1, 0, 0, .null), (.getfield 29, 3, 6, 0, .null), (.getfield 33, 3, 2, 0, .null), (.astore_n 2, 1, 2, 0, .null), (.aload_n 0, 1, 0, 0, .null), (.getfield 29, 3, 6, 0, .null), (.iconst 0, 1, 0, 0, .int 0)] 13 (.invokevirtual 55) 3 = true := by decide +kernel
theorem b_X6_profitOn_16_22 : bl2 mX6_profitOn 16 [(.istore_n 3, 1, 3, 0, .null), (.aload_n 0, 1, 0, 0, .null), (.getfield 29, 3, 6, 0, .null), (.iconst 1, 1, 0, 0, .int 1)] 22 (.invokevirtual 55) 3 = true := by decide +kernel
theorem b_X6_profitOn_25_32 : bl2 mX6_profitOn 25 [(.istore 4, 2, 4, 0, .null), (.aload_n 0, 1, 0, 0, .null), (.getfield 15, 3, 6, 2, .null), (.iconst (-1), 1, 0, 0, .int (-1))] 32 (.invokestatic 58) 3 = true := by decide +kernel
theorem b_X6_profitOn_35_40 : bl2 mX6_profitOn 35 [(.aload_n 0, 1, 0, 0, .null), (.getfield 19, 3, 6, 3, .null), (.iconst (-1), 1, 0, 0, .int (-1))] 40 (.invokestatic 58) 3 = true := by decide +kernel
theorem b_X6_profitOn_43_46 : bl2 mX6_profitOn 43 [(.iconst 0, 1, 0, 0, .int 0), (.istore 5, 2, 5, 0, .null)] 46 (.iload 5) 2 = true := by decide +kernel
set_option maxRecDepth 20000 in
set_option maxHeartbeats 1000000 in
theorem ev_profitOn (E : EE) (L : Nat) (F : FF) (n : Nat) (hn : F 10 5 = nI n) (hn10 : n ≤ 10) (hth : ThOK F n) (sp : Int32) : Ev2 E L 3 mX6_profitOn [.ref 35, .int sp] F (fun r' F' => r' = some (.int (pfL (F 11) (F 12) (F 13) (F 15) (F 36) (F 17 0 * F 17 0) (F 17 1 * F 17 1) sp n 0 (fillF (fillF F 37 4 (-1)) 38 4 (-1) 37) (fillF (fillF F 37 4 (-1)) 38 4 (-1) 38))) ∧ ∀ a, a ≠ 37 → a ≠ 38 → F' a = F a) := by
  refine Ev2.of okX6_profitOn.2.2.1 (Nat.le_of_ble_eq_true rfl) ?_
  show R2 E L mX6_profitOn 3 0 [some (.ref 35), some (.int sp), none, none, none, none, none] [] F _
  refine R2.B (ls2 := [some (.ref 35), some (.int sp), some (.ref 10), none, none, none, none]) (st2 := [.int 0, .ref 16]) b_X6_profitOn_0_13 rfl (fun hd => ?_)
  refine R2.callV3 (M2 := mX2_square) (As := [.int 0]) (rest := []) hd lk_6_55 okX2_square (by decide) rfl (ev_square E L F 0 (by decide)) (by decide) rfl rfl (Nat.le_of_ble_eq_true rfl) ?_
  refine R2.B (ls2 := [some (.ref 35), some (.int sp), some (.ref 10), some (.int ((F 17 0) * (F 17 0))), none, none, none]) (st2 := [.int 1, .ref 16]) b_X6_profitOn_16_22 rfl (fun hd => ?_)
  refine R2.callV3 (M2 := mX2_square) (As := [.int 1]) (rest := []) hd lk_6_55 okX2_square (by decide) rfl (ev_square E L F 1 (by decide)) (by decide) rfl rfl (Nat.le_of_ble_eq_true rfl) ?_
  refine R2.B (ls2 := [some (.ref 35), some (.int sp), some (.ref 10), some (.int ((F 17 0) * (F 17 0))), some (.int ((F 17 1) * (F 17 1))), none, none]) (st2 := [.int (-1), .ref 37]) b_X6_profitOn_25_32 rfl (fun hd => ?_)
  refine R2.callS3 (M2 := mJ7_fill_53178) (As := [.ref 37, .int (-1)]) (rest := []) hd lk_6_58 okJ7_fill_53178 (by decide) (ev_fill E L F 37 4 (-1) rfl (fun _ => rfl) (by decide) (by decide)) (by decide) rfl rfl (Nat.le_of_ble_eq_true rfl) ?_
  refine R2.B (ls2 := [some (.ref 35), some (.int sp), some (.ref 10), some (.int ((F 17 0) * (F 17 0))), some (.int ((F 17 1) * (F 17 1))), none, none]) (st2 := [.int (-1), .ref 38]) b_X6_profitOn_35_40 rfl (fun hd => ?_)
  refine R2.callS3 (M2 := mJ7_fill_53178) (As := [.ref 38, .int (-1)]) (rest := []) hd lk_6_58 okJ7_fill_53178 (by decide) (ev_fill E L (fillF F 37 4 (-1)) 38 4 (-1) rfl (fun _ => rfl) (by decide) (by decide)) (by decide) rfl rfl (Nat.le_of_ble_eq_true rfl) ?_
  refine R2.B (ls2 := [some (.ref 35), some (.int sp), some (.ref 10), some (.int ((F 17 0) * (F 17 0))), some (.int ((F 17 1) * (F 17 1))), some (.int 0), none]) (st2 := []) b_X6_profitOn_43_46 rfl (fun hd => ?_)
  exact lp_profit E L F n hn hn10 hth sp _ _ n 0 (fillF (fillF F 37 4 (-1)) 38 4 (-1)) (by omega) (fun a h1 h2 => by funext j; simp [fillF, h1, h2])
theorem ev_profit (E : EE) (L : Nat) (F : FF) (n : Nat) (hn : F 10 5 = nI n) (hn10 : n ≤ 10) (hth : ThOK F n) (sp : Int32) : Ev2 E L 3 mX6_profitOn [.ref 35, .int sp] F (fun r' F' => r' = some (.int (cPf F n (F 36) sp)) ∧ ∀ a, a ≠ 37 → a ≠ 38 → F' a = F a) := by
  refine (ev_profitOn E L F n hn hn10 hth sp).post (fun r F' h => ⟨?_, h.2⟩)
  rw [h.1]
  unfold cPf
  rw [pfL_c n 0 _ (fun _ => -1) _ (fun _ => -1) (fun j hj => by simp [fillF, hj]) (fun j hj => by simp [fillF, hj])]
theorem alL_row : ∀ (n k p : Nat) (F : FF) (a : Nat), a ≠ 36 → alL n k p F a = F a
  | _, 0, _, _, _, _ => rfl
  | n, k + 1, p, F, a, h1 => by
    rw [alL, alL_row n k (p + 1) _ a h1]
    funext j
    simp [up2, h1]
theorem b_X6_seek_2_13 : bl2 mX6_seek 2 [(.iload_n 1, 1, 1, 0, .null), (.aload_n 0, 1, 0, 0, .null), (.getfield 29, 3, 6, 0, .null), (.getfield 33, 3, 2, 0, .null), (.getfield 39, 3, 0, 5, .null)] 13 (.if_icmp .ge 44) 3 = true := by decide +kernel
theorem b_X6_seek_57_57 : bl2 mX6_seek 57 [] 57 (.aload_n 0) 1 = true := by decide +kernel
theorem b_X6_seek_16_38 : bl2 mX6_seek 16 [(.aload_n 0, 1, 0, 0, .null), (.getfield 9, 3, 6, 1, .null), (.iload_n 1, 1, 1, 0, .null), (.aload_n 0, 1, 0, 0, .null), (.getfield 29, 3, 6, 0, .null), (.aload_n 0, 1, 0, 0, .null), (.getfield 29, 3, 6, 0, .null), (.getfield 33, 3, 2, 0, .null), (.getfield 44, 3, 0, 4, .null), (.iload_n 1, 1, 1, 0, .null), (.iload_n 1, 1, 1, 0, .null), (.iconst (-1), 1, 0, 0, .int (-1))] 38 (.invokevirtual 47) 3 = true := by decide +kernel
theorem b_X6_seek_41_42 : bl2 mX6_seek 41 [(.iconst (-1), 1, 0, 0, .int (-1))] 42 (.if_icmp .ne 7) 3 = true := by decide +kernel
theorem b_X6_seek_49_50 : bl2 mX6_seek 49 [(.iconst 0, 1, 0, 0, .int 0)] 50 (.bastore) 1 = true := by decide +kernel
theorem b_X6_seek_51_2 : bl2 mX6_seek 51 [(.iinc 1 1, 3, 1, 0, .int 1), (.goto (-52), 3, 2, 0, .null)] 2 (.iload_n 1) 1 = true := by decide +kernel
theorem b_X6_seek_45_50 : bl2 mX6_seek 45 [(.iconst 1, 1, 0, 0, .int 1), (.goto 4, 3, 50, 0, .null)] 50 (.bastore) 1 = true := by decide +kernel
set_option maxRecDepth 20000 in
set_option maxHeartbeats 2000000 in
theorem lp_al (E : EE) (L : Nat) (n : Nat) (hn10 : n ≤ 10) (Q : Q2) : ∀ (k : Nat) (p : Nat) (F : FF), p + k = n → F 10 5 = nI n → R2 E L mX6_seek 4 57 [some (.ref 35), none, none] [] (alL n k p F) Q → R2 E L mX6_seek 4 2 [some (.ref 35), some (.int (nI p)), none] [] F Q := by
  intro k
  induction k with
  | zero =>
    intro p F hi h5 ex
    refine R2.B (ls2 := [some (.ref 35), some (.int (nI p)), none]) (st2 := [.int (F 10 5), .int (nI p)]) b_X6_seek_2_13 rfl (fun hd => ?_)
    rw [show (F 10 5 : Int32) = nI n from h5]
    refine R2.icmp_ge 57 hd (by decide) (fun c13 => ?_) (fun c13 => absurd (nI_le (by omega) (by omega)) c13)
    refine R2.B (ls2 := [some (.ref 35), some (.int (nI p)), none]) (st2 := []) b_X6_seek_57_57 rfl (fun hd => ?_)
    refine R2.forget (ls2 := [some (.ref 35), none, none]) ⟨rfl, trivial⟩ ?_
    exact ex
  | succ k ih =>
    intro p F hi h5 ex
    refine R2.B (ls2 := [some (.ref 35), some (.int (nI p)), none]) (st2 := [.int (F 10 5), .int (nI p)]) b_X6_seek_2_13 rfl (fun hd => ?_)
    rw [show (F 10 5 : Int32) = nI n from h5]
    refine R2.icmp_ge 57 hd (by decide) (fun c13 => absurd c13 (nI_ge (by omega) (by omega))) (fun c13 => ?_)
    refine R2.B (ls2 := [some (.ref 35), some (.int (nI p)), none]) (st2 := [.int (-1), .int (nI p), .int (nI p), .ref 15, .ref 16, .int (nI p), .ref 36]) b_X6_seek_16_38 rfl (fun hd => ?_)
    refine R2.callV3 (M2 := mX2_firstNearer) (As := [.ref 15, .int (nI p), .int (nI p), .int (-1)]) (rest := [.int (nI p), .ref 36]) hd lk_6_47 okX2_firstNearer (by decide) rfl (ev_firstNearer E L F n h5 hn10 15 rfl (fun _ => rfl) p p (-1) (by omega) (by omega)) (by decide) rfl rfl (Nat.le_of_ble_eq_true rfl) ?_
    refine R2.B (ls2 := [some (.ref 35), some (.int (nI p)), none]) (st2 := [.int (-1), .int (fnr (F 15) p p (-1) ((F 17 1) * (F 17 1)) n 0), .int (nI p), .ref 36]) b_X6_seek_41_42 rfl (fun hd => ?_)
    refine R2.icmp_ne 49 hd (by decide) (fun c42 => ?_) (fun c42 => ?_)
    · refine R2.B (ls2 := [some (.ref 35), some (.int (nI p)), none]) (st2 := [.int 0, .int (nI p), .ref 36]) b_X6_seek_49_50 rfl (fun hd => ?_)
      refine R2.zast p rfl hd (by decide) rfl (fun _ => rfl) (by decide) (by omega) (by decide) ?_
      refine R2.B (ls2 := [some (.ref 35), some (.int ((nI p) + 1)), none]) (st2 := []) b_X6_seek_51_2 rfl (fun hd => ?_)
      rw [show ((nI p) + 1 : Int32) = nI (p + 1) from nI_add p 1]
      refine ih (p + 1) _ (by omega) h5 ?_
      have e : alL n (k + 1) p F = alL n k (p + 1) (up2 F 36 p 0) := by
        simp only [alL]; rw [if_neg c42]
      rw [← e]
      exact ex
    · refine R2.B (ls2 := [some (.ref 35), some (.int (nI p)), none]) (st2 := [.int 1, .int (nI p), .ref 36]) b_X6_seek_45_50 rfl (fun hd => ?_)
      refine R2.zast p rfl hd (by decide) rfl (fun _ => rfl) (by decide) (by omega) (by decide) ?_
      refine R2.B (ls2 := [some (.ref 35), some (.int ((nI p) + 1)), none]) (st2 := []) b_X6_seek_51_2 rfl (fun hd => ?_)
      rw [show ((nI p) + 1 : Int32) = nI (p + 1) from nI_add p 1]
      refine ih (p + 1) _ (by omega) h5 ?_
      have e : alL n (k + 1) p F = alL n k (p + 1) (up2 F 36 p 1) := by
        simp only [alL]; rw [if_pos c42]
      rw [← e]
      exact ex
theorem b_X6_seek_69_73 : bl2 mX6_seek 69 [(.iload_n 1, 1, 1, 0, .null), (.sipush 1024, 3, 0, 0, .int 1024)] 73 (.if_icmp .ge 33) 3 = true := by decide +kernel
theorem b_X6_seek_106_106 : bl2 mX6_seek 106 [] 106 (.return_) 1 = true := by decide +kernel
theorem b_X6_seek_76_78 : bl2 mX6_seek 76 [(.aload_n 0, 1, 0, 0, .null), (.iload_n 1, 1, 1, 0, .null)] 78 (.invokevirtual 51) 3 = true := by decide +kernel
theorem b_X6_seek_81_87 : bl2 mX6_seek 81 [(.istore_n 2, 1, 2, 0, .null), (.iload_n 2, 1, 2, 0, .null), (.aload_n 0, 1, 0, 0, .null), (.getfield 26, 3, 6, 5, .null)] 87 (.if_icmp .le 13) 3 = true := by decide +kernel
theorem b_X6_seek_100_69 : bl2 mX6_seek 100 [(.iinc 1 1, 3, 1, 0, .int 1), (.goto (-34), 3, 69, 0, .null)] 69 (.iload_n 1) 1 = true := by decide +kernel
theorem b_X6_seek_90_92 : bl2 mX6_seek 90 [(.aload_n 0, 1, 0, 0, .null), (.iload_n 2, 1, 2, 0, .null)] 92 (.putfield 26) 3 = true := by decide +kernel
theorem b_X6_seek_95_97 : bl2 mX6_seek 95 [(.aload_n 0, 1, 0, 0, .null), (.iload_n 1, 1, 1, 0, .null)] 97 (.putfield 22) 3 = true := by decide +kernel
set_option maxRecDepth 20000 in
set_option maxHeartbeats 2000000 in
theorem lp_seek (E : EE) (L : Nat) (F0 : FF) (n : Nat) (hn : F0 10 5 = nI n) (hn10 : n ≤ 10) (hth : ThOK F0 n) : ∀ (k : Nat) (w : Nat) (F : FF) (best most : Int32), w + k = 1024 → (∀ a, a ≠ 35 → a ≠ 37 → a ≠ 38 → F a = F0 a) → F 35 4 = best → F 35 5 = most → R2 E L mX6_seek 4 69 [some (.ref 35), some (.int (nI w)), none] [] F (fun r' F' => r' = none ∧ F' 35 4 = (brL (fun w => cPf F0 n (F0 36) (nI w)) k w best most).1 ∧ F' 35 5 = (brL (fun w => cPf F0 n (F0 36) (nI w)) k w best most).2 ∧ ∀ a, a ≠ 35 → a ≠ 37 → a ≠ 38 → F' a = F0 a) := by
  intro k
  induction k with
  | zero =>
    intro w F best most hi hs hb hm
    refine R2.B (ls2 := [some (.ref 35), some (.int (nI w)), none]) (st2 := [.int 1024, .int (nI w)]) b_X6_seek_69_73 rfl (fun hd => ?_)
    refine R2.icmp_ge 106 hd (by decide) (fun c73 => ?_) (fun c73 => absurd (nI_le (a := 1024) (b := w) (by omega) (by omega)) c73)
    refine R2.B (ls2 := [some (.ref 35), some (.int (nI w)), none]) (st2 := []) b_X6_seek_106_106 rfl (fun hd => ?_)
    exact R2.ret (r := none) hd trivial rfl ⟨rfl, hb, hm, hs⟩
  | succ k ih =>
    intro w F best most hi hs hb hm
    refine R2.B (ls2 := [some (.ref 35), some (.int (nI w)), none]) (st2 := [.int 1024, .int (nI w)]) b_X6_seek_69_73 rfl (fun hd => ?_)
    refine R2.icmp_ge 106 hd (by decide) (fun c73 => absurd c73 (nI_ge (b := 1024) (by omega) (by omega))) (fun c73 => ?_)
    refine R2.B (ls2 := [some (.ref 35), some (.int (nI w)), none]) (st2 := [.int (nI w), .ref 35]) b_X6_seek_76_78 rfl (fun hd => ?_)
    refine R2.callV (M2 := mX6_profitOn) (As := [.int (nI w)]) (rest := []) hd lk_6_51 okX6_profitOn (by decide) rfl (ev_profit E L F n ((congrFun (hs 10 (by decide) (by decide) (by decide)) 5).trans hn) hn10 (fun p hp => by rw [hs 12 (by decide) (by decide) (by decide)]; exact hth p hp) (nI w)) (by decide) rfl rfl (Nat.le_of_ble_eq_true rfl) (fun r1 F1 h1 => ?_)
    obtain ⟨h1a, h1b⟩ := h1
    subst h1a
    refine R2.top (show cPf F n (F 36) (nI w) = cPf F0 n (F0 36) (nI w) from (by unfold cPf; rw [hs 11 (by decide) (by decide) (by decide), hs 12 (by decide) (by decide) (by decide), hs 13 (by decide) (by decide) (by decide), hs 15 (by decide) (by decide) (by decide), hs 17 (by decide) (by decide) (by decide), hs 36 (by decide) (by decide) (by decide)])) ?_
    refine R2.B (ls2 := [some (.ref 35), some (.int (nI w)), some (.int (cPf F0 n (F0 36) (nI w)))]) (st2 := [.int (F1 35 5), .int (cPf F0 n (F0 36) (nI w))]) b_X6_seek_81_87 rfl (fun hd => ?_)
    rw [show (F1 35 5 : Int32) = most from (by rw [h1b 35 (by decide) (by decide)]; exact hm)]
    refine R2.icmp_le 100 hd (by decide) (fun c87 => ?_) (fun c87 => ?_)
    · refine R2.B (ls2 := [some (.ref 35), some (.int ((nI w) + 1)), some (.int (cPf F0 n (F0 36) (nI w)))]) (st2 := []) b_X6_seek_100_69 rfl (fun hd => ?_)
      rw [show ((nI w) + 1 : Int32) = nI (w + 1) from nI_add w 1]
      rw [show brL (fun w => cPf F0 n (F0 36) (nI w)) (k + 1) w best most = brL (fun w => cPf F0 n (F0 36) (nI w)) k (w + 1) best most from (by simp only [brL]; rw [if_neg (Int32.not_lt.mpr c87)])]
      refine R2.forget (ls2 := [some (.ref 35), some (.int (nI (w + 1))), none]) ⟨rfl, ⟨rfl, trivial⟩⟩ ?_
      exact ih (w + 1) F1 best most (by omega) (fun a q1 q2 q3 => (h1b a q2 q3).trans (hs a q1 q2 q3)) (by rw [h1b 35 (by decide) (by decide)]; exact hb) (by rw [h1b 35 (by decide) (by decide)]; exact hm)
    · refine R2.B (ls2 := [some (.ref 35), some (.int (nI w)), some (.int (cPf F0 n (F0 36) (nI w)))]) (st2 := [.int (cPf F0 n (F0 36) (nI w)), .ref 35]) b_X6_seek_90_92 rfl (fun hd => ?_)
      refine R2.putf (a := 6) (b := 5) hd (by decide) (by decide) rfl rfl (fun _ => rfl) ?_
      refine R2.B (ls2 := [some (.ref 35), some (.int (nI w)), some (.int (cPf F0 n (F0 36) (nI w)))]) (st2 := [.int (nI w), .ref 35]) b_X6_seek_95_97 rfl (fun hd => ?_)
      refine R2.putf (a := 6) (b := 4) hd (by decide) (by decide) rfl rfl (fun _ => rfl) ?_
      refine R2.B (ls2 := [some (.ref 35), some (.int ((nI w) + 1)), some (.int (cPf F0 n (F0 36) (nI w)))]) (st2 := []) b_X6_seek_100_69 rfl (fun hd => ?_)
      rw [show ((nI w) + 1 : Int32) = nI (w + 1) from nI_add w 1]
      rw [show brL (fun w => cPf F0 n (F0 36) (nI w)) (k + 1) w best most = brL (fun w => cPf F0 n (F0 36) (nI w)) k (w + 1) (nI w) (cPf F0 n (F0 36) (nI w)) from (by simp only [brL]; rw [if_pos (Int32.not_le.mp c87)])]
      refine R2.forget (ls2 := [some (.ref 35), some (.int (nI (w + 1))), none]) ⟨rfl, ⟨rfl, trivial⟩⟩ ?_
      exact ih (w + 1) _ _ _ (by omega) (fun a q1 q2 q3 => by rw [← hs a q1 q2 q3, ← h1b a q2 q3]; funext j; simp [up2, q1]) rfl rfl
theorem b_X6_seek_0_2 : bl2 mX6_seek 0 [(.iconst 0, 1, 0, 0, .int 0), (.istore_n 1, 1, 1, 0, .null)] 2 (.iload_n 1) 1 = true := by decide +kernel
theorem b_X6_seek_57_59 : bl2 mX6_seek 57 [(.aload_n 0, 1, 0, 0, .null), (.iconst (-1), 1, 0, 0, .int (-1))] 59 (.putfield 22) 3 = true := by decide +kernel
theorem b_X6_seek_62_64 : bl2 mX6_seek 62 [(.aload_n 0, 1, 0, 0, .null), (.iconst 0, 1, 0, 0, .int 0)] 64 (.putfield 26) 3 = true := by decide +kernel
theorem b_X6_seek_67_69 : bl2 mX6_seek 67 [(.iconst 0, 1, 0, 0, .int 0), (.istore_n 1, 1, 1, 0, .null)] 69 (.iload_n 1) 1 = true := by decide +kernel
set_option maxRecDepth 20000 in
set_option maxHeartbeats 1000000 in
theorem ev_seek (E : EE) (L : Nat) (F : FF) (n : Nat) (hn : F 10 5 = nI n) (hn10 : n ≤ 10) (hth : ThOK F n) : Ev2 E L 4 mX6_seek [.ref 35] F (fun r' F' => r' = none ∧ F' 35 4 = (brL (fun w => cPf F n (alL n n 0 F 36) (nI w)) 1024 0 (-1) 0).1 ∧ F' 35 5 = (brL (fun w => cPf F n (alL n n 0 F 36) (nI w)) 1024 0 (-1) 0).2 ∧ ∀ a, a ≠ 35 → a ≠ 36 → a ≠ 37 → a ≠ 38 → F' a = F a) := by
  refine Ev2.of okX6_seek.2.2.1 (Nat.le_of_ble_eq_true rfl) ?_
  show R2 E L mX6_seek 4 0 [some (.ref 35), none, none] [] F _
  refine R2.B (ls2 := [some (.ref 35), some (.int 0), none]) (st2 := []) b_X6_seek_0_2 rfl (fun hd => ?_)
  refine lp_al E L n hn10 _ n 0 F (by omega) hn ?_
  refine R2.B (ls2 := [some (.ref 35), none, none]) (st2 := [.int (-1), .ref 35]) b_X6_seek_57_59 rfl (fun hd => ?_)
  refine R2.putf (a := 6) (b := 4) hd (by decide) (by decide) rfl rfl (fun _ => rfl) ?_
  refine R2.B (ls2 := [some (.ref 35), none, none]) (st2 := [.int 0, .ref 35]) b_X6_seek_62_64 rfl (fun hd => ?_)
  refine R2.putf (a := 6) (b := 5) hd (by decide) (by decide) rfl rfl (fun _ => rfl) ?_
  refine R2.B (ls2 := [some (.ref 35), some (.int 0), none]) (st2 := []) b_X6_seek_67_69 rfl (fun hd => ?_)
  have hr := alL_row n n 0 F
  refine Rn.post (lp_seek E L (alL n n 0 F) n ((congrFun (hr 10 (by decide)) 5).trans hn) hn10 (fun p hp => by rw [hr 12 (by decide)]; exact hth p hp) 1024 0 _ (-1) 0 (by omega) (fun a q1 q2 q3 => by funext j; simp [up2, q1]) rfl rfl) ?_
  rintro r1 sh1 G1 ⟨F1, e1, e2, h1, h2, h3, h4⟩
  have eg : (fun w => cPf (alL n n 0 F) n (alL n n 0 F 36) (nI w)) = (fun w => cPf F n (alL n n 0 F 36) (nI w)) := by unfold cPf; rw [hr 11 (by decide), hr 12 (by decide), hr 13 (by decide), hr 15 (by decide), hr 17 (by decide)]
  rw [eg] at h2 h3
  exact ⟨F1, e1, e2, h1, h2, h3, fun a q1 q2 q3 q4 => (h4 a q1 q3 q4).trans (hr a q2)⟩
