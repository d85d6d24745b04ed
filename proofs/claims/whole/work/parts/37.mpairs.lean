/-! The reference's sums and searches. Printed by wip/whole/gen/spec17.py. -/
def sumB (g : Nat → Nat → Int32) : Nat → Nat → Int32 → Int32
  | 0, _, acc => acc
  | k + 1, a, acc => sumB g k (a + 1) (sumI (g a) a 0 acc)
def gMP (F : FF) (n : Nat) (due : Int32) (a b : Nat) : Int32 := if mvd F n due (-1) a b = 0 then 1 else 0
abbrev mhC (F : FF) (n p a b : Nat) : Prop := a ≠ p ∧ b ≠ p ∧ ¬ mvd F n (F 51 0) (-1) a b = 0 ∧ mvd F n (F 51 0) (nI p) a b = 0
def gMH (F : FF) (n p : Nat) (a b : Nat) : Int32 := if mhC F n p a b then 1 else 0
def gMW (F : FF) (n p : Nat) (a b : Nat) : Int32 := if mhC F n p a b then gan (F 52) (F 54) a b else 0
def gMS (F : FF) (a b : Nat) : Int32 := if awy (F 65 a) (F 65 b) = F 51 0 * F 51 0 then 1 else 0
def gMO (F : FF) (w : Nat) (b : Nat) : Int32 := if awy (nI w) (F 65 b) = F 51 0 * F 51 0 then 1 else 0
def mbL (F : FF) (a b : Nat) (iv : Int32) : Nat → Nat → Int32 → Int32
  | 0, _, c => if iv = -1 then c else -1
  | k + 1, w, c => if awy (nI w) (F 65 a) = F 51 0 * F 51 0 ∧ awy (nI w) (F 65 b) = F 51 0 * F 51 0 then (if c = iv then nI w else mbL F a b iv k (w + 1) (c + 1)) else mbL F a b iv k (w + 1) c
theorem b_X11_isDue_0_2 : bl2 mX11_isDue 0 [(.iload_n 1, 1, 1, 0, .null), (.iload_n 2, 1, 2, 0, .null)] 2 (.invokestatic 137) 3 = true := by decide +kernel
theorem b_X11_isDue_5_10 : bl2 mX11_isDue 5 [(.aload_n 0, 1, 0, 0, .null), (.getfield 16, 3, 11, 2, .null), (.iconst 0, 1, 0, 0, .int 0)] 10 (.iaload) 1 = true := by decide +kernel
theorem b_X11_isDue_11_16 : bl2 mX11_isDue 11 [(.aload_n 0, 1, 0, 0, .null), (.getfield 16, 3, 11, 2, .null), (.iconst 0, 1, 0, 0, .int 0)] 16 (.iaload) 1 = true := by decide +kernel
theorem b_X11_isDue_17_18 : bl2 mX11_isDue 17 [(.imul, 1, 0, 0, .null)] 18 (.if_icmp .ne 7) 3 = true := by decide +kernel
theorem b_X11_isDue_25_26 : bl2 mX11_isDue 25 [(.iconst 0, 1, 0, 0, .int 0)] 26 (.ireturn) 1 = true := by decide +kernel
theorem b_X11_isDue_21_26 : bl2 mX11_isDue 21 [(.iconst 1, 1, 0, 0, .int 1), (.goto 4, 3, 26, 0, .null)] 26 (.ireturn) 1 = true := by decide +kernel
set_option maxRecDepth 20000 in
set_option maxHeartbeats 1000000 in
theorem me_isDue (E : EE) (L : Nat) (F : FF) (s t : Int32) : Ev3 E L 2 mX11_isDue [.ref 48, .int s, .int t] F (some (.int (b2i (awy s t = F 51 0 * F 51 0)))) F := by
  refine Ev3.of okX11_isDue.2.2.1 (Nat.le_of_ble_eq_true rfl) ?_
  show R2 E L mX11_isDue 2 0 [some (.ref 48), some (.int s), some (.int t)] [] F _
  refine R2.B (ls2 := [some (.ref 48), some (.int s), some (.int t)]) (st2 := [.int t, .int s]) b_X11_isDue_0_2 rfl (fun hd => ?_)
  refine R2.callS3 (M2 := mX11_awayBy) (As := [.int s, .int t]) (rest := []) hd lk_11_137 okX11_awayBy (by decide) (me_awayBy E L F s t) (by decide) rfl rfl (Nat.le_of_ble_eq_true rfl) ?_
  refine R2.B (ls2 := [some (.ref 48), some (.int s), some (.int t)]) (st2 := [.int 0, .ref 51, .int (awy s t)]) b_X11_isDue_5_10 rfl (fun hd => ?_)
  refine R2.iald 0 rfl hd rfl (fun _ => rfl) (by decide) (by omega) ?_
  refine R2.B (ls2 := [some (.ref 48), some (.int s), some (.int t)]) (st2 := [.int 0, .ref 51, .int (F 51 0), .int (awy s t)]) b_X11_isDue_11_16 rfl (fun hd => ?_)
  refine R2.iald 0 rfl hd rfl (fun _ => rfl) (by decide) (by omega) ?_
  refine R2.B (ls2 := [some (.ref 48), some (.int s), some (.int t)]) (st2 := [.int ((F 51 0) * (F 51 0)), .int (awy s t)]) b_X11_isDue_17_18 rfl (fun hd => ?_)
  refine R2.icmp_ne 25 hd (by decide) (fun c18 => ?_) (fun c18 => ?_)
  · refine R2.B (ls2 := [some (.ref 48), some (.int s), some (.int t)]) (st2 := [.int 0]) b_X11_isDue_25_26 rfl (fun hd => ?_)
    exact R2.ret3 (r := some (.int 0)) hd (Or.inl rfl) rfl (congrArg (fun z => some (Value.int z)) (b2i_f (by clear hd; grind))) rfl
  · refine R2.B (ls2 := [some (.ref 48), some (.int s), some (.int t)]) (st2 := [.int 1]) b_X11_isDue_21_26 rfl (fun hd => ?_)
    exact R2.ret3 (r := some (.int 1)) hd (Or.inr rfl) rfl (congrArg (fun z => some (Value.int z)) (b2i_t (by clear hd; grind))) rfl
theorem b_X11_pairsBy_15_18 : bl2 mX11_pairsBy 15 [(.iload 4, 2, 4, 0, .null), (.iload_n 3, 1, 3, 0, .null)] 18 (.if_icmp .ge 29) 3 = true := by decide +kernel
theorem b_X11_pairsBy_47_47 : bl2 mX11_pairsBy 47 [] 47 (.iinc 3 1) 3 = true := by decide +kernel
theorem b_X11_pairsBy_21_28 : bl2 mX11_pairsBy 21 [(.iload_n 2, 1, 2, 0, .null), (.aload_n 0, 1, 0, 0, .null), (.iload_n 3, 1, 3, 0, .null), (.iload 4, 2, 4, 0, .null), (.iload_n 1, 1, 1, 0, .null), (.iconst (-1), 1, 0, 0, .int (-1))] 28 (.invokevirtual 169) 3 = true := by decide +kernel
theorem b_X11_pairsBy_31_31 : bl2 mX11_pairsBy 31 [] 31 (.ifCond .ne 7) 3 = true := by decide +kernel
theorem b_X11_pairsBy_38_15 : bl2 mX11_pairsBy 38 [(.iconst 0, 1, 0, 0, .int 0), (.iadd, 1, 0, 0, .null), (.istore_n 2, 1, 2, 0, .null), (.iinc 4 1, 3, 4, 0, .int 1), (.goto (-29), 3, 15, 0, .null)] 15 (.iload 4) 2 = true := by decide +kernel
theorem b_X11_pairsBy_34_15 : bl2 mX11_pairsBy 34 [(.iconst 1, 1, 0, 0, .int 1), (.goto 4, 3, 39, 0, .null), (.iadd, 1, 0, 0, .null), (.istore_n 2, 1, 2, 0, .null), (.iinc 4 1, 3, 4, 0, .int 1), (.goto (-29), 3, 15, 0, .null)] 15 (.iload 4) 2 = true := by decide +kernel
set_option maxRecDepth 20000 in
set_option maxHeartbeats 2000000 in
theorem ml_pbI (E : EE) (L : Nat) (F : FF) (n : Nat) (hn : F 48 3 = nI n) (hn10 : n ≤ 10) (due : Int32) (Q : Q2) (a : Nat) (ha : a < n) : ∀ (k : Nat) (b : Nat) (acc : Int32), b + k = a → R2 E L mX11_pairsBy 4 47 [some (.ref 48), some (.int due), some (.int (sumI (gMP F n due a) k b acc)), some (.int (nI a)), none] [] F Q → R2 E L mX11_pairsBy 4 15 [some (.ref 48), some (.int due), some (.int acc), some (.int (nI a)), some (.int (nI b))] [] F Q := by
  intro k
  induction k with
  | zero =>
    intro b acc hi ex
    refine R2.B (ls2 := [some (.ref 48), some (.int due), some (.int acc), some (.int (nI a)), some (.int (nI b))]) (st2 := [.int (nI a), .int (nI b)]) b_X11_pairsBy_15_18 rfl (fun hd => ?_)
    refine R2.icmp_ge 47 hd (by decide) (fun c18 => ?_) (fun c18 => absurd (nI_le (by omega) (by omega)) c18)
    refine R2.B (ls2 := [some (.ref 48), some (.int due), some (.int acc), some (.int (nI a)), some (.int (nI b))]) (st2 := []) b_X11_pairsBy_47_47 rfl (fun hd => ?_)
    refine R2.forget (ls2 := [some (.ref 48), some (.int due), some (.int acc), some (.int (nI a)), none]) ⟨rfl, ⟨rfl, ⟨rfl, ⟨rfl, trivial⟩⟩⟩⟩ ?_
    exact ex
  | succ k ih =>
    intro b acc hi ex
    refine R2.B (ls2 := [some (.ref 48), some (.int due), some (.int acc), some (.int (nI a)), some (.int (nI b))]) (st2 := [.int (nI a), .int (nI b)]) b_X11_pairsBy_15_18 rfl (fun hd => ?_)
    refine R2.icmp_ge 47 hd (by decide) (fun c18 => absurd c18 (nI_ge (by omega) (by omega))) (fun c18 => ?_)
    refine R2.B (ls2 := [some (.ref 48), some (.int due), some (.int acc), some (.int (nI a)), some (.int (nI b))]) (st2 := [.int (-1), .int due, .int (nI b), .int (nI a), .ref 48, .int acc]) b_X11_pairsBy_21_28 rfl (fun hd => ?_)
    refine R2.callV3 (M2 := mX11_bindsBy) (As := [.int (nI a), .int (nI b), .int due, .int (-1)]) (rest := [.int acc]) hd lk_11_169 okX11_bindsBy (by decide) rfl (me_bindsBy E L F n hn hn10 a b due (-1) (by omega) (by omega)) (by decide) rfl rfl (Nat.le_of_ble_eq_true rfl) ?_
    refine R2.B (ls2 := [some (.ref 48), some (.int due), some (.int acc), some (.int (nI a)), some (.int (nI b))]) (st2 := [.int (mvd F n due (-1) a b), .int acc]) b_X11_pairsBy_31_31 rfl (fun hd => ?_)
    refine R2.if_ne 38 hd (by decide) (fun c31 => ?_) (fun c31 => ?_)
    · refine R2.B (ls2 := [some (.ref 48), some (.int due), some (.int (acc + 0)), some (.int (nI a)), some (.int ((nI b) + 1))]) (st2 := []) b_X11_pairsBy_38_15 rfl (fun hd => ?_)
      rw [show ((nI b) + 1 : Int32) = nI (b + 1) from nI_add b 1]
      have e : sumI (gMP F n due a) (k + 1) b acc = sumI (gMP F n due a) k (b + 1) (acc + 0) := by
        simp only [sumI, gMP]; rw [if_neg c31]
      rw [e] at ex
      exact ih (b + 1) _ (by omega) ex
    · refine R2.B (ls2 := [some (.ref 48), some (.int due), some (.int (acc + 1)), some (.int (nI a)), some (.int ((nI b) + 1))]) (st2 := []) b_X11_pairsBy_34_15 rfl (fun hd => ?_)
      rw [show ((nI b) + 1 : Int32) = nI (b + 1) from nI_add b 1]
      have e : sumI (gMP F n due a) (k + 1) b acc = sumI (gMP F n due a) k (b + 1) (acc + 1) := by
        simp only [sumI, gMP]; rw [if_pos c31]
      rw [e] at ex
      exact ih (b + 1) _ (by omega) ex
theorem b_X11_pairsBy_4_9 : bl2 mX11_pairsBy 4 [(.iload_n 3, 1, 3, 0, .null), (.aload_n 0, 1, 0, 0, .null), (.getfield 101, 3, 11, 3, .null)] 9 (.if_icmp .ge 44) 3 = true := by decide +kernel
theorem b_X11_pairsBy_53_54 : bl2 mX11_pairsBy 53 [(.iload_n 2, 1, 2, 0, .null)] 54 (.ireturn) 1 = true := by decide +kernel
theorem b_X11_pairsBy_12_15 : bl2 mX11_pairsBy 12 [(.iconst 0, 1, 0, 0, .int 0), (.istore 4, 2, 4, 0, .null)] 15 (.iload 4) 2 = true := by decide +kernel
theorem b_X11_pairsBy_47_4 : bl2 mX11_pairsBy 47 [(.iinc 3 1, 3, 3, 0, .int 1), (.goto (-46), 3, 4, 0, .null)] 4 (.iload_n 3) 1 = true := by decide +kernel
set_option maxRecDepth 20000 in
set_option maxHeartbeats 2000000 in
theorem ml_pbO (E : EE) (L : Nat) (F : FF) (n : Nat) (hn : F 48 3 = nI n) (hn10 : n ≤ 10) (due : Int32) : ∀ (k : Nat) (a : Nat) (acc : Int32), a + k = n → R2 E L mX11_pairsBy 4 4 [some (.ref 48), some (.int due), some (.int acc), some (.int (nI a)), none] [] F (fun r' F' => r' = some (.int (sumB (gMP F n due) k a acc)) ∧ F' = F) := by
  intro k
  induction k with
  | zero =>
    intro a acc hi
    refine R2.B (ls2 := [some (.ref 48), some (.int due), some (.int acc), some (.int (nI a)), none]) (st2 := [.int (F 48 3), .int (nI a)]) b_X11_pairsBy_4_9 rfl (fun hd => ?_)
    rw [show (F 48 3 : Int32) = nI n from hn]
    refine R2.icmp_ge 53 hd (by decide) (fun c9 => ?_) (fun c9 => absurd (nI_le (by omega) (by omega)) c9)
    refine R2.B (ls2 := [some (.ref 48), some (.int due), some (.int acc), some (.int (nI a)), none]) (st2 := [.int acc]) b_X11_pairsBy_53_54 rfl (fun hd => ?_)
    exact R2.ret3 (r := some (.int acc)) hd trivial rfl rfl rfl
  | succ k ih =>
    intro a acc hi
    refine R2.B (ls2 := [some (.ref 48), some (.int due), some (.int acc), some (.int (nI a)), none]) (st2 := [.int (F 48 3), .int (nI a)]) b_X11_pairsBy_4_9 rfl (fun hd => ?_)
    rw [show (F 48 3 : Int32) = nI n from hn]
    refine R2.icmp_ge 53 hd (by decide) (fun c9 => absurd c9 (nI_ge (by omega) (by omega))) (fun c9 => ?_)
    refine R2.B (ls2 := [some (.ref 48), some (.int due), some (.int acc), some (.int (nI a)), some (.int 0)]) (st2 := []) b_X11_pairsBy_12_15 rfl (fun hd => ?_)
    refine ml_pbI E L F n hn hn10 due _ a (by omega) a 0 acc (by omega) ?_
    refine R2.B (ls2 := [some (.ref 48), some (.int due), some (.int (sumI (gMP F n due a) a 0 acc)), some (.int ((nI a) + 1)), none]) (st2 := []) b_X11_pairsBy_47_4 rfl (fun hd => ?_)
    rw [show ((nI a) + 1 : Int32) = nI (a + 1) from nI_add a 1]
    exact ih (a + 1) _ (by omega)
theorem b_X11_pairsBy_0_4 : bl2 mX11_pairsBy 0 [(.iconst 0, 1, 0, 0, .int 0), (.istore_n 2, 1, 2, 0, .null), (.iconst 0, 1, 0, 0, .int 0), (.istore_n 3, 1, 3, 0, .null)] 4 (.iload_n 3) 1 = true := by decide +kernel
set_option maxRecDepth 20000 in
set_option maxHeartbeats 1000000 in
theorem me_pairsBy (E : EE) (L : Nat) (F : FF) (n : Nat) (hn : F 48 3 = nI n) (hn10 : n ≤ 10) (due : Int32) : Ev3 E L 4 mX11_pairsBy [.ref 48, .int due] F (some (.int (sumB (gMP F n due) n 0 0))) F := by
  refine Ev3.of okX11_pairsBy.2.2.1 (Nat.le_of_ble_eq_true rfl) ?_
  show R2 E L mX11_pairsBy 4 0 [some (.ref 48), some (.int due), none, none, none] [] F _
  refine R2.B (ls2 := [some (.ref 48), some (.int due), some (.int 0), some (.int 0), none]) (st2 := []) b_X11_pairsBy_0_4 rfl (fun hd => ?_)
  exact ml_pbO E L F n hn hn10 due n 0 0 (by omega)
theorem b_X11_pairsNow_0_1 : bl2 mX11_pairsNow 0 [(.aload_n 0, 1, 0, 0, .null)] 1 (.invokevirtual 140) 3 = true := by decide +kernel
theorem b_X11_pairsNow_4_10 : bl2 mX11_pairsNow 4 [(.aload_n 0, 1, 0, 0, .null), (.aload_n 0, 1, 0, 0, .null), (.getfield 16, 3, 11, 2, .null), (.iconst 0, 1, 0, 0, .int 0)] 10 (.iaload) 1 = true := by decide +kernel
theorem b_X11_pairsNow_11_11 : bl2 mX11_pairsNow 11 [] 11 (.invokevirtual 179) 3 = true := by decide +kernel
theorem b_X11_pairsNow_14_14 : bl2 mX11_pairsNow 14 [] 14 (.ireturn) 1 = true := by decide +kernel
set_option maxRecDepth 20000 in
set_option maxHeartbeats 1000000 in
theorem me_pairsNow (E : EE) (L : Nat) (F : FF) (l n : Nat) (hm : MR F l n) : Ev3 E L 6 mX11_pairsNow [.ref 48] F (some (.int (sumB (gMP (ly F n) n (F 51 0)) n 0 0))) (ly F n) := by
  refine Ev3.of okX11_pairsNow.2.2.1 (Nat.le_of_ble_eq_true rfl) ?_
  show R2 E L mX11_pairsNow 6 0 [some (.ref 48)] [] F _
  refine R2.B (ls2 := [some (.ref 48)]) (st2 := [.ref 48]) b_X11_pairsNow_0_1 rfl (fun hd => ?_)
  refine R2.callV3 (M2 := mX11_lays) (As := []) (rest := []) hd lk_11_140 okX11_lays (by decide) rfl (me_lays E L F l n hm) (by decide) rfl rfl (Nat.le_of_ble_eq_true rfl) ?_
  refine R2.B (ls2 := [some (.ref 48)]) (st2 := [.int 0, .ref 51, .ref 48]) b_X11_pairsNow_4_10 rfl (fun hd => ?_)
  refine R2.iald 0 rfl hd rfl (fun _ => rfl) (by decide) (by omega) ?_
  refine R2.top (show ((ly F n) 51 0 : Int32) = F 51 0 from (by rw [ly_row (by decide)])) ?_
  refine R2.B (ls2 := [some (.ref 48)]) (st2 := [.int (F 51 0), .ref 48]) b_X11_pairsNow_11_11 rfl (fun hd => ?_)
  refine R2.callV3 (M2 := mX11_pairsBy) (As := [.int (F 51 0)]) (rest := []) hd lk_11_179 okX11_pairsBy (by decide) rfl (me_pairsBy E L (ly F n) n ((congrFun (ly_row (by decide)) 3).trans hm.2.2.2.1) hm.2.2.1 (F 51 0)) (by decide) rfl rfl (Nat.le_of_ble_eq_true rfl) ?_
  refine R2.B (ls2 := [some (.ref 48)]) (st2 := [.int (sumB (gMP (ly F n) n (F 51 0)) n 0 0)]) b_X11_pairsNow_14_14 rfl (fun hd => ?_)
  exact R2.ret3 (r := some (.int (sumB (gMP (ly F n) n (F 51 0)) n 0 0))) hd trivial rfl rfl rfl
