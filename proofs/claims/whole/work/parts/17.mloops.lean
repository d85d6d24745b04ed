/-! Market's loops. Printed by wip/whole/gen/spec4.py. -/
theorem b_X2_isHinderedBy_0_11 : bl2 mX2_isHinderedBy 0 [(.aload_n 0, 1, 0, 0, .null), (.aload_n 0, 1, 0, 0, .null), (.getfield 15, 3, 2, 0, .null), (.getfield 44, 3, 0, 4, .null), (.iload_n 2, 1, 2, 0, .null), (.iload_n 3, 1, 3, 0, .null), (.iload_n 1, 1, 1, 0, .null)] 11 (.invokevirtual 57) 3 = true := by decide +kernel
theorem b_X2_isHinderedBy_14_14 : bl2 mX2_isHinderedBy 14 [] 14 (.ifCond .ne 24) 3 = true := by decide +kernel
theorem b_X2_isHinderedBy_38_39 : bl2 mX2_isHinderedBy 38 [(.iconst 0, 1, 0, 0, .int 0)] 39 (.ireturn) 1 = true := by decide +kernel
theorem b_X2_isHinderedBy_17_28 : bl2 mX2_isHinderedBy 17 [(.aload_n 0, 1, 0, 0, .null), (.aload_n 0, 1, 0, 0, .null), (.getfield 15, 3, 2, 0, .null), (.getfield 44, 3, 0, 4, .null), (.iload_n 2, 1, 2, 0, .null), (.iload_n 3, 1, 3, 0, .null), (.iconst (-1), 1, 0, 0, .int (-1))] 28 (.invokevirtual 57) 3 = true := by decide +kernel
theorem b_X2_isHinderedBy_31_31 : bl2 mX2_isHinderedBy 31 [] 31 (.ifCond .eq 7) 3 = true := by decide +kernel
theorem b_X2_isHinderedBy_34_39 : bl2 mX2_isHinderedBy 34 [(.iconst 1, 1, 0, 0, .int 1), (.goto 4, 3, 39, 0, .null)] 39 (.ireturn) 1 = true := by decide +kernel
set_option maxRecDepth 20000 in
set_option maxHeartbeats 1000000 in
theorem ev_isHinderedBy (E : EE) (L : Nat) (F : FF) (n : Nat) (hn : F 10 5 = nI n) (hn10 : n ≤ 10) (p a b : Nat) (ha : a < 10) (hb : b < 10) : Ev3 E L 5 mX2_isHinderedBy [.ref 16, .int (nI p), .int (nI a), .int (nI b)] F (some (.int (b2i (hndC F n p a b)))) F := by
  refine Ev3.of okX2_isHinderedBy.2.2.1 (Nat.le_of_ble_eq_true rfl) ?_
  show R2 E L mX2_isHinderedBy 5 0 [some (.ref 16), some (.int (nI p)), some (.int (nI a)), some (.int (nI b))] [] F _
  refine R2.B (ls2 := [some (.ref 16), some (.int (nI p)), some (.int (nI a)), some (.int (nI b))]) (st2 := [.int (nI p), .int (nI b), .int (nI a), .ref 15, .ref 16]) b_X2_isHinderedBy_0_11 rfl (fun hd => ?_)
  refine R2.callV3 (M2 := mX2_verdict) (As := [.ref 15, .int (nI a), .int (nI b), .int (nI p)]) (rest := []) hd lk_2_57 okX2_verdict (by decide) rfl (ev_verdict E L F n hn hn10 15 rfl (fun _ => rfl) a b (nI p) (by omega) (by omega)) (by decide) rfl rfl (Nat.le_of_ble_eq_true rfl) ?_
  refine R2.B (ls2 := [some (.ref 16), some (.int (nI p)), some (.int (nI a)), some (.int (nI b))]) (st2 := [.int (cvd F (F 15) n (F 17 0) (nI p) a b)]) b_X2_isHinderedBy_14_14 rfl (fun hd => ?_)
  refine R2.if_ne 38 hd (by decide) (fun c14 => ?_) (fun c14 => ?_)
  · refine R2.B (ls2 := [some (.ref 16), some (.int (nI p)), some (.int (nI a)), some (.int (nI b))]) (st2 := [.int 0]) b_X2_isHinderedBy_38_39 rfl (fun hd => ?_)
    exact R2.ret3 (r := some (.int 0)) hd (Or.inl rfl) rfl (congrArg (fun z => some (Value.int z)) (b2i_f (by clear hd; grind))) rfl
  · refine R2.B (ls2 := [some (.ref 16), some (.int (nI p)), some (.int (nI a)), some (.int (nI b))]) (st2 := [.int (-1), .int (nI b), .int (nI a), .ref 15, .ref 16]) b_X2_isHinderedBy_17_28 rfl (fun hd => ?_)
    refine R2.callV3 (M2 := mX2_verdict) (As := [.ref 15, .int (nI a), .int (nI b), .int (-1)]) (rest := []) hd lk_2_57 okX2_verdict (by decide) rfl (ev_verdict E L F n hn hn10 15 rfl (fun _ => rfl) a b (-1) (by omega) (by omega)) (by decide) rfl rfl (Nat.le_of_ble_eq_true rfl) ?_
    refine R2.B (ls2 := [some (.ref 16), some (.int (nI p)), some (.int (nI a)), some (.int (nI b))]) (st2 := [.int (cvd F (F 15) n (F 17 0) (-1) a b)]) b_X2_isHinderedBy_31_31 rfl (fun hd => ?_)
    refine R2.if_eq 38 hd (by decide) (fun c31 => ?_) (fun c31 => ?_)
    · refine R2.B (ls2 := [some (.ref 16), some (.int (nI p)), some (.int (nI a)), some (.int (nI b))]) (st2 := [.int 0]) b_X2_isHinderedBy_38_39 rfl (fun hd => ?_)
      exact R2.ret3 (r := some (.int 0)) hd (Or.inl rfl) rfl (congrArg (fun z => some (Value.int z)) (b2i_f (by clear hd; grind))) rfl
    · refine R2.B (ls2 := [some (.ref 16), some (.int (nI p)), some (.int (nI a)), some (.int (nI b))]) (st2 := [.int 1]) b_X2_isHinderedBy_34_39 rfl (fun hd => ?_)
      exact R2.ret3 (r := some (.int 1)) hd (Or.inr rfl) rfl (congrArg (fun z => some (Value.int z)) (b2i_t (by clear hd; grind))) rfl
theorem b_X2_bindingPairs_20_29 : bl2 mX2_bindingPairs 20 [(.iload 4, 2, 4, 0, .null), (.aload_n 0, 1, 0, 0, .null), (.getfield 15, 3, 2, 0, .null), (.getfield 31, 3, 0, 5, .null)] 29 (.if_icmp .ge 31) 3 = true := by decide +kernel
theorem b_X2_bindingPairs_60_60 : bl2 mX2_bindingPairs 60 [] 60 (.iinc 3 1) 3 = true := by decide +kernel
theorem b_X2_bindingPairs_32_45 : bl2 mX2_bindingPairs 32 [(.aload_n 0, 1, 0, 0, .null), (.iload_n 1, 1, 1, 0, .null), (.aload_n 0, 1, 0, 0, .null), (.getfield 15, 3, 2, 0, .null), (.getfield 44, 3, 0, 4, .null), (.iload_n 3, 1, 3, 0, .null), (.iload 4, 2, 4, 0, .null), (.iconst (-1), 1, 0, 0, .int (-1))] 45 (.invokevirtual 40) 3 = true := by decide +kernel
theorem b_X2_bindingPairs_48_48 : bl2 mX2_bindingPairs 48 [] 48 (.ifCond .ne 6) 3 = true := by decide +kernel
theorem b_X2_bindingPairs_54_20 : bl2 mX2_bindingPairs 54 [(.iinc 4 1, 3, 4, 0, .int 1), (.goto (-37), 3, 20, 0, .null)] 20 (.iload 4) 2 = true := by decide +kernel
theorem b_X2_bindingPairs_51_20 : bl2 mX2_bindingPairs 51 [(.iinc 2 1, 3, 2, 0, .int 1), (.iinc 4 1, 3, 4, 0, .int 1), (.goto (-37), 3, 20, 0, .null)] 20 (.iload 4) 2 = true := by decide +kernel
set_option maxRecDepth 20000 in
set_option maxHeartbeats 2000000 in
theorem lp_bpI (E : EE) (L : Nat) (F : FF) (n : Nat) (hn : F 10 5 = nI n) (hn10 : n ≤ 10) (due : Int32) (Q : Q2) (a : Nat) (ha : a < n) : ∀ (k : Nat) (b : Nat) (acc : Int32), b + k = n → R2 E L mX2_bindingPairs 4 60 [some (.ref 16), some (.int due), some (.int (sumI (gBP F (F 15) n due a) k b acc)), some (.int (nI a)), none] [] F Q → R2 E L mX2_bindingPairs 4 20 [some (.ref 16), some (.int due), some (.int acc), some (.int (nI a)), some (.int (nI b))] [] F Q := by
  intro k
  induction k with
  | zero =>
    intro b acc hi ex
    refine R2.B (ls2 := [some (.ref 16), some (.int due), some (.int acc), some (.int (nI a)), some (.int (nI b))]) (st2 := [.int (F 10 5), .int (nI b)]) b_X2_bindingPairs_20_29 rfl (fun hd => ?_)
    rw [show (F 10 5 : Int32) = nI n from hn]
    refine R2.icmp_ge 60 hd (by decide) (fun c29 => ?_) (fun c29 => absurd (nI_le (by omega) (by omega)) c29)
    refine R2.B (ls2 := [some (.ref 16), some (.int due), some (.int acc), some (.int (nI a)), some (.int (nI b))]) (st2 := []) b_X2_bindingPairs_60_60 rfl (fun hd => ?_)
    refine R2.forget (ls2 := [some (.ref 16), some (.int due), some (.int acc), some (.int (nI a)), none]) ⟨rfl, ⟨rfl, ⟨rfl, ⟨rfl, trivial⟩⟩⟩⟩ ?_
    exact ex
  | succ k ih =>
    intro b acc hi ex
    refine R2.B (ls2 := [some (.ref 16), some (.int due), some (.int acc), some (.int (nI a)), some (.int (nI b))]) (st2 := [.int (F 10 5), .int (nI b)]) b_X2_bindingPairs_20_29 rfl (fun hd => ?_)
    rw [show (F 10 5 : Int32) = nI n from hn]
    refine R2.icmp_ge 60 hd (by decide) (fun c29 => absurd c29 (nI_ge (by omega) (by omega))) (fun c29 => ?_)
    refine R2.B (ls2 := [some (.ref 16), some (.int due), some (.int acc), some (.int (nI a)), some (.int (nI b))]) (st2 := [.int (-1), .int (nI b), .int (nI a), .ref 15, .int due, .ref 16]) b_X2_bindingPairs_32_45 rfl (fun hd => ?_)
    refine R2.callV3 (M2 := mX2_verdictBy) (As := [.int due, .ref 15, .int (nI a), .int (nI b), .int (-1)]) (rest := []) hd lk_2_40 okX2_verdictBy (by decide) rfl (ev_verdictBy E L F n hn hn10 15 rfl (fun _ => rfl) a b due (-1) (by omega) (by omega)) (by decide) rfl rfl (Nat.le_of_ble_eq_true rfl) ?_
    refine R2.B (ls2 := [some (.ref 16), some (.int due), some (.int acc), some (.int (nI a)), some (.int (nI b))]) (st2 := [.int (cvd F (F 15) n due (-1) a b)]) b_X2_bindingPairs_48_48 rfl (fun hd => ?_)
    refine R2.if_ne 54 hd (by decide) (fun c48 => ?_) (fun c48 => ?_)
    · refine R2.B (ls2 := [some (.ref 16), some (.int due), some (.int acc), some (.int (nI a)), some (.int ((nI b) + 1))]) (st2 := []) b_X2_bindingPairs_54_20 rfl (fun hd => ?_)
      rw [show ((nI b) + 1 : Int32) = nI (b + 1) from nI_add b 1]
      have e : sumI (gBP F (F 15) n due a) (k + 1) b acc = sumI (gBP F (F 15) n due a) k (b + 1) acc := by
        simp only [sumI, gBP]; rw [if_neg c48, Int32.add_zero]
      rw [e] at ex
      exact ih (b + 1) acc (by omega) ex
    · refine R2.B (ls2 := [some (.ref 16), some (.int due), some (.int (acc + 1)), some (.int (nI a)), some (.int ((nI b) + 1))]) (st2 := []) b_X2_bindingPairs_51_20 rfl (fun hd => ?_)
      rw [show ((nI b) + 1 : Int32) = nI (b + 1) from nI_add b 1]
      have e : sumI (gBP F (F 15) n due a) (k + 1) b acc = sumI (gBP F (F 15) n due a) k (b + 1) (acc + 1) := by
        simp only [sumI, gBP]; rw [if_pos c48]
      rw [e] at ex
      exact ih (b + 1) (acc + 1) (by omega) ex
theorem b_X2_bindingPairs_4_12 : bl2 mX2_bindingPairs 4 [(.iload_n 3, 1, 3, 0, .null), (.aload_n 0, 1, 0, 0, .null), (.getfield 15, 3, 2, 0, .null), (.getfield 31, 3, 0, 5, .null)] 12 (.if_icmp .ge 54) 3 = true := by decide +kernel
theorem b_X2_bindingPairs_66_67 : bl2 mX2_bindingPairs 66 [(.iload_n 2, 1, 2, 0, .null)] 67 (.ireturn) 1 = true := by decide +kernel
theorem b_X2_bindingPairs_15_20 : bl2 mX2_bindingPairs 15 [(.iload_n 3, 1, 3, 0, .null), (.iconst 1, 1, 0, 0, .int 1), (.iadd, 1, 0, 0, .null), (.istore 4, 2, 4, 0, .null)] 20 (.iload 4) 2 = true := by decide +kernel
theorem b_X2_bindingPairs_60_4 : bl2 mX2_bindingPairs 60 [(.iinc 3 1, 3, 3, 0, .int 1), (.goto (-59), 3, 4, 0, .null)] 4 (.iload_n 3) 1 = true := by decide +kernel
set_option maxRecDepth 20000 in
set_option maxHeartbeats 2000000 in
theorem lp_bpO (E : EE) (L : Nat) (F : FF) (n : Nat) (hn : F 10 5 = nI n) (hn10 : n ≤ 10) (due : Int32) : ∀ (k : Nat) (a : Nat) (acc : Int32), a + k = n → R2 E L mX2_bindingPairs 4 4 [some (.ref 16), some (.int due), some (.int acc), some (.int (nI a)), none] [] F (fun r' F' => r' = some (.int (sumO (gBP F (F 15) n due) n k a acc)) ∧ F' = F) := by
  intro k
  induction k with
  | zero =>
    intro a acc hi
    refine R2.B (ls2 := [some (.ref 16), some (.int due), some (.int acc), some (.int (nI a)), none]) (st2 := [.int (F 10 5), .int (nI a)]) b_X2_bindingPairs_4_12 rfl (fun hd => ?_)
    rw [show (F 10 5 : Int32) = nI n from hn]
    refine R2.icmp_ge 66 hd (by decide) (fun c12 => ?_) (fun c12 => absurd (nI_le (by omega) (by omega)) c12)
    refine R2.B (ls2 := [some (.ref 16), some (.int due), some (.int acc), some (.int (nI a)), none]) (st2 := [.int acc]) b_X2_bindingPairs_66_67 rfl (fun hd => ?_)
    exact R2.ret3 (r := some (.int acc)) hd trivial rfl rfl rfl
  | succ k ih =>
    intro a acc hi
    refine R2.B (ls2 := [some (.ref 16), some (.int due), some (.int acc), some (.int (nI a)), none]) (st2 := [.int (F 10 5), .int (nI a)]) b_X2_bindingPairs_4_12 rfl (fun hd => ?_)
    rw [show (F 10 5 : Int32) = nI n from hn]
    refine R2.icmp_ge 66 hd (by decide) (fun c12 => absurd c12 (nI_ge (by omega) (by omega))) (fun c12 => ?_)
    refine R2.B (ls2 := [some (.ref 16), some (.int due), some (.int acc), some (.int (nI a)), some (.int ((nI a) + 1))]) (st2 := []) b_X2_bindingPairs_15_20 rfl (fun hd => ?_)
    rw [show ((nI a) + 1 : Int32) = nI (a + 1) from nI_add a 1]
    refine lp_bpI E L F n hn hn10 due _ a (by omega) (n - (a + 1)) (a + 1) acc (by omega) ?_
    refine R2.B (ls2 := [some (.ref 16), some (.int due), some (.int (sumI (gBP F (F 15) n due a) (n - (a + 1)) (a + 1) acc)), some (.int ((nI a) + 1)), none]) (st2 := []) b_X2_bindingPairs_60_4 rfl (fun hd => ?_)
    rw [show ((nI a) + 1 : Int32) = nI (a + 1) from nI_add a 1]
    exact ih (a + 1) _ (by omega)
theorem b_X2_bindingPairs_0_4 : bl2 mX2_bindingPairs 0 [(.iconst 0, 1, 0, 0, .int 0), (.istore_n 2, 1, 2, 0, .null), (.iconst 0, 1, 0, 0, .int 0), (.istore_n 3, 1, 3, 0, .null)] 4 (.iload_n 3) 1 = true := by decide +kernel
set_option maxRecDepth 20000 in
set_option maxHeartbeats 1000000 in
theorem ev_bindingPairs (E : EE) (L : Nat) (F : FF) (n : Nat) (hn : F 10 5 = nI n) (hn10 : n ≤ 10) (due : Int32) : Ev3 E L 4 mX2_bindingPairs [.ref 16, .int due] F (some (.int (cBP F n due))) F := by
  refine Ev3.of okX2_bindingPairs.2.2.1 (Nat.le_of_ble_eq_true rfl) ?_
  show R2 E L mX2_bindingPairs 4 0 [some (.ref 16), some (.int due), none, none, none] [] F _
  refine R2.B (ls2 := [some (.ref 16), some (.int due), some (.int 0), some (.int 0), none]) (st2 := []) b_X2_bindingPairs_0_4 rfl (fun hd => ?_)
  exact lp_bpO E L F n hn hn10 due n 0 0 (by omega)
theorem b_X2_bestDue_14_17 : bl2 mX2_bestDue 14 [(.iload 5, 2, 5, 0, .null), (.iload_n 2, 1, 2, 0, .null)] 17 (.if_icmp .gt 31) 3 = true := by decide +kernel
theorem b_X2_bestDue_48_49 : bl2 mX2_bestDue 48 [(.iload_n 3, 1, 3, 0, .null)] 49 (.ireturn) 1 = true := by decide +kernel
theorem b_X2_bestDue_20_23 : bl2 mX2_bestDue 20 [(.aload_n 0, 1, 0, 0, .null), (.iload 5, 2, 5, 0, .null)] 23 (.invokevirtual 47) 3 = true := by decide +kernel
theorem b_X2_bestDue_26_32 : bl2 mX2_bestDue 26 [(.istore 6, 2, 6, 0, .null), (.iload 6, 2, 6, 0, .null), (.iload 4, 2, 4, 0, .null)] 32 (.if_icmp .le 10) 3 = true := by decide +kernel
theorem b_X2_bestDue_42_14 : bl2 mX2_bestDue 42 [(.iinc 5 1, 3, 5, 0, .int 1), (.goto (-31), 3, 14, 0, .null)] 14 (.iload 5) 2 = true := by decide +kernel
theorem b_X2_bestDue_35_14 : bl2 mX2_bestDue 35 [(.iload 6, 2, 6, 0, .null), (.istore 4, 2, 4, 0, .null), (.iload 5, 2, 5, 0, .null), (.istore_n 3, 1, 3, 0, .null), (.iinc 5 1, 3, 5, 0, .int 1), (.goto (-31), 3, 14, 0, .null)] 14 (.iload 5) 2 = true := by decide +kernel
set_option maxRecDepth 20000 in
set_option maxHeartbeats 2000000 in
theorem lp_bestDue (E : EE) (L : Nat) (F : FF) (n : Nat) (hn : F 10 5 = nI n) (hn10 : n ≤ 10) (f t : Nat) (ht : t ≤ 90) : ∀ (k : Nat) (j best : Nat) (most : Int32), j + k = t + 1 → j ≤ 91 → R2 E L mX2_bestDue 5 14 [some (.ref 16), some (.int (nI f)), some (.int (nI t)), some (.int (nI best)), some (.int most), some (.int (nI j)), none] [] F (fun r' F' => r' = some (.int (nI (bdL (fun j => cBP F n (nI j)) k j best most))) ∧ F' = F) := by
  intro k
  induction k with
  | zero =>
    intro j best most hi hj
    refine R2.B (ls2 := [some (.ref 16), some (.int (nI f)), some (.int (nI t)), some (.int (nI best)), some (.int most), some (.int (nI j)), none]) (st2 := [.int (nI t), .int (nI j)]) b_X2_bestDue_14_17 rfl (fun hd => ?_)
    refine R2.icmp_gt 48 hd (by decide) (fun c17 => ?_) (fun c17 => absurd (nI_lt (by omega) (by omega)) c17)
    refine R2.B (ls2 := [some (.ref 16), some (.int (nI f)), some (.int (nI t)), some (.int (nI best)), some (.int most), some (.int (nI j)), none]) (st2 := [.int (nI best)]) b_X2_bestDue_48_49 rfl (fun hd => ?_)
    exact R2.ret3 (r := some (.int (nI best))) hd trivial rfl rfl rfl
  | succ k ih =>
    intro j best most hi hj
    refine R2.B (ls2 := [some (.ref 16), some (.int (nI f)), some (.int (nI t)), some (.int (nI best)), some (.int most), some (.int (nI j)), none]) (st2 := [.int (nI t), .int (nI j)]) b_X2_bestDue_14_17 rfl (fun hd => ?_)
    refine R2.icmp_gt 48 hd (by decide) (fun c17 => absurd c17 (nI_nlt (by omega) (by omega))) (fun c17 => ?_)
    refine R2.B (ls2 := [some (.ref 16), some (.int (nI f)), some (.int (nI t)), some (.int (nI best)), some (.int most), some (.int (nI j)), none]) (st2 := [.int (nI j), .ref 16]) b_X2_bestDue_20_23 rfl (fun hd => ?_)
    refine R2.callV3 (M2 := mX2_bindingPairs) (As := [.int (nI j)]) (rest := []) hd lk_2_47 okX2_bindingPairs (by decide) rfl (ev_bindingPairs E L F n hn hn10 (nI j)) (by decide) rfl rfl (Nat.le_of_ble_eq_true rfl) ?_
    refine R2.B (ls2 := [some (.ref 16), some (.int (nI f)), some (.int (nI t)), some (.int (nI best)), some (.int most), some (.int (nI j)), some (.int (cBP F n (nI j)))]) (st2 := [.int most, .int (cBP F n (nI j))]) b_X2_bestDue_26_32 rfl (fun hd => ?_)
    refine R2.icmp_le 42 hd (by decide) (fun c32 => ?_) (fun c32 => ?_)
    · refine R2.B (ls2 := [some (.ref 16), some (.int (nI f)), some (.int (nI t)), some (.int (nI best)), some (.int most), some (.int ((nI j) + 1)), some (.int (cBP F n (nI j)))]) (st2 := []) b_X2_bestDue_42_14 rfl (fun hd => ?_)
      rw [show ((nI j) + 1 : Int32) = nI (j + 1) from nI_add j 1]
      rw [show bdL (fun j => cBP F n (nI j)) (k + 1) j best most = bdL (fun j => cBP F n (nI j)) k (j + 1) best most from (by simp only [bdL]; rw [if_neg (Int32.not_lt.mpr c32)])]
      refine R2.forget (ls2 := [some (.ref 16), some (.int (nI f)), some (.int (nI t)), some (.int (nI best)), some (.int most), some (.int (nI (j + 1))), none]) ⟨rfl, ⟨rfl, ⟨rfl, ⟨rfl, ⟨rfl, ⟨rfl, trivial⟩⟩⟩⟩⟩⟩ ?_
      exact ih (j + 1) _ _ (by omega) (by omega)
    · refine R2.B (ls2 := [some (.ref 16), some (.int (nI f)), some (.int (nI t)), some (.int (nI j)), some (.int (cBP F n (nI j))), some (.int ((nI j) + 1)), some (.int (cBP F n (nI j)))]) (st2 := []) b_X2_bestDue_35_14 rfl (fun hd => ?_)
      rw [show ((nI j) + 1 : Int32) = nI (j + 1) from nI_add j 1]
      rw [show bdL (fun j => cBP F n (nI j)) (k + 1) j best most = bdL (fun j => cBP F n (nI j)) k (j + 1) j (cBP F n (nI j)) from (by simp only [bdL]; rw [if_pos (Int32.not_le.mp c32)])]
      refine R2.forget (ls2 := [some (.ref 16), some (.int (nI f)), some (.int (nI t)), some (.int (nI j)), some (.int (cBP F n (nI j))), some (.int (nI (j + 1))), none]) ⟨rfl, ⟨rfl, ⟨rfl, ⟨rfl, ⟨rfl, ⟨rfl, trivial⟩⟩⟩⟩⟩⟩ ?_
      exact ih (j + 1) _ _ (by omega) (by omega)
theorem b_X2_bestDue_0_4 : bl2 mX2_bestDue 0 [(.iload_n 1, 1, 1, 0, .null), (.istore_n 3, 1, 3, 0, .null), (.aload_n 0, 1, 0, 0, .null), (.iload_n 1, 1, 1, 0, .null)] 4 (.invokevirtual 47) 3 = true := by decide +kernel
theorem b_X2_bestDue_7_14 : bl2 mX2_bestDue 7 [(.istore 4, 2, 4, 0, .null), (.iload_n 1, 1, 1, 0, .null), (.iconst 1, 1, 0, 0, .int 1), (.iadd, 1, 0, 0, .null), (.istore 5, 2, 5, 0, .null)] 14 (.iload 5) 2 = true := by decide +kernel
set_option maxRecDepth 20000 in
set_option maxHeartbeats 1000000 in
theorem ev_bestDue (E : EE) (L : Nat) (F : FF) (n : Nat) (hn : F 10 5 = nI n) (hn10 : n ≤ 10) (f t : Nat) (hf : f ≤ t) (ht : t ≤ 90) : Ev3 E L 5 mX2_bestDue [.ref 16, .int (nI f), .int (nI t)] F (some (.int (nI (cBD F n f t)))) F := by
  refine Ev3.of okX2_bestDue.2.2.1 (Nat.le_of_ble_eq_true rfl) ?_
  show R2 E L mX2_bestDue 5 0 [some (.ref 16), some (.int (nI f)), some (.int (nI t)), none, none, none, none] [] F _
  refine R2.B (ls2 := [some (.ref 16), some (.int (nI f)), some (.int (nI t)), some (.int (nI f)), none, none, none]) (st2 := [.int (nI f), .ref 16]) b_X2_bestDue_0_4 rfl (fun hd => ?_)
  refine R2.callV3 (M2 := mX2_bindingPairs) (As := [.int (nI f)]) (rest := []) hd lk_2_47 okX2_bindingPairs (by decide) rfl (ev_bindingPairs E L F n hn hn10 (nI f)) (by decide) rfl rfl (Nat.le_of_ble_eq_true rfl) ?_
  refine R2.B (ls2 := [some (.ref 16), some (.int (nI f)), some (.int (nI t)), some (.int (nI f)), some (.int (cBP F n (nI f))), some (.int ((nI f) + 1)), none]) (st2 := []) b_X2_bestDue_7_14 rfl (fun hd => ?_)
  rw [show ((nI f) + 1 : Int32) = nI (f + 1) from nI_add f 1]
  exact lp_bestDue E L F n hn hn10 f t ht (t - f) (f + 1) f _ (by omega) (by omega)
theorem b_X2_hindered_23_32 : bl2 mX2_hindered 23 [(.iload 5, 2, 5, 0, .null), (.aload_n 0, 1, 0, 0, .null), (.getfield 15, 3, 2, 0, .null), (.getfield 31, 3, 0, 5, .null)] 32 (.if_icmp .ge 55) 3 = true := by decide +kernel
theorem b_X2_hindered_87_87 : bl2 mX2_hindered 87 [] 87 (.iinc 4 1) 3 = true := by decide +kernel
theorem b_X2_hindered_35_38 : bl2 mX2_hindered 35 [(.iload 4, 2, 4, 0, .null), (.iload_n 1, 1, 1, 0, .null)] 38 (.if_icmp .eq 43) 3 = true := by decide +kernel
theorem b_X2_hindered_81_23 : bl2 mX2_hindered 81 [(.iinc 5 1, 3, 5, 0, .int 1), (.goto (-61), 3, 23, 0, .null)] 23 (.iload 5) 2 = true := by decide +kernel
theorem b_X2_hindered_41_44 : bl2 mX2_hindered 41 [(.iload 5, 2, 5, 0, .null), (.iload_n 1, 1, 1, 0, .null)] 44 (.if_icmp .eq 37) 3 = true := by decide +kernel
theorem b_X2_hindered_47_53 : bl2 mX2_hindered 47 [(.aload_n 0, 1, 0, 0, .null), (.iload_n 1, 1, 1, 0, .null), (.iload 4, 2, 4, 0, .null), (.iload 5, 2, 5, 0, .null)] 53 (.invokevirtual 50) 3 = true := by decide +kernel
theorem b_X2_hindered_56_56 : bl2 mX2_hindered 56 [] 56 (.ifCond .eq 25) 3 = true := by decide +kernel
theorem b_X2_hindered_59_61 : bl2 mX2_hindered 59 [(.iload_n 3, 1, 3, 0, .null), (.iload_n 2, 1, 2, 0, .null)] 61 (.ifCond .eq 17) 3 = true := by decide +kernel
theorem b_X2_hindered_78_23 : bl2 mX2_hindered 78 [(.iconst 1, 1, 0, 0, .int 1), (.iadd, 1, 0, 0, .null), (.istore_n 3, 1, 3, 0, .null), (.iinc 5 1, 3, 5, 0, .int 1), (.goto (-61), 3, 23, 0, .null)] 23 (.iload 5) 2 = true := by decide +kernel
theorem b_X2_hindered_64_72 : bl2 mX2_hindered 64 [(.aload_n 0, 1, 0, 0, .null), (.getfield 15, 3, 2, 0, .null), (.iload 4, 2, 4, 0, .null), (.iload 5, 2, 5, 0, .null)] 72 (.invokevirtual 54) 3 = true := by decide +kernel
theorem b_X2_hindered_75_23 : bl2 mX2_hindered 75 [(.goto 4, 3, 79, 0, .null), (.iadd, 1, 0, 0, .null), (.istore_n 3, 1, 3, 0, .null), (.iinc 5 1, 3, 5, 0, .int 1), (.goto (-61), 3, 23, 0, .null)] 23 (.iload 5) 2 = true := by decide +kernel
set_option maxRecDepth 20000 in
set_option maxHeartbeats 2000000 in
theorem lp_hnI (E : EE) (L : Nat) (F : FF) (n : Nat) (hn : F 10 5 = nI n) (hn10 : n ≤ 10) (p : Nat) (wo : Int32) (hp : p < 10) (Q : Q2) (a : Nat) (ha : a < n) : ∀ (k : Nat) (b : Nat) (acc : Int32), b + k = n → R2 E L mX2_hindered 6 87 [some (.ref 16), some (.int (nI p)), some (.int wo), some (.int (sumI (gHN F n p wo a) k b acc)), some (.int (nI a)), none] [] F Q → R2 E L mX2_hindered 6 23 [some (.ref 16), some (.int (nI p)), some (.int wo), some (.int acc), some (.int (nI a)), some (.int (nI b))] [] F Q := by
  intro k
  induction k with
  | zero =>
    intro b acc hi ex
    refine R2.B (ls2 := [some (.ref 16), some (.int (nI p)), some (.int wo), some (.int acc), some (.int (nI a)), some (.int (nI b))]) (st2 := [.int (F 10 5), .int (nI b)]) b_X2_hindered_23_32 rfl (fun hd => ?_)
    rw [show (F 10 5 : Int32) = nI n from hn]
    refine R2.icmp_ge 87 hd (by decide) (fun c32 => ?_) (fun c32 => absurd (nI_le (by omega) (by omega)) c32)
    refine R2.B (ls2 := [some (.ref 16), some (.int (nI p)), some (.int wo), some (.int acc), some (.int (nI a)), some (.int (nI b))]) (st2 := []) b_X2_hindered_87_87 rfl (fun hd => ?_)
    refine R2.forget (ls2 := [some (.ref 16), some (.int (nI p)), some (.int wo), some (.int acc), some (.int (nI a)), none]) ⟨rfl, ⟨rfl, ⟨rfl, ⟨rfl, ⟨rfl, trivial⟩⟩⟩⟩⟩ ?_
    exact ex
  | succ k ih =>
    intro b acc hi ex
    refine R2.B (ls2 := [some (.ref 16), some (.int (nI p)), some (.int wo), some (.int acc), some (.int (nI a)), some (.int (nI b))]) (st2 := [.int (F 10 5), .int (nI b)]) b_X2_hindered_23_32 rfl (fun hd => ?_)
    rw [show (F 10 5 : Int32) = nI n from hn]
    refine R2.icmp_ge 87 hd (by decide) (fun c32 => absurd c32 (nI_ge (by omega) (by omega))) (fun c32 => ?_)
    refine R2.B (ls2 := [some (.ref 16), some (.int (nI p)), some (.int wo), some (.int acc), some (.int (nI a)), some (.int (nI b))]) (st2 := [.int (nI p), .int (nI a)]) b_X2_hindered_35_38 rfl (fun hd => ?_)
    refine R2.icmp_eq 81 hd (by decide) (fun c38 => ?_) (fun c38 => ?_)
    · have nc38 : a = p := (nI_eq (a := a) (b := p) (by omega) (by omega)).mp c38
      refine R2.B (ls2 := [some (.ref 16), some (.int (nI p)), some (.int wo), some (.int acc), some (.int (nI a)), some (.int ((nI b) + 1))]) (st2 := []) b_X2_hindered_81_23 rfl (fun hd => ?_)
      rw [show ((nI b) + 1 : Int32) = nI (b + 1) from nI_add b 1]
      have e : sumI (gHN F n p wo a) (k + 1) b acc = sumI (gHN F n p wo a) k (b + 1) acc := by
        simp only [sumI, gHN]; rw [if_neg (by clear hd; grind), Int32.add_zero]
      rw [e] at ex
      exact ih (b + 1) acc (by omega) ex
    · have nc38 : ¬ a = p := fun h9 => c38 ((nI_eq (a := a) (b := p) (by omega) (by omega)).mpr h9)
      refine R2.B (ls2 := [some (.ref 16), some (.int (nI p)), some (.int wo), some (.int acc), some (.int (nI a)), some (.int (nI b))]) (st2 := [.int (nI p), .int (nI b)]) b_X2_hindered_41_44 rfl (fun hd => ?_)
      refine R2.icmp_eq 81 hd (by decide) (fun c44 => ?_) (fun c44 => ?_)
      · have nc44 : b = p := (nI_eq (a := b) (b := p) (by omega) (by omega)).mp c44
        refine R2.B (ls2 := [some (.ref 16), some (.int (nI p)), some (.int wo), some (.int acc), some (.int (nI a)), some (.int ((nI b) + 1))]) (st2 := []) b_X2_hindered_81_23 rfl (fun hd => ?_)
        rw [show ((nI b) + 1 : Int32) = nI (b + 1) from nI_add b 1]
        have e : sumI (gHN F n p wo a) (k + 1) b acc = sumI (gHN F n p wo a) k (b + 1) acc := by
          simp only [sumI, gHN]; rw [if_neg (by clear hd; grind), Int32.add_zero]
        rw [e] at ex
        exact ih (b + 1) acc (by omega) ex
      · have nc44 : ¬ b = p := fun h9 => c44 ((nI_eq (a := b) (b := p) (by omega) (by omega)).mpr h9)
        refine R2.B (ls2 := [some (.ref 16), some (.int (nI p)), some (.int wo), some (.int acc), some (.int (nI a)), some (.int (nI b))]) (st2 := [.int (nI b), .int (nI a), .int (nI p), .ref 16]) b_X2_hindered_47_53 rfl (fun hd => ?_)
        refine R2.callV3 (M2 := mX2_isHinderedBy) (As := [.int (nI p), .int (nI a), .int (nI b)]) (rest := []) hd lk_2_50 okX2_isHinderedBy (by decide) rfl (ev_isHinderedBy E L F n hn hn10 p a b (by omega) (by omega)) (by decide) rfl rfl (Nat.le_of_ble_eq_true rfl) ?_
        refine R2.B (ls2 := [some (.ref 16), some (.int (nI p)), some (.int wo), some (.int acc), some (.int (nI a)), some (.int (nI b))]) (st2 := [.int (b2i (hndC F n p a b))]) b_X2_hindered_56_56 rfl (fun hd => ?_)
        refine R2.if_eq 81 hd (by decide) (fun c56 => ?_) (fun c56 => ?_)
        · have nc56 : ¬ (hndC F n p a b) := b2i_zero.mp c56
          refine R2.B (ls2 := [some (.ref 16), some (.int (nI p)), some (.int wo), some (.int acc), some (.int (nI a)), some (.int ((nI b) + 1))]) (st2 := []) b_X2_hindered_81_23 rfl (fun hd => ?_)
          rw [show ((nI b) + 1 : Int32) = nI (b + 1) from nI_add b 1]
          have e : sumI (gHN F n p wo a) (k + 1) b acc = sumI (gHN F n p wo a) k (b + 1) acc := by
            simp only [sumI, gHN]; rw [if_neg (by clear hd; grind), Int32.add_zero]
          rw [e] at ex
          exact ih (b + 1) acc (by omega) ex
        · have nc56 : hndC F n p a b := b2i_nz.mp c56
          refine R2.B (ls2 := [some (.ref 16), some (.int (nI p)), some (.int wo), some (.int acc), some (.int (nI a)), some (.int (nI b))]) (st2 := [.int wo, .int acc]) b_X2_hindered_59_61 rfl (fun hd => ?_)
          refine R2.if_eq 78 hd (by decide) (fun c61 => ?_) (fun c61 => ?_)
          · refine R2.B (ls2 := [some (.ref 16), some (.int (nI p)), some (.int wo), some (.int (acc + 1)), some (.int (nI a)), some (.int ((nI b) + 1))]) (st2 := []) b_X2_hindered_78_23 rfl (fun hd => ?_)
            rw [show ((nI b) + 1 : Int32) = nI (b + 1) from nI_add b 1]
            have e : sumI (gHN F n p wo a) (k + 1) b acc = sumI (gHN F n p wo a) k (b + 1) (acc + 1) := by
              simp only [sumI, gHN]; rw [if_pos ⟨nc38, nc44, nc56⟩]; first | rw [if_pos c61] | rw [if_neg c61]
            rw [e] at ex
            exact ih (b + 1) (acc + 1) (by omega) ex
          · refine R2.B (ls2 := [some (.ref 16), some (.int (nI p)), some (.int wo), some (.int acc), some (.int (nI a)), some (.int (nI b))]) (st2 := [.int (nI b), .int (nI a), .ref 10, .int acc]) b_X2_hindered_64_72 rfl (fun hd => ?_)
            refine R2.callV3 (M2 := mX0_gain) (As := [.int (nI a), .int (nI b)]) (rest := [.int acc]) hd lk_2_54 okX0_gain (by decide) rfl (ev_gain E L F a b (by omega) (by omega)) (by decide) rfl rfl (Nat.le_of_ble_eq_true rfl) ?_
            refine R2.B (ls2 := [some (.ref 16), some (.int (nI p)), some (.int wo), some (.int (acc + (gan (F 11) (F 13) a b))), some (.int (nI a)), some (.int ((nI b) + 1))]) (st2 := []) b_X2_hindered_75_23 rfl (fun hd => ?_)
            rw [show ((nI b) + 1 : Int32) = nI (b + 1) from nI_add b 1]
            have e : sumI (gHN F n p wo a) (k + 1) b acc = sumI (gHN F n p wo a) k (b + 1) (acc + (gan (F 11) (F 13) a b)) := by
              simp only [sumI, gHN]; rw [if_pos ⟨nc38, nc44, nc56⟩]; first | rw [if_pos c61] | rw [if_neg c61]
            rw [e] at ex
            exact ih (b + 1) (acc + (gan (F 11) (F 13) a b)) (by omega) ex
theorem b_X2_hindered_5_14 : bl2 mX2_hindered 5 [(.iload 4, 2, 4, 0, .null), (.aload_n 0, 1, 0, 0, .null), (.getfield 15, 3, 2, 0, .null), (.getfield 31, 3, 0, 5, .null)] 14 (.if_icmp .ge 79) 3 = true := by decide +kernel
theorem b_X2_hindered_93_94 : bl2 mX2_hindered 93 [(.iload_n 3, 1, 3, 0, .null)] 94 (.ireturn) 1 = true := by decide +kernel
theorem b_X2_hindered_17_23 : bl2 mX2_hindered 17 [(.iload 4, 2, 4, 0, .null), (.iconst 1, 1, 0, 0, .int 1), (.iadd, 1, 0, 0, .null), (.istore 5, 2, 5, 0, .null)] 23 (.iload 5) 2 = true := by decide +kernel
theorem b_X2_hindered_87_5 : bl2 mX2_hindered 87 [(.iinc 4 1, 3, 4, 0, .int 1), (.goto (-85), 3, 5, 0, .null)] 5 (.iload 4) 2 = true := by decide +kernel
set_option maxRecDepth 20000 in
set_option maxHeartbeats 2000000 in
theorem lp_hnO (E : EE) (L : Nat) (F : FF) (n : Nat) (hn : F 10 5 = nI n) (hn10 : n ≤ 10) (p : Nat) (wo : Int32) (hp : p < 10) : ∀ (k : Nat) (a : Nat) (acc : Int32), a + k = n → R2 E L mX2_hindered 6 5 [some (.ref 16), some (.int (nI p)), some (.int wo), some (.int acc), some (.int (nI a)), none] [] F (fun r' F' => r' = some (.int (sumO (gHN F n p wo) n k a acc)) ∧ F' = F) := by
  intro k
  induction k with
  | zero =>
    intro a acc hi
    refine R2.B (ls2 := [some (.ref 16), some (.int (nI p)), some (.int wo), some (.int acc), some (.int (nI a)), none]) (st2 := [.int (F 10 5), .int (nI a)]) b_X2_hindered_5_14 rfl (fun hd => ?_)
    rw [show (F 10 5 : Int32) = nI n from hn]
    refine R2.icmp_ge 93 hd (by decide) (fun c14 => ?_) (fun c14 => absurd (nI_le (by omega) (by omega)) c14)
    refine R2.B (ls2 := [some (.ref 16), some (.int (nI p)), some (.int wo), some (.int acc), some (.int (nI a)), none]) (st2 := [.int acc]) b_X2_hindered_93_94 rfl (fun hd => ?_)
    exact R2.ret3 (r := some (.int acc)) hd trivial rfl rfl rfl
  | succ k ih =>
    intro a acc hi
    refine R2.B (ls2 := [some (.ref 16), some (.int (nI p)), some (.int wo), some (.int acc), some (.int (nI a)), none]) (st2 := [.int (F 10 5), .int (nI a)]) b_X2_hindered_5_14 rfl (fun hd => ?_)
    rw [show (F 10 5 : Int32) = nI n from hn]
    refine R2.icmp_ge 93 hd (by decide) (fun c14 => absurd c14 (nI_ge (by omega) (by omega))) (fun c14 => ?_)
    refine R2.B (ls2 := [some (.ref 16), some (.int (nI p)), some (.int wo), some (.int acc), some (.int (nI a)), some (.int ((nI a) + 1))]) (st2 := []) b_X2_hindered_17_23 rfl (fun hd => ?_)
    rw [show ((nI a) + 1 : Int32) = nI (a + 1) from nI_add a 1]
    refine lp_hnI E L F n hn hn10 p wo hp _ a (by omega) (n - (a + 1)) (a + 1) acc (by omega) ?_
    refine R2.B (ls2 := [some (.ref 16), some (.int (nI p)), some (.int wo), some (.int (sumI (gHN F n p wo a) (n - (a + 1)) (a + 1) acc)), some (.int ((nI a) + 1)), none]) (st2 := []) b_X2_hindered_87_5 rfl (fun hd => ?_)
    rw [show ((nI a) + 1 : Int32) = nI (a + 1) from nI_add a 1]
    exact ih (a + 1) _ (by omega)
theorem b_X2_hindered_0_5 : bl2 mX2_hindered 0 [(.iconst 0, 1, 0, 0, .int 0), (.istore_n 3, 1, 3, 0, .null), (.iconst 0, 1, 0, 0, .int 0), (.istore 4, 2, 4, 0, .null)] 5 (.iload 4) 2 = true := by decide +kernel
set_option maxRecDepth 20000 in
set_option maxHeartbeats 1000000 in
theorem ev_hindered (E : EE) (L : Nat) (F : FF) (n : Nat) (hn : F 10 5 = nI n) (hn10 : n ≤ 10) (p : Nat) (wo : Int32) (hp : p < 10) : Ev3 E L 6 mX2_hindered [.ref 16, .int (nI p), .int wo] F (some (.int (cHN F n p wo))) F := by
  refine Ev3.of okX2_hindered.2.2.1 (Nat.le_of_ble_eq_true rfl) ?_
  show R2 E L mX2_hindered 6 0 [some (.ref 16), some (.int (nI p)), some (.int wo), none, none, none] [] F _
  refine R2.B (ls2 := [some (.ref 16), some (.int (nI p)), some (.int wo), some (.int 0), some (.int 0), none]) (st2 := []) b_X2_hindered_0_5 rfl (fun hd => ?_)
  exact lp_hnO E L F n hn hn10 p wo hp n 0 0 (by omega)
