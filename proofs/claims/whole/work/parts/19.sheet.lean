theorem b_X5_findingAt_0_4 : bl2 mX5_findingAt 0 [(.aload_n 0, 1, 0, 0, .null), (.getfield 15, 3, 5, 1, .null)] 4 (.ifCond .eq 5) 3 = true := by decide +kernel
theorem b_X5_findingAt_9_14 : bl2 mX5_findingAt 9 [(.iload_n 1, 1, 1, 0, .null), (.aload_n 0, 1, 0, 0, .null), (.getfield 19, 3, 5, 2, .null)] 14 (.if_icmp .eq 5) 3 = true := by decide +kernel
theorem b_X5_findingAt_19_20 : bl2 mX5_findingAt 19 [(.iload_n 2, 1, 2, 0, .null)] 20 (.ifCond .lt 11) 3 = true := by decide +kernel
theorem b_X5_findingAt_31_36 : bl2 mX5_findingAt 31 [(.iconst 2, 1, 0, 0, .int 2), (.goto 4, 3, 36, 0, .null)] 36 (.ireturn) 1 = true := by decide +kernel
theorem b_X5_findingAt_23_28 : bl2 mX5_findingAt 23 [(.iload_n 2, 1, 2, 0, .null), (.aload_n 0, 1, 0, 0, .null), (.getfield 23, 3, 5, 3, .null)] 28 (.if_icmp .lt 7) 3 = true := by decide +kernel
theorem b_X5_findingAt_35_36 : bl2 mX5_findingAt 35 [(.iconst 0, 1, 0, 0, .int 0)] 36 (.ireturn) 1 = true := by decide +kernel
theorem b_X5_findingAt_17_18 : bl2 mX5_findingAt 17 [(.iconst 3, 1, 0, 0, .int 3)] 18 (.ireturn) 1 = true := by decide +kernel
theorem b_X5_findingAt_7_8 : bl2 mX5_findingAt 7 [(.iconst 1, 1, 0, 0, .int 1)] 8 (.ireturn) 1 = true := by decide +kernel
set_option maxRecDepth 20000 in
set_option maxHeartbeats 1000000 in
theorem ev_findingAt40 (E : EE) (L : Nat) (F : FF) (f x : Int32) : Ev3 E L 1 mX5_findingAt [.ref 40, .int f, .int x] F (some (.int (fndA (F 40 1) (F 40 2) (F 40 3) f x))) F := by
  refine Ev3.of okX5_findingAt.2.2.1 (Nat.le_of_ble_eq_true rfl) ?_
  show R2 E L mX5_findingAt 1 0 [some (.ref 40), some (.int f), some (.int x)] [] F _
  refine R2.B (ls2 := [some (.ref 40), some (.int f), some (.int x)]) (st2 := [.int (F 40 1)]) b_X5_findingAt_0_4 rfl (fun hd => ?_)
  refine R2.if_eq 9 hd (by decide) (fun c4 => ?_) (fun c4 => ?_)
  · refine R2.B (ls2 := [some (.ref 40), some (.int f), some (.int x)]) (st2 := [.int (F 40 2), .int f]) b_X5_findingAt_9_14 rfl (fun hd => ?_)
    refine R2.icmp_eq 19 hd (by decide) (fun c14 => ?_) (fun c14 => ?_)
    · refine R2.B (ls2 := [some (.ref 40), some (.int f), some (.int x)]) (st2 := [.int x]) b_X5_findingAt_19_20 rfl (fun hd => ?_)
      refine R2.if_lt 31 hd (by decide) (fun c20 => ?_) (fun c20 => ?_)
      · refine R2.B (ls2 := [some (.ref 40), some (.int f), some (.int x)]) (st2 := [.int 2]) b_X5_findingAt_31_36 rfl (fun hd => ?_)
        exact R2.ret3 (r := some (.int 2)) hd trivial rfl (congrArg (fun z => some (Value.int z)) (by clear hd; unfold fndA; grind)) rfl
      · refine R2.B (ls2 := [some (.ref 40), some (.int f), some (.int x)]) (st2 := [.int (F 40 3), .int x]) b_X5_findingAt_23_28 rfl (fun hd => ?_)
        refine R2.icmp_lt 35 hd (by decide) (fun c28 => ?_) (fun c28 => ?_)
        · refine R2.B (ls2 := [some (.ref 40), some (.int f), some (.int x)]) (st2 := [.int 0]) b_X5_findingAt_35_36 rfl (fun hd => ?_)
          exact R2.ret3 (r := some (.int 0)) hd trivial rfl (congrArg (fun z => some (Value.int z)) (by clear hd; unfold fndA; grind)) rfl
        · refine R2.B (ls2 := [some (.ref 40), some (.int f), some (.int x)]) (st2 := [.int 2]) b_X5_findingAt_31_36 rfl (fun hd => ?_)
          exact R2.ret3 (r := some (.int 2)) hd trivial rfl (congrArg (fun z => some (Value.int z)) (by clear hd; unfold fndA; grind)) rfl
    · refine R2.B (ls2 := [some (.ref 40), some (.int f), some (.int x)]) (st2 := [.int 3]) b_X5_findingAt_17_18 rfl (fun hd => ?_)
      exact R2.ret3 (r := some (.int 3)) hd trivial rfl (congrArg (fun z => some (Value.int z)) (by clear hd; unfold fndA; grind)) rfl
  · refine R2.B (ls2 := [some (.ref 40), some (.int f), some (.int x)]) (st2 := [.int 1]) b_X5_findingAt_7_8 rfl (fun hd => ?_)
    exact R2.ret3 (r := some (.int 1)) hd trivial rfl (congrArg (fun z => some (Value.int z)) (by clear hd; unfold fndA; grind)) rfl
theorem b_X5_hasRange_0_1 : bl2 mX5_hasRange 0 [(.iload_n 1, 1, 1, 0, .null)] 1 (.ifCond .lt 21) 3 = true := by decide +kernel
theorem b_X5_hasRange_22_23 : bl2 mX5_hasRange 22 [(.iconst 0, 1, 0, 0, .int 0)] 23 (.ireturn) 1 = true := by decide +kernel
theorem b_X5_hasRange_4_5 : bl2 mX5_hasRange 4 [(.iload_n 2, 1, 2, 0, .null)] 5 (.ifCond .lt 17) 3 = true := by decide +kernel
theorem b_X5_hasRange_8_15 : bl2 mX5_hasRange 8 [(.iload_n 1, 1, 1, 0, .null), (.aload_n 0, 1, 0, 0, .null), (.getfield 23, 3, 5, 3, .null), (.iload_n 2, 1, 2, 0, .null), (.isub, 1, 0, 0, .null)] 15 (.if_icmp .gt 7) 3 = true := by decide +kernel
theorem b_X5_hasRange_18_23 : bl2 mX5_hasRange 18 [(.iconst 1, 1, 0, 0, .int 1), (.goto 4, 3, 23, 0, .null)] 23 (.ireturn) 1 = true := by decide +kernel
set_option maxRecDepth 20000 in
set_option maxHeartbeats 1000000 in
theorem ev_hasRange40 (E : EE) (L : Nat) (F : FF) (f x : Int32) : Ev3 E L 1 mX5_hasRange [.ref 40, .int f, .int x] F (some (.int (b2i (0 ≤ f ∧ 0 ≤ x ∧ f ≤ F 40 3 - x)))) F := by
  refine Ev3.of okX5_hasRange.2.2.1 (Nat.le_of_ble_eq_true rfl) ?_
  show R2 E L mX5_hasRange 1 0 [some (.ref 40), some (.int f), some (.int x)] [] F _
  refine R2.B (ls2 := [some (.ref 40), some (.int f), some (.int x)]) (st2 := [.int f]) b_X5_hasRange_0_1 rfl (fun hd => ?_)
  refine R2.if_lt 22 hd (by decide) (fun c1 => ?_) (fun c1 => ?_)
  · refine R2.B (ls2 := [some (.ref 40), some (.int f), some (.int x)]) (st2 := [.int 0]) b_X5_hasRange_22_23 rfl (fun hd => ?_)
    exact R2.ret3 (r := some (.int 0)) hd (Or.inl rfl) rfl (congrArg (fun z => some (Value.int z)) (b2i_f (by clear hd; grind))) rfl
  · refine R2.B (ls2 := [some (.ref 40), some (.int f), some (.int x)]) (st2 := [.int x]) b_X5_hasRange_4_5 rfl (fun hd => ?_)
    refine R2.if_lt 22 hd (by decide) (fun c5 => ?_) (fun c5 => ?_)
    · refine R2.B (ls2 := [some (.ref 40), some (.int f), some (.int x)]) (st2 := [.int 0]) b_X5_hasRange_22_23 rfl (fun hd => ?_)
      exact R2.ret3 (r := some (.int 0)) hd (Or.inl rfl) rfl (congrArg (fun z => some (Value.int z)) (b2i_f (by clear hd; grind))) rfl
    · refine R2.B (ls2 := [some (.ref 40), some (.int f), some (.int x)]) (st2 := [.int ((F 40 3) - x), .int f]) b_X5_hasRange_8_15 rfl (fun hd => ?_)
      refine R2.icmp_gt 22 hd (by decide) (fun c15 => ?_) (fun c15 => ?_)
      · refine R2.B (ls2 := [some (.ref 40), some (.int f), some (.int x)]) (st2 := [.int 0]) b_X5_hasRange_22_23 rfl (fun hd => ?_)
        exact R2.ret3 (r := some (.int 0)) hd (Or.inl rfl) rfl (congrArg (fun z => some (Value.int z)) (b2i_f (by clear hd; grind))) rfl
      · refine R2.B (ls2 := [some (.ref 40), some (.int f), some (.int x)]) (st2 := [.int 1]) b_X5_hasRange_18_23 rfl (fun hd => ?_)
        exact R2.ret3 (r := some (.int 1)) hd (Or.inr rfl) rfl (congrArg (fun z => some (Value.int z)) (b2i_t (by clear hd; grind))) rfl
theorem b_X5_store_0_1 : bl2 mX5_store 0 [(.iload_n 1, 1, 1, 0, .null)] 1 (.ifCond .lt 43) 3 = true := by decide +kernel
theorem b_X5_store_4_9 : bl2 mX5_store 4 [(.iload_n 1, 1, 1, 0, .null), (.aload_n 0, 1, 0, 0, .null), (.getfield 23, 3, 5, 3, .null)] 9 (.if_icmp .ge 35) 3 = true := by decide +kernel
theorem b_X5_store_12_21 : bl2 mX5_store 12 [(.aload_n 0, 1, 0, 0, .null), (.getfield 9, 3, 5, 0, .null), (.iload_n 1, 1, 1, 0, .null), (.aload_n 0, 1, 0, 0, .null), (.getfield 19, 3, 5, 2, .null)] 21 (.ifCond .ne 8) 3 = true := by decide +kernel
theorem b_X5_store_29_34 : bl2 mX5_store 29 [(.aload_n 0, 1, 0, 0, .null), (.getfield 19, 3, 5, 2, .null), (.iconst 1, 1, 0, 0, .int 1)] 34 (.if_icmp .ne 8) 3 = true := by decide +kernel
theorem b_X5_store_42_43 : bl2 mX5_store 42 [(.iload_n 2, 1, 2, 0, .null)] 43 (.iastore) 1 = true := by decide +kernel
theorem b_X5_store_44_44 : bl2 mX5_store 44 [] 44 (.return_) 1 = true := by decide +kernel
theorem b_X5_store_37_43 : bl2 mX5_store 37 [(.iload_n 2, 1, 2, 0, .null), (.i2s, 1, 0, 0, .null), (.goto 4, 3, 43, 0, .null)] 43 (.iastore) 1 = true := by decide +kernel
theorem b_X5_store_24_43 : bl2 mX5_store 24 [(.iload_n 2, 1, 2, 0, .null), (.i2b, 1, 0, 0, .null), (.goto 17, 3, 43, 0, .null)] 43 (.iastore) 1 = true := by decide +kernel
set_option maxRecDepth 20000 in
set_option maxHeartbeats 1000000 in
theorem ev_store40 (E : EE) (L : Nat) (F : FF) (j : Nat) (v : Int32) (hj : j < 60) (hs : nI j < F 40 3) : Ev3 E L 1 mX5_store [.ref 40, .int (nI j), .int v] F none (up2 F 41 j (nrw (F 40 2) v)) := by
  refine Ev3.of okX5_store.2.2.1 (Nat.le_of_ble_eq_true rfl) ?_
  show R2 E L mX5_store 1 0 [some (.ref 40), some (.int (nI j)), some (.int v)] [] F _
  refine R2.B (ls2 := [some (.ref 40), some (.int (nI j)), some (.int v)]) (st2 := [.int (nI j)]) b_X5_store_0_1 rfl (fun hd => ?_)
  refine R2.if_lt 44 hd (by decide) (fun c1 => absurd c1 (nI_pos (by omega))) (fun c1 => ?_)
  refine R2.B (ls2 := [some (.ref 40), some (.int (nI j)), some (.int v)]) (st2 := [.int (F 40 3), .int (nI j)]) b_X5_store_4_9 rfl (fun hd => ?_)
  refine R2.icmp_ge 44 hd (by decide) (fun c9 => absurd c9 (Int32.not_le.mpr hs)) (fun c9 => ?_)
  refine R2.B (ls2 := [some (.ref 40), some (.int (nI j)), some (.int v)]) (st2 := [.int (F 40 2), .int (nI j), .ref 41]) b_X5_store_12_21 rfl (fun hd => ?_)
  refine R2.if_ne 29 hd (by decide) (fun c21 => ?_) (fun c21 => ?_)
  · refine R2.B (ls2 := [some (.ref 40), some (.int (nI j)), some (.int v)]) (st2 := [.int 1, .int (F 40 2), .int (nI j), .ref 41]) b_X5_store_29_34 rfl (fun hd => ?_)
    refine R2.icmp_ne 42 hd (by decide) (fun c34 => ?_) (fun c34 => ?_)
    · refine R2.B (ls2 := [some (.ref 40), some (.int (nI j)), some (.int v)]) (st2 := [.int v, .int (nI j), .ref 41]) b_X5_store_42_43 rfl (fun hd => ?_)
      refine R2.iast j rfl hd (by decide) rfl (fun _ => rfl) (by decide) (by omega) ?_
      refine R2.B (ls2 := [some (.ref 40), some (.int (nI j)), some (.int v)]) (st2 := []) b_X5_store_44_44 rfl (fun hd => ?_)
      refine R2.ret3 (r := none) hd trivial rfl rfl ?_
      unfold nrw
      first | (rw [if_pos c21]; done) | (rw [if_neg c21, if_pos c34]; done) | (rw [if_neg c21, if_neg c34]; done)
    · refine R2.B (ls2 := [some (.ref 40), some (.int (nI j)), some (.int v)]) (st2 := [.int v.toInt16.toInt32, .int (nI j), .ref 41]) b_X5_store_37_43 rfl (fun hd => ?_)
      refine R2.iast j rfl hd (by decide) rfl (fun _ => rfl) (by decide) (by omega) ?_
      refine R2.B (ls2 := [some (.ref 40), some (.int (nI j)), some (.int v)]) (st2 := []) b_X5_store_44_44 rfl (fun hd => ?_)
      refine R2.ret3 (r := none) hd trivial rfl rfl ?_
      unfold nrw
      first | (rw [if_pos c21]; done) | (rw [if_neg c21, if_pos c34]; done) | (rw [if_neg c21, if_neg c34]; done)
  · refine R2.B (ls2 := [some (.ref 40), some (.int (nI j)), some (.int v)]) (st2 := [.int v.toInt8.toInt32, .int (nI j), .ref 41]) b_X5_store_24_43 rfl (fun hd => ?_)
    refine R2.iast j rfl hd (by decide) rfl (fun _ => rfl) (by decide) (by omega) ?_
    refine R2.B (ls2 := [some (.ref 40), some (.int (nI j)), some (.int v)]) (st2 := []) b_X5_store_44_44 rfl (fun hd => ?_)
    refine R2.ret3 (r := none) hd trivial rfl rfl ?_
    unfold nrw
    first | (rw [if_pos c21]; done) | (rw [if_neg c21, if_pos c34]; done) | (rw [if_neg c21, if_neg c34]; done)
theorem b_X5_renew_0_2 : bl2 mX5_renew 0 [(.aload_n 0, 1, 0, 0, .null), (.iconst 0, 1, 0, 0, .int 0)] 2 (.putfield 15) 3 = true := by decide +kernel
theorem b_X5_renew_5_7 : bl2 mX5_renew 5 [(.aload_n 0, 1, 0, 0, .null), (.iload_n 1, 1, 1, 0, .null)] 7 (.putfield 19) 3 = true := by decide +kernel
theorem b_X5_renew_10_12 : bl2 mX5_renew 10 [(.aload_n 0, 1, 0, 0, .null), (.iload_n 2, 1, 2, 0, .null)] 12 (.putfield 23) 3 = true := by decide +kernel
theorem b_X5_renew_15_20 : bl2 mX5_renew 15 [(.aload_n 0, 1, 0, 0, .null), (.getfield 9, 3, 5, 0, .null), (.iconst 0, 1, 0, 0, .int 0)] 20 (.invokestatic 26) 3 = true := by decide +kernel
theorem b_X5_renew_23_23 : bl2 mX5_renew 23 [] 23 (.return_) 1 = true := by decide +kernel
set_option maxRecDepth 20000 in
set_option maxHeartbeats 1000000 in
theorem ev_renew40 (E : EE) (L : Nat) (F : FF) (f x : Int32) : Ev3 E L 2 mX5_renew [.ref 40, .int f, .int x] F none (fillF (up2 (up2 (up2 F 40 1 0) 40 2 f) 40 3 x) 41 60 0) := by
  refine Ev3.of okX5_renew.2.2.1 (Nat.le_of_ble_eq_true rfl) ?_
  show R2 E L mX5_renew 2 0 [some (.ref 40), some (.int f), some (.int x)] [] F _
  refine R2.B (ls2 := [some (.ref 40), some (.int f), some (.int x)]) (st2 := [.int 0, .ref 40]) b_X5_renew_0_2 rfl (fun hd => ?_)
  refine R2.putf (a := 5) (b := 1) hd (by decide) (by decide) rfl rfl (fun _ => rfl) ?_
  refine R2.B (ls2 := [some (.ref 40), some (.int f), some (.int x)]) (st2 := [.int f, .ref 40]) b_X5_renew_5_7 rfl (fun hd => ?_)
  refine R2.putf (a := 5) (b := 2) hd (by decide) (by decide) rfl rfl (fun _ => rfl) ?_
  refine R2.B (ls2 := [some (.ref 40), some (.int f), some (.int x)]) (st2 := [.int x, .ref 40]) b_X5_renew_10_12 rfl (fun hd => ?_)
  refine R2.putf (a := 5) (b := 3) hd (by decide) (by decide) rfl rfl (fun _ => rfl) ?_
  refine R2.B (ls2 := [some (.ref 40), some (.int f), some (.int x)]) (st2 := [.int 0, .ref 41]) b_X5_renew_15_20 rfl (fun hd => ?_)
  refine R2.callS3 (M2 := mJ7_fill_53178) (As := [.ref 41, .int 0]) (rest := []) hd lk_5_26 okJ7_fill_53178 (by decide) (ev_fill E L (up2 (up2 (up2 F 40 1 0) 40 2 f) 40 3 x) 41 60 0 rfl (fun _ => rfl) (by decide) (by decide)) (by decide) rfl rfl (Nat.le_of_ble_eq_true rfl) ?_
  refine R2.B (ls2 := [some (.ref 40), some (.int f), some (.int x)]) (st2 := []) b_X5_renew_23_23 rfl (fun hd => ?_)
  exact R2.ret3 (r := none) hd trivial rfl rfl rfl
set_option maxRecDepth 20000 in
set_option maxHeartbeats 1000000 in
theorem ev_findingAt42 (E : EE) (L : Nat) (F : FF) (f x : Int32) : Ev3 E L 1 mX5_findingAt [.ref 42, .int f, .int x] F (some (.int (fndA (F 42 1) (F 42 2) (F 42 3) f x))) F := by
  refine Ev3.of okX5_findingAt.2.2.1 (Nat.le_of_ble_eq_true rfl) ?_
  show R2 E L mX5_findingAt 1 0 [some (.ref 42), some (.int f), some (.int x)] [] F _
  refine R2.B (ls2 := [some (.ref 42), some (.int f), some (.int x)]) (st2 := [.int (F 42 1)]) b_X5_findingAt_0_4 rfl (fun hd => ?_)
  refine R2.if_eq 9 hd (by decide) (fun c4 => ?_) (fun c4 => ?_)
  · refine R2.B (ls2 := [some (.ref 42), some (.int f), some (.int x)]) (st2 := [.int (F 42 2), .int f]) b_X5_findingAt_9_14 rfl (fun hd => ?_)
    refine R2.icmp_eq 19 hd (by decide) (fun c14 => ?_) (fun c14 => ?_)
    · refine R2.B (ls2 := [some (.ref 42), some (.int f), some (.int x)]) (st2 := [.int x]) b_X5_findingAt_19_20 rfl (fun hd => ?_)
      refine R2.if_lt 31 hd (by decide) (fun c20 => ?_) (fun c20 => ?_)
      · refine R2.B (ls2 := [some (.ref 42), some (.int f), some (.int x)]) (st2 := [.int 2]) b_X5_findingAt_31_36 rfl (fun hd => ?_)
        exact R2.ret3 (r := some (.int 2)) hd trivial rfl (congrArg (fun z => some (Value.int z)) (by clear hd; unfold fndA; grind)) rfl
      · refine R2.B (ls2 := [some (.ref 42), some (.int f), some (.int x)]) (st2 := [.int (F 42 3), .int x]) b_X5_findingAt_23_28 rfl (fun hd => ?_)
        refine R2.icmp_lt 35 hd (by decide) (fun c28 => ?_) (fun c28 => ?_)
        · refine R2.B (ls2 := [some (.ref 42), some (.int f), some (.int x)]) (st2 := [.int 0]) b_X5_findingAt_35_36 rfl (fun hd => ?_)
          exact R2.ret3 (r := some (.int 0)) hd trivial rfl (congrArg (fun z => some (Value.int z)) (by clear hd; unfold fndA; grind)) rfl
        · refine R2.B (ls2 := [some (.ref 42), some (.int f), some (.int x)]) (st2 := [.int 2]) b_X5_findingAt_31_36 rfl (fun hd => ?_)
          exact R2.ret3 (r := some (.int 2)) hd trivial rfl (congrArg (fun z => some (Value.int z)) (by clear hd; unfold fndA; grind)) rfl
    · refine R2.B (ls2 := [some (.ref 42), some (.int f), some (.int x)]) (st2 := [.int 3]) b_X5_findingAt_17_18 rfl (fun hd => ?_)
      exact R2.ret3 (r := some (.int 3)) hd trivial rfl (congrArg (fun z => some (Value.int z)) (by clear hd; unfold fndA; grind)) rfl
  · refine R2.B (ls2 := [some (.ref 42), some (.int f), some (.int x)]) (st2 := [.int 1]) b_X5_findingAt_7_8 rfl (fun hd => ?_)
    exact R2.ret3 (r := some (.int 1)) hd trivial rfl (congrArg (fun z => some (Value.int z)) (by clear hd; unfold fndA; grind)) rfl
set_option maxRecDepth 20000 in
set_option maxHeartbeats 1000000 in
theorem ev_hasRange42 (E : EE) (L : Nat) (F : FF) (f x : Int32) : Ev3 E L 1 mX5_hasRange [.ref 42, .int f, .int x] F (some (.int (b2i (0 ≤ f ∧ 0 ≤ x ∧ f ≤ F 42 3 - x)))) F := by
  refine Ev3.of okX5_hasRange.2.2.1 (Nat.le_of_ble_eq_true rfl) ?_
  show R2 E L mX5_hasRange 1 0 [some (.ref 42), some (.int f), some (.int x)] [] F _
  refine R2.B (ls2 := [some (.ref 42), some (.int f), some (.int x)]) (st2 := [.int f]) b_X5_hasRange_0_1 rfl (fun hd => ?_)
  refine R2.if_lt 22 hd (by decide) (fun c1 => ?_) (fun c1 => ?_)
  · refine R2.B (ls2 := [some (.ref 42), some (.int f), some (.int x)]) (st2 := [.int 0]) b_X5_hasRange_22_23 rfl (fun hd => ?_)
    exact R2.ret3 (r := some (.int 0)) hd (Or.inl rfl) rfl (congrArg (fun z => some (Value.int z)) (b2i_f (by clear hd; grind))) rfl
  · refine R2.B (ls2 := [some (.ref 42), some (.int f), some (.int x)]) (st2 := [.int x]) b_X5_hasRange_4_5 rfl (fun hd => ?_)
    refine R2.if_lt 22 hd (by decide) (fun c5 => ?_) (fun c5 => ?_)
    · refine R2.B (ls2 := [some (.ref 42), some (.int f), some (.int x)]) (st2 := [.int 0]) b_X5_hasRange_22_23 rfl (fun hd => ?_)
      exact R2.ret3 (r := some (.int 0)) hd (Or.inl rfl) rfl (congrArg (fun z => some (Value.int z)) (b2i_f (by clear hd; grind))) rfl
    · refine R2.B (ls2 := [some (.ref 42), some (.int f), some (.int x)]) (st2 := [.int ((F 42 3) - x), .int f]) b_X5_hasRange_8_15 rfl (fun hd => ?_)
      refine R2.icmp_gt 22 hd (by decide) (fun c15 => ?_) (fun c15 => ?_)
      · refine R2.B (ls2 := [some (.ref 42), some (.int f), some (.int x)]) (st2 := [.int 0]) b_X5_hasRange_22_23 rfl (fun hd => ?_)
        exact R2.ret3 (r := some (.int 0)) hd (Or.inl rfl) rfl (congrArg (fun z => some (Value.int z)) (b2i_f (by clear hd; grind))) rfl
      · refine R2.B (ls2 := [some (.ref 42), some (.int f), some (.int x)]) (st2 := [.int 1]) b_X5_hasRange_18_23 rfl (fun hd => ?_)
        exact R2.ret3 (r := some (.int 1)) hd (Or.inr rfl) rfl (congrArg (fun z => some (Value.int z)) (b2i_t (by clear hd; grind))) rfl
set_option maxRecDepth 20000 in
set_option maxHeartbeats 1000000 in
theorem ev_store42 (E : EE) (L : Nat) (F : FF) (j : Nat) (v : Int32) (hj : j < 60) (hs : nI j < F 42 3) : Ev3 E L 1 mX5_store [.ref 42, .int (nI j), .int v] F none (up2 F 43 j (nrw (F 42 2) v)) := by
  refine Ev3.of okX5_store.2.2.1 (Nat.le_of_ble_eq_true rfl) ?_
  show R2 E L mX5_store 1 0 [some (.ref 42), some (.int (nI j)), some (.int v)] [] F _
  refine R2.B (ls2 := [some (.ref 42), some (.int (nI j)), some (.int v)]) (st2 := [.int (nI j)]) b_X5_store_0_1 rfl (fun hd => ?_)
  refine R2.if_lt 44 hd (by decide) (fun c1 => absurd c1 (nI_pos (by omega))) (fun c1 => ?_)
  refine R2.B (ls2 := [some (.ref 42), some (.int (nI j)), some (.int v)]) (st2 := [.int (F 42 3), .int (nI j)]) b_X5_store_4_9 rfl (fun hd => ?_)
  refine R2.icmp_ge 44 hd (by decide) (fun c9 => absurd c9 (Int32.not_le.mpr hs)) (fun c9 => ?_)
  refine R2.B (ls2 := [some (.ref 42), some (.int (nI j)), some (.int v)]) (st2 := [.int (F 42 2), .int (nI j), .ref 43]) b_X5_store_12_21 rfl (fun hd => ?_)
  refine R2.if_ne 29 hd (by decide) (fun c21 => ?_) (fun c21 => ?_)
  · refine R2.B (ls2 := [some (.ref 42), some (.int (nI j)), some (.int v)]) (st2 := [.int 1, .int (F 42 2), .int (nI j), .ref 43]) b_X5_store_29_34 rfl (fun hd => ?_)
    refine R2.icmp_ne 42 hd (by decide) (fun c34 => ?_) (fun c34 => ?_)
    · refine R2.B (ls2 := [some (.ref 42), some (.int (nI j)), some (.int v)]) (st2 := [.int v, .int (nI j), .ref 43]) b_X5_store_42_43 rfl (fun hd => ?_)
      refine R2.iast j rfl hd (by decide) rfl (fun _ => rfl) (by decide) (by omega) ?_
      refine R2.B (ls2 := [some (.ref 42), some (.int (nI j)), some (.int v)]) (st2 := []) b_X5_store_44_44 rfl (fun hd => ?_)
      refine R2.ret3 (r := none) hd trivial rfl rfl ?_
      unfold nrw
      first | (rw [if_pos c21]; done) | (rw [if_neg c21, if_pos c34]; done) | (rw [if_neg c21, if_neg c34]; done)
    · refine R2.B (ls2 := [some (.ref 42), some (.int (nI j)), some (.int v)]) (st2 := [.int v.toInt16.toInt32, .int (nI j), .ref 43]) b_X5_store_37_43 rfl (fun hd => ?_)
      refine R2.iast j rfl hd (by decide) rfl (fun _ => rfl) (by decide) (by omega) ?_
      refine R2.B (ls2 := [some (.ref 42), some (.int (nI j)), some (.int v)]) (st2 := []) b_X5_store_44_44 rfl (fun hd => ?_)
      refine R2.ret3 (r := none) hd trivial rfl rfl ?_
      unfold nrw
      first | (rw [if_pos c21]; done) | (rw [if_neg c21, if_pos c34]; done) | (rw [if_neg c21, if_neg c34]; done)
  · refine R2.B (ls2 := [some (.ref 42), some (.int (nI j)), some (.int v)]) (st2 := [.int v.toInt8.toInt32, .int (nI j), .ref 43]) b_X5_store_24_43 rfl (fun hd => ?_)
    refine R2.iast j rfl hd (by decide) rfl (fun _ => rfl) (by decide) (by omega) ?_
    refine R2.B (ls2 := [some (.ref 42), some (.int (nI j)), some (.int v)]) (st2 := []) b_X5_store_44_44 rfl (fun hd => ?_)
    refine R2.ret3 (r := none) hd trivial rfl rfl ?_
    unfold nrw
    first | (rw [if_pos c21]; done) | (rw [if_neg c21, if_pos c34]; done) | (rw [if_neg c21, if_neg c34]; done)
set_option maxRecDepth 20000 in
set_option maxHeartbeats 1000000 in
theorem ev_renew42 (E : EE) (L : Nat) (F : FF) (f x : Int32) : Ev3 E L 2 mX5_renew [.ref 42, .int f, .int x] F none (fillF (up2 (up2 (up2 F 42 1 0) 42 2 f) 42 3 x) 43 60 0) := by
  refine Ev3.of okX5_renew.2.2.1 (Nat.le_of_ble_eq_true rfl) ?_
  show R2 E L mX5_renew 2 0 [some (.ref 42), some (.int f), some (.int x)] [] F _
  refine R2.B (ls2 := [some (.ref 42), some (.int f), some (.int x)]) (st2 := [.int 0, .ref 42]) b_X5_renew_0_2 rfl (fun hd => ?_)
  refine R2.putf (a := 5) (b := 1) hd (by decide) (by decide) rfl rfl (fun _ => rfl) ?_
  refine R2.B (ls2 := [some (.ref 42), some (.int f), some (.int x)]) (st2 := [.int f, .ref 42]) b_X5_renew_5_7 rfl (fun hd => ?_)
  refine R2.putf (a := 5) (b := 2) hd (by decide) (by decide) rfl rfl (fun _ => rfl) ?_
  refine R2.B (ls2 := [some (.ref 42), some (.int f), some (.int x)]) (st2 := [.int x, .ref 42]) b_X5_renew_10_12 rfl (fun hd => ?_)
  refine R2.putf (a := 5) (b := 3) hd (by decide) (by decide) rfl rfl (fun _ => rfl) ?_
  refine R2.B (ls2 := [some (.ref 42), some (.int f), some (.int x)]) (st2 := [.int 0, .ref 43]) b_X5_renew_15_20 rfl (fun hd => ?_)
  refine R2.callS3 (M2 := mJ7_fill_53178) (As := [.ref 43, .int 0]) (rest := []) hd lk_5_26 okJ7_fill_53178 (by decide) (ev_fill E L (up2 (up2 (up2 F 42 1 0) 42 2 f) 42 3 x) 43 60 0 rfl (fun _ => rfl) (by decide) (by decide)) (by decide) rfl rfl (Nat.le_of_ble_eq_true rfl) ?_
  refine R2.B (ls2 := [some (.ref 42), some (.int f), some (.int x)]) (st2 := []) b_X5_renew_23_23 rfl (fun hd => ?_)
  exact R2.ret3 (r := none) hd trivial rfl rfl rfl
set_option maxRecDepth 20000 in
set_option maxHeartbeats 1000000 in
theorem ev_findingAt44 (E : EE) (L : Nat) (F : FF) (f x : Int32) : Ev3 E L 1 mX5_findingAt [.ref 44, .int f, .int x] F (some (.int (fndA (F 44 1) (F 44 2) (F 44 3) f x))) F := by
  refine Ev3.of okX5_findingAt.2.2.1 (Nat.le_of_ble_eq_true rfl) ?_
  show R2 E L mX5_findingAt 1 0 [some (.ref 44), some (.int f), some (.int x)] [] F _
  refine R2.B (ls2 := [some (.ref 44), some (.int f), some (.int x)]) (st2 := [.int (F 44 1)]) b_X5_findingAt_0_4 rfl (fun hd => ?_)
  refine R2.if_eq 9 hd (by decide) (fun c4 => ?_) (fun c4 => ?_)
  · refine R2.B (ls2 := [some (.ref 44), some (.int f), some (.int x)]) (st2 := [.int (F 44 2), .int f]) b_X5_findingAt_9_14 rfl (fun hd => ?_)
    refine R2.icmp_eq 19 hd (by decide) (fun c14 => ?_) (fun c14 => ?_)
    · refine R2.B (ls2 := [some (.ref 44), some (.int f), some (.int x)]) (st2 := [.int x]) b_X5_findingAt_19_20 rfl (fun hd => ?_)
      refine R2.if_lt 31 hd (by decide) (fun c20 => ?_) (fun c20 => ?_)
      · refine R2.B (ls2 := [some (.ref 44), some (.int f), some (.int x)]) (st2 := [.int 2]) b_X5_findingAt_31_36 rfl (fun hd => ?_)
        exact R2.ret3 (r := some (.int 2)) hd trivial rfl (congrArg (fun z => some (Value.int z)) (by clear hd; unfold fndA; grind)) rfl
      · refine R2.B (ls2 := [some (.ref 44), some (.int f), some (.int x)]) (st2 := [.int (F 44 3), .int x]) b_X5_findingAt_23_28 rfl (fun hd => ?_)
        refine R2.icmp_lt 35 hd (by decide) (fun c28 => ?_) (fun c28 => ?_)
        · refine R2.B (ls2 := [some (.ref 44), some (.int f), some (.int x)]) (st2 := [.int 0]) b_X5_findingAt_35_36 rfl (fun hd => ?_)
          exact R2.ret3 (r := some (.int 0)) hd trivial rfl (congrArg (fun z => some (Value.int z)) (by clear hd; unfold fndA; grind)) rfl
        · refine R2.B (ls2 := [some (.ref 44), some (.int f), some (.int x)]) (st2 := [.int 2]) b_X5_findingAt_31_36 rfl (fun hd => ?_)
          exact R2.ret3 (r := some (.int 2)) hd trivial rfl (congrArg (fun z => some (Value.int z)) (by clear hd; unfold fndA; grind)) rfl
    · refine R2.B (ls2 := [some (.ref 44), some (.int f), some (.int x)]) (st2 := [.int 3]) b_X5_findingAt_17_18 rfl (fun hd => ?_)
      exact R2.ret3 (r := some (.int 3)) hd trivial rfl (congrArg (fun z => some (Value.int z)) (by clear hd; unfold fndA; grind)) rfl
  · refine R2.B (ls2 := [some (.ref 44), some (.int f), some (.int x)]) (st2 := [.int 1]) b_X5_findingAt_7_8 rfl (fun hd => ?_)
    exact R2.ret3 (r := some (.int 1)) hd trivial rfl (congrArg (fun z => some (Value.int z)) (by clear hd; unfold fndA; grind)) rfl
set_option maxRecDepth 20000 in
set_option maxHeartbeats 1000000 in
theorem ev_hasRange44 (E : EE) (L : Nat) (F : FF) (f x : Int32) : Ev3 E L 1 mX5_hasRange [.ref 44, .int f, .int x] F (some (.int (b2i (0 ≤ f ∧ 0 ≤ x ∧ f ≤ F 44 3 - x)))) F := by
  refine Ev3.of okX5_hasRange.2.2.1 (Nat.le_of_ble_eq_true rfl) ?_
  show R2 E L mX5_hasRange 1 0 [some (.ref 44), some (.int f), some (.int x)] [] F _
  refine R2.B (ls2 := [some (.ref 44), some (.int f), some (.int x)]) (st2 := [.int f]) b_X5_hasRange_0_1 rfl (fun hd => ?_)
  refine R2.if_lt 22 hd (by decide) (fun c1 => ?_) (fun c1 => ?_)
  · refine R2.B (ls2 := [some (.ref 44), some (.int f), some (.int x)]) (st2 := [.int 0]) b_X5_hasRange_22_23 rfl (fun hd => ?_)
    exact R2.ret3 (r := some (.int 0)) hd (Or.inl rfl) rfl (congrArg (fun z => some (Value.int z)) (b2i_f (by clear hd; grind))) rfl
  · refine R2.B (ls2 := [some (.ref 44), some (.int f), some (.int x)]) (st2 := [.int x]) b_X5_hasRange_4_5 rfl (fun hd => ?_)
    refine R2.if_lt 22 hd (by decide) (fun c5 => ?_) (fun c5 => ?_)
    · refine R2.B (ls2 := [some (.ref 44), some (.int f), some (.int x)]) (st2 := [.int 0]) b_X5_hasRange_22_23 rfl (fun hd => ?_)
      exact R2.ret3 (r := some (.int 0)) hd (Or.inl rfl) rfl (congrArg (fun z => some (Value.int z)) (b2i_f (by clear hd; grind))) rfl
    · refine R2.B (ls2 := [some (.ref 44), some (.int f), some (.int x)]) (st2 := [.int ((F 44 3) - x), .int f]) b_X5_hasRange_8_15 rfl (fun hd => ?_)
      refine R2.icmp_gt 22 hd (by decide) (fun c15 => ?_) (fun c15 => ?_)
      · refine R2.B (ls2 := [some (.ref 44), some (.int f), some (.int x)]) (st2 := [.int 0]) b_X5_hasRange_22_23 rfl (fun hd => ?_)
        exact R2.ret3 (r := some (.int 0)) hd (Or.inl rfl) rfl (congrArg (fun z => some (Value.int z)) (b2i_f (by clear hd; grind))) rfl
      · refine R2.B (ls2 := [some (.ref 44), some (.int f), some (.int x)]) (st2 := [.int 1]) b_X5_hasRange_18_23 rfl (fun hd => ?_)
        exact R2.ret3 (r := some (.int 1)) hd (Or.inr rfl) rfl (congrArg (fun z => some (Value.int z)) (b2i_t (by clear hd; grind))) rfl
set_option maxRecDepth 20000 in
set_option maxHeartbeats 1000000 in
theorem ev_store44 (E : EE) (L : Nat) (F : FF) (j : Nat) (v : Int32) (hj : j < 60) (hs : nI j < F 44 3) : Ev3 E L 1 mX5_store [.ref 44, .int (nI j), .int v] F none (up2 F 45 j (nrw (F 44 2) v)) := by
  refine Ev3.of okX5_store.2.2.1 (Nat.le_of_ble_eq_true rfl) ?_
  show R2 E L mX5_store 1 0 [some (.ref 44), some (.int (nI j)), some (.int v)] [] F _
  refine R2.B (ls2 := [some (.ref 44), some (.int (nI j)), some (.int v)]) (st2 := [.int (nI j)]) b_X5_store_0_1 rfl (fun hd => ?_)
  refine R2.if_lt 44 hd (by decide) (fun c1 => absurd c1 (nI_pos (by omega))) (fun c1 => ?_)
  refine R2.B (ls2 := [some (.ref 44), some (.int (nI j)), some (.int v)]) (st2 := [.int (F 44 3), .int (nI j)]) b_X5_store_4_9 rfl (fun hd => ?_)
  refine R2.icmp_ge 44 hd (by decide) (fun c9 => absurd c9 (Int32.not_le.mpr hs)) (fun c9 => ?_)
  refine R2.B (ls2 := [some (.ref 44), some (.int (nI j)), some (.int v)]) (st2 := [.int (F 44 2), .int (nI j), .ref 45]) b_X5_store_12_21 rfl (fun hd => ?_)
  refine R2.if_ne 29 hd (by decide) (fun c21 => ?_) (fun c21 => ?_)
  · refine R2.B (ls2 := [some (.ref 44), some (.int (nI j)), some (.int v)]) (st2 := [.int 1, .int (F 44 2), .int (nI j), .ref 45]) b_X5_store_29_34 rfl (fun hd => ?_)
    refine R2.icmp_ne 42 hd (by decide) (fun c34 => ?_) (fun c34 => ?_)
    · refine R2.B (ls2 := [some (.ref 44), some (.int (nI j)), some (.int v)]) (st2 := [.int v, .int (nI j), .ref 45]) b_X5_store_42_43 rfl (fun hd => ?_)
      refine R2.iast j rfl hd (by decide) rfl (fun _ => rfl) (by decide) (by omega) ?_
      refine R2.B (ls2 := [some (.ref 44), some (.int (nI j)), some (.int v)]) (st2 := []) b_X5_store_44_44 rfl (fun hd => ?_)
      refine R2.ret3 (r := none) hd trivial rfl rfl ?_
      unfold nrw
      first | (rw [if_pos c21]; done) | (rw [if_neg c21, if_pos c34]; done) | (rw [if_neg c21, if_neg c34]; done)
    · refine R2.B (ls2 := [some (.ref 44), some (.int (nI j)), some (.int v)]) (st2 := [.int v.toInt16.toInt32, .int (nI j), .ref 45]) b_X5_store_37_43 rfl (fun hd => ?_)
      refine R2.iast j rfl hd (by decide) rfl (fun _ => rfl) (by decide) (by omega) ?_
      refine R2.B (ls2 := [some (.ref 44), some (.int (nI j)), some (.int v)]) (st2 := []) b_X5_store_44_44 rfl (fun hd => ?_)
      refine R2.ret3 (r := none) hd trivial rfl rfl ?_
      unfold nrw
      first | (rw [if_pos c21]; done) | (rw [if_neg c21, if_pos c34]; done) | (rw [if_neg c21, if_neg c34]; done)
  · refine R2.B (ls2 := [some (.ref 44), some (.int (nI j)), some (.int v)]) (st2 := [.int v.toInt8.toInt32, .int (nI j), .ref 45]) b_X5_store_24_43 rfl (fun hd => ?_)
    refine R2.iast j rfl hd (by decide) rfl (fun _ => rfl) (by decide) (by omega) ?_
    refine R2.B (ls2 := [some (.ref 44), some (.int (nI j)), some (.int v)]) (st2 := []) b_X5_store_44_44 rfl (fun hd => ?_)
    refine R2.ret3 (r := none) hd trivial rfl rfl ?_
    unfold nrw
    first | (rw [if_pos c21]; done) | (rw [if_neg c21, if_pos c34]; done) | (rw [if_neg c21, if_neg c34]; done)
set_option maxRecDepth 20000 in
set_option maxHeartbeats 1000000 in
theorem ev_renew44 (E : EE) (L : Nat) (F : FF) (f x : Int32) : Ev3 E L 2 mX5_renew [.ref 44, .int f, .int x] F none (fillF (up2 (up2 (up2 F 44 1 0) 44 2 f) 44 3 x) 45 60 0) := by
  refine Ev3.of okX5_renew.2.2.1 (Nat.le_of_ble_eq_true rfl) ?_
  show R2 E L mX5_renew 2 0 [some (.ref 44), some (.int f), some (.int x)] [] F _
  refine R2.B (ls2 := [some (.ref 44), some (.int f), some (.int x)]) (st2 := [.int 0, .ref 44]) b_X5_renew_0_2 rfl (fun hd => ?_)
  refine R2.putf (a := 5) (b := 1) hd (by decide) (by decide) rfl rfl (fun _ => rfl) ?_
  refine R2.B (ls2 := [some (.ref 44), some (.int f), some (.int x)]) (st2 := [.int f, .ref 44]) b_X5_renew_5_7 rfl (fun hd => ?_)
  refine R2.putf (a := 5) (b := 2) hd (by decide) (by decide) rfl rfl (fun _ => rfl) ?_
  refine R2.B (ls2 := [some (.ref 44), some (.int f), some (.int x)]) (st2 := [.int x, .ref 44]) b_X5_renew_10_12 rfl (fun hd => ?_)
  refine R2.putf (a := 5) (b := 3) hd (by decide) (by decide) rfl rfl (fun _ => rfl) ?_
  refine R2.B (ls2 := [some (.ref 44), some (.int f), some (.int x)]) (st2 := [.int 0, .ref 45]) b_X5_renew_15_20 rfl (fun hd => ?_)
  refine R2.callS3 (M2 := mJ7_fill_53178) (As := [.ref 45, .int 0]) (rest := []) hd lk_5_26 okJ7_fill_53178 (by decide) (ev_fill E L (up2 (up2 (up2 F 44 1 0) 44 2 f) 44 3 x) 45 60 0 rfl (fun _ => rfl) (by decide) (by decide)) (by decide) rfl rfl (Nat.le_of_ble_eq_true rfl) ?_
  refine R2.B (ls2 := [some (.ref 44), some (.int f), some (.int x)]) (st2 := []) b_X5_renew_23_23 rfl (fun hd => ?_)
  exact R2.ret3 (r := none) hd trivial rfl rfl rfl
set_option maxRecDepth 20000 in
set_option maxHeartbeats 1000000 in
theorem ev_findingAt46 (E : EE) (L : Nat) (F : FF) (f x : Int32) : Ev3 E L 1 mX5_findingAt [.ref 46, .int f, .int x] F (some (.int (fndA (F 46 1) (F 46 2) (F 46 3) f x))) F := by
  refine Ev3.of okX5_findingAt.2.2.1 (Nat.le_of_ble_eq_true rfl) ?_
  show R2 E L mX5_findingAt 1 0 [some (.ref 46), some (.int f), some (.int x)] [] F _
  refine R2.B (ls2 := [some (.ref 46), some (.int f), some (.int x)]) (st2 := [.int (F 46 1)]) b_X5_findingAt_0_4 rfl (fun hd => ?_)
  refine R2.if_eq 9 hd (by decide) (fun c4 => ?_) (fun c4 => ?_)
  · refine R2.B (ls2 := [some (.ref 46), some (.int f), some (.int x)]) (st2 := [.int (F 46 2), .int f]) b_X5_findingAt_9_14 rfl (fun hd => ?_)
    refine R2.icmp_eq 19 hd (by decide) (fun c14 => ?_) (fun c14 => ?_)
    · refine R2.B (ls2 := [some (.ref 46), some (.int f), some (.int x)]) (st2 := [.int x]) b_X5_findingAt_19_20 rfl (fun hd => ?_)
      refine R2.if_lt 31 hd (by decide) (fun c20 => ?_) (fun c20 => ?_)
      · refine R2.B (ls2 := [some (.ref 46), some (.int f), some (.int x)]) (st2 := [.int 2]) b_X5_findingAt_31_36 rfl (fun hd => ?_)
        exact R2.ret3 (r := some (.int 2)) hd trivial rfl (congrArg (fun z => some (Value.int z)) (by clear hd; unfold fndA; grind)) rfl
      · refine R2.B (ls2 := [some (.ref 46), some (.int f), some (.int x)]) (st2 := [.int (F 46 3), .int x]) b_X5_findingAt_23_28 rfl (fun hd => ?_)
        refine R2.icmp_lt 35 hd (by decide) (fun c28 => ?_) (fun c28 => ?_)
        · refine R2.B (ls2 := [some (.ref 46), some (.int f), some (.int x)]) (st2 := [.int 0]) b_X5_findingAt_35_36 rfl (fun hd => ?_)
          exact R2.ret3 (r := some (.int 0)) hd trivial rfl (congrArg (fun z => some (Value.int z)) (by clear hd; unfold fndA; grind)) rfl
        · refine R2.B (ls2 := [some (.ref 46), some (.int f), some (.int x)]) (st2 := [.int 2]) b_X5_findingAt_31_36 rfl (fun hd => ?_)
          exact R2.ret3 (r := some (.int 2)) hd trivial rfl (congrArg (fun z => some (Value.int z)) (by clear hd; unfold fndA; grind)) rfl
    · refine R2.B (ls2 := [some (.ref 46), some (.int f), some (.int x)]) (st2 := [.int 3]) b_X5_findingAt_17_18 rfl (fun hd => ?_)
      exact R2.ret3 (r := some (.int 3)) hd trivial rfl (congrArg (fun z => some (Value.int z)) (by clear hd; unfold fndA; grind)) rfl
  · refine R2.B (ls2 := [some (.ref 46), some (.int f), some (.int x)]) (st2 := [.int 1]) b_X5_findingAt_7_8 rfl (fun hd => ?_)
    exact R2.ret3 (r := some (.int 1)) hd trivial rfl (congrArg (fun z => some (Value.int z)) (by clear hd; unfold fndA; grind)) rfl
set_option maxRecDepth 20000 in
set_option maxHeartbeats 1000000 in
theorem ev_hasRange46 (E : EE) (L : Nat) (F : FF) (f x : Int32) : Ev3 E L 1 mX5_hasRange [.ref 46, .int f, .int x] F (some (.int (b2i (0 ≤ f ∧ 0 ≤ x ∧ f ≤ F 46 3 - x)))) F := by
  refine Ev3.of okX5_hasRange.2.2.1 (Nat.le_of_ble_eq_true rfl) ?_
  show R2 E L mX5_hasRange 1 0 [some (.ref 46), some (.int f), some (.int x)] [] F _
  refine R2.B (ls2 := [some (.ref 46), some (.int f), some (.int x)]) (st2 := [.int f]) b_X5_hasRange_0_1 rfl (fun hd => ?_)
  refine R2.if_lt 22 hd (by decide) (fun c1 => ?_) (fun c1 => ?_)
  · refine R2.B (ls2 := [some (.ref 46), some (.int f), some (.int x)]) (st2 := [.int 0]) b_X5_hasRange_22_23 rfl (fun hd => ?_)
    exact R2.ret3 (r := some (.int 0)) hd (Or.inl rfl) rfl (congrArg (fun z => some (Value.int z)) (b2i_f (by clear hd; grind))) rfl
  · refine R2.B (ls2 := [some (.ref 46), some (.int f), some (.int x)]) (st2 := [.int x]) b_X5_hasRange_4_5 rfl (fun hd => ?_)
    refine R2.if_lt 22 hd (by decide) (fun c5 => ?_) (fun c5 => ?_)
    · refine R2.B (ls2 := [some (.ref 46), some (.int f), some (.int x)]) (st2 := [.int 0]) b_X5_hasRange_22_23 rfl (fun hd => ?_)
      exact R2.ret3 (r := some (.int 0)) hd (Or.inl rfl) rfl (congrArg (fun z => some (Value.int z)) (b2i_f (by clear hd; grind))) rfl
    · refine R2.B (ls2 := [some (.ref 46), some (.int f), some (.int x)]) (st2 := [.int ((F 46 3) - x), .int f]) b_X5_hasRange_8_15 rfl (fun hd => ?_)
      refine R2.icmp_gt 22 hd (by decide) (fun c15 => ?_) (fun c15 => ?_)
      · refine R2.B (ls2 := [some (.ref 46), some (.int f), some (.int x)]) (st2 := [.int 0]) b_X5_hasRange_22_23 rfl (fun hd => ?_)
        exact R2.ret3 (r := some (.int 0)) hd (Or.inl rfl) rfl (congrArg (fun z => some (Value.int z)) (b2i_f (by clear hd; grind))) rfl
      · refine R2.B (ls2 := [some (.ref 46), some (.int f), some (.int x)]) (st2 := [.int 1]) b_X5_hasRange_18_23 rfl (fun hd => ?_)
        exact R2.ret3 (r := some (.int 1)) hd (Or.inr rfl) rfl (congrArg (fun z => some (Value.int z)) (b2i_t (by clear hd; grind))) rfl
set_option maxRecDepth 20000 in
set_option maxHeartbeats 1000000 in
theorem ev_store46 (E : EE) (L : Nat) (F : FF) (j : Nat) (v : Int32) (hj : j < 60) (hs : nI j < F 46 3) : Ev3 E L 1 mX5_store [.ref 46, .int (nI j), .int v] F none (up2 F 47 j (nrw (F 46 2) v)) := by
  refine Ev3.of okX5_store.2.2.1 (Nat.le_of_ble_eq_true rfl) ?_
  show R2 E L mX5_store 1 0 [some (.ref 46), some (.int (nI j)), some (.int v)] [] F _
  refine R2.B (ls2 := [some (.ref 46), some (.int (nI j)), some (.int v)]) (st2 := [.int (nI j)]) b_X5_store_0_1 rfl (fun hd => ?_)
  refine R2.if_lt 44 hd (by decide) (fun c1 => absurd c1 (nI_pos (by omega))) (fun c1 => ?_)
  refine R2.B (ls2 := [some (.ref 46), some (.int (nI j)), some (.int v)]) (st2 := [.int (F 46 3), .int (nI j)]) b_X5_store_4_9 rfl (fun hd => ?_)
  refine R2.icmp_ge 44 hd (by decide) (fun c9 => absurd c9 (Int32.not_le.mpr hs)) (fun c9 => ?_)
  refine R2.B (ls2 := [some (.ref 46), some (.int (nI j)), some (.int v)]) (st2 := [.int (F 46 2), .int (nI j), .ref 47]) b_X5_store_12_21 rfl (fun hd => ?_)
  refine R2.if_ne 29 hd (by decide) (fun c21 => ?_) (fun c21 => ?_)
  · refine R2.B (ls2 := [some (.ref 46), some (.int (nI j)), some (.int v)]) (st2 := [.int 1, .int (F 46 2), .int (nI j), .ref 47]) b_X5_store_29_34 rfl (fun hd => ?_)
    refine R2.icmp_ne 42 hd (by decide) (fun c34 => ?_) (fun c34 => ?_)
    · refine R2.B (ls2 := [some (.ref 46), some (.int (nI j)), some (.int v)]) (st2 := [.int v, .int (nI j), .ref 47]) b_X5_store_42_43 rfl (fun hd => ?_)
      refine R2.iast j rfl hd (by decide) rfl (fun _ => rfl) (by decide) (by omega) ?_
      refine R2.B (ls2 := [some (.ref 46), some (.int (nI j)), some (.int v)]) (st2 := []) b_X5_store_44_44 rfl (fun hd => ?_)
      refine R2.ret3 (r := none) hd trivial rfl rfl ?_
      unfold nrw
      first | (rw [if_pos c21]; done) | (rw [if_neg c21, if_pos c34]; done) | (rw [if_neg c21, if_neg c34]; done)
    · refine R2.B (ls2 := [some (.ref 46), some (.int (nI j)), some (.int v)]) (st2 := [.int v.toInt16.toInt32, .int (nI j), .ref 47]) b_X5_store_37_43 rfl (fun hd => ?_)
      refine R2.iast j rfl hd (by decide) rfl (fun _ => rfl) (by decide) (by omega) ?_
      refine R2.B (ls2 := [some (.ref 46), some (.int (nI j)), some (.int v)]) (st2 := []) b_X5_store_44_44 rfl (fun hd => ?_)
      refine R2.ret3 (r := none) hd trivial rfl rfl ?_
      unfold nrw
      first | (rw [if_pos c21]; done) | (rw [if_neg c21, if_pos c34]; done) | (rw [if_neg c21, if_neg c34]; done)
  · refine R2.B (ls2 := [some (.ref 46), some (.int (nI j)), some (.int v)]) (st2 := [.int v.toInt8.toInt32, .int (nI j), .ref 47]) b_X5_store_24_43 rfl (fun hd => ?_)
    refine R2.iast j rfl hd (by decide) rfl (fun _ => rfl) (by decide) (by omega) ?_
    refine R2.B (ls2 := [some (.ref 46), some (.int (nI j)), some (.int v)]) (st2 := []) b_X5_store_44_44 rfl (fun hd => ?_)
    refine R2.ret3 (r := none) hd trivial rfl rfl ?_
    unfold nrw
    first | (rw [if_pos c21]; done) | (rw [if_neg c21, if_pos c34]; done) | (rw [if_neg c21, if_neg c34]; done)
set_option maxRecDepth 20000 in
set_option maxHeartbeats 1000000 in
theorem ev_renew46 (E : EE) (L : Nat) (F : FF) (f x : Int32) : Ev3 E L 2 mX5_renew [.ref 46, .int f, .int x] F none (fillF (up2 (up2 (up2 F 46 1 0) 46 2 f) 46 3 x) 47 60 0) := by
  refine Ev3.of okX5_renew.2.2.1 (Nat.le_of_ble_eq_true rfl) ?_
  show R2 E L mX5_renew 2 0 [some (.ref 46), some (.int f), some (.int x)] [] F _
  refine R2.B (ls2 := [some (.ref 46), some (.int f), some (.int x)]) (st2 := [.int 0, .ref 46]) b_X5_renew_0_2 rfl (fun hd => ?_)
  refine R2.putf (a := 5) (b := 1) hd (by decide) (by decide) rfl rfl (fun _ => rfl) ?_
  refine R2.B (ls2 := [some (.ref 46), some (.int f), some (.int x)]) (st2 := [.int f, .ref 46]) b_X5_renew_5_7 rfl (fun hd => ?_)
  refine R2.putf (a := 5) (b := 2) hd (by decide) (by decide) rfl rfl (fun _ => rfl) ?_
  refine R2.B (ls2 := [some (.ref 46), some (.int f), some (.int x)]) (st2 := [.int x, .ref 46]) b_X5_renew_10_12 rfl (fun hd => ?_)
  refine R2.putf (a := 5) (b := 3) hd (by decide) (by decide) rfl rfl (fun _ => rfl) ?_
  refine R2.B (ls2 := [some (.ref 46), some (.int f), some (.int x)]) (st2 := [.int 0, .ref 47]) b_X5_renew_15_20 rfl (fun hd => ?_)
  refine R2.callS3 (M2 := mJ7_fill_53178) (As := [.ref 47, .int 0]) (rest := []) hd lk_5_26 okJ7_fill_53178 (by decide) (ev_fill E L (up2 (up2 (up2 F 46 1 0) 46 2 f) 46 3 x) 47 60 0 rfl (fun _ => rfl) (by decide) (by decide)) (by decide) rfl rfl (Nat.le_of_ble_eq_true rfl) ?_
  refine R2.B (ls2 := [some (.ref 46), some (.int f), some (.int x)]) (st2 := []) b_X5_renew_23_23 rfl (fun hd => ?_)
  exact R2.ret3 (r := none) hd trivial rfl rfl rfl
