/-! The public methods. Printed by wip/whole/gen/spec11.py. -/
theorem plcF_row {F : FF} {l p a : Nat} (h1 : a ≠ 11) (h2 : a ≠ 12) (h3 : a ≠ 13) (h4 : a ≠ 14) (h5 : a ≠ 15) : plcF F l p a = F a := by unfold plcF; funext j; simp [up2, h1, h2, h3, h4, h5]
theorem plcL_row {l a : Nat} (h1 : a ≠ 11) (h2 : a ≠ 12) (h3 : a ≠ 13) (h4 : a ≠ 14) (h5 : a ≠ 15) : ∀ (k p : Nat) (F : FF), plcL l k p F a = F a
  | 0, _, _ => rfl
  | k + 1, p, F => by rw [plcL, plcL_row h1 h2 h3 h4 h5 k, plcF_row h1 h2 h3 h4 h5]
theorem tellF_row {F : FF} {l a : Nat} (h0 : a ≠ 10) (h1 : a ≠ 11) (h2 : a ≠ 12) (h3 : a ≠ 13) (h4 : a ≠ 14) (h5 : a ≠ 15) : tellF F l a = F a := by unfold tellF; rw [plcL_row h1 h2 h3 h4 h5]; funext j; simp [up2, h0]
theorem tellF_10 {F : FF} {l : Nat} : tellF F l 10 = up2 (up2 F 10 6 (cFlt l (F 7) l 0)) 10 5 (nI (cCnt l (F 7))) 10 := by unfold tellF; rw [plcL_row (by decide) (by decide) (by decide) (by decide) (by decide)]
theorem cCnt_le (l : Nat) (b : Nat → Int32) : cCnt l b ≤ 10 := by unfold cCnt; split <;> (try split) <;> omega
theorem b_X10_isPerson_0_1 : bl2 mX10_isPerson 0 [(.iload_n 1, 1, 1, 0, .null)] 1 (.ifCond .lt 18) 3 = true := by decide +kernel
theorem b_X10_isPerson_19_20 : bl2 mX10_isPerson 19 [(.iconst 0, 1, 0, 0, .int 0)] 20 (.ireturn) 1 = true := by decide +kernel
theorem b_X10_isPerson_4_12 : bl2 mX10_isPerson 4 [(.iload_n 1, 1, 1, 0, .null), (.aload_n 0, 1, 0, 0, .null), (.getfield 24, 3, 10, 2, .null), (.getfield 290, 3, 0, 5, .null)] 12 (.if_icmp .ge 7) 3 = true := by decide +kernel
theorem b_X10_isPerson_15_20 : bl2 mX10_isPerson 15 [(.iconst 1, 1, 0, 0, .int 1), (.goto 4, 3, 20, 0, .null)] 20 (.ireturn) 1 = true := by decide +kernel
set_option maxRecDepth 20000 in
set_option maxHeartbeats 1000000 in
theorem ev_isPerson (E : EE) (L : Nat) (F : FF) (p : Int32) : Ev3 E L 1 mX10_isPerson [.ref 5, .int p] F (some (.int (b2i (0 ≤ p ∧ p < F 10 5)))) F := by
  refine Ev3.of okX10_isPerson.2.2.1 (Nat.le_of_ble_eq_true rfl) ?_
  show R2 E L mX10_isPerson 1 0 [some (.ref 5), some (.int p)] [] F _
  refine R2.B (ls2 := [some (.ref 5), some (.int p)]) (st2 := [.int p]) b_X10_isPerson_0_1 rfl (fun hd => ?_)
  refine R2.if_lt 19 hd (by decide) (fun c1 => ?_) (fun c1 => ?_)
  · refine R2.B (ls2 := [some (.ref 5), some (.int p)]) (st2 := [.int 0]) b_X10_isPerson_19_20 rfl (fun hd => ?_)
    exact R2.ret3 (r := some (.int 0)) hd (Or.inl rfl) rfl (congrArg (fun z => some (Value.int z)) (b2i_f (by clear hd; grind))) rfl
  · refine R2.B (ls2 := [some (.ref 5), some (.int p)]) (st2 := [.int (F 10 5), .int p]) b_X10_isPerson_4_12 rfl (fun hd => ?_)
    refine R2.icmp_ge 19 hd (by decide) (fun c12 => ?_) (fun c12 => ?_)
    · refine R2.B (ls2 := [some (.ref 5), some (.int p)]) (st2 := [.int 0]) b_X10_isPerson_19_20 rfl (fun hd => ?_)
      exact R2.ret3 (r := some (.int 0)) hd (Or.inl rfl) rfl (congrArg (fun z => some (Value.int z)) (b2i_f (by clear hd; grind))) rfl
    · refine R2.B (ls2 := [some (.ref 5), some (.int p)]) (st2 := [.int 1]) b_X10_isPerson_15_20 rfl (fun hd => ?_)
      exact R2.ret3 (r := some (.int 1)) hd (Or.inr rfl) rfl (congrArg (fun z => some (Value.int z)) (b2i_t (by clear hd; grind))) rfl
theorem b_X10_areTwo_0_2 : bl2 mX10_areTwo 0 [(.aload_n 0, 1, 0, 0, .null), (.iload_n 1, 1, 1, 0, .null)] 2 (.invokevirtual 131) 3 = true := by decide +kernel
theorem b_X10_areTwo_5_5 : bl2 mX10_areTwo 5 [] 5 (.ifCond .eq 20) 3 = true := by decide +kernel
theorem b_X10_areTwo_25_26 : bl2 mX10_areTwo 25 [(.iconst 0, 1, 0, 0, .int 0)] 26 (.ireturn) 1 = true := by decide +kernel
theorem b_X10_areTwo_8_10 : bl2 mX10_areTwo 8 [(.aload_n 0, 1, 0, 0, .null), (.iload_n 2, 1, 2, 0, .null)] 10 (.invokevirtual 131) 3 = true := by decide +kernel
theorem b_X10_areTwo_13_13 : bl2 mX10_areTwo 13 [] 13 (.ifCond .eq 12) 3 = true := by decide +kernel
theorem b_X10_areTwo_16_18 : bl2 mX10_areTwo 16 [(.iload_n 1, 1, 1, 0, .null), (.iload_n 2, 1, 2, 0, .null)] 18 (.if_icmp .eq 7) 3 = true := by decide +kernel
theorem b_X10_areTwo_21_26 : bl2 mX10_areTwo 21 [(.iconst 1, 1, 0, 0, .int 1), (.goto 4, 3, 26, 0, .null)] 26 (.ireturn) 1 = true := by decide +kernel
set_option maxRecDepth 20000 in
set_option maxHeartbeats 1000000 in
theorem ev_areTwo (E : EE) (L : Nat) (F : FF) (a b : Int32) : Ev3 E L 2 mX10_areTwo [.ref 5, .int a, .int b] F (some (.int (b2i (0 ≤ a ∧ a < F 10 5 ∧ 0 ≤ b ∧ b < F 10 5 ∧ ¬ a = b)))) F := by
  refine Ev3.of okX10_areTwo.2.2.1 (Nat.le_of_ble_eq_true rfl) ?_
  show R2 E L mX10_areTwo 2 0 [some (.ref 5), some (.int a), some (.int b)] [] F _
  refine R2.B (ls2 := [some (.ref 5), some (.int a), some (.int b)]) (st2 := [.int a, .ref 5]) b_X10_areTwo_0_2 rfl (fun hd => ?_)
  refine R2.callV3 (M2 := mX10_isPerson) (As := [.int a]) (rest := []) hd lk_10_131 okX10_isPerson (by decide) rfl (ev_isPerson E L F a) (by decide) rfl rfl (Nat.le_of_ble_eq_true rfl) ?_
  refine R2.B (ls2 := [some (.ref 5), some (.int a), some (.int b)]) (st2 := [.int (b2i (0 ≤ a ∧ a < F 10 5))]) b_X10_areTwo_5_5 rfl (fun hd => ?_)
  refine R2.if_eq 25 hd (by decide) (fun c5 => ?_) (fun c5 => ?_)
  · have nc5 : ¬ (0 ≤ a ∧ a < F 10 5) := b2i_zero.mp c5
    refine R2.B (ls2 := [some (.ref 5), some (.int a), some (.int b)]) (st2 := [.int 0]) b_X10_areTwo_25_26 rfl (fun hd => ?_)
    exact R2.ret3 (r := some (.int 0)) hd (Or.inl rfl) rfl (congrArg (fun z => some (Value.int z)) (b2i_f (by clear hd; grind))) rfl
  · have nc5 : 0 ≤ a ∧ a < F 10 5 := b2i_nz.mp c5
    refine R2.B (ls2 := [some (.ref 5), some (.int a), some (.int b)]) (st2 := [.int b, .ref 5]) b_X10_areTwo_8_10 rfl (fun hd => ?_)
    refine R2.callV3 (M2 := mX10_isPerson) (As := [.int b]) (rest := []) hd lk_10_131 okX10_isPerson (by decide) rfl (ev_isPerson E L F b) (by decide) rfl rfl (Nat.le_of_ble_eq_true rfl) ?_
    refine R2.B (ls2 := [some (.ref 5), some (.int a), some (.int b)]) (st2 := [.int (b2i (0 ≤ b ∧ b < F 10 5))]) b_X10_areTwo_13_13 rfl (fun hd => ?_)
    refine R2.if_eq 25 hd (by decide) (fun c13 => ?_) (fun c13 => ?_)
    · have nc13 : ¬ (0 ≤ b ∧ b < F 10 5) := b2i_zero.mp c13
      refine R2.B (ls2 := [some (.ref 5), some (.int a), some (.int b)]) (st2 := [.int 0]) b_X10_areTwo_25_26 rfl (fun hd => ?_)
      exact R2.ret3 (r := some (.int 0)) hd (Or.inl rfl) rfl (congrArg (fun z => some (Value.int z)) (b2i_f (by clear hd; grind))) rfl
    · have nc13 : 0 ≤ b ∧ b < F 10 5 := b2i_nz.mp c13
      refine R2.B (ls2 := [some (.ref 5), some (.int a), some (.int b)]) (st2 := [.int b, .int a]) b_X10_areTwo_16_18 rfl (fun hd => ?_)
      refine R2.icmp_eq 25 hd (by decide) (fun c18 => ?_) (fun c18 => ?_)
      · refine R2.B (ls2 := [some (.ref 5), some (.int a), some (.int b)]) (st2 := [.int 0]) b_X10_areTwo_25_26 rfl (fun hd => ?_)
        exact R2.ret3 (r := some (.int 0)) hd (Or.inl rfl) rfl (congrArg (fun z => some (Value.int z)) (b2i_f (by clear hd; grind))) rfl
      · refine R2.B (ls2 := [some (.ref 5), some (.int a), some (.int b)]) (st2 := [.int 1]) b_X10_areTwo_21_26 rfl (fun hd => ?_)
        exact R2.ret3 (r := some (.int 1)) hd (Or.inr rfl) rfl (congrArg (fun z => some (Value.int z)) (b2i_t (by clear hd; grind))) rfl
theorem b_X10_found_0_2 : bl2 mX10_found 0 [(.aload_n 0, 1, 0, 0, .null), (.iload_n 1, 1, 1, 0, .null)] 2 (.putfield 88) 3 = true := by decide +kernel
theorem b_X10_found_5_9 : bl2 mX10_found 5 [(.bipush (-10), 2, 0, 0, .int (-10)), (.iload_n 1, 1, 1, 0, .null), (.isub, 1, 0, 0, .null)] 9 (.ireturn) 1 = true := by decide +kernel
set_option maxRecDepth 20000 in
set_option maxHeartbeats 1000000 in
theorem ev_found (E : EE) (L : Nat) (F : FF) (x : Int32) : Ev3 E L 1 mX10_found [.ref 5, .int x] F (some (.int (-10 - x))) (up2 F 5 11 x) := by
  refine Ev3.of okX10_found.2.2.1 (Nat.le_of_ble_eq_true rfl) ?_
  show R2 E L mX10_found 1 0 [some (.ref 5), some (.int x)] [] F _
  refine R2.B (ls2 := [some (.ref 5), some (.int x)]) (st2 := [.int x, .ref 5]) b_X10_found_0_2 rfl (fun hd => ?_)
  refine R2.putf (a := 10) (b := 11) hd (by decide) (by decide) rfl rfl (fun _ => rfl) ?_
  refine R2.B (ls2 := [some (.ref 5), some (.int x)]) (st2 := [.int ((-10) - x)]) b_X10_found_5_9 rfl (fun hd => ?_)
  exact R2.ret3 (r := some (.int ((-10) - x))) hd trivial rfl rfl rfl
theorem b_X10_textOf_0_1 : bl2 mX10_textOf 0 [(.iload_n 1, 1, 1, 0, .null)] 1 (.ifCond .ne 10) 3 = true := by decide +kernel
theorem b_X10_textOf_4_15 : bl2 mX10_textOf 4 [(.aload_n 0, 1, 0, 0, .null), (.getfield 14, 3, 10, 0, .null), (.goto 7, 3, 15, 0, .null)] 15 (.areturn) 1 = true := by decide +kernel
set_option maxRecDepth 20000 in
set_option maxHeartbeats 1000000 in
theorem ev_textOf0 (E : EE) (L : Nat) (F : FF) : Ev3 E L 1 mX10_textOf [.ref 5, .int 0] F (some (.ref 6)) F := by
  refine Ev3.of okX10_textOf.2.2.1 (Nat.le_of_ble_eq_true rfl) ?_
  show R2 E L mX10_textOf 1 0 [some (.ref 5), some (.int 0)] [] F _
  refine R2.B (ls2 := [some (.ref 5), some (.int 0)]) (st2 := [.int 0]) b_X10_textOf_0_1 rfl (fun hd => ?_)
  refine R2.if_ne 11 hd (by decide) (fun c1 => absurd (by decide) c1) (fun c1 => ?_)
  refine R2.B (ls2 := [some (.ref 5), some (.int 0)]) (st2 := [.ref 6]) b_X10_textOf_4_15 rfl (fun hd => ?_)
  exact R2.ret3 (r := some (.ref 6)) hd trivial rfl rfl rfl
theorem b_X10_textOf_11_15 : bl2 mX10_textOf 11 [(.aload_n 0, 1, 0, 0, .null), (.getfield 18, 3, 10, 1, .null)] 15 (.areturn) 1 = true := by decide +kernel
set_option maxRecDepth 20000 in
set_option maxHeartbeats 1000000 in
theorem ev_textOf1 (E : EE) (L : Nat) (F : FF) : Ev3 E L 1 mX10_textOf [.ref 5, .int 1] F (some (.ref 8)) F := by
  refine Ev3.of okX10_textOf.2.2.1 (Nat.le_of_ble_eq_true rfl) ?_
  show R2 E L mX10_textOf 1 0 [some (.ref 5), some (.int 1)] [] F _
  refine R2.B (ls2 := [some (.ref 5), some (.int 1)]) (st2 := [.int 1]) b_X10_textOf_0_1 rfl (fun hd => ?_)
  refine R2.if_ne 11 hd (by decide) (fun c1 => ?_) (fun c1 => absurd c1 (by decide))
  refine R2.B (ls2 := [some (.ref 5), some (.int 1)]) (st2 := [.ref 8]) b_X10_textOf_11_15 rfl (fun hd => ?_)
  exact R2.ret3 (r := some (.ref 8)) hd trivial rfl rfl rfl
theorem b_X10_takeIn_0_1 : bl2 mX10_takeIn 0 [(.iload_n 1, 1, 1, 0, .null)] 1 (.ifCond .ne 14) 3 = true := by decide +kernel
theorem b_X10_takeIn_4_12 : bl2 mX10_takeIn 4 [(.aload_n 0, 1, 0, 0, .null), (.getfield 24, 3, 10, 2, .null), (.aload_n 0, 1, 0, 0, .null), (.getfield 14, 3, 10, 0, .null)] 12 (.invokevirtual 318) 3 = true := by decide +kernel
theorem b_X10_takeIn_15_30 : bl2 mX10_takeIn 15 [(.aload_n 0, 1, 0, 0, .null), (.getfield 40, 3, 10, 4, .null), (.aload_n 0, 1, 0, 0, .null), (.getfield 18, 3, 10, 1, .null), (.aload_n 0, 1, 0, 0, .null), (.getfield 24, 3, 10, 2, .null), (.getfield 290, 3, 0, 5, .null)] 30 (.invokevirtual 322) 3 = true := by decide +kernel
theorem b_X10_takeIn_33_33 : bl2 mX10_takeIn 33 [] 33 (.return_) 1 = true := by decide +kernel
set_option maxRecDepth 20000 in
set_option maxHeartbeats 1000000 in
theorem ev_takeIn0 (E : EE) (L : Nat) (F : FF) (l0 l1 : Nat) (h6 : F 6 1 = nI l0) (hl0 : l0 ≤ 90) (h8 : F 8 1 = nI l1) (hl1 : l1 ≤ 60) : Ev3 E L 7 mX10_takeIn [.ref 5, .int 0] F none (tfF (tellF F l0) l1 (cCnt l0 (F 7))) := by
  refine Ev3.of okX10_takeIn.2.2.1 (Nat.le_of_ble_eq_true rfl) ?_
  show R2 E L mX10_takeIn 7 0 [some (.ref 5), some (.int 0)] [] F _
  refine R2.B (ls2 := [some (.ref 5), some (.int 0)]) (st2 := [.int 0]) b_X10_takeIn_0_1 rfl (fun hd => ?_)
  refine R2.if_ne 15 hd (by decide) (fun c1 => absurd (by decide) c1) (fun c1 => ?_)
  refine R2.B (ls2 := [some (.ref 5), some (.int 0)]) (st2 := [.ref 6, .ref 10]) b_X10_takeIn_4_12 rfl (fun hd => ?_)
  refine R2.callV3 (M2 := mX0_tell) (As := [.ref 6]) (rest := []) hd lk_10_318 okX0_tell (by decide) rfl (ev_tell E L F l0 h6 hl0) (by decide) rfl rfl (Nat.le_of_ble_eq_true rfl) ?_
  refine R2.B (ls2 := [some (.ref 5), some (.int 0)]) (st2 := [.int ((tellF F l0) 10 5), .ref 8, .ref 18]) b_X10_takeIn_15_30 rfl (fun hd => ?_)
  rw [show ((tellF F l0) 10 5 : Int32) = nI (cCnt l0 (F 7)) from (by rw [tellF_10]; rfl)]
  refine R2.callV3 (M2 := mX1_tell) (As := [.ref 8, .int (nI (cCnt l0 (F 7)))]) (rest := []) hd lk_10_322 okX1_tell (by decide) rfl (ev_fairTell E L (tellF F l0) l1 (cCnt l0 (F 7)) hl1 (cCnt_le _ _) (by rw [tellF_row (by decide) (by decide) (by decide) (by decide) (by decide) (by decide)]; exact h8)) (by decide) rfl rfl (Nat.le_of_ble_eq_true rfl) ?_
  refine R2.B (ls2 := [some (.ref 5), some (.int 0)]) (st2 := []) b_X10_takeIn_33_33 rfl (fun hd => ?_)
  exact R2.ret3 (r := none) hd trivial rfl rfl rfl
set_option maxRecDepth 20000 in
set_option maxHeartbeats 1000000 in
theorem ev_takeIn1 (E : EE) (L : Nat) (F : FF) (n : Nat) (hn : F 10 5 = nI n) (hn10 : n ≤ 10) (l1 : Nat) (h8 : F 8 1 = nI l1) (hl1 : l1 ≤ 60) : Ev3 E L 7 mX10_takeIn [.ref 5, .int 1] F none (tfF F l1 n) := by
  refine Ev3.of okX10_takeIn.2.2.1 (Nat.le_of_ble_eq_true rfl) ?_
  show R2 E L mX10_takeIn 7 0 [some (.ref 5), some (.int 1)] [] F _
  refine R2.B (ls2 := [some (.ref 5), some (.int 1)]) (st2 := [.int 1]) b_X10_takeIn_0_1 rfl (fun hd => ?_)
  refine R2.if_ne 15 hd (by decide) (fun c1 => ?_) (fun c1 => absurd c1 (by decide))
  refine R2.B (ls2 := [some (.ref 5), some (.int 1)]) (st2 := [.int (F 10 5), .ref 8, .ref 18]) b_X10_takeIn_15_30 rfl (fun hd => ?_)
  rw [show (F 10 5 : Int32) = nI n from hn]
  refine R2.callV3 (M2 := mX1_tell) (As := [.ref 8, .int (nI n)]) (rest := []) hd lk_10_322 okX1_tell (by decide) rfl (ev_fairTell E L F l1 n hl1 hn10 h8) (by decide) rfl rfl (Nat.le_of_ble_eq_true rfl) ?_
  refine R2.B (ls2 := [some (.ref 5), some (.int 1)]) (st2 := []) b_X10_takeIn_33_33 rfl (fun hd => ?_)
  exact R2.ret3 (r := none) hd trivial rfl rfl rfl
theorem b_X10_type_0_1 : bl2 mX10_type 0 [(.iload_n 1, 1, 1, 0, .null)] 1 (.invokestatic 92) 3 = true := by decide +kernel
theorem b_X10_type_4_4 : bl2 mX10_type 4 [] 4 (.ifCond .eq 14) 3 = true := by decide +kernel
theorem b_X10_type_18_20 : bl2 mX10_type 18 [(.bipush (-2), 2, 0, 0, .int (-2))] 20 (.ireturn) 1 = true := by decide +kernel
theorem b_X10_type_7_8 : bl2 mX10_type 7 [(.iload_n 2, 1, 2, 0, .null)] 8 (.ifCond .lt 10) 3 = true := by decide +kernel
theorem b_X10_type_11_15 : bl2 mX10_type 11 [(.iload_n 2, 1, 2, 0, .null), (.sipush 255, 3, 0, 0, .int 255)] 15 (.if_icmp .le 6) 3 = true := by decide +kernel
theorem b_X10_type_21_21 : bl2 mX10_type 21 [] 21 (.aload_n 0) 1 = true := by decide +kernel
set_option maxRecDepth 20000 in
set_option maxHeartbeats 1000000 in
theorem x_type_bad (E : EE) (L : Nat) (F : FF) (t b : Int32) (h : ¬ (t = 0 ∨ t = 1) ∨ b < 0 ∨ 255 < b) : Ev3 E L 8 mX10_type [.ref 5, .int t, .int b] F (some (.int (-2))) F := by
  refine Ev3.of okX10_type.2.2.1 (Nat.le_of_ble_eq_true rfl) ?_
  show R2 E L mX10_type 8 0 [some (.ref 5), some (.int t), some (.int b), none] [] F _
  refine R2.B (ls2 := [some (.ref 5), some (.int t), some (.int b), none]) (st2 := [.int t]) b_X10_type_0_1 rfl (fun hd => ?_)
  refine R2.callS3 (M2 := mX10_isText) (As := [.int t]) (rest := []) hd lk_10_92 okX10_isText (by decide) (ev_isText E L F t) (by decide) rfl rfl (Nat.le_of_ble_eq_true rfl) ?_
  refine R2.B (ls2 := [some (.ref 5), some (.int t), some (.int b), none]) (st2 := [.int (b2i (t = 0 ∨ t = 1))]) b_X10_type_4_4 rfl (fun hd => ?_)
  refine R2.if_eq 18 hd (by decide) (fun c4 => ?_) (fun c4 => ?_)
  · have nc4 : ¬ (t = 0 ∨ t = 1) := b2i_zero.mp c4
    refine R2.B (ls2 := [some (.ref 5), some (.int t), some (.int b), none]) (st2 := [.int (-2)]) b_X10_type_18_20 rfl (fun hd => ?_)
    exact R2.ret3 (r := some (.int (-2))) hd trivial rfl rfl rfl
  · have nc4 : t = 0 ∨ t = 1 := b2i_nz.mp c4
    refine R2.B (ls2 := [some (.ref 5), some (.int t), some (.int b), none]) (st2 := [.int b]) b_X10_type_7_8 rfl (fun hd => ?_)
    refine R2.if_lt 18 hd (by decide) (fun c8 => ?_) (fun c8 => ?_)
    · refine R2.B (ls2 := [some (.ref 5), some (.int t), some (.int b), none]) (st2 := [.int (-2)]) b_X10_type_18_20 rfl (fun hd => ?_)
      exact R2.ret3 (r := some (.int (-2))) hd trivial rfl rfl rfl
    · refine R2.B (ls2 := [some (.ref 5), some (.int t), some (.int b), none]) (st2 := [.int 255, .int b]) b_X10_type_11_15 rfl (fun hd => ?_)
      refine R2.icmp_le 21 hd (by decide) (fun c15 => ?_) (fun c15 => ?_)
      · refine R2.B (ls2 := [some (.ref 5), some (.int t), some (.int b), none]) (st2 := []) b_X10_type_21_21 rfl (fun hd => ?_)
        exact False.elim (by clear hd; grind)
      · refine R2.B (ls2 := [some (.ref 5), some (.int t), some (.int b), none]) (st2 := [.int (-2)]) b_X10_type_18_20 rfl (fun hd => ?_)
        exact R2.ret3 (r := some (.int (-2))) hd trivial rfl rfl rfl
theorem b_X10_type_21_23 : bl2 mX10_type 21 [(.aload_n 0, 1, 0, 0, .null), (.iload_n 1, 1, 1, 0, .null)] 23 (.invokevirtual 96) 3 = true := by decide +kernel
theorem b_X10_type_26_28 : bl2 mX10_type 26 [(.astore_n 3, 1, 3, 0, .null), (.aload_n 3, 1, 3, 0, .null)] 28 (.invokevirtual 100) 3 = true := by decide +kernel
theorem b_X10_type_31_31 : bl2 mX10_type 31 [] 31 (.ifCond .eq 6) 3 = true := by decide +kernel
theorem b_X10_type_34_36 : bl2 mX10_type 34 [(.bipush (-4), 2, 0, 0, .int (-4))] 36 (.ireturn) 1 = true := by decide +kernel
set_option maxRecDepth 20000 in
set_option maxHeartbeats 1000000 in
theorem x_type_full0 (E : EE) (L : Nat) (F : FF) (b : Int32) (hb : 0 ≤ b ∧ b ≤ 255) (hf : ¬ F 6 1 < 90) : Ev3 E L 8 mX10_type [.ref 5, .int 0, .int b] F (some (.int (-4))) F := by
  refine Ev3.of okX10_type.2.2.1 (Nat.le_of_ble_eq_true rfl) ?_
  show R2 E L mX10_type 8 0 [some (.ref 5), some (.int 0), some (.int b), none] [] F _
  refine R2.B (ls2 := [some (.ref 5), some (.int 0), some (.int b), none]) (st2 := [.int 0]) b_X10_type_0_1 rfl (fun hd => ?_)
  refine R2.callS3 (M2 := mX10_isText) (As := [.int 0]) (rest := []) hd lk_10_92 okX10_isText (by decide) (ev_isText E L F 0) (by decide) rfl rfl (Nat.le_of_ble_eq_true rfl) ?_
  refine R2.B (ls2 := [some (.ref 5), some (.int 0), some (.int b), none]) (st2 := [.int (b2i (0 = 0 ∨ 0 = 1))]) b_X10_type_4_4 rfl (fun hd => ?_)
  refine R2.if_eq 18 hd (by decide) (fun c4 => absurd c4 (by decide)) (fun c4 => ?_)
  refine R2.B (ls2 := [some (.ref 5), some (.int 0), some (.int b), none]) (st2 := [.int b]) b_X10_type_7_8 rfl (fun hd => ?_)
  refine R2.if_lt 18 hd (by decide) (fun c8 => ?_) (fun c8 => ?_)
  · refine R2.B (ls2 := [some (.ref 5), some (.int 0), some (.int b), none]) (st2 := [.int (-2)]) b_X10_type_18_20 rfl (fun hd => ?_)
    exact False.elim (by clear hd; grind)
  · refine R2.B (ls2 := [some (.ref 5), some (.int 0), some (.int b), none]) (st2 := [.int 255, .int b]) b_X10_type_11_15 rfl (fun hd => ?_)
    refine R2.icmp_le 21 hd (by decide) (fun c15 => ?_) (fun c15 => ?_)
    · refine R2.B (ls2 := [some (.ref 5), some (.int 0), some (.int b), none]) (st2 := [.int 0, .ref 5]) b_X10_type_21_23 rfl (fun hd => ?_)
      refine R2.callV3 (M2 := mX10_textOf) (As := [.int 0]) (rest := []) hd lk_10_96 okX10_textOf (by decide) rfl (ev_textOf0 E L F) (by decide) rfl rfl (Nat.le_of_ble_eq_true rfl) ?_
      refine R2.B (ls2 := [some (.ref 5), some (.int 0), some (.int b), some (.ref 6)]) (st2 := [.ref 6]) b_X10_type_26_28 rfl (fun hd => ?_)
      refine R2.callV3 (M2 := mX7_isFull) (As := []) (rest := []) hd lk_10_100 okX7_isFull (by decide) rfl (ev_isFull6 E L _) (by decide) rfl rfl (Nat.le_of_ble_eq_true rfl) ?_
      refine R2.B (ls2 := [some (.ref 5), some (.int 0), some (.int b), some (.ref 6)]) (st2 := [.int (b2i (¬ F 6 1 < 90))]) b_X10_type_31_31 rfl (fun hd => ?_)
      refine R2.if_eq 37 hd (by decide) (fun c31 => absurd c31 (b2i_nz.mpr hf)) (fun c31 => ?_)
      refine R2.B (ls2 := [some (.ref 5), some (.int 0), some (.int b), some (.ref 6)]) (st2 := [.int (-4)]) b_X10_type_34_36 rfl (fun hd => ?_)
      exact R2.ret3 (r := some (.int (-4))) hd trivial rfl rfl rfl
    · refine R2.B (ls2 := [some (.ref 5), some (.int 0), some (.int b), none]) (st2 := [.int (-2)]) b_X10_type_18_20 rfl (fun hd => ?_)
      exact False.elim (by clear hd; grind)
theorem b_X10_type_37_39 : bl2 mX10_type 37 [(.aload_n 3, 1, 3, 0, .null), (.iload_n 2, 1, 2, 0, .null)] 39 (.invokevirtual 104) 3 = true := by decide +kernel
theorem b_X10_type_42_44 : bl2 mX10_type 42 [(.aload_n 0, 1, 0, 0, .null), (.iload_n 1, 1, 1, 0, .null)] 44 (.invokevirtual 107) 3 = true := by decide +kernel
theorem b_X10_type_47_48 : bl2 mX10_type 47 [(.aload_n 3, 1, 3, 0, .null)] 48 (.invokevirtual 110) 3 = true := by decide +kernel
theorem b_X10_type_51_51 : bl2 mX10_type 51 [] 51 (.ireturn) 1 = true := by decide +kernel
set_option maxRecDepth 20000 in
set_option maxHeartbeats 1000000 in
theorem x_type_ok0 (E : EE) (L : Nat) (F : FF) (b : Int32) (hb : 0 ≤ b ∧ b ≤ 255) (l0 l1 : Nat) (h6 : F 6 1 = nI l0) (hl0 : l0 < 90) (h8 : F 8 1 = nI l1) (hl1 : l1 ≤ 60) : Ev3 E L 8 mX10_type [.ref 5, .int 0, .int b] F (some (.int ((tfF (tellF (up2 (up2 F 7 l0 b) 6 1 (nI (l0 + 1))) (l0 + 1)) l1 (cCnt (l0 + 1) ((up2 (up2 F 7 l0 b) 6 1 (nI (l0 + 1))) 7))) 6 1))) (tfF (tellF (up2 (up2 F 7 l0 b) 6 1 (nI (l0 + 1))) (l0 + 1)) l1 (cCnt (l0 + 1) ((up2 (up2 F 7 l0 b) 6 1 (nI (l0 + 1))) 7))) := by
  refine Ev3.of okX10_type.2.2.1 (Nat.le_of_ble_eq_true rfl) ?_
  show R2 E L mX10_type 8 0 [some (.ref 5), some (.int 0), some (.int b), none] [] F _
  refine R2.B (ls2 := [some (.ref 5), some (.int 0), some (.int b), none]) (st2 := [.int 0]) b_X10_type_0_1 rfl (fun hd => ?_)
  refine R2.callS3 (M2 := mX10_isText) (As := [.int 0]) (rest := []) hd lk_10_92 okX10_isText (by decide) (ev_isText E L F 0) (by decide) rfl rfl (Nat.le_of_ble_eq_true rfl) ?_
  refine R2.B (ls2 := [some (.ref 5), some (.int 0), some (.int b), none]) (st2 := [.int (b2i (0 = 0 ∨ 0 = 1))]) b_X10_type_4_4 rfl (fun hd => ?_)
  refine R2.if_eq 18 hd (by decide) (fun c4 => absurd c4 (by decide)) (fun c4 => ?_)
  refine R2.B (ls2 := [some (.ref 5), some (.int 0), some (.int b), none]) (st2 := [.int b]) b_X10_type_7_8 rfl (fun hd => ?_)
  refine R2.if_lt 18 hd (by decide) (fun c8 => ?_) (fun c8 => ?_)
  · refine R2.B (ls2 := [some (.ref 5), some (.int 0), some (.int b), none]) (st2 := [.int (-2)]) b_X10_type_18_20 rfl (fun hd => ?_)
    exact False.elim (by clear hd; grind)
  · refine R2.B (ls2 := [some (.ref 5), some (.int 0), some (.int b), none]) (st2 := [.int 255, .int b]) b_X10_type_11_15 rfl (fun hd => ?_)
    refine R2.icmp_le 21 hd (by decide) (fun c15 => ?_) (fun c15 => ?_)
    · refine R2.B (ls2 := [some (.ref 5), some (.int 0), some (.int b), none]) (st2 := [.int 0, .ref 5]) b_X10_type_21_23 rfl (fun hd => ?_)
      refine R2.callV3 (M2 := mX10_textOf) (As := [.int 0]) (rest := []) hd lk_10_96 okX10_textOf (by decide) rfl (ev_textOf0 E L F) (by decide) rfl rfl (Nat.le_of_ble_eq_true rfl) ?_
      refine R2.B (ls2 := [some (.ref 5), some (.int 0), some (.int b), some (.ref 6)]) (st2 := [.ref 6]) b_X10_type_26_28 rfl (fun hd => ?_)
      refine R2.callV3 (M2 := mX7_isFull) (As := []) (rest := []) hd lk_10_100 okX7_isFull (by decide) rfl (ev_isFull6 E L _) (by decide) rfl rfl (Nat.le_of_ble_eq_true rfl) ?_
      refine R2.B (ls2 := [some (.ref 5), some (.int 0), some (.int b), some (.ref 6)]) (st2 := [.int (b2i (¬ F 6 1 < 90))]) b_X10_type_31_31 rfl (fun hd => ?_)
      refine R2.if_eq 37 hd (by decide) (fun c31 => ?_) (fun c31 => absurd (b2i_zero.mpr (fun z => z (by rw [h6]; exact nI_lt (b := 90) (by omega) (by decide)))) c31)
      refine R2.B (ls2 := [some (.ref 5), some (.int 0), some (.int b), some (.ref 6)]) (st2 := [.int b, .ref 6]) b_X10_type_37_39 rfl (fun hd => ?_)
      refine R2.callV3 (M2 := mX7_add) (As := [.int b]) (rest := []) hd lk_10_104 okX7_add (by decide) rfl (ev_add6 E L F l0 b h6 (by omega)) (by decide) rfl rfl (Nat.le_of_ble_eq_true rfl) ?_
      refine R2.B (ls2 := [some (.ref 5), some (.int 0), some (.int b), some (.ref 6)]) (st2 := [.int 0, .ref 5]) b_X10_type_42_44 rfl (fun hd => ?_)
      refine R2.callV3 (M2 := mX10_takeIn) (As := [.int 0]) (rest := []) hd lk_10_107 okX10_takeIn (by decide) rfl (ev_takeIn0 E L (up2 (up2 F 7 l0 b) 6 1 (nI (l0 + 1))) (l0 + 1) l1 rfl (by omega) h8 hl1) (by decide) rfl rfl (Nat.le_of_ble_eq_true rfl) ?_
      refine R2.B (ls2 := [some (.ref 5), some (.int 0), some (.int b), some (.ref 6)]) (st2 := [.ref 6]) b_X10_type_47_48 rfl (fun hd => ?_)
      refine R2.callV3 (M2 := mX7_length) (As := []) (rest := []) hd lk_10_110 okX7_length (by decide) rfl (ev_length6 E L _) (by decide) rfl rfl (Nat.le_of_ble_eq_true rfl) ?_
      refine R2.B (ls2 := [some (.ref 5), some (.int 0), some (.int b), some (.ref 6)]) (st2 := [.int ((tfF (tellF (up2 (up2 F 7 l0 b) 6 1 (nI (l0 + 1))) (l0 + 1)) l1 (cCnt (l0 + 1) ((up2 (up2 F 7 l0 b) 6 1 (nI (l0 + 1))) 7))) 6 1)]) b_X10_type_51_51 rfl (fun hd => ?_)
      exact R2.ret3 (r := some (.int ((tfF (tellF (up2 (up2 F 7 l0 b) 6 1 (nI (l0 + 1))) (l0 + 1)) l1 (cCnt (l0 + 1) ((up2 (up2 F 7 l0 b) 6 1 (nI (l0 + 1))) 7))) 6 1))) hd trivial rfl rfl rfl
    · refine R2.B (ls2 := [some (.ref 5), some (.int 0), some (.int b), none]) (st2 := [.int (-2)]) b_X10_type_18_20 rfl (fun hd => ?_)
      exact False.elim (by clear hd; grind)
set_option maxRecDepth 20000 in
set_option maxHeartbeats 1000000 in
theorem x_type_full1 (E : EE) (L : Nat) (F : FF) (b : Int32) (hb : 0 ≤ b ∧ b ≤ 255) (hf : ¬ F 8 1 < 60) : Ev3 E L 8 mX10_type [.ref 5, .int 1, .int b] F (some (.int (-4))) F := by
  refine Ev3.of okX10_type.2.2.1 (Nat.le_of_ble_eq_true rfl) ?_
  show R2 E L mX10_type 8 0 [some (.ref 5), some (.int 1), some (.int b), none] [] F _
  refine R2.B (ls2 := [some (.ref 5), some (.int 1), some (.int b), none]) (st2 := [.int 1]) b_X10_type_0_1 rfl (fun hd => ?_)
  refine R2.callS3 (M2 := mX10_isText) (As := [.int 1]) (rest := []) hd lk_10_92 okX10_isText (by decide) (ev_isText E L F 1) (by decide) rfl rfl (Nat.le_of_ble_eq_true rfl) ?_
  refine R2.B (ls2 := [some (.ref 5), some (.int 1), some (.int b), none]) (st2 := [.int (b2i (1 = 0 ∨ 1 = 1))]) b_X10_type_4_4 rfl (fun hd => ?_)
  refine R2.if_eq 18 hd (by decide) (fun c4 => absurd c4 (by decide)) (fun c4 => ?_)
  refine R2.B (ls2 := [some (.ref 5), some (.int 1), some (.int b), none]) (st2 := [.int b]) b_X10_type_7_8 rfl (fun hd => ?_)
  refine R2.if_lt 18 hd (by decide) (fun c8 => ?_) (fun c8 => ?_)
  · refine R2.B (ls2 := [some (.ref 5), some (.int 1), some (.int b), none]) (st2 := [.int (-2)]) b_X10_type_18_20 rfl (fun hd => ?_)
    exact False.elim (by clear hd; grind)
  · refine R2.B (ls2 := [some (.ref 5), some (.int 1), some (.int b), none]) (st2 := [.int 255, .int b]) b_X10_type_11_15 rfl (fun hd => ?_)
    refine R2.icmp_le 21 hd (by decide) (fun c15 => ?_) (fun c15 => ?_)
    · refine R2.B (ls2 := [some (.ref 5), some (.int 1), some (.int b), none]) (st2 := [.int 1, .ref 5]) b_X10_type_21_23 rfl (fun hd => ?_)
      refine R2.callV3 (M2 := mX10_textOf) (As := [.int 1]) (rest := []) hd lk_10_96 okX10_textOf (by decide) rfl (ev_textOf1 E L F) (by decide) rfl rfl (Nat.le_of_ble_eq_true rfl) ?_
      refine R2.B (ls2 := [some (.ref 5), some (.int 1), some (.int b), some (.ref 8)]) (st2 := [.ref 8]) b_X10_type_26_28 rfl (fun hd => ?_)
      refine R2.callV3 (M2 := mX7_isFull) (As := []) (rest := []) hd lk_10_100 okX7_isFull (by decide) rfl (ev_isFull8 E L _) (by decide) rfl rfl (Nat.le_of_ble_eq_true rfl) ?_
      refine R2.B (ls2 := [some (.ref 5), some (.int 1), some (.int b), some (.ref 8)]) (st2 := [.int (b2i (¬ F 8 1 < 60))]) b_X10_type_31_31 rfl (fun hd => ?_)
      refine R2.if_eq 37 hd (by decide) (fun c31 => absurd c31 (b2i_nz.mpr hf)) (fun c31 => ?_)
      refine R2.B (ls2 := [some (.ref 5), some (.int 1), some (.int b), some (.ref 8)]) (st2 := [.int (-4)]) b_X10_type_34_36 rfl (fun hd => ?_)
      exact R2.ret3 (r := some (.int (-4))) hd trivial rfl rfl rfl
    · refine R2.B (ls2 := [some (.ref 5), some (.int 1), some (.int b), none]) (st2 := [.int (-2)]) b_X10_type_18_20 rfl (fun hd => ?_)
      exact False.elim (by clear hd; grind)
set_option maxRecDepth 20000 in
set_option maxHeartbeats 1000000 in
theorem x_type_ok1 (E : EE) (L : Nat) (F : FF) (b : Int32) (hb : 0 ≤ b ∧ b ≤ 255) (n : Nat) (hn : F 10 5 = nI n) (hn10 : n ≤ 10) (l1 : Nat) (h8 : F 8 1 = nI l1) (hl1 : l1 < 60) : Ev3 E L 8 mX10_type [.ref 5, .int 1, .int b] F (some (.int ((tfF (up2 (up2 F 9 l1 b) 8 1 (nI (l1 + 1))) (l1 + 1) n) 8 1))) (tfF (up2 (up2 F 9 l1 b) 8 1 (nI (l1 + 1))) (l1 + 1) n) := by
  refine Ev3.of okX10_type.2.2.1 (Nat.le_of_ble_eq_true rfl) ?_
  show R2 E L mX10_type 8 0 [some (.ref 5), some (.int 1), some (.int b), none] [] F _
  refine R2.B (ls2 := [some (.ref 5), some (.int 1), some (.int b), none]) (st2 := [.int 1]) b_X10_type_0_1 rfl (fun hd => ?_)
  refine R2.callS3 (M2 := mX10_isText) (As := [.int 1]) (rest := []) hd lk_10_92 okX10_isText (by decide) (ev_isText E L F 1) (by decide) rfl rfl (Nat.le_of_ble_eq_true rfl) ?_
  refine R2.B (ls2 := [some (.ref 5), some (.int 1), some (.int b), none]) (st2 := [.int (b2i (1 = 0 ∨ 1 = 1))]) b_X10_type_4_4 rfl (fun hd => ?_)
  refine R2.if_eq 18 hd (by decide) (fun c4 => absurd c4 (by decide)) (fun c4 => ?_)
  refine R2.B (ls2 := [some (.ref 5), some (.int 1), some (.int b), none]) (st2 := [.int b]) b_X10_type_7_8 rfl (fun hd => ?_)
  refine R2.if_lt 18 hd (by decide) (fun c8 => ?_) (fun c8 => ?_)
  · refine R2.B (ls2 := [some (.ref 5), some (.int 1), some (.int b), none]) (st2 := [.int (-2)]) b_X10_type_18_20 rfl (fun hd => ?_)
    exact False.elim (by clear hd; grind)
  · refine R2.B (ls2 := [some (.ref 5), some (.int 1), some (.int b), none]) (st2 := [.int 255, .int b]) b_X10_type_11_15 rfl (fun hd => ?_)
    refine R2.icmp_le 21 hd (by decide) (fun c15 => ?_) (fun c15 => ?_)
    · refine R2.B (ls2 := [some (.ref 5), some (.int 1), some (.int b), none]) (st2 := [.int 1, .ref 5]) b_X10_type_21_23 rfl (fun hd => ?_)
      refine R2.callV3 (M2 := mX10_textOf) (As := [.int 1]) (rest := []) hd lk_10_96 okX10_textOf (by decide) rfl (ev_textOf1 E L F) (by decide) rfl rfl (Nat.le_of_ble_eq_true rfl) ?_
      refine R2.B (ls2 := [some (.ref 5), some (.int 1), some (.int b), some (.ref 8)]) (st2 := [.ref 8]) b_X10_type_26_28 rfl (fun hd => ?_)
      refine R2.callV3 (M2 := mX7_isFull) (As := []) (rest := []) hd lk_10_100 okX7_isFull (by decide) rfl (ev_isFull8 E L _) (by decide) rfl rfl (Nat.le_of_ble_eq_true rfl) ?_
      refine R2.B (ls2 := [some (.ref 5), some (.int 1), some (.int b), some (.ref 8)]) (st2 := [.int (b2i (¬ F 8 1 < 60))]) b_X10_type_31_31 rfl (fun hd => ?_)
      refine R2.if_eq 37 hd (by decide) (fun c31 => ?_) (fun c31 => absurd (b2i_zero.mpr (fun z => z (by rw [h8]; exact nI_lt (b := 60) (by omega) (by decide)))) c31)
      refine R2.B (ls2 := [some (.ref 5), some (.int 1), some (.int b), some (.ref 8)]) (st2 := [.int b, .ref 8]) b_X10_type_37_39 rfl (fun hd => ?_)
      refine R2.callV3 (M2 := mX7_add) (As := [.int b]) (rest := []) hd lk_10_104 okX7_add (by decide) rfl (ev_add8 E L F l1 b h8 (by omega)) (by decide) rfl rfl (Nat.le_of_ble_eq_true rfl) ?_
      refine R2.B (ls2 := [some (.ref 5), some (.int 1), some (.int b), some (.ref 8)]) (st2 := [.int 1, .ref 5]) b_X10_type_42_44 rfl (fun hd => ?_)
      refine R2.callV3 (M2 := mX10_takeIn) (As := [.int 1]) (rest := []) hd lk_10_107 okX10_takeIn (by decide) rfl (ev_takeIn1 E L (up2 (up2 F 9 l1 b) 8 1 (nI (l1 + 1))) n hn hn10 (l1 + 1) rfl (by omega)) (by decide) rfl rfl (Nat.le_of_ble_eq_true rfl) ?_
      refine R2.B (ls2 := [some (.ref 5), some (.int 1), some (.int b), some (.ref 8)]) (st2 := [.ref 8]) b_X10_type_47_48 rfl (fun hd => ?_)
      refine R2.callV3 (M2 := mX7_length) (As := []) (rest := []) hd lk_10_110 okX7_length (by decide) rfl (ev_length8 E L _) (by decide) rfl rfl (Nat.le_of_ble_eq_true rfl) ?_
      refine R2.B (ls2 := [some (.ref 5), some (.int 1), some (.int b), some (.ref 8)]) (st2 := [.int ((tfF (up2 (up2 F 9 l1 b) 8 1 (nI (l1 + 1))) (l1 + 1) n) 8 1)]) b_X10_type_51_51 rfl (fun hd => ?_)
      exact R2.ret3 (r := some (.int ((tfF (up2 (up2 F 9 l1 b) 8 1 (nI (l1 + 1))) (l1 + 1) n) 8 1))) hd trivial rfl rfl rfl
    · refine R2.B (ls2 := [some (.ref 5), some (.int 1), some (.int b), none]) (st2 := [.int (-2)]) b_X10_type_18_20 rfl (fun hd => ?_)
      exact False.elim (by clear hd; grind)
theorem b_X10_wipe_0_1 : bl2 mX10_wipe 0 [(.iload_n 1, 1, 1, 0, .null)] 1 (.invokestatic 92) 3 = true := by decide +kernel
theorem b_X10_wipe_4_4 : bl2 mX10_wipe 4 [] 4 (.ifCond .ne 6) 3 = true := by decide +kernel
theorem b_X10_wipe_10_10 : bl2 mX10_wipe 10 [] 10 (.aload_n 0) 1 = true := by decide +kernel
theorem b_X10_wipe_7_9 : bl2 mX10_wipe 7 [(.bipush (-2), 2, 0, 0, .int (-2))] 9 (.ireturn) 1 = true := by decide +kernel
set_option maxRecDepth 20000 in
set_option maxHeartbeats 1000000 in
theorem x_wipe_bad (E : EE) (L : Nat) (F : FF) (t : Int32) (h : ¬ (t = 0 ∨ t = 1)) : Ev3 E L 8 mX10_wipe [.ref 5, .int t] F (some (.int (-2))) F := by
  refine Ev3.of okX10_wipe.2.2.1 (Nat.le_of_ble_eq_true rfl) ?_
  show R2 E L mX10_wipe 8 0 [some (.ref 5), some (.int t), none] [] F _
  refine R2.B (ls2 := [some (.ref 5), some (.int t), none]) (st2 := [.int t]) b_X10_wipe_0_1 rfl (fun hd => ?_)
  refine R2.callS3 (M2 := mX10_isText) (As := [.int t]) (rest := []) hd lk_10_92 okX10_isText (by decide) (ev_isText E L F t) (by decide) rfl rfl (Nat.le_of_ble_eq_true rfl) ?_
  refine R2.B (ls2 := [some (.ref 5), some (.int t), none]) (st2 := [.int (b2i (t = 0 ∨ t = 1))]) b_X10_wipe_4_4 rfl (fun hd => ?_)
  refine R2.if_ne 10 hd (by decide) (fun c4 => ?_) (fun c4 => ?_)
  · have nc4 : t = 0 ∨ t = 1 := b2i_nz.mp c4
    refine R2.B (ls2 := [some (.ref 5), some (.int t), none]) (st2 := []) b_X10_wipe_10_10 rfl (fun hd => ?_)
    exact False.elim (by clear hd; grind)
  · have nc4 : ¬ (t = 0 ∨ t = 1) := b2i_zero.mp c4
    refine R2.B (ls2 := [some (.ref 5), some (.int t), none]) (st2 := [.int (-2)]) b_X10_wipe_7_9 rfl (fun hd => ?_)
    exact R2.ret3 (r := some (.int (-2))) hd trivial rfl rfl rfl
theorem b_X10_wipe_10_12 : bl2 mX10_wipe 10 [(.aload_n 0, 1, 0, 0, .null), (.iload_n 1, 1, 1, 0, .null)] 12 (.invokevirtual 96) 3 = true := by decide +kernel
theorem b_X10_wipe_15_15 : bl2 mX10_wipe 15 [] 15 (.invokevirtual 114) 3 = true := by decide +kernel
theorem b_X10_wipe_18_21 : bl2 mX10_wipe 18 [(.istore_n 2, 1, 2, 0, .null), (.aload_n 0, 1, 0, 0, .null), (.iload_n 1, 1, 1, 0, .null)] 21 (.invokevirtual 107) 3 = true := by decide +kernel
theorem b_X10_wipe_24_25 : bl2 mX10_wipe 24 [(.iload_n 2, 1, 2, 0, .null)] 25 (.ireturn) 1 = true := by decide +kernel
set_option maxRecDepth 20000 in
set_option maxHeartbeats 1000000 in
theorem x_wipe_ok0 (E : EE) (L : Nat) (F : FF) (l1 : Nat) (h8 : F 8 1 = nI l1) (hl1 : l1 ≤ 60) : Ev3 E L 8 mX10_wipe [.ref 5, .int 0] F (some (.int (F 6 1))) (tfF (tellF (up2 F 6 1 0) 0) l1 (cCnt 0 ((up2 F 6 1 0) 7))) := by
  refine Ev3.of okX10_wipe.2.2.1 (Nat.le_of_ble_eq_true rfl) ?_
  show R2 E L mX10_wipe 8 0 [some (.ref 5), some (.int 0), none] [] F _
  refine R2.B (ls2 := [some (.ref 5), some (.int 0), none]) (st2 := [.int 0]) b_X10_wipe_0_1 rfl (fun hd => ?_)
  refine R2.callS3 (M2 := mX10_isText) (As := [.int 0]) (rest := []) hd lk_10_92 okX10_isText (by decide) (ev_isText E L F 0) (by decide) rfl rfl (Nat.le_of_ble_eq_true rfl) ?_
  refine R2.B (ls2 := [some (.ref 5), some (.int 0), none]) (st2 := [.int (b2i (0 = 0 ∨ 0 = 1))]) b_X10_wipe_4_4 rfl (fun hd => ?_)
  refine R2.if_ne 10 hd (by decide) (fun c4 => ?_) (fun c4 => absurd c4 (by decide))
  refine R2.B (ls2 := [some (.ref 5), some (.int 0), none]) (st2 := [.int 0, .ref 5]) b_X10_wipe_10_12 rfl (fun hd => ?_)
  refine R2.callV3 (M2 := mX10_textOf) (As := [.int 0]) (rest := []) hd lk_10_96 okX10_textOf (by decide) rfl (ev_textOf0 E L F) (by decide) rfl rfl (Nat.le_of_ble_eq_true rfl) ?_
  refine R2.B (ls2 := [some (.ref 5), some (.int 0), none]) (st2 := [.ref 6]) b_X10_wipe_15_15 rfl (fun hd => ?_)
  refine R2.callV3 (M2 := mX7_clear) (As := []) (rest := []) hd lk_10_114 okX7_clear (by decide) rfl (ev_clear6 E L _) (by decide) rfl rfl (Nat.le_of_ble_eq_true rfl) ?_
  refine R2.B (ls2 := [some (.ref 5), some (.int 0), some (.int (F 6 1))]) (st2 := [.int 0, .ref 5]) b_X10_wipe_18_21 rfl (fun hd => ?_)
  refine R2.callV3 (M2 := mX10_takeIn) (As := [.int 0]) (rest := []) hd lk_10_107 okX10_takeIn (by decide) rfl (ev_takeIn0 E L (up2 F 6 1 0) 0 l1 rfl (by omega) h8 hl1) (by decide) rfl rfl (Nat.le_of_ble_eq_true rfl) ?_
  refine R2.B (ls2 := [some (.ref 5), some (.int 0), some (.int (F 6 1))]) (st2 := [.int (F 6 1)]) b_X10_wipe_24_25 rfl (fun hd => ?_)
  exact R2.ret3 (r := some (.int (F 6 1))) hd trivial rfl rfl rfl
set_option maxRecDepth 20000 in
set_option maxHeartbeats 1000000 in
theorem x_wipe_ok1 (E : EE) (L : Nat) (F : FF) (n : Nat) (hn : F 10 5 = nI n) (hn10 : n ≤ 10) : Ev3 E L 8 mX10_wipe [.ref 5, .int 1] F (some (.int (F 8 1))) (tfF (up2 F 8 1 0) 0 n) := by
  refine Ev3.of okX10_wipe.2.2.1 (Nat.le_of_ble_eq_true rfl) ?_
  show R2 E L mX10_wipe 8 0 [some (.ref 5), some (.int 1), none] [] F _
  refine R2.B (ls2 := [some (.ref 5), some (.int 1), none]) (st2 := [.int 1]) b_X10_wipe_0_1 rfl (fun hd => ?_)
  refine R2.callS3 (M2 := mX10_isText) (As := [.int 1]) (rest := []) hd lk_10_92 okX10_isText (by decide) (ev_isText E L F 1) (by decide) rfl rfl (Nat.le_of_ble_eq_true rfl) ?_
  refine R2.B (ls2 := [some (.ref 5), some (.int 1), none]) (st2 := [.int (b2i (1 = 0 ∨ 1 = 1))]) b_X10_wipe_4_4 rfl (fun hd => ?_)
  refine R2.if_ne 10 hd (by decide) (fun c4 => ?_) (fun c4 => absurd c4 (by decide))
  refine R2.B (ls2 := [some (.ref 5), some (.int 1), none]) (st2 := [.int 1, .ref 5]) b_X10_wipe_10_12 rfl (fun hd => ?_)
  refine R2.callV3 (M2 := mX10_textOf) (As := [.int 1]) (rest := []) hd lk_10_96 okX10_textOf (by decide) rfl (ev_textOf1 E L F) (by decide) rfl rfl (Nat.le_of_ble_eq_true rfl) ?_
  refine R2.B (ls2 := [some (.ref 5), some (.int 1), none]) (st2 := [.ref 8]) b_X10_wipe_15_15 rfl (fun hd => ?_)
  refine R2.callV3 (M2 := mX7_clear) (As := []) (rest := []) hd lk_10_114 okX7_clear (by decide) rfl (ev_clear8 E L _) (by decide) rfl rfl (Nat.le_of_ble_eq_true rfl) ?_
  refine R2.B (ls2 := [some (.ref 5), some (.int 1), some (.int (F 8 1))]) (st2 := [.int 1, .ref 5]) b_X10_wipe_18_21 rfl (fun hd => ?_)
  refine R2.callV3 (M2 := mX10_takeIn) (As := [.int 1]) (rest := []) hd lk_10_107 okX10_takeIn (by decide) rfl (ev_takeIn1 E L (up2 F 8 1 0) n hn hn10 0 rfl (by omega)) (by decide) rfl rfl (Nat.le_of_ble_eq_true rfl) ?_
  refine R2.B (ls2 := [some (.ref 5), some (.int 1), some (.int (F 8 1))]) (st2 := [.int (F 8 1)]) b_X10_wipe_24_25 rfl (fun hd => ?_)
  exact R2.ret3 (r := some (.int (F 8 1))) hd trivial rfl rfl rfl
theorem b_X10_fault_0_1 : bl2 mX10_fault 0 [(.iload_n 1, 1, 1, 0, .null)] 1 (.invokestatic 92) 3 = true := by decide +kernel
theorem b_X10_fault_4_4 : bl2 mX10_fault 4 [] 4 (.ifCond .ne 6) 3 = true := by decide +kernel
theorem b_X10_fault_10_10 : bl2 mX10_fault 10 [] 10 (.iload_n 1) 1 = true := by decide +kernel
theorem b_X10_fault_7_9 : bl2 mX10_fault 7 [(.bipush (-2), 2, 0, 0, .int (-2))] 9 (.ireturn) 1 = true := by decide +kernel
set_option maxRecDepth 20000 in
set_option maxHeartbeats 1000000 in
theorem x_fault_bad (E : EE) (L : Nat) (F : FF) (t : Int32) (h : ¬ (t = 0 ∨ t = 1)) : Ev3 E L 8 mX10_fault [.ref 5, .int t] F (some (.int (-2))) F := by
  refine Ev3.of okX10_fault.2.2.1 (Nat.le_of_ble_eq_true rfl) ?_
  show R2 E L mX10_fault 8 0 [some (.ref 5), some (.int t)] [] F _
  refine R2.B (ls2 := [some (.ref 5), some (.int t)]) (st2 := [.int t]) b_X10_fault_0_1 rfl (fun hd => ?_)
  refine R2.callS3 (M2 := mX10_isText) (As := [.int t]) (rest := []) hd lk_10_92 okX10_isText (by decide) (ev_isText E L F t) (by decide) rfl rfl (Nat.le_of_ble_eq_true rfl) ?_
  refine R2.B (ls2 := [some (.ref 5), some (.int t)]) (st2 := [.int (b2i (t = 0 ∨ t = 1))]) b_X10_fault_4_4 rfl (fun hd => ?_)
  refine R2.if_ne 10 hd (by decide) (fun c4 => ?_) (fun c4 => ?_)
  · have nc4 : t = 0 ∨ t = 1 := b2i_nz.mp c4
    refine R2.B (ls2 := [some (.ref 5), some (.int t)]) (st2 := []) b_X10_fault_10_10 rfl (fun hd => ?_)
    exact False.elim (by clear hd; grind)
  · have nc4 : ¬ (t = 0 ∨ t = 1) := b2i_zero.mp c4
    refine R2.B (ls2 := [some (.ref 5), some (.int t)]) (st2 := [.int (-2)]) b_X10_fault_7_9 rfl (fun hd => ?_)
    exact R2.ret3 (r := some (.int (-2))) hd trivial rfl rfl rfl
theorem b_X10_fault_10_11 : bl2 mX10_fault 10 [(.iload_n 1, 1, 1, 0, .null)] 11 (.ifCond .ne 13) 3 = true := by decide +kernel
theorem b_X10_fault_14_31 : bl2 mX10_fault 14 [(.aload_n 0, 1, 0, 0, .null), (.getfield 24, 3, 10, 2, .null), (.getfield 117, 3, 0, 6, .null), (.goto 10, 3, 31, 0, .null)] 31 (.ireturn) 1 = true := by decide +kernel
set_option maxRecDepth 20000 in
set_option maxHeartbeats 1000000 in
theorem x_fault_ok0 (E : EE) (L : Nat) (F : FF) : Ev3 E L 8 mX10_fault [.ref 5, .int 0] F (some (.int (F 10 6))) F := by
  refine Ev3.of okX10_fault.2.2.1 (Nat.le_of_ble_eq_true rfl) ?_
  show R2 E L mX10_fault 8 0 [some (.ref 5), some (.int 0)] [] F _
  refine R2.B (ls2 := [some (.ref 5), some (.int 0)]) (st2 := [.int 0]) b_X10_fault_0_1 rfl (fun hd => ?_)
  refine R2.callS3 (M2 := mX10_isText) (As := [.int 0]) (rest := []) hd lk_10_92 okX10_isText (by decide) (ev_isText E L F 0) (by decide) rfl rfl (Nat.le_of_ble_eq_true rfl) ?_
  refine R2.B (ls2 := [some (.ref 5), some (.int 0)]) (st2 := [.int (b2i (0 = 0 ∨ 0 = 1))]) b_X10_fault_4_4 rfl (fun hd => ?_)
  refine R2.if_ne 10 hd (by decide) (fun c4 => ?_) (fun c4 => absurd c4 (by decide))
  refine R2.B (ls2 := [some (.ref 5), some (.int 0)]) (st2 := [.int 0]) b_X10_fault_10_11 rfl (fun hd => ?_)
  refine R2.if_ne 24 hd (by decide) (fun c11 => absurd (by decide) c11) (fun c11 => ?_)
  refine R2.B (ls2 := [some (.ref 5), some (.int 0)]) (st2 := [.int (F 10 6)]) b_X10_fault_14_31 rfl (fun hd => ?_)
  exact R2.ret3 (r := some (.int (F 10 6))) hd trivial rfl rfl rfl
theorem b_X10_fault_24_31 : bl2 mX10_fault 24 [(.aload_n 0, 1, 0, 0, .null), (.getfield 40, 3, 10, 4, .null), (.getfield 120, 3, 1, 4, .null)] 31 (.ireturn) 1 = true := by decide +kernel
set_option maxRecDepth 20000 in
set_option maxHeartbeats 1000000 in
theorem x_fault_ok1 (E : EE) (L : Nat) (F : FF) : Ev3 E L 8 mX10_fault [.ref 5, .int 1] F (some (.int (F 18 4))) F := by
  refine Ev3.of okX10_fault.2.2.1 (Nat.le_of_ble_eq_true rfl) ?_
  show R2 E L mX10_fault 8 0 [some (.ref 5), some (.int 1)] [] F _
  refine R2.B (ls2 := [some (.ref 5), some (.int 1)]) (st2 := [.int 1]) b_X10_fault_0_1 rfl (fun hd => ?_)
  refine R2.callS3 (M2 := mX10_isText) (As := [.int 1]) (rest := []) hd lk_10_92 okX10_isText (by decide) (ev_isText E L F 1) (by decide) rfl rfl (Nat.le_of_ble_eq_true rfl) ?_
  refine R2.B (ls2 := [some (.ref 5), some (.int 1)]) (st2 := [.int (b2i (1 = 0 ∨ 1 = 1))]) b_X10_fault_4_4 rfl (fun hd => ?_)
  refine R2.if_ne 10 hd (by decide) (fun c4 => ?_) (fun c4 => absurd c4 (by decide))
  refine R2.B (ls2 := [some (.ref 5), some (.int 1)]) (st2 := [.int 1]) b_X10_fault_10_11 rfl (fun hd => ?_)
  refine R2.if_ne 24 hd (by decide) (fun c11 => ?_) (fun c11 => absurd c11 (by decide))
  refine R2.B (ls2 := [some (.ref 5), some (.int 1)]) (st2 := [.int (F 18 4)]) b_X10_fault_24_31 rfl (fun hd => ?_)
  exact R2.ret3 (r := some (.int (F 18 4))) hd trivial rfl rfl rfl
theorem b_X10_set_0_1 : bl2 mX10_set 0 [(.iload_n 1, 1, 1, 0, .null)] 1 (.ifCond .lt 26) 3 = true := by decide +kernel
theorem b_X10_set_4_6 : bl2 mX10_set 4 [(.iload_n 1, 1, 1, 0, .null), (.iconst 2, 1, 0, 0, .int 2)] 6 (.if_icmp .gt 21) 3 = true := by decide +kernel
theorem b_X10_set_9_14 : bl2 mX10_set 9 [(.iload_n 2, 1, 2, 0, .null), (.getstatic 121, 3, 3, 0, .null), (.iload_n 1, 1, 1, 0, .null)] 14 (.iaload) 1 = true := by decide +kernel
theorem b_X10_set_15_15 : bl2 mX10_set 15 [] 15 (.if_icmp .lt 12) 3 = true := by decide +kernel
theorem b_X10_set_27_29 : bl2 mX10_set 27 [(.bipush (-2), 2, 0, 0, .int (-2))] 29 (.ireturn) 1 = true := by decide +kernel
theorem b_X10_set_18_23 : bl2 mX10_set 18 [(.iload_n 2, 1, 2, 0, .null), (.getstatic 125, 3, 4, 0, .null), (.iload_n 1, 1, 1, 0, .null)] 23 (.iaload) 1 = true := by decide +kernel
theorem b_X10_set_24_24 : bl2 mX10_set 24 [] 24 (.if_icmp .le 6) 3 = true := by decide +kernel
theorem b_X10_set_30_30 : bl2 mX10_set 30 [] 30 (.aload_n 0) 1 = true := by decide +kernel
set_option maxRecDepth 20000 in
set_option maxHeartbeats 1000000 in
theorem x_set_bad0 (E : EE) (L : Nat) (F : FF) (v : Int32) (h : v < F 3 0 ∨ F 4 0 < v) : Ev3 E L 8 mX10_set [.ref 5, .int 0, .int v] F (some (.int (-2))) F := by
  refine Ev3.of okX10_set.2.2.1 (Nat.le_of_ble_eq_true rfl) ?_
  show R2 E L mX10_set 8 0 [some (.ref 5), some (.int 0), some (.int v), none] [] F _
  refine R2.B (ls2 := [some (.ref 5), some (.int 0), some (.int v), none]) (st2 := [.int 0]) b_X10_set_0_1 rfl (fun hd => ?_)
  refine R2.if_lt 27 hd (by decide) (fun c1 => absurd c1 (by decide)) (fun c1 => ?_)
  refine R2.B (ls2 := [some (.ref 5), some (.int 0), some (.int v), none]) (st2 := [.int 2, .int 0]) b_X10_set_4_6 rfl (fun hd => ?_)
  refine R2.icmp_gt 27 hd (by decide) (fun c6 => absurd c6 (by decide)) (fun c6 => ?_)
  refine R2.B (ls2 := [some (.ref 5), some (.int 0), some (.int v), none]) (st2 := [.int 0, .ref 3, .int v]) b_X10_set_9_14 rfl (fun hd => ?_)
  refine R2.iald 0 rfl hd rfl (fun _ => rfl) (by decide) (by omega) ?_
  refine R2.B (ls2 := [some (.ref 5), some (.int 0), some (.int v), none]) (st2 := [.int (F 3 0), .int v]) b_X10_set_15_15 rfl (fun hd => ?_)
  refine R2.icmp_lt 27 hd (by decide) (fun c15 => ?_) (fun c15 => ?_)
  · refine R2.B (ls2 := [some (.ref 5), some (.int 0), some (.int v), none]) (st2 := [.int (-2)]) b_X10_set_27_29 rfl (fun hd => ?_)
    exact R2.ret3 (r := some (.int (-2))) hd trivial rfl rfl rfl
  · refine R2.B (ls2 := [some (.ref 5), some (.int 0), some (.int v), none]) (st2 := [.int 0, .ref 4, .int v]) b_X10_set_18_23 rfl (fun hd => ?_)
    refine R2.iald 0 rfl hd rfl (fun _ => rfl) (by decide) (by omega) ?_
    refine R2.B (ls2 := [some (.ref 5), some (.int 0), some (.int v), none]) (st2 := [.int (F 4 0), .int v]) b_X10_set_24_24 rfl (fun hd => ?_)
    refine R2.icmp_le 30 hd (by decide) (fun c24 => ?_) (fun c24 => ?_)
    · refine R2.B (ls2 := [some (.ref 5), some (.int 0), some (.int v), none]) (st2 := []) b_X10_set_30_30 rfl (fun hd => ?_)
      exact False.elim (by clear hd; grind)
    · refine R2.B (ls2 := [some (.ref 5), some (.int 0), some (.int v), none]) (st2 := [.int (-2)]) b_X10_set_27_29 rfl (fun hd => ?_)
      exact R2.ret3 (r := some (.int (-2))) hd trivial rfl rfl rfl
theorem b_X10_set_30_38 : bl2 mX10_set 30 [(.aload_n 0, 1, 0, 0, .null), (.getfield 33, 3, 10, 3, .null), (.getfield 128, 3, 2, 1, .null), (.iload_n 1, 1, 1, 0, .null)] 38 (.iaload) 1 = true := by decide +kernel
theorem b_X10_set_39_49 : bl2 mX10_set 39 [(.istore_n 3, 1, 3, 0, .null), (.aload_n 0, 1, 0, 0, .null), (.getfield 33, 3, 10, 3, .null), (.getfield 128, 3, 2, 1, .null), (.iload_n 1, 1, 1, 0, .null), (.iload_n 2, 1, 2, 0, .null)] 49 (.iastore) 1 = true := by decide +kernel
theorem b_X10_set_50_51 : bl2 mX10_set 50 [(.iload_n 3, 1, 3, 0, .null)] 51 (.ireturn) 1 = true := by decide +kernel
set_option maxRecDepth 20000 in
set_option maxHeartbeats 1000000 in
theorem x_set_ok0 (E : EE) (L : Nat) (F : FF) (v : Int32) (h : ¬ (v < F 3 0 ∨ F 4 0 < v)) : Ev3 E L 8 mX10_set [.ref 5, .int 0, .int v] F (some (.int (F 17 0))) (up2 F 17 0 v) := by
  refine Ev3.of okX10_set.2.2.1 (Nat.le_of_ble_eq_true rfl) ?_
  show R2 E L mX10_set 8 0 [some (.ref 5), some (.int 0), some (.int v), none] [] F _
  refine R2.B (ls2 := [some (.ref 5), some (.int 0), some (.int v), none]) (st2 := [.int 0]) b_X10_set_0_1 rfl (fun hd => ?_)
  refine R2.if_lt 27 hd (by decide) (fun c1 => absurd c1 (by decide)) (fun c1 => ?_)
  refine R2.B (ls2 := [some (.ref 5), some (.int 0), some (.int v), none]) (st2 := [.int 2, .int 0]) b_X10_set_4_6 rfl (fun hd => ?_)
  refine R2.icmp_gt 27 hd (by decide) (fun c6 => absurd c6 (by decide)) (fun c6 => ?_)
  refine R2.B (ls2 := [some (.ref 5), some (.int 0), some (.int v), none]) (st2 := [.int 0, .ref 3, .int v]) b_X10_set_9_14 rfl (fun hd => ?_)
  refine R2.iald 0 rfl hd rfl (fun _ => rfl) (by decide) (by omega) ?_
  refine R2.B (ls2 := [some (.ref 5), some (.int 0), some (.int v), none]) (st2 := [.int (F 3 0), .int v]) b_X10_set_15_15 rfl (fun hd => ?_)
  refine R2.icmp_lt 27 hd (by decide) (fun c15 => ?_) (fun c15 => ?_)
  · refine R2.B (ls2 := [some (.ref 5), some (.int 0), some (.int v), none]) (st2 := [.int (-2)]) b_X10_set_27_29 rfl (fun hd => ?_)
    exact False.elim (by clear hd; grind)
  · refine R2.B (ls2 := [some (.ref 5), some (.int 0), some (.int v), none]) (st2 := [.int 0, .ref 4, .int v]) b_X10_set_18_23 rfl (fun hd => ?_)
    refine R2.iald 0 rfl hd rfl (fun _ => rfl) (by decide) (by omega) ?_
    refine R2.B (ls2 := [some (.ref 5), some (.int 0), some (.int v), none]) (st2 := [.int (F 4 0), .int v]) b_X10_set_24_24 rfl (fun hd => ?_)
    refine R2.icmp_le 30 hd (by decide) (fun c24 => ?_) (fun c24 => ?_)
    · refine R2.B (ls2 := [some (.ref 5), some (.int 0), some (.int v), none]) (st2 := [.int 0, .ref 17]) b_X10_set_30_38 rfl (fun hd => ?_)
      refine R2.iald 0 rfl hd rfl (fun _ => rfl) (by decide) (by omega) ?_
      refine R2.B (ls2 := [some (.ref 5), some (.int 0), some (.int v), some (.int (F 17 0))]) (st2 := [.int v, .int 0, .ref 17]) b_X10_set_39_49 rfl (fun hd => ?_)
      refine R2.iast 0 rfl hd (by decide) rfl (fun _ => rfl) (by decide) (by omega) ?_
      refine R2.B (ls2 := [some (.ref 5), some (.int 0), some (.int v), some (.int (F 17 0))]) (st2 := [.int (F 17 0)]) b_X10_set_50_51 rfl (fun hd => ?_)
      exact R2.ret3 (r := some (.int (F 17 0))) hd trivial rfl rfl rfl
    · refine R2.B (ls2 := [some (.ref 5), some (.int 0), some (.int v), none]) (st2 := [.int (-2)]) b_X10_set_27_29 rfl (fun hd => ?_)
      exact False.elim (by clear hd; grind)
set_option maxRecDepth 20000 in
set_option maxHeartbeats 1000000 in
theorem x_set_bad1 (E : EE) (L : Nat) (F : FF) (v : Int32) (h : v < F 3 1 ∨ F 4 1 < v) : Ev3 E L 8 mX10_set [.ref 5, .int 1, .int v] F (some (.int (-2))) F := by
  refine Ev3.of okX10_set.2.2.1 (Nat.le_of_ble_eq_true rfl) ?_
  show R2 E L mX10_set 8 0 [some (.ref 5), some (.int 1), some (.int v), none] [] F _
  refine R2.B (ls2 := [some (.ref 5), some (.int 1), some (.int v), none]) (st2 := [.int 1]) b_X10_set_0_1 rfl (fun hd => ?_)
  refine R2.if_lt 27 hd (by decide) (fun c1 => absurd c1 (by decide)) (fun c1 => ?_)
  refine R2.B (ls2 := [some (.ref 5), some (.int 1), some (.int v), none]) (st2 := [.int 2, .int 1]) b_X10_set_4_6 rfl (fun hd => ?_)
  refine R2.icmp_gt 27 hd (by decide) (fun c6 => absurd c6 (by decide)) (fun c6 => ?_)
  refine R2.B (ls2 := [some (.ref 5), some (.int 1), some (.int v), none]) (st2 := [.int 1, .ref 3, .int v]) b_X10_set_9_14 rfl (fun hd => ?_)
  refine R2.iald 1 rfl hd rfl (fun _ => rfl) (by decide) (by omega) ?_
  refine R2.B (ls2 := [some (.ref 5), some (.int 1), some (.int v), none]) (st2 := [.int (F 3 1), .int v]) b_X10_set_15_15 rfl (fun hd => ?_)
  refine R2.icmp_lt 27 hd (by decide) (fun c15 => ?_) (fun c15 => ?_)
  · refine R2.B (ls2 := [some (.ref 5), some (.int 1), some (.int v), none]) (st2 := [.int (-2)]) b_X10_set_27_29 rfl (fun hd => ?_)
    exact R2.ret3 (r := some (.int (-2))) hd trivial rfl rfl rfl
  · refine R2.B (ls2 := [some (.ref 5), some (.int 1), some (.int v), none]) (st2 := [.int 1, .ref 4, .int v]) b_X10_set_18_23 rfl (fun hd => ?_)
    refine R2.iald 1 rfl hd rfl (fun _ => rfl) (by decide) (by omega) ?_
    refine R2.B (ls2 := [some (.ref 5), some (.int 1), some (.int v), none]) (st2 := [.int (F 4 1), .int v]) b_X10_set_24_24 rfl (fun hd => ?_)
    refine R2.icmp_le 30 hd (by decide) (fun c24 => ?_) (fun c24 => ?_)
    · refine R2.B (ls2 := [some (.ref 5), some (.int 1), some (.int v), none]) (st2 := []) b_X10_set_30_30 rfl (fun hd => ?_)
      exact False.elim (by clear hd; grind)
    · refine R2.B (ls2 := [some (.ref 5), some (.int 1), some (.int v), none]) (st2 := [.int (-2)]) b_X10_set_27_29 rfl (fun hd => ?_)
      exact R2.ret3 (r := some (.int (-2))) hd trivial rfl rfl rfl
set_option maxRecDepth 20000 in
set_option maxHeartbeats 1000000 in
theorem x_set_ok1 (E : EE) (L : Nat) (F : FF) (v : Int32) (h : ¬ (v < F 3 1 ∨ F 4 1 < v)) : Ev3 E L 8 mX10_set [.ref 5, .int 1, .int v] F (some (.int (F 17 1))) (up2 F 17 1 v) := by
  refine Ev3.of okX10_set.2.2.1 (Nat.le_of_ble_eq_true rfl) ?_
  show R2 E L mX10_set 8 0 [some (.ref 5), some (.int 1), some (.int v), none] [] F _
  refine R2.B (ls2 := [some (.ref 5), some (.int 1), some (.int v), none]) (st2 := [.int 1]) b_X10_set_0_1 rfl (fun hd => ?_)
  refine R2.if_lt 27 hd (by decide) (fun c1 => absurd c1 (by decide)) (fun c1 => ?_)
  refine R2.B (ls2 := [some (.ref 5), some (.int 1), some (.int v), none]) (st2 := [.int 2, .int 1]) b_X10_set_4_6 rfl (fun hd => ?_)
  refine R2.icmp_gt 27 hd (by decide) (fun c6 => absurd c6 (by decide)) (fun c6 => ?_)
  refine R2.B (ls2 := [some (.ref 5), some (.int 1), some (.int v), none]) (st2 := [.int 1, .ref 3, .int v]) b_X10_set_9_14 rfl (fun hd => ?_)
  refine R2.iald 1 rfl hd rfl (fun _ => rfl) (by decide) (by omega) ?_
  refine R2.B (ls2 := [some (.ref 5), some (.int 1), some (.int v), none]) (st2 := [.int (F 3 1), .int v]) b_X10_set_15_15 rfl (fun hd => ?_)
  refine R2.icmp_lt 27 hd (by decide) (fun c15 => ?_) (fun c15 => ?_)
  · refine R2.B (ls2 := [some (.ref 5), some (.int 1), some (.int v), none]) (st2 := [.int (-2)]) b_X10_set_27_29 rfl (fun hd => ?_)
    exact False.elim (by clear hd; grind)
  · refine R2.B (ls2 := [some (.ref 5), some (.int 1), some (.int v), none]) (st2 := [.int 1, .ref 4, .int v]) b_X10_set_18_23 rfl (fun hd => ?_)
    refine R2.iald 1 rfl hd rfl (fun _ => rfl) (by decide) (by omega) ?_
    refine R2.B (ls2 := [some (.ref 5), some (.int 1), some (.int v), none]) (st2 := [.int (F 4 1), .int v]) b_X10_set_24_24 rfl (fun hd => ?_)
    refine R2.icmp_le 30 hd (by decide) (fun c24 => ?_) (fun c24 => ?_)
    · refine R2.B (ls2 := [some (.ref 5), some (.int 1), some (.int v), none]) (st2 := [.int 1, .ref 17]) b_X10_set_30_38 rfl (fun hd => ?_)
      refine R2.iald 1 rfl hd rfl (fun _ => rfl) (by decide) (by omega) ?_
      refine R2.B (ls2 := [some (.ref 5), some (.int 1), some (.int v), some (.int (F 17 1))]) (st2 := [.int v, .int 1, .ref 17]) b_X10_set_39_49 rfl (fun hd => ?_)
      refine R2.iast 1 rfl hd (by decide) rfl (fun _ => rfl) (by decide) (by omega) ?_
      refine R2.B (ls2 := [some (.ref 5), some (.int 1), some (.int v), some (.int (F 17 1))]) (st2 := [.int (F 17 1)]) b_X10_set_50_51 rfl (fun hd => ?_)
      exact R2.ret3 (r := some (.int (F 17 1))) hd trivial rfl rfl rfl
    · refine R2.B (ls2 := [some (.ref 5), some (.int 1), some (.int v), none]) (st2 := [.int (-2)]) b_X10_set_27_29 rfl (fun hd => ?_)
      exact False.elim (by clear hd; grind)
set_option maxRecDepth 20000 in
set_option maxHeartbeats 1000000 in
theorem x_set_bad2 (E : EE) (L : Nat) (F : FF) (v : Int32) (h : v < F 3 2 ∨ F 4 2 < v) : Ev3 E L 8 mX10_set [.ref 5, .int 2, .int v] F (some (.int (-2))) F := by
  refine Ev3.of okX10_set.2.2.1 (Nat.le_of_ble_eq_true rfl) ?_
  show R2 E L mX10_set 8 0 [some (.ref 5), some (.int 2), some (.int v), none] [] F _
  refine R2.B (ls2 := [some (.ref 5), some (.int 2), some (.int v), none]) (st2 := [.int 2]) b_X10_set_0_1 rfl (fun hd => ?_)
  refine R2.if_lt 27 hd (by decide) (fun c1 => absurd c1 (by decide)) (fun c1 => ?_)
  refine R2.B (ls2 := [some (.ref 5), some (.int 2), some (.int v), none]) (st2 := [.int 2, .int 2]) b_X10_set_4_6 rfl (fun hd => ?_)
  refine R2.icmp_gt 27 hd (by decide) (fun c6 => absurd c6 (by decide)) (fun c6 => ?_)
  refine R2.B (ls2 := [some (.ref 5), some (.int 2), some (.int v), none]) (st2 := [.int 2, .ref 3, .int v]) b_X10_set_9_14 rfl (fun hd => ?_)
  refine R2.iald 2 rfl hd rfl (fun _ => rfl) (by decide) (by omega) ?_
  refine R2.B (ls2 := [some (.ref 5), some (.int 2), some (.int v), none]) (st2 := [.int (F 3 2), .int v]) b_X10_set_15_15 rfl (fun hd => ?_)
  refine R2.icmp_lt 27 hd (by decide) (fun c15 => ?_) (fun c15 => ?_)
  · refine R2.B (ls2 := [some (.ref 5), some (.int 2), some (.int v), none]) (st2 := [.int (-2)]) b_X10_set_27_29 rfl (fun hd => ?_)
    exact R2.ret3 (r := some (.int (-2))) hd trivial rfl rfl rfl
  · refine R2.B (ls2 := [some (.ref 5), some (.int 2), some (.int v), none]) (st2 := [.int 2, .ref 4, .int v]) b_X10_set_18_23 rfl (fun hd => ?_)
    refine R2.iald 2 rfl hd rfl (fun _ => rfl) (by decide) (by omega) ?_
    refine R2.B (ls2 := [some (.ref 5), some (.int 2), some (.int v), none]) (st2 := [.int (F 4 2), .int v]) b_X10_set_24_24 rfl (fun hd => ?_)
    refine R2.icmp_le 30 hd (by decide) (fun c24 => ?_) (fun c24 => ?_)
    · refine R2.B (ls2 := [some (.ref 5), some (.int 2), some (.int v), none]) (st2 := []) b_X10_set_30_30 rfl (fun hd => ?_)
      exact False.elim (by clear hd; grind)
    · refine R2.B (ls2 := [some (.ref 5), some (.int 2), some (.int v), none]) (st2 := [.int (-2)]) b_X10_set_27_29 rfl (fun hd => ?_)
      exact R2.ret3 (r := some (.int (-2))) hd trivial rfl rfl rfl
set_option maxRecDepth 20000 in
set_option maxHeartbeats 1000000 in
theorem x_set_ok2 (E : EE) (L : Nat) (F : FF) (v : Int32) (h : ¬ (v < F 3 2 ∨ F 4 2 < v)) : Ev3 E L 8 mX10_set [.ref 5, .int 2, .int v] F (some (.int (F 17 2))) (up2 F 17 2 v) := by
  refine Ev3.of okX10_set.2.2.1 (Nat.le_of_ble_eq_true rfl) ?_
  show R2 E L mX10_set 8 0 [some (.ref 5), some (.int 2), some (.int v), none] [] F _
  refine R2.B (ls2 := [some (.ref 5), some (.int 2), some (.int v), none]) (st2 := [.int 2]) b_X10_set_0_1 rfl (fun hd => ?_)
  refine R2.if_lt 27 hd (by decide) (fun c1 => absurd c1 (by decide)) (fun c1 => ?_)
  refine R2.B (ls2 := [some (.ref 5), some (.int 2), some (.int v), none]) (st2 := [.int 2, .int 2]) b_X10_set_4_6 rfl (fun hd => ?_)
  refine R2.icmp_gt 27 hd (by decide) (fun c6 => absurd c6 (by decide)) (fun c6 => ?_)
  refine R2.B (ls2 := [some (.ref 5), some (.int 2), some (.int v), none]) (st2 := [.int 2, .ref 3, .int v]) b_X10_set_9_14 rfl (fun hd => ?_)
  refine R2.iald 2 rfl hd rfl (fun _ => rfl) (by decide) (by omega) ?_
  refine R2.B (ls2 := [some (.ref 5), some (.int 2), some (.int v), none]) (st2 := [.int (F 3 2), .int v]) b_X10_set_15_15 rfl (fun hd => ?_)
  refine R2.icmp_lt 27 hd (by decide) (fun c15 => ?_) (fun c15 => ?_)
  · refine R2.B (ls2 := [some (.ref 5), some (.int 2), some (.int v), none]) (st2 := [.int (-2)]) b_X10_set_27_29 rfl (fun hd => ?_)
    exact False.elim (by clear hd; grind)
  · refine R2.B (ls2 := [some (.ref 5), some (.int 2), some (.int v), none]) (st2 := [.int 2, .ref 4, .int v]) b_X10_set_18_23 rfl (fun hd => ?_)
    refine R2.iald 2 rfl hd rfl (fun _ => rfl) (by decide) (by omega) ?_
    refine R2.B (ls2 := [some (.ref 5), some (.int 2), some (.int v), none]) (st2 := [.int (F 4 2), .int v]) b_X10_set_24_24 rfl (fun hd => ?_)
    refine R2.icmp_le 30 hd (by decide) (fun c24 => ?_) (fun c24 => ?_)
    · refine R2.B (ls2 := [some (.ref 5), some (.int 2), some (.int v), none]) (st2 := [.int 2, .ref 17]) b_X10_set_30_38 rfl (fun hd => ?_)
      refine R2.iald 2 rfl hd rfl (fun _ => rfl) (by decide) (by omega) ?_
      refine R2.B (ls2 := [some (.ref 5), some (.int 2), some (.int v), some (.int (F 17 2))]) (st2 := [.int v, .int 2, .ref 17]) b_X10_set_39_49 rfl (fun hd => ?_)
      refine R2.iast 2 rfl hd (by decide) rfl (fun _ => rfl) (by decide) (by omega) ?_
      refine R2.B (ls2 := [some (.ref 5), some (.int 2), some (.int v), some (.int (F 17 2))]) (st2 := [.int (F 17 2)]) b_X10_set_50_51 rfl (fun hd => ?_)
      exact R2.ret3 (r := some (.int (F 17 2))) hd trivial rfl rfl rfl
    · refine R2.B (ls2 := [some (.ref 5), some (.int 2), some (.int v), none]) (st2 := [.int (-2)]) b_X10_set_27_29 rfl (fun hd => ?_)
      exact False.elim (by clear hd; grind)
theorem b_X10_set_9_9 : bl2 mX10_set 9 [] 9 (.iload_n 2) 1 = true := by decide +kernel
set_option maxRecDepth 20000 in
set_option maxHeartbeats 1000000 in
theorem x_set_bad (E : EE) (L : Nat) (F : FF) (t v : Int32) (h : t < 0 ∨ 2 < t) : Ev3 E L 8 mX10_set [.ref 5, .int t, .int v] F (some (.int (-2))) F := by
  refine Ev3.of okX10_set.2.2.1 (Nat.le_of_ble_eq_true rfl) ?_
  show R2 E L mX10_set 8 0 [some (.ref 5), some (.int t), some (.int v), none] [] F _
  refine R2.B (ls2 := [some (.ref 5), some (.int t), some (.int v), none]) (st2 := [.int t]) b_X10_set_0_1 rfl (fun hd => ?_)
  refine R2.if_lt 27 hd (by decide) (fun c1 => ?_) (fun c1 => ?_)
  · refine R2.B (ls2 := [some (.ref 5), some (.int t), some (.int v), none]) (st2 := [.int (-2)]) b_X10_set_27_29 rfl (fun hd => ?_)
    exact R2.ret3 (r := some (.int (-2))) hd trivial rfl rfl rfl
  · refine R2.B (ls2 := [some (.ref 5), some (.int t), some (.int v), none]) (st2 := [.int 2, .int t]) b_X10_set_4_6 rfl (fun hd => ?_)
    refine R2.icmp_gt 27 hd (by decide) (fun c6 => ?_) (fun c6 => ?_)
    · refine R2.B (ls2 := [some (.ref 5), some (.int t), some (.int v), none]) (st2 := [.int (-2)]) b_X10_set_27_29 rfl (fun hd => ?_)
      exact R2.ret3 (r := some (.int (-2))) hd trivial rfl rfl rfl
    · refine R2.B (ls2 := [some (.ref 5), some (.int t), some (.int v), none]) (st2 := []) b_X10_set_9_9 rfl (fun hd => ?_)
      exact False.elim (by clear hd; grind)
theorem b_X10_person_0_2 : bl2 mX10_person 0 [(.aload_n 0, 1, 0, 0, .null), (.iload_n 1, 1, 1, 0, .null)] 2 (.invokevirtual 131) 3 = true := by decide +kernel
theorem b_X10_person_5_5 : bl2 mX10_person 5 [] 5 (.ifCond .ne 6) 3 = true := by decide +kernel
theorem b_X10_person_11_11 : bl2 mX10_person 11 [] 11 (.iload_n 2) 1 = true := by decide +kernel
theorem b_X10_person_8_10 : bl2 mX10_person 8 [(.bipush (-2), 2, 0, 0, .int (-2))] 10 (.ireturn) 1 = true := by decide +kernel
set_option maxRecDepth 20000 in
set_option maxHeartbeats 1000000 in
theorem x_person_bad (E : EE) (L : Nat) (F : FF) (p w : Int32) (h : ¬ (0 ≤ p ∧ p < F 10 5)) : Ev3 E L 8 mX10_person [.ref 5, .int p, .int w] F (some (.int (-2))) F := by
  refine Ev3.of okX10_person.2.2.1 (Nat.le_of_ble_eq_true rfl) ?_
  show R2 E L mX10_person 8 0 [some (.ref 5), some (.int p), some (.int w)] [] F _
  refine R2.B (ls2 := [some (.ref 5), some (.int p), some (.int w)]) (st2 := [.int p, .ref 5]) b_X10_person_0_2 rfl (fun hd => ?_)
  refine R2.callV3 (M2 := mX10_isPerson) (As := [.int p]) (rest := []) hd lk_10_131 okX10_isPerson (by decide) rfl (ev_isPerson E L F p) (by decide) rfl rfl (Nat.le_of_ble_eq_true rfl) ?_
  refine R2.B (ls2 := [some (.ref 5), some (.int p), some (.int w)]) (st2 := [.int (b2i (0 ≤ p ∧ p < F 10 5))]) b_X10_person_5_5 rfl (fun hd => ?_)
  refine R2.if_ne 11 hd (by decide) (fun c5 => ?_) (fun c5 => ?_)
  · have nc5 : 0 ≤ p ∧ p < F 10 5 := b2i_nz.mp c5
    refine R2.B (ls2 := [some (.ref 5), some (.int p), some (.int w)]) (st2 := []) b_X10_person_11_11 rfl (fun hd => ?_)
    exact False.elim (by clear hd; grind)
  · have nc5 : ¬ (0 ≤ p ∧ p < F 10 5) := b2i_zero.mp c5
    refine R2.B (ls2 := [some (.ref 5), some (.int p), some (.int w)]) (st2 := [.int (-2)]) b_X10_person_8_10 rfl (fun hd => ?_)
    exact R2.ret3 (r := some (.int (-2))) hd trivial rfl rfl rfl
theorem per_t {F : FF} {n a : Nat} (hn : F 10 5 = nI n) (hn10 : n ≤ 10) (ha : a < n) : 0 ≤ nI a ∧ nI a < F 10 5 := by rw [hn]; exact ⟨nI_pos' (by omega), nI_lt ha (by omega)⟩
theorem b_X10_person_11_12 : bl2 mX10_person 11 [(.iload_n 2, 1, 2, 0, .null)] 12 (.tableswitch 92 0 4 #[36, 46, 56, 66, 79]) 36 = true := by decide +kernel
theorem b_X10_person_48_56 : bl2 mX10_person 48 [(.aload_n 0, 1, 0, 0, .null), (.getfield 24, 3, 10, 2, .null), (.getfield 134, 3, 0, 0, .null), (.iload_n 1, 1, 1, 0, .null)] 56 (.iaload) 1 = true := by decide +kernel
theorem b_X10_person_57_57 : bl2 mX10_person 57 [] 57 (.ireturn) 1 = true := by decide +kernel
set_option maxRecDepth 20000 in
set_option maxHeartbeats 1000000 in
theorem x_person0 (E : EE) (L : Nat) (F : FF) (n : Nat) (hn : F 10 5 = nI n) (hn10 : n ≤ 10) (a : Nat) (ha : a < n) : Ev3 E L 8 mX10_person [.ref 5, .int (nI a), .int 0] F (some (.int (F 11 a))) F := by
  refine Ev3.of okX10_person.2.2.1 (Nat.le_of_ble_eq_true rfl) ?_
  show R2 E L mX10_person 8 0 [some (.ref 5), some (.int (nI a)), some (.int 0)] [] F _
  refine R2.B (ls2 := [some (.ref 5), some (.int (nI a)), some (.int 0)]) (st2 := [.int (nI a), .ref 5]) b_X10_person_0_2 rfl (fun hd => ?_)
  refine R2.callV3 (M2 := mX10_isPerson) (As := [.int (nI a)]) (rest := []) hd lk_10_131 okX10_isPerson (by decide) rfl (ev_isPerson E L F (nI a)) (by decide) rfl rfl (Nat.le_of_ble_eq_true rfl) ?_
  refine R2.B (ls2 := [some (.ref 5), some (.int (nI a)), some (.int 0)]) (st2 := [.int (b2i (0 ≤ (nI a) ∧ (nI a) < F 10 5))]) b_X10_person_5_5 rfl (fun hd => ?_)
  refine R2.if_ne 11 hd (by decide) (fun c5 => ?_) (fun c5 => absurd c5 (b2i_nz.mpr (per_t hn hn10 ha)))
  refine R2.B (ls2 := [some (.ref 5), some (.int (nI a)), some (.int 0)]) (st2 := [.int 0]) b_X10_person_11_12 rfl (fun hd => ?_)
  refine R2.tblIn (off := 36) 48 hd (by decide) (by decide) rfl (by decide) ?_
  refine R2.B (ls2 := [some (.ref 5), some (.int (nI a)), some (.int 0)]) (st2 := [.int (nI a), .ref 11]) b_X10_person_48_56 rfl (fun hd => ?_)
  refine R2.iald a rfl hd rfl (fun _ => rfl) (by decide) (by omega) ?_
  refine R2.B (ls2 := [some (.ref 5), some (.int (nI a)), some (.int 0)]) (st2 := [.int (F 11 a)]) b_X10_person_57_57 rfl (fun hd => ?_)
  exact R2.ret3 (r := some (.int (F 11 a))) hd trivial rfl rfl rfl
theorem b_X10_person_58_66 : bl2 mX10_person 58 [(.aload_n 0, 1, 0, 0, .null), (.getfield 24, 3, 10, 2, .null), (.getfield 137, 3, 0, 1, .null), (.iload_n 1, 1, 1, 0, .null)] 66 (.iaload) 1 = true := by decide +kernel
theorem b_X10_person_67_67 : bl2 mX10_person 67 [] 67 (.ireturn) 1 = true := by decide +kernel
set_option maxRecDepth 20000 in
set_option maxHeartbeats 1000000 in
theorem x_person1 (E : EE) (L : Nat) (F : FF) (n : Nat) (hn : F 10 5 = nI n) (hn10 : n ≤ 10) (a : Nat) (ha : a < n) : Ev3 E L 8 mX10_person [.ref 5, .int (nI a), .int 1] F (some (.int (F 12 a))) F := by
  refine Ev3.of okX10_person.2.2.1 (Nat.le_of_ble_eq_true rfl) ?_
  show R2 E L mX10_person 8 0 [some (.ref 5), some (.int (nI a)), some (.int 1)] [] F _
  refine R2.B (ls2 := [some (.ref 5), some (.int (nI a)), some (.int 1)]) (st2 := [.int (nI a), .ref 5]) b_X10_person_0_2 rfl (fun hd => ?_)
  refine R2.callV3 (M2 := mX10_isPerson) (As := [.int (nI a)]) (rest := []) hd lk_10_131 okX10_isPerson (by decide) rfl (ev_isPerson E L F (nI a)) (by decide) rfl rfl (Nat.le_of_ble_eq_true rfl) ?_
  refine R2.B (ls2 := [some (.ref 5), some (.int (nI a)), some (.int 1)]) (st2 := [.int (b2i (0 ≤ (nI a) ∧ (nI a) < F 10 5))]) b_X10_person_5_5 rfl (fun hd => ?_)
  refine R2.if_ne 11 hd (by decide) (fun c5 => ?_) (fun c5 => absurd c5 (b2i_nz.mpr (per_t hn hn10 ha)))
  refine R2.B (ls2 := [some (.ref 5), some (.int (nI a)), some (.int 1)]) (st2 := [.int 1]) b_X10_person_11_12 rfl (fun hd => ?_)
  refine R2.tblIn (off := 46) 58 hd (by decide) (by decide) rfl (by decide) ?_
  refine R2.B (ls2 := [some (.ref 5), some (.int (nI a)), some (.int 1)]) (st2 := [.int (nI a), .ref 12]) b_X10_person_58_66 rfl (fun hd => ?_)
  refine R2.iald a rfl hd rfl (fun _ => rfl) (by decide) (by omega) ?_
  refine R2.B (ls2 := [some (.ref 5), some (.int (nI a)), some (.int 1)]) (st2 := [.int (F 12 a)]) b_X10_person_67_67 rfl (fun hd => ?_)
  exact R2.ret3 (r := some (.int (F 12 a))) hd trivial rfl rfl rfl
theorem b_X10_person_68_76 : bl2 mX10_person 68 [(.aload_n 0, 1, 0, 0, .null), (.getfield 24, 3, 10, 2, .null), (.getfield 140, 3, 0, 2, .null), (.iload_n 1, 1, 1, 0, .null)] 76 (.iaload) 1 = true := by decide +kernel
theorem b_X10_person_77_77 : bl2 mX10_person 77 [] 77 (.ireturn) 1 = true := by decide +kernel
set_option maxRecDepth 20000 in
set_option maxHeartbeats 1000000 in
theorem x_person2 (E : EE) (L : Nat) (F : FF) (n : Nat) (hn : F 10 5 = nI n) (hn10 : n ≤ 10) (a : Nat) (ha : a < n) : Ev3 E L 8 mX10_person [.ref 5, .int (nI a), .int 2] F (some (.int (F 13 a))) F := by
  refine Ev3.of okX10_person.2.2.1 (Nat.le_of_ble_eq_true rfl) ?_
  show R2 E L mX10_person 8 0 [some (.ref 5), some (.int (nI a)), some (.int 2)] [] F _
  refine R2.B (ls2 := [some (.ref 5), some (.int (nI a)), some (.int 2)]) (st2 := [.int (nI a), .ref 5]) b_X10_person_0_2 rfl (fun hd => ?_)
  refine R2.callV3 (M2 := mX10_isPerson) (As := [.int (nI a)]) (rest := []) hd lk_10_131 okX10_isPerson (by decide) rfl (ev_isPerson E L F (nI a)) (by decide) rfl rfl (Nat.le_of_ble_eq_true rfl) ?_
  refine R2.B (ls2 := [some (.ref 5), some (.int (nI a)), some (.int 2)]) (st2 := [.int (b2i (0 ≤ (nI a) ∧ (nI a) < F 10 5))]) b_X10_person_5_5 rfl (fun hd => ?_)
  refine R2.if_ne 11 hd (by decide) (fun c5 => ?_) (fun c5 => absurd c5 (b2i_nz.mpr (per_t hn hn10 ha)))
  refine R2.B (ls2 := [some (.ref 5), some (.int (nI a)), some (.int 2)]) (st2 := [.int 2]) b_X10_person_11_12 rfl (fun hd => ?_)
  refine R2.tblIn (off := 56) 68 hd (by decide) (by decide) rfl (by decide) ?_
  refine R2.B (ls2 := [some (.ref 5), some (.int (nI a)), some (.int 2)]) (st2 := [.int (nI a), .ref 13]) b_X10_person_68_76 rfl (fun hd => ?_)
  refine R2.iald a rfl hd rfl (fun _ => rfl) (by decide) (by omega) ?_
  refine R2.B (ls2 := [some (.ref 5), some (.int (nI a)), some (.int 2)]) (st2 := [.int (F 13 a)]) b_X10_person_77_77 rfl (fun hd => ?_)
  exact R2.ret3 (r := some (.int (F 13 a))) hd trivial rfl rfl rfl
theorem b_X10_person_78_86 : bl2 mX10_person 78 [(.aload_n 0, 1, 0, 0, .null), (.getfield 24, 3, 10, 2, .null), (.getfield 143, 3, 0, 4, .null), (.iload_n 1, 1, 1, 0, .null)] 86 (.iaload) 1 = true := by decide +kernel
theorem b_X10_person_87_89 : bl2 mX10_person 87 [(.bipush 32, 2, 0, 0, .int 32)] 89 (.irem) 1 = true := by decide +kernel
theorem b_X10_person_90_90 : bl2 mX10_person 90 [] 90 (.ireturn) 1 = true := by decide +kernel
set_option maxRecDepth 20000 in
set_option maxHeartbeats 1000000 in
theorem x_person3 (E : EE) (L : Nat) (F : FF) (n : Nat) (hn : F 10 5 = nI n) (hn10 : n ≤ 10) (a : Nat) (ha : a < n) : Ev3 E L 8 mX10_person [.ref 5, .int (nI a), .int 3] F (some (.int (rem32 (F 15 a)))) F := by
  refine Ev3.of okX10_person.2.2.1 (Nat.le_of_ble_eq_true rfl) ?_
  show R2 E L mX10_person 8 0 [some (.ref 5), some (.int (nI a)), some (.int 3)] [] F _
  refine R2.B (ls2 := [some (.ref 5), some (.int (nI a)), some (.int 3)]) (st2 := [.int (nI a), .ref 5]) b_X10_person_0_2 rfl (fun hd => ?_)
  refine R2.callV3 (M2 := mX10_isPerson) (As := [.int (nI a)]) (rest := []) hd lk_10_131 okX10_isPerson (by decide) rfl (ev_isPerson E L F (nI a)) (by decide) rfl rfl (Nat.le_of_ble_eq_true rfl) ?_
  refine R2.B (ls2 := [some (.ref 5), some (.int (nI a)), some (.int 3)]) (st2 := [.int (b2i (0 ≤ (nI a) ∧ (nI a) < F 10 5))]) b_X10_person_5_5 rfl (fun hd => ?_)
  refine R2.if_ne 11 hd (by decide) (fun c5 => ?_) (fun c5 => absurd c5 (b2i_nz.mpr (per_t hn hn10 ha)))
  refine R2.B (ls2 := [some (.ref 5), some (.int (nI a)), some (.int 3)]) (st2 := [.int 3]) b_X10_person_11_12 rfl (fun hd => ?_)
  refine R2.tblIn (off := 66) 78 hd (by decide) (by decide) rfl (by decide) ?_
  refine R2.B (ls2 := [some (.ref 5), some (.int (nI a)), some (.int 3)]) (st2 := [.int (nI a), .ref 15]) b_X10_person_78_86 rfl (fun hd => ?_)
  refine R2.iald a rfl hd rfl (fun _ => rfl) (by decide) (by omega) ?_
  refine R2.B (ls2 := [some (.ref 5), some (.int (nI a)), some (.int 3)]) (st2 := [.int 32, .int (F 15 a)]) b_X10_person_87_89 rfl (fun hd => ?_)
  refine R2.irem hd (by decide) ?_
  refine R2.B (ls2 := [some (.ref 5), some (.int (nI a)), some (.int 3)]) (st2 := [.int ((F 15 a) - (F 15 a) / 32 * 32)]) b_X10_person_90_90 rfl (fun hd => ?_)
  exact R2.ret3 (r := some (.int ((F 15 a) - (F 15 a) / 32 * 32))) hd trivial rfl rfl rfl
theorem b_X10_person_91_99 : bl2 mX10_person 91 [(.aload_n 0, 1, 0, 0, .null), (.getfield 24, 3, 10, 2, .null), (.getfield 143, 3, 0, 4, .null), (.iload_n 1, 1, 1, 0, .null)] 99 (.iaload) 1 = true := by decide +kernel
theorem b_X10_person_100_102 : bl2 mX10_person 100 [(.bipush 32, 2, 0, 0, .int 32)] 102 (.idiv) 1 = true := by decide +kernel
theorem b_X10_person_103_103 : bl2 mX10_person 103 [] 103 (.ireturn) 1 = true := by decide +kernel
set_option maxRecDepth 20000 in
set_option maxHeartbeats 1000000 in
theorem x_person4 (E : EE) (L : Nat) (F : FF) (n : Nat) (hn : F 10 5 = nI n) (hn10 : n ≤ 10) (a : Nat) (ha : a < n) : Ev3 E L 8 mX10_person [.ref 5, .int (nI a), .int 4] F (some (.int (F 15 a / 32))) F := by
  refine Ev3.of okX10_person.2.2.1 (Nat.le_of_ble_eq_true rfl) ?_
  show R2 E L mX10_person 8 0 [some (.ref 5), some (.int (nI a)), some (.int 4)] [] F _
  refine R2.B (ls2 := [some (.ref 5), some (.int (nI a)), some (.int 4)]) (st2 := [.int (nI a), .ref 5]) b_X10_person_0_2 rfl (fun hd => ?_)
  refine R2.callV3 (M2 := mX10_isPerson) (As := [.int (nI a)]) (rest := []) hd lk_10_131 okX10_isPerson (by decide) rfl (ev_isPerson E L F (nI a)) (by decide) rfl rfl (Nat.le_of_ble_eq_true rfl) ?_
  refine R2.B (ls2 := [some (.ref 5), some (.int (nI a)), some (.int 4)]) (st2 := [.int (b2i (0 ≤ (nI a) ∧ (nI a) < F 10 5))]) b_X10_person_5_5 rfl (fun hd => ?_)
  refine R2.if_ne 11 hd (by decide) (fun c5 => ?_) (fun c5 => absurd c5 (b2i_nz.mpr (per_t hn hn10 ha)))
  refine R2.B (ls2 := [some (.ref 5), some (.int (nI a)), some (.int 4)]) (st2 := [.int 4]) b_X10_person_11_12 rfl (fun hd => ?_)
  refine R2.tblIn (off := 79) 91 hd (by decide) (by decide) rfl (by decide) ?_
  refine R2.B (ls2 := [some (.ref 5), some (.int (nI a)), some (.int 4)]) (st2 := [.int (nI a), .ref 15]) b_X10_person_91_99 rfl (fun hd => ?_)
  refine R2.iald a rfl hd rfl (fun _ => rfl) (by decide) (by omega) ?_
  refine R2.B (ls2 := [some (.ref 5), some (.int (nI a)), some (.int 4)]) (st2 := [.int 32, .int (F 15 a)]) b_X10_person_100_102 rfl (fun hd => ?_)
  refine R2.idiv hd (by decide) ?_
  refine R2.B (ls2 := [some (.ref 5), some (.int (nI a)), some (.int 4)]) (st2 := [.int ((F 15 a) / 32)]) b_X10_person_103_103 rfl (fun hd => ?_)
  exact R2.ret3 (r := some (.int ((F 15 a) / 32))) hd trivial rfl rfl rfl
theorem b_X10_person_104_106 : bl2 mX10_person 104 [(.bipush (-2), 2, 0, 0, .int (-2))] 106 (.ireturn) 1 = true := by decide +kernel
set_option maxRecDepth 20000 in
set_option maxHeartbeats 1000000 in
theorem x_person_out (E : EE) (L : Nat) (F : FF) (n : Nat) (hn : F 10 5 = nI n) (hn10 : n ≤ 10) (a : Nat) (ha : a < n) (w : Int32) (h : w.toInt < 0 ∨ 4 < w.toInt) : Ev3 E L 8 mX10_person [.ref 5, .int (nI a), .int w] F (some (.int (-2))) F := by
  refine Ev3.of okX10_person.2.2.1 (Nat.le_of_ble_eq_true rfl) ?_
  show R2 E L mX10_person 8 0 [some (.ref 5), some (.int (nI a)), some (.int w)] [] F _
  refine R2.B (ls2 := [some (.ref 5), some (.int (nI a)), some (.int w)]) (st2 := [.int (nI a), .ref 5]) b_X10_person_0_2 rfl (fun hd => ?_)
  refine R2.callV3 (M2 := mX10_isPerson) (As := [.int (nI a)]) (rest := []) hd lk_10_131 okX10_isPerson (by decide) rfl (ev_isPerson E L F (nI a)) (by decide) rfl rfl (Nat.le_of_ble_eq_true rfl) ?_
  refine R2.B (ls2 := [some (.ref 5), some (.int (nI a)), some (.int w)]) (st2 := [.int (b2i (0 ≤ (nI a) ∧ (nI a) < F 10 5))]) b_X10_person_5_5 rfl (fun hd => ?_)
  refine R2.if_ne 11 hd (by decide) (fun c5 => ?_) (fun c5 => absurd c5 (b2i_nz.mpr (per_t hn hn10 ha)))
  refine R2.B (ls2 := [some (.ref 5), some (.int (nI a)), some (.int w)]) (st2 := [.int w]) b_X10_person_11_12 rfl (fun hd => ?_)
  refine R2.tblOut 104 hd (h) (by decide) ?_
  refine R2.B (ls2 := [some (.ref 5), some (.int (nI a)), some (.int w)]) (st2 := [.int (-2)]) b_X10_person_104_106 rfl (fun hd => ?_)
  exact R2.ret3 (r := some (.int (-2))) hd trivial rfl rfl rfl
theorem b_X10_goes_0_13 : bl2 mX10_goes 0 [(.aload_n 0, 1, 0, 0, .null), (.getfield 33, 3, 10, 3, .null), (.aload_n 0, 1, 0, 0, .null), (.getfield 24, 3, 10, 2, .null), (.getfield 143, 3, 0, 4, .null), (.iload_n 1, 1, 1, 0, .null), (.iload_n 2, 1, 2, 0, .null)] 13 (.invokevirtual 325) 3 = true := by decide +kernel
theorem b_X10_goes_16_19 : bl2 mX10_goes 16 [(.istore_n 3, 1, 3, 0, .null), (.iload_n 3, 1, 3, 0, .null), (.iconst (-1), 1, 0, 0, .int (-1))] 19 (.if_icmp .ne 5) 3 = true := by decide +kernel
theorem b_X10_goes_22_23 : bl2 mX10_goes 22 [(.iconst 0, 1, 0, 0, .int 0)] 23 (.ireturn) 1 = true := by decide +kernel
set_option maxRecDepth 20000 in
set_option maxHeartbeats 1000000 in
theorem ev_goes0 (E : EE) (L : Nat) (F : FF) (hc : CST F) (n : Nat) (hn : F 10 5 = nI n) (hn10 : n ≤ 10) (a d : Nat) (ha : a < n) (hd8 : d < 8) (h : lawS (F 15) a d (F 17 2 * F 17 2) n = -1) : Ev3 E L 4 mX10_goes [.ref 5, .int (nI a), .int (nI d)] F (some (.int 0)) F := by
  refine Ev3.of okX10_goes.2.2.1 (Nat.le_of_ble_eq_true rfl) ?_
  show R2 E L mX10_goes 4 0 [some (.ref 5), some (.int (nI a)), some (.int (nI d)), none] [] F _
  refine R2.B (ls2 := [some (.ref 5), some (.int (nI a)), some (.int (nI d)), none]) (st2 := [.int (nI d), .int (nI a), .ref 15, .ref 16]) b_X10_goes_0_13 rfl (fun hd => ?_)
  refine R2.callV3 (M2 := mX2_lawfulStep) (As := [.ref 15, .int (nI a), .int (nI d)]) (rest := []) hd lk_10_325 okX2_lawfulStep (by decide) rfl (ev_lawfulStep E L F hc n hn hn10 15 rfl (fun _ => rfl) a d (by omega) (by omega)) (by decide) rfl rfl (Nat.le_of_ble_eq_true rfl) ?_
  refine R2.B (ls2 := [some (.ref 5), some (.int (nI a)), some (.int (nI d)), some (.int (lawS (F 15) a d ((F 17 2) * (F 17 2)) n))]) (st2 := [.int (-1), .int (lawS (F 15) a d ((F 17 2) * (F 17 2)) n)]) b_X10_goes_16_19 rfl (fun hd => ?_)
  refine R2.icmp_ne 24 hd (by decide) (fun c19 => absurd (h) c19) (fun c19 => ?_)
  refine R2.B (ls2 := [some (.ref 5), some (.int (nI a)), some (.int (nI d)), some (.int (lawS (F 15) a d ((F 17 2) * (F 17 2)) n))]) (st2 := [.int 0]) b_X10_goes_22_23 rfl (fun hd => ?_)
  exact R2.ret3 (r := some (.int 0)) hd (Or.inl rfl) rfl rfl rfl
theorem b_X10_goes_24_33 : bl2 mX10_goes 24 [(.aload_n 0, 1, 0, 0, .null), (.getfield 24, 3, 10, 2, .null), (.getfield 143, 3, 0, 4, .null), (.iload_n 1, 1, 1, 0, .null), (.iload_n 3, 1, 3, 0, .null)] 33 (.iastore) 1 = true := by decide +kernel
theorem b_X10_goes_34_35 : bl2 mX10_goes 34 [(.iconst 1, 1, 0, 0, .int 1)] 35 (.ireturn) 1 = true := by decide +kernel
set_option maxRecDepth 20000 in
set_option maxHeartbeats 1000000 in
theorem ev_goes1 (E : EE) (L : Nat) (F : FF) (hc : CST F) (n : Nat) (hn : F 10 5 = nI n) (hn10 : n ≤ 10) (a d : Nat) (ha : a < n) (hd8 : d < 8) (h : ¬ lawS (F 15) a d (F 17 2 * F 17 2) n = -1) : Ev3 E L 4 mX10_goes [.ref 5, .int (nI a), .int (nI d)] F (some (.int 1)) (up2 F 15 a (lawS (F 15) a d (F 17 2 * F 17 2) n)) := by
  refine Ev3.of okX10_goes.2.2.1 (Nat.le_of_ble_eq_true rfl) ?_
  show R2 E L mX10_goes 4 0 [some (.ref 5), some (.int (nI a)), some (.int (nI d)), none] [] F _
  refine R2.B (ls2 := [some (.ref 5), some (.int (nI a)), some (.int (nI d)), none]) (st2 := [.int (nI d), .int (nI a), .ref 15, .ref 16]) b_X10_goes_0_13 rfl (fun hd => ?_)
  refine R2.callV3 (M2 := mX2_lawfulStep) (As := [.ref 15, .int (nI a), .int (nI d)]) (rest := []) hd lk_10_325 okX2_lawfulStep (by decide) rfl (ev_lawfulStep E L F hc n hn hn10 15 rfl (fun _ => rfl) a d (by omega) (by omega)) (by decide) rfl rfl (Nat.le_of_ble_eq_true rfl) ?_
  refine R2.B (ls2 := [some (.ref 5), some (.int (nI a)), some (.int (nI d)), some (.int (lawS (F 15) a d ((F 17 2) * (F 17 2)) n))]) (st2 := [.int (-1), .int (lawS (F 15) a d ((F 17 2) * (F 17 2)) n)]) b_X10_goes_16_19 rfl (fun hd => ?_)
  refine R2.icmp_ne 24 hd (by decide) (fun c19 => ?_) (fun c19 => absurd c19 (h))
  refine R2.B (ls2 := [some (.ref 5), some (.int (nI a)), some (.int (nI d)), some (.int (lawS (F 15) a d ((F 17 2) * (F 17 2)) n))]) (st2 := [.int (lawS (F 15) a d ((F 17 2) * (F 17 2)) n), .int (nI a), .ref 15]) b_X10_goes_24_33 rfl (fun hd => ?_)
  refine R2.iast a rfl hd (by decide) rfl (fun _ => rfl) (by decide) (by omega) ?_
  refine R2.B (ls2 := [some (.ref 5), some (.int (nI a)), some (.int (nI d)), some (.int (lawS (F 15) a d ((F 17 2) * (F 17 2)) n))]) (st2 := [.int 1]) b_X10_goes_34_35 rfl (fun hd => ?_)
  exact R2.ret3 (r := some (.int 1)) hd (Or.inr rfl) rfl rfl rfl
theorem b_X10_step_0_2 : bl2 mX10_step 0 [(.aload_n 0, 1, 0, 0, .null), (.iload_n 1, 1, 1, 0, .null)] 2 (.invokevirtual 131) 3 = true := by decide +kernel
theorem b_X10_step_5_5 : bl2 mX10_step 5 [] 5 (.ifCond .eq 10) 3 = true := by decide +kernel
theorem b_X10_step_15_17 : bl2 mX10_step 15 [(.bipush (-2), 2, 0, 0, .int (-2))] 17 (.ireturn) 1 = true := by decide +kernel
theorem b_X10_step_8_9 : bl2 mX10_step 8 [(.iload_n 2, 1, 2, 0, .null)] 9 (.invokestatic 146) 3 = true := by decide +kernel
theorem b_X10_step_12_12 : bl2 mX10_step 12 [] 12 (.ifCond .ne 6) 3 = true := by decide +kernel
theorem b_X10_step_18_18 : bl2 mX10_step 18 [] 18 (.aload_n 0) 1 = true := by decide +kernel
set_option maxRecDepth 20000 in
set_option maxHeartbeats 1000000 in
theorem x_step_bad (E : EE) (L : Nat) (F : FF) (p d : Int32) (h : ¬ (0 ≤ p ∧ p < F 10 5) ∨ ¬ (0 ≤ d ∧ d < 8)) : Ev3 E L 8 mX10_step [.ref 5, .int p, .int d] F (some (.int (-2))) F := by
  refine Ev3.of okX10_step.2.2.1 (Nat.le_of_ble_eq_true rfl) ?_
  show R2 E L mX10_step 8 0 [some (.ref 5), some (.int p), some (.int d)] [] F _
  refine R2.B (ls2 := [some (.ref 5), some (.int p), some (.int d)]) (st2 := [.int p, .ref 5]) b_X10_step_0_2 rfl (fun hd => ?_)
  refine R2.callV3 (M2 := mX10_isPerson) (As := [.int p]) (rest := []) hd lk_10_131 okX10_isPerson (by decide) rfl (ev_isPerson E L F p) (by decide) rfl rfl (Nat.le_of_ble_eq_true rfl) ?_
  refine R2.B (ls2 := [some (.ref 5), some (.int p), some (.int d)]) (st2 := [.int (b2i (0 ≤ p ∧ p < F 10 5))]) b_X10_step_5_5 rfl (fun hd => ?_)
  refine R2.if_eq 15 hd (by decide) (fun c5 => ?_) (fun c5 => ?_)
  · have nc5 : ¬ (0 ≤ p ∧ p < F 10 5) := b2i_zero.mp c5
    refine R2.B (ls2 := [some (.ref 5), some (.int p), some (.int d)]) (st2 := [.int (-2)]) b_X10_step_15_17 rfl (fun hd => ?_)
    exact R2.ret3 (r := some (.int (-2))) hd trivial rfl rfl rfl
  · have nc5 : 0 ≤ p ∧ p < F 10 5 := b2i_nz.mp c5
    refine R2.B (ls2 := [some (.ref 5), some (.int p), some (.int d)]) (st2 := [.int d]) b_X10_step_8_9 rfl (fun hd => ?_)
    refine R2.callS3 (M2 := mX10_isDirection) (As := [.int d]) (rest := []) hd lk_10_146 okX10_isDirection (by decide) (ev_isDirection E L F d) (by decide) rfl rfl (Nat.le_of_ble_eq_true rfl) ?_
    refine R2.B (ls2 := [some (.ref 5), some (.int p), some (.int d)]) (st2 := [.int (b2i (0 ≤ d ∧ d < 8))]) b_X10_step_12_12 rfl (fun hd => ?_)
    refine R2.if_ne 18 hd (by decide) (fun c12 => ?_) (fun c12 => ?_)
    · have nc12 : 0 ≤ d ∧ d < 8 := b2i_nz.mp c12
      refine R2.B (ls2 := [some (.ref 5), some (.int p), some (.int d)]) (st2 := []) b_X10_step_18_18 rfl (fun hd => ?_)
      exact False.elim (by clear hd; grind)
    · have nc12 : ¬ (0 ≤ d ∧ d < 8) := b2i_zero.mp c12
      refine R2.B (ls2 := [some (.ref 5), some (.int p), some (.int d)]) (st2 := [.int (-2)]) b_X10_step_15_17 rfl (fun hd => ?_)
      exact R2.ret3 (r := some (.int (-2))) hd trivial rfl rfl rfl
theorem b_X10_step_18_21 : bl2 mX10_step 18 [(.aload_n 0, 1, 0, 0, .null), (.iload_n 1, 1, 1, 0, .null), (.iload_n 2, 1, 2, 0, .null)] 21 (.invokevirtual 149) 3 = true := by decide +kernel
theorem b_X10_step_24_24 : bl2 mX10_step 24 [] 24 (.ifCond .eq 7) 3 = true := by decide +kernel
theorem b_X10_step_31_33 : bl2 mX10_step 31 [(.bipush (-3), 2, 0, 0, .int (-3))] 33 (.ireturn) 1 = true := by decide +kernel
set_option maxRecDepth 20000 in
set_option maxHeartbeats 1000000 in
theorem x_step0 (E : EE) (L : Nat) (F : FF) (hc : CST F) (n : Nat) (hn : F 10 5 = nI n) (hn10 : n ≤ 10) (a d : Nat) (ha : a < n) (hd8 : d < 8) (h : lawS (F 15) a d (F 17 2 * F 17 2) n = -1) : Ev3 E L 8 mX10_step [.ref 5, .int (nI a), .int (nI d)] F (some (.int (-3))) F := by
  refine Ev3.of okX10_step.2.2.1 (Nat.le_of_ble_eq_true rfl) ?_
  show R2 E L mX10_step 8 0 [some (.ref 5), some (.int (nI a)), some (.int (nI d))] [] F _
  refine R2.B (ls2 := [some (.ref 5), some (.int (nI a)), some (.int (nI d))]) (st2 := [.int (nI a), .ref 5]) b_X10_step_0_2 rfl (fun hd => ?_)
  refine R2.callV3 (M2 := mX10_isPerson) (As := [.int (nI a)]) (rest := []) hd lk_10_131 okX10_isPerson (by decide) rfl (ev_isPerson E L F (nI a)) (by decide) rfl rfl (Nat.le_of_ble_eq_true rfl) ?_
  refine R2.B (ls2 := [some (.ref 5), some (.int (nI a)), some (.int (nI d))]) (st2 := [.int (b2i (0 ≤ (nI a) ∧ (nI a) < F 10 5))]) b_X10_step_5_5 rfl (fun hd => ?_)
  refine R2.if_eq 15 hd (by decide) (fun c5 => absurd c5 (b2i_nz.mpr (per_t hn hn10 ha))) (fun c5 => ?_)
  refine R2.B (ls2 := [some (.ref 5), some (.int (nI a)), some (.int (nI d))]) (st2 := [.int (nI d)]) b_X10_step_8_9 rfl (fun hd => ?_)
  refine R2.callS3 (M2 := mX10_isDirection) (As := [.int (nI d)]) (rest := []) hd lk_10_146 okX10_isDirection (by decide) (ev_isDirection E L F (nI d)) (by decide) rfl rfl (Nat.le_of_ble_eq_true rfl) ?_
  refine R2.B (ls2 := [some (.ref 5), some (.int (nI a)), some (.int (nI d))]) (st2 := [.int (b2i (0 ≤ (nI d) ∧ (nI d) < 8))]) b_X10_step_12_12 rfl (fun hd => ?_)
  refine R2.if_ne 18 hd (by decide) (fun c12 => ?_) (fun c12 => absurd c12 (b2i_nz.mpr ⟨nI_pos' (by omega), nI_lt (b := 8) hd8 (by decide)⟩))
  refine R2.B (ls2 := [some (.ref 5), some (.int (nI a)), some (.int (nI d))]) (st2 := [.int (nI d), .int (nI a), .ref 5]) b_X10_step_18_21 rfl (fun hd => ?_)
  refine R2.callV3 (M2 := mX10_goes) (As := [.int (nI a), .int (nI d)]) (rest := []) hd lk_10_149 okX10_goes (by decide) rfl (ev_goes0 E L F hc n hn hn10 a d ha hd8 h) (by decide) rfl rfl (Nat.le_of_ble_eq_true rfl) ?_
  refine R2.B (ls2 := [some (.ref 5), some (.int (nI a)), some (.int (nI d))]) (st2 := [.int 0]) b_X10_step_24_24 rfl (fun hd => ?_)
  refine R2.if_eq 31 hd (by decide) (fun c24 => ?_) (fun c24 => absurd (by decide) c24)
  refine R2.B (ls2 := [some (.ref 5), some (.int (nI a)), some (.int (nI d))]) (st2 := [.int (-3)]) b_X10_step_31_33 rfl (fun hd => ?_)
  exact R2.ret3 (r := some (.int (-3))) hd trivial rfl rfl rfl
theorem b_X10_step_27_33 : bl2 mX10_step 27 [(.iconst 1, 1, 0, 0, .int 1), (.goto 5, 3, 33, 0, .null)] 33 (.ireturn) 1 = true := by decide +kernel
set_option maxRecDepth 20000 in
set_option maxHeartbeats 1000000 in
theorem x_step1 (E : EE) (L : Nat) (F : FF) (hc : CST F) (n : Nat) (hn : F 10 5 = nI n) (hn10 : n ≤ 10) (a d : Nat) (ha : a < n) (hd8 : d < 8) (h : ¬ lawS (F 15) a d (F 17 2 * F 17 2) n = -1) : Ev3 E L 8 mX10_step [.ref 5, .int (nI a), .int (nI d)] F (some (.int 1)) (up2 F 15 a (lawS (F 15) a d (F 17 2 * F 17 2) n)) := by
  refine Ev3.of okX10_step.2.2.1 (Nat.le_of_ble_eq_true rfl) ?_
  show R2 E L mX10_step 8 0 [some (.ref 5), some (.int (nI a)), some (.int (nI d))] [] F _
  refine R2.B (ls2 := [some (.ref 5), some (.int (nI a)), some (.int (nI d))]) (st2 := [.int (nI a), .ref 5]) b_X10_step_0_2 rfl (fun hd => ?_)
  refine R2.callV3 (M2 := mX10_isPerson) (As := [.int (nI a)]) (rest := []) hd lk_10_131 okX10_isPerson (by decide) rfl (ev_isPerson E L F (nI a)) (by decide) rfl rfl (Nat.le_of_ble_eq_true rfl) ?_
  refine R2.B (ls2 := [some (.ref 5), some (.int (nI a)), some (.int (nI d))]) (st2 := [.int (b2i (0 ≤ (nI a) ∧ (nI a) < F 10 5))]) b_X10_step_5_5 rfl (fun hd => ?_)
  refine R2.if_eq 15 hd (by decide) (fun c5 => absurd c5 (b2i_nz.mpr (per_t hn hn10 ha))) (fun c5 => ?_)
  refine R2.B (ls2 := [some (.ref 5), some (.int (nI a)), some (.int (nI d))]) (st2 := [.int (nI d)]) b_X10_step_8_9 rfl (fun hd => ?_)
  refine R2.callS3 (M2 := mX10_isDirection) (As := [.int (nI d)]) (rest := []) hd lk_10_146 okX10_isDirection (by decide) (ev_isDirection E L F (nI d)) (by decide) rfl rfl (Nat.le_of_ble_eq_true rfl) ?_
  refine R2.B (ls2 := [some (.ref 5), some (.int (nI a)), some (.int (nI d))]) (st2 := [.int (b2i (0 ≤ (nI d) ∧ (nI d) < 8))]) b_X10_step_12_12 rfl (fun hd => ?_)
  refine R2.if_ne 18 hd (by decide) (fun c12 => ?_) (fun c12 => absurd c12 (b2i_nz.mpr ⟨nI_pos' (by omega), nI_lt (b := 8) hd8 (by decide)⟩))
  refine R2.B (ls2 := [some (.ref 5), some (.int (nI a)), some (.int (nI d))]) (st2 := [.int (nI d), .int (nI a), .ref 5]) b_X10_step_18_21 rfl (fun hd => ?_)
  refine R2.callV3 (M2 := mX10_goes) (As := [.int (nI a), .int (nI d)]) (rest := []) hd lk_10_149 okX10_goes (by decide) rfl (ev_goes1 E L F hc n hn hn10 a d ha hd8 h) (by decide) rfl rfl (Nat.le_of_ble_eq_true rfl) ?_
  refine R2.B (ls2 := [some (.ref 5), some (.int (nI a)), some (.int (nI d))]) (st2 := [.int 1]) b_X10_step_24_24 rfl (fun hd => ?_)
  refine R2.if_eq 31 hd (by decide) (fun c24 => absurd c24 (by decide)) (fun c24 => ?_)
  refine R2.B (ls2 := [some (.ref 5), some (.int (nI a)), some (.int (nI d))]) (st2 := [.int 1]) b_X10_step_27_33 rfl (fun hd => ?_)
  exact R2.ret3 (r := some (.int 1)) hd trivial rfl rfl rfl
