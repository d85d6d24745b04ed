/-! The public methods: sheets, count. Printed by wip/whole/gen/spec13.py. -/
theorem b_X10_sheet_0_1 : bl2 mX10_sheet 0 [(.iload_n 1, 1, 1, 0, .null)] 1 (.invokestatic 153) 3 = true := by decide +kernel
theorem b_X10_sheet_4_4 : bl2 mX10_sheet 4 [] 4 (.ifCond .eq 16) 3 = true := by decide +kernel
theorem b_X10_sheet_20_22 : bl2 mX10_sheet 20 [(.bipush (-2), 2, 0, 0, .int (-2))] 22 (.ireturn) 1 = true := by decide +kernel
theorem b_X10_sheet_7_8 : bl2 mX10_sheet 7 [(.iload_n 2, 1, 2, 0, .null)] 8 (.invokestatic 264) 3 = true := by decide +kernel
theorem b_X10_sheet_11_11 : bl2 mX10_sheet 11 [] 11 (.ifCond .eq 9) 3 = true := by decide +kernel
theorem b_X10_sheet_14_17 : bl2 mX10_sheet 14 [(.iload_n 3, 1, 3, 0, .null), (.bipush 60, 2, 0, 0, .int 60)] 17 (.if_icmp .le 6) 3 = true := by decide +kernel
theorem b_X10_sheet_23_23 : bl2 mX10_sheet 23 [] 23 (.iload_n 3) 1 = true := by decide +kernel
set_option maxRecDepth 20000 in
set_option maxHeartbeats 1000000 in
theorem x_sheet_bad (E : EE) (L : Nat) (F : FF) (s f x : Int32) (h : ¬ (0 ≤ s ∧ s < 4) ∨ ¬ (0 ≤ f ∧ f < 3) ∨ 60 < x) : Ev3 E L 16 mX10_sheet [.ref 5, .int s, .int f, .int x] F (some (.int (-2))) F := by
  refine Ev3.of okX10_sheet.2.2.1 (Nat.le_of_ble_eq_true rfl) ?_
  show R2 E L mX10_sheet 16 0 [some (.ref 5), some (.int s), some (.int f), some (.int x)] [] F _
  refine R2.B (ls2 := [some (.ref 5), some (.int s), some (.int f), some (.int x)]) (st2 := [.int s]) b_X10_sheet_0_1 rfl (fun hd => ?_)
  refine R2.callS3 (M2 := mX10_isSheet) (As := [.int s]) (rest := []) hd lk_10_153 okX10_isSheet (by decide) (ev_isSheet E L F s) (by decide) rfl rfl (Nat.le_of_ble_eq_true rfl) ?_
  refine R2.B (ls2 := [some (.ref 5), some (.int s), some (.int f), some (.int x)]) (st2 := [.int (b2i (0 ≤ s ∧ s < 4))]) b_X10_sheet_4_4 rfl (fun hd => ?_)
  refine R2.if_eq 20 hd (by decide) (fun c4 => ?_) (fun c4 => ?_)
  · have nc4 : ¬ (0 ≤ s ∧ s < 4) := b2i_zero.mp c4
    refine R2.B (ls2 := [some (.ref 5), some (.int s), some (.int f), some (.int x)]) (st2 := [.int (-2)]) b_X10_sheet_20_22 rfl (fun hd => ?_)
    exact R2.ret3 (r := some (.int (-2))) hd trivial rfl rfl rfl
  · have nc4 : 0 ≤ s ∧ s < 4 := b2i_nz.mp c4
    refine R2.B (ls2 := [some (.ref 5), some (.int s), some (.int f), some (.int x)]) (st2 := [.int f]) b_X10_sheet_7_8 rfl (fun hd => ?_)
    refine R2.callS3 (M2 := mX10_isForm) (As := [.int f]) (rest := []) hd lk_10_264 okX10_isForm (by decide) (ev_isForm E L F f) (by decide) rfl rfl (Nat.le_of_ble_eq_true rfl) ?_
    refine R2.B (ls2 := [some (.ref 5), some (.int s), some (.int f), some (.int x)]) (st2 := [.int (b2i (0 ≤ f ∧ f < 3))]) b_X10_sheet_11_11 rfl (fun hd => ?_)
    refine R2.if_eq 20 hd (by decide) (fun c11 => ?_) (fun c11 => ?_)
    · have nc11 : ¬ (0 ≤ f ∧ f < 3) := b2i_zero.mp c11
      refine R2.B (ls2 := [some (.ref 5), some (.int s), some (.int f), some (.int x)]) (st2 := [.int (-2)]) b_X10_sheet_20_22 rfl (fun hd => ?_)
      exact R2.ret3 (r := some (.int (-2))) hd trivial rfl rfl rfl
    · have nc11 : 0 ≤ f ∧ f < 3 := b2i_nz.mp c11
      refine R2.B (ls2 := [some (.ref 5), some (.int s), some (.int f), some (.int x)]) (st2 := [.int 60, .int x]) b_X10_sheet_14_17 rfl (fun hd => ?_)
      refine R2.icmp_le 23 hd (by decide) (fun c17 => ?_) (fun c17 => ?_)
      · refine R2.B (ls2 := [some (.ref 5), some (.int s), some (.int f), some (.int x)]) (st2 := []) b_X10_sheet_23_23 rfl (fun hd => ?_)
        exact False.elim (by clear hd; grind)
      · refine R2.B (ls2 := [some (.ref 5), some (.int s), some (.int f), some (.int x)]) (st2 := [.int (-2)]) b_X10_sheet_20_22 rfl (fun hd => ?_)
        exact R2.ret3 (r := some (.int (-2))) hd trivial rfl rfl rfl
theorem b_X10_lose_0_1 : bl2 mX10_lose 0 [(.iload_n 1, 1, 1, 0, .null)] 1 (.invokestatic 153) 3 = true := by decide +kernel
theorem b_X10_lose_4_4 : bl2 mX10_lose 4 [] 4 (.ifCond .ne 6) 3 = true := by decide +kernel
theorem b_X10_lose_10_10 : bl2 mX10_lose 10 [] 10 (.aload_n 0) 1 = true := by decide +kernel
theorem b_X10_lose_7_9 : bl2 mX10_lose 7 [(.bipush (-2), 2, 0, 0, .int (-2))] 9 (.ireturn) 1 = true := by decide +kernel
set_option maxRecDepth 20000 in
set_option maxHeartbeats 1000000 in
theorem x_lose_bad (E : EE) (L : Nat) (F : FF) (s : Int32) (h : ¬ (0 ≤ s ∧ s < 4)) : Ev3 E L 16 mX10_lose [.ref 5, .int s] F (some (.int (-2))) F := by
  refine Ev3.of okX10_lose.2.2.1 (Nat.le_of_ble_eq_true rfl) ?_
  show R2 E L mX10_lose 16 0 [some (.ref 5), some (.int s)] [] F _
  refine R2.B (ls2 := [some (.ref 5), some (.int s)]) (st2 := [.int s]) b_X10_lose_0_1 rfl (fun hd => ?_)
  refine R2.callS3 (M2 := mX10_isSheet) (As := [.int s]) (rest := []) hd lk_10_153 okX10_isSheet (by decide) (ev_isSheet E L F s) (by decide) rfl rfl (Nat.le_of_ble_eq_true rfl) ?_
  refine R2.B (ls2 := [some (.ref 5), some (.int s)]) (st2 := [.int (b2i (0 ≤ s ∧ s < 4))]) b_X10_lose_4_4 rfl (fun hd => ?_)
  refine R2.if_ne 10 hd (by decide) (fun c4 => ?_) (fun c4 => ?_)
  · have nc4 : 0 ≤ s ∧ s < 4 := b2i_nz.mp c4
    refine R2.B (ls2 := [some (.ref 5), some (.int s)]) (st2 := []) b_X10_lose_10_10 rfl (fun hd => ?_)
    exact False.elim (by clear hd; grind)
  · have nc4 : ¬ (0 ≤ s ∧ s < 4) := b2i_zero.mp c4
    refine R2.B (ls2 := [some (.ref 5), some (.int s)]) (st2 := [.int (-2)]) b_X10_lose_7_9 rfl (fun hd => ?_)
    exact R2.ret3 (r := some (.int (-2))) hd trivial rfl rfl rfl
theorem b_X10_put_0_1 : bl2 mX10_put 0 [(.iload_n 1, 1, 1, 0, .null)] 1 (.invokestatic 153) 3 = true := by decide +kernel
theorem b_X10_put_4_4 : bl2 mX10_put 4 [] 4 (.ifCond .eq 10) 3 = true := by decide +kernel
theorem b_X10_put_14_16 : bl2 mX10_put 14 [(.bipush (-2), 2, 0, 0, .int (-2))] 16 (.ireturn) 1 = true := by decide +kernel
theorem b_X10_put_7_8 : bl2 mX10_put 7 [(.iload_n 2, 1, 2, 0, .null)] 8 (.invokestatic 264) 3 = true := by decide +kernel
theorem b_X10_put_11_11 : bl2 mX10_put 11 [] 11 (.ifCond .ne 6) 3 = true := by decide +kernel
theorem b_X10_put_17_17 : bl2 mX10_put 17 [] 17 (.aload_n 0) 1 = true := by decide +kernel
set_option maxRecDepth 20000 in
set_option maxHeartbeats 1000000 in
theorem x_put_bad (E : EE) (L : Nat) (F : FF) (s f x v : Int32) (h : ¬ (0 ≤ s ∧ s < 4) ∨ ¬ (0 ≤ f ∧ f < 3)) : Ev3 E L 16 mX10_put [.ref 5, .int s, .int f, .int x, .int v] F (some (.int (-2))) F := by
  refine Ev3.of okX10_put.2.2.1 (Nat.le_of_ble_eq_true rfl) ?_
  show R2 E L mX10_put 16 0 [some (.ref 5), some (.int s), some (.int f), some (.int x), some (.int v), none] [] F _
  refine R2.B (ls2 := [some (.ref 5), some (.int s), some (.int f), some (.int x), some (.int v), none]) (st2 := [.int s]) b_X10_put_0_1 rfl (fun hd => ?_)
  refine R2.callS3 (M2 := mX10_isSheet) (As := [.int s]) (rest := []) hd lk_10_153 okX10_isSheet (by decide) (ev_isSheet E L F s) (by decide) rfl rfl (Nat.le_of_ble_eq_true rfl) ?_
  refine R2.B (ls2 := [some (.ref 5), some (.int s), some (.int f), some (.int x), some (.int v), none]) (st2 := [.int (b2i (0 ≤ s ∧ s < 4))]) b_X10_put_4_4 rfl (fun hd => ?_)
  refine R2.if_eq 14 hd (by decide) (fun c4 => ?_) (fun c4 => ?_)
  · have nc4 : ¬ (0 ≤ s ∧ s < 4) := b2i_zero.mp c4
    refine R2.B (ls2 := [some (.ref 5), some (.int s), some (.int f), some (.int x), some (.int v), none]) (st2 := [.int (-2)]) b_X10_put_14_16 rfl (fun hd => ?_)
    exact R2.ret3 (r := some (.int (-2))) hd trivial rfl rfl rfl
  · have nc4 : 0 ≤ s ∧ s < 4 := b2i_nz.mp c4
    refine R2.B (ls2 := [some (.ref 5), some (.int s), some (.int f), some (.int x), some (.int v), none]) (st2 := [.int f]) b_X10_put_7_8 rfl (fun hd => ?_)
    refine R2.callS3 (M2 := mX10_isForm) (As := [.int f]) (rest := []) hd lk_10_264 okX10_isForm (by decide) (ev_isForm E L F f) (by decide) rfl rfl (Nat.le_of_ble_eq_true rfl) ?_
    refine R2.B (ls2 := [some (.ref 5), some (.int s), some (.int f), some (.int x), some (.int v), none]) (st2 := [.int (b2i (0 ≤ f ∧ f < 3))]) b_X10_put_11_11 rfl (fun hd => ?_)
    refine R2.if_ne 17 hd (by decide) (fun c11 => ?_) (fun c11 => ?_)
    · have nc11 : 0 ≤ f ∧ f < 3 := b2i_nz.mp c11
      refine R2.B (ls2 := [some (.ref 5), some (.int s), some (.int f), some (.int x), some (.int v), none]) (st2 := []) b_X10_put_17_17 rfl (fun hd => ?_)
      exact False.elim (by clear hd; grind)
    · have nc11 : ¬ (0 ≤ f ∧ f < 3) := b2i_zero.mp c11
      refine R2.B (ls2 := [some (.ref 5), some (.int s), some (.int f), some (.int x), some (.int v), none]) (st2 := [.int (-2)]) b_X10_put_14_16 rfl (fun hd => ?_)
      exact R2.ret3 (r := some (.int (-2))) hd trivial rfl rfl rfl
theorem b_X10_get_0_1 : bl2 mX10_get 0 [(.iload_n 1, 1, 1, 0, .null)] 1 (.invokestatic 153) 3 = true := by decide +kernel
theorem b_X10_get_4_4 : bl2 mX10_get 4 [] 4 (.ifCond .eq 10) 3 = true := by decide +kernel
theorem b_X10_get_14_17 : bl2 mX10_get 14 [(.ldc_w 277, 3, 0, 0, .int (-2147483648))] 17 (.ireturn) 1 = true := by decide +kernel
theorem b_X10_get_7_8 : bl2 mX10_get 7 [(.iload_n 2, 1, 2, 0, .null)] 8 (.invokestatic 264) 3 = true := by decide +kernel
theorem b_X10_get_11_11 : bl2 mX10_get 11 [] 11 (.ifCond .ne 7) 3 = true := by decide +kernel
theorem b_X10_get_18_18 : bl2 mX10_get 18 [] 18 (.aload_n 0) 1 = true := by decide +kernel
set_option maxRecDepth 20000 in
set_option maxHeartbeats 1000000 in
theorem x_get_bad (E : EE) (L : Nat) (F : FF) (s f x : Int32) (h : ¬ (0 ≤ s ∧ s < 4) ∨ ¬ (0 ≤ f ∧ f < 3)) : Ev3 E L 16 mX10_get [.ref 5, .int s, .int f, .int x] F (some (.int (-2147483648))) F := by
  refine Ev3.of okX10_get.2.2.1 (Nat.le_of_ble_eq_true rfl) ?_
  show R2 E L mX10_get 16 0 [some (.ref 5), some (.int s), some (.int f), some (.int x), none] [] F _
  refine R2.B (ls2 := [some (.ref 5), some (.int s), some (.int f), some (.int x), none]) (st2 := [.int s]) b_X10_get_0_1 rfl (fun hd => ?_)
  refine R2.callS3 (M2 := mX10_isSheet) (As := [.int s]) (rest := []) hd lk_10_153 okX10_isSheet (by decide) (ev_isSheet E L F s) (by decide) rfl rfl (Nat.le_of_ble_eq_true rfl) ?_
  refine R2.B (ls2 := [some (.ref 5), some (.int s), some (.int f), some (.int x), none]) (st2 := [.int (b2i (0 ≤ s ∧ s < 4))]) b_X10_get_4_4 rfl (fun hd => ?_)
  refine R2.if_eq 14 hd (by decide) (fun c4 => ?_) (fun c4 => ?_)
  · have nc4 : ¬ (0 ≤ s ∧ s < 4) := b2i_zero.mp c4
    refine R2.B (ls2 := [some (.ref 5), some (.int s), some (.int f), some (.int x), none]) (st2 := [.int (-2147483648)]) b_X10_get_14_17 rfl (fun hd => ?_)
    exact R2.ret3 (r := some (.int (-2147483648))) hd trivial rfl rfl rfl
  · have nc4 : 0 ≤ s ∧ s < 4 := b2i_nz.mp c4
    refine R2.B (ls2 := [some (.ref 5), some (.int s), some (.int f), some (.int x), none]) (st2 := [.int f]) b_X10_get_7_8 rfl (fun hd => ?_)
    refine R2.callS3 (M2 := mX10_isForm) (As := [.int f]) (rest := []) hd lk_10_264 okX10_isForm (by decide) (ev_isForm E L F f) (by decide) rfl rfl (Nat.le_of_ble_eq_true rfl) ?_
    refine R2.B (ls2 := [some (.ref 5), some (.int s), some (.int f), some (.int x), none]) (st2 := [.int (b2i (0 ≤ f ∧ f < 3))]) b_X10_get_11_11 rfl (fun hd => ?_)
    refine R2.if_ne 18 hd (by decide) (fun c11 => ?_) (fun c11 => ?_)
    · have nc11 : 0 ≤ f ∧ f < 3 := b2i_nz.mp c11
      refine R2.B (ls2 := [some (.ref 5), some (.int s), some (.int f), some (.int x), none]) (st2 := []) b_X10_get_18_18 rfl (fun hd => ?_)
      exact False.elim (by clear hd; grind)
    · have nc11 : ¬ (0 ≤ f ∧ f < 3) := b2i_zero.mp c11
      refine R2.B (ls2 := [some (.ref 5), some (.int s), some (.int f), some (.int x), none]) (st2 := [.int (-2147483648)]) b_X10_get_14_17 rfl (fun hd => ?_)
      exact R2.ret3 (r := some (.int (-2147483648))) hd trivial rfl rfl rfl
theorem b_X10_copy_0_1 : bl2 mX10_copy 0 [(.iload_n 1, 1, 1, 0, .null)] 1 (.invokestatic 153) 3 = true := by decide +kernel
theorem b_X10_copy_4_4 : bl2 mX10_copy 4 [] 4 (.ifCond .eq 10) 3 = true := by decide +kernel
theorem b_X10_copy_14_16 : bl2 mX10_copy 14 [(.bipush (-2), 2, 0, 0, .int (-2))] 16 (.ireturn) 1 = true := by decide +kernel
theorem b_X10_copy_7_8 : bl2 mX10_copy 7 [(.iload_n 3, 1, 3, 0, .null)] 8 (.invokestatic 153) 3 = true := by decide +kernel
theorem b_X10_copy_11_11 : bl2 mX10_copy 11 [] 11 (.ifCond .ne 6) 3 = true := by decide +kernel
theorem b_X10_copy_17_17 : bl2 mX10_copy 17 [] 17 (.aload_n 0) 1 = true := by decide +kernel
set_option maxRecDepth 20000 in
set_option maxHeartbeats 1000000 in
theorem x_copy_bad (E : EE) (L : Nat) (F : FF) (s x t y n : Int32) (h : ¬ (0 ≤ s ∧ s < 4) ∨ ¬ (0 ≤ t ∧ t < 4)) : Ev3 E L 16 mX10_copy [.ref 5, .int s, .int x, .int t, .int y, .int n] F (some (.int (-2))) F := by
  refine Ev3.of okX10_copy.2.2.1 (Nat.le_of_ble_eq_true rfl) ?_
  show R2 E L mX10_copy 16 0 [some (.ref 5), some (.int s), some (.int x), some (.int t), some (.int y), some (.int n), none, none] [] F _
  refine R2.B (ls2 := [some (.ref 5), some (.int s), some (.int x), some (.int t), some (.int y), some (.int n), none, none]) (st2 := [.int s]) b_X10_copy_0_1 rfl (fun hd => ?_)
  refine R2.callS3 (M2 := mX10_isSheet) (As := [.int s]) (rest := []) hd lk_10_153 okX10_isSheet (by decide) (ev_isSheet E L F s) (by decide) rfl rfl (Nat.le_of_ble_eq_true rfl) ?_
  refine R2.B (ls2 := [some (.ref 5), some (.int s), some (.int x), some (.int t), some (.int y), some (.int n), none, none]) (st2 := [.int (b2i (0 ≤ s ∧ s < 4))]) b_X10_copy_4_4 rfl (fun hd => ?_)
  refine R2.if_eq 14 hd (by decide) (fun c4 => ?_) (fun c4 => ?_)
  · have nc4 : ¬ (0 ≤ s ∧ s < 4) := b2i_zero.mp c4
    refine R2.B (ls2 := [some (.ref 5), some (.int s), some (.int x), some (.int t), some (.int y), some (.int n), none, none]) (st2 := [.int (-2)]) b_X10_copy_14_16 rfl (fun hd => ?_)
    exact R2.ret3 (r := some (.int (-2))) hd trivial rfl rfl rfl
  · have nc4 : 0 ≤ s ∧ s < 4 := b2i_nz.mp c4
    refine R2.B (ls2 := [some (.ref 5), some (.int s), some (.int x), some (.int t), some (.int y), some (.int n), none, none]) (st2 := [.int t]) b_X10_copy_7_8 rfl (fun hd => ?_)
    refine R2.callS3 (M2 := mX10_isSheet) (As := [.int t]) (rest := []) hd lk_10_153 okX10_isSheet (by decide) (ev_isSheet E L F t) (by decide) rfl rfl (Nat.le_of_ble_eq_true rfl) ?_
    refine R2.B (ls2 := [some (.ref 5), some (.int s), some (.int x), some (.int t), some (.int y), some (.int n), none, none]) (st2 := [.int (b2i (0 ≤ t ∧ t < 4))]) b_X10_copy_11_11 rfl (fun hd => ?_)
    refine R2.if_ne 17 hd (by decide) (fun c11 => ?_) (fun c11 => ?_)
    · have nc11 : 0 ≤ t ∧ t < 4 := b2i_nz.mp c11
      refine R2.B (ls2 := [some (.ref 5), some (.int s), some (.int x), some (.int t), some (.int y), some (.int n), none, none]) (st2 := []) b_X10_copy_17_17 rfl (fun hd => ?_)
      exact False.elim (by clear hd; grind)
    · have nc11 : ¬ (0 ≤ t ∧ t < 4) := b2i_zero.mp c11
      refine R2.B (ls2 := [some (.ref 5), some (.int s), some (.int x), some (.int t), some (.int y), some (.int n), none, none]) (st2 := [.int (-2)]) b_X10_copy_14_16 rfl (fun hd => ?_)
      exact R2.ret3 (r := some (.int (-2))) hd trivial rfl rfl rfl
theorem b_X10_write_0_1 : bl2 mX10_write 0 [(.iload_n 1, 1, 1, 0, .null)] 1 (.invokestatic 153) 3 = true := by decide +kernel
theorem b_X10_write_4_4 : bl2 mX10_write 4 [] 4 (.ifCond .ne 6) 3 = true := by decide +kernel
theorem b_X10_write_10_10 : bl2 mX10_write 10 [] 10 (.aload_n 0) 1 = true := by decide +kernel
theorem b_X10_write_7_9 : bl2 mX10_write 7 [(.bipush (-2), 2, 0, 0, .int (-2))] 9 (.ireturn) 1 = true := by decide +kernel
set_option maxRecDepth 20000 in
set_option maxHeartbeats 1000000 in
theorem x_write_bad (E : EE) (L : Nat) (F : FF) (s : Int32) (h : ¬ (0 ≤ s ∧ s < 4)) : Ev3 E L 16 mX10_write [.ref 5, .int s] F (some (.int (-2))) F := by
  refine Ev3.of okX10_write.2.2.1 (Nat.le_of_ble_eq_true rfl) ?_
  show R2 E L mX10_write 16 0 [some (.ref 5), some (.int s), none, none] [] F _
  refine R2.B (ls2 := [some (.ref 5), some (.int s), none, none]) (st2 := [.int s]) b_X10_write_0_1 rfl (fun hd => ?_)
  refine R2.callS3 (M2 := mX10_isSheet) (As := [.int s]) (rest := []) hd lk_10_153 okX10_isSheet (by decide) (ev_isSheet E L F s) (by decide) rfl rfl (Nat.le_of_ble_eq_true rfl) ?_
  refine R2.B (ls2 := [some (.ref 5), some (.int s), none, none]) (st2 := [.int (b2i (0 ≤ s ∧ s < 4))]) b_X10_write_4_4 rfl (fun hd => ?_)
  refine R2.if_ne 10 hd (by decide) (fun c4 => ?_) (fun c4 => ?_)
  · have nc4 : 0 ≤ s ∧ s < 4 := b2i_nz.mp c4
    refine R2.B (ls2 := [some (.ref 5), some (.int s), none, none]) (st2 := []) b_X10_write_10_10 rfl (fun hd => ?_)
    exact False.elim (by clear hd; grind)
  · have nc4 : ¬ (0 ≤ s ∧ s < 4) := b2i_zero.mp c4
    refine R2.B (ls2 := [some (.ref 5), some (.int s), none, none]) (st2 := [.int (-2)]) b_X10_write_7_9 rfl (fun hd => ?_)
    exact R2.ret3 (r := some (.int (-2))) hd trivial rfl rfl rfl
theorem b_X10_read_0_1 : bl2 mX10_read 0 [(.iload_n 1, 1, 1, 0, .null)] 1 (.invokestatic 153) 3 = true := by decide +kernel
theorem b_X10_read_4_4 : bl2 mX10_read 4 [] 4 (.ifCond .eq 11) 3 = true := by decide +kernel
theorem b_X10_read_15_17 : bl2 mX10_read 15 [(.bipush (-2), 2, 0, 0, .int (-2))] 17 (.ireturn) 1 = true := by decide +kernel
theorem b_X10_read_7_9 : bl2 mX10_read 7 [(.aload_n 0, 1, 0, 0, .null), (.iload_n 2, 1, 2, 0, .null)] 9 (.invokevirtual 131) 3 = true := by decide +kernel
theorem b_X10_read_12_12 : bl2 mX10_read 12 [] 12 (.ifCond .ne 6) 3 = true := by decide +kernel
theorem b_X10_read_18_18 : bl2 mX10_read 18 [] 18 (.aload_n 0) 1 = true := by decide +kernel
set_option maxRecDepth 20000 in
set_option maxHeartbeats 1000000 in
theorem x_read_bad (E : EE) (L : Nat) (F : FF) (s p : Int32) (h : ¬ (0 ≤ s ∧ s < 4) ∨ ¬ (0 ≤ p ∧ p < F 10 5)) : Ev3 E L 16 mX10_read [.ref 5, .int s, .int p] F (some (.int (-2))) F := by
  refine Ev3.of okX10_read.2.2.1 (Nat.le_of_ble_eq_true rfl) ?_
  show R2 E L mX10_read 16 0 [some (.ref 5), some (.int s), some (.int p), none, none] [] F _
  refine R2.B (ls2 := [some (.ref 5), some (.int s), some (.int p), none, none]) (st2 := [.int s]) b_X10_read_0_1 rfl (fun hd => ?_)
  refine R2.callS3 (M2 := mX10_isSheet) (As := [.int s]) (rest := []) hd lk_10_153 okX10_isSheet (by decide) (ev_isSheet E L F s) (by decide) rfl rfl (Nat.le_of_ble_eq_true rfl) ?_
  refine R2.B (ls2 := [some (.ref 5), some (.int s), some (.int p), none, none]) (st2 := [.int (b2i (0 ≤ s ∧ s < 4))]) b_X10_read_4_4 rfl (fun hd => ?_)
  refine R2.if_eq 15 hd (by decide) (fun c4 => ?_) (fun c4 => ?_)
  · have nc4 : ¬ (0 ≤ s ∧ s < 4) := b2i_zero.mp c4
    refine R2.B (ls2 := [some (.ref 5), some (.int s), some (.int p), none, none]) (st2 := [.int (-2)]) b_X10_read_15_17 rfl (fun hd => ?_)
    exact R2.ret3 (r := some (.int (-2))) hd trivial rfl rfl rfl
  · have nc4 : 0 ≤ s ∧ s < 4 := b2i_nz.mp c4
    refine R2.B (ls2 := [some (.ref 5), some (.int s), some (.int p), none, none]) (st2 := [.int p, .ref 5]) b_X10_read_7_9 rfl (fun hd => ?_)
    refine R2.callV3 (M2 := mX10_isPerson) (As := [.int p]) (rest := []) hd lk_10_131 okX10_isPerson (by decide) rfl (ev_isPerson E L F p) (by decide) rfl rfl (Nat.le_of_ble_eq_true rfl) ?_
    refine R2.B (ls2 := [some (.ref 5), some (.int s), some (.int p), none, none]) (st2 := [.int (b2i (0 ≤ p ∧ p < F 10 5))]) b_X10_read_12_12 rfl (fun hd => ?_)
    refine R2.if_ne 18 hd (by decide) (fun c12 => ?_) (fun c12 => ?_)
    · have nc12 : 0 ≤ p ∧ p < F 10 5 := b2i_nz.mp c12
      refine R2.B (ls2 := [some (.ref 5), some (.int s), some (.int p), none, none]) (st2 := []) b_X10_read_18_18 rfl (fun hd => ?_)
      exact False.elim (by clear hd; grind)
    · have nc12 : ¬ (0 ≤ p ∧ p < F 10 5) := b2i_zero.mp c12
      refine R2.B (ls2 := [some (.ref 5), some (.int s), some (.int p), none, none]) (st2 := [.int (-2)]) b_X10_read_15_17 rfl (fun hd => ?_)
      exact R2.ret3 (r := some (.int (-2))) hd trivial rfl rfl rfl
theorem b_X10_sheet_23_24 : bl2 mX10_sheet 23 [(.iload_n 3, 1, 3, 0, .null)] 24 (.ifCond .ge 9) 3 = true := by decide +kernel
theorem b_X10_sheet_27_29 : bl2 mX10_sheet 27 [(.aload_n 0, 1, 0, 0, .null), (.iconst 5, 1, 0, 0, .int 5)] 29 (.invokevirtual 160) 3 = true := by decide +kernel
theorem b_X10_sheet_32_32 : bl2 mX10_sheet 32 [] 32 (.ireturn) 1 = true := by decide +kernel
set_option maxRecDepth 20000 in
set_option maxHeartbeats 1000000 in
theorem x_sheet_size0 (E : EE) (L : Nat) (F : FF) (f x : Int32) (h : 0 ≤ f ∧ f < 3) (h60 : x ≤ 60) (hx : x < 0) : Ev3 E L 16 mX10_sheet [.ref 5, .int 0, .int f, .int x] F (some (.int (-10 - 5))) (up2 F 5 11 5) := by
  refine Ev3.of okX10_sheet.2.2.1 (Nat.le_of_ble_eq_true rfl) ?_
  show R2 E L mX10_sheet 16 0 [some (.ref 5), some (.int 0), some (.int f), some (.int x)] [] F _
  refine R2.B (ls2 := [some (.ref 5), some (.int 0), some (.int f), some (.int x)]) (st2 := [.int 0]) b_X10_sheet_0_1 rfl (fun hd => ?_)
  refine R2.callS3 (M2 := mX10_isSheet) (As := [.int 0]) (rest := []) hd lk_10_153 okX10_isSheet (by decide) (ev_isSheet E L F 0) (by decide) rfl rfl (Nat.le_of_ble_eq_true rfl) ?_
  refine R2.B (ls2 := [some (.ref 5), some (.int 0), some (.int f), some (.int x)]) (st2 := [.int (b2i (0 ≤ 0 ∧ 0 < 4))]) b_X10_sheet_4_4 rfl (fun hd => ?_)
  refine R2.if_eq 20 hd (by decide) (fun c4 => absurd c4 (b2i_nz.mpr (by decide))) (fun c4 => ?_)
  refine R2.B (ls2 := [some (.ref 5), some (.int 0), some (.int f), some (.int x)]) (st2 := [.int f]) b_X10_sheet_7_8 rfl (fun hd => ?_)
  refine R2.callS3 (M2 := mX10_isForm) (As := [.int f]) (rest := []) hd lk_10_264 okX10_isForm (by decide) (ev_isForm E L F f) (by decide) rfl rfl (Nat.le_of_ble_eq_true rfl) ?_
  refine R2.B (ls2 := [some (.ref 5), some (.int 0), some (.int f), some (.int x)]) (st2 := [.int (b2i (0 ≤ f ∧ f < 3))]) b_X10_sheet_11_11 rfl (fun hd => ?_)
  refine R2.if_eq 20 hd (by decide) (fun c11 => ?_) (fun c11 => ?_)
  · have nc11 : ¬ (0 ≤ f ∧ f < 3) := b2i_zero.mp c11
    refine R2.B (ls2 := [some (.ref 5), some (.int 0), some (.int f), some (.int x)]) (st2 := [.int (-2)]) b_X10_sheet_20_22 rfl (fun hd => ?_)
    exact False.elim (by clear hd; grind)
  · have nc11 : 0 ≤ f ∧ f < 3 := b2i_nz.mp c11
    refine R2.B (ls2 := [some (.ref 5), some (.int 0), some (.int f), some (.int x)]) (st2 := [.int 60, .int x]) b_X10_sheet_14_17 rfl (fun hd => ?_)
    refine R2.icmp_le 23 hd (by decide) (fun c17 => ?_) (fun c17 => ?_)
    · refine R2.B (ls2 := [some (.ref 5), some (.int 0), some (.int f), some (.int x)]) (st2 := [.int x]) b_X10_sheet_23_24 rfl (fun hd => ?_)
      refine R2.if_ge 33 hd (by decide) (fun c24 => absurd c24 (Int32.not_le.mpr hx)) (fun c24 => ?_)
      refine R2.B (ls2 := [some (.ref 5), some (.int 0), some (.int f), some (.int x)]) (st2 := [.int 5, .ref 5]) b_X10_sheet_27_29 rfl (fun hd => ?_)
      refine R2.callV3 (M2 := mX10_found) (As := [.int 5]) (rest := []) hd lk_10_160 okX10_found (by decide) rfl (ev_found E L F 5) (by decide) rfl rfl (Nat.le_of_ble_eq_true rfl) ?_
      refine R2.B (ls2 := [some (.ref 5), some (.int 0), some (.int f), some (.int x)]) (st2 := [.int (-10 - 5)]) b_X10_sheet_32_32 rfl (fun hd => ?_)
      exact R2.ret3 (r := some (.int (-10 - 5))) hd trivial rfl rfl rfl
    · refine R2.B (ls2 := [some (.ref 5), some (.int 0), some (.int f), some (.int x)]) (st2 := [.int (-2)]) b_X10_sheet_20_22 rfl (fun hd => ?_)
      exact False.elim (by clear hd; grind)
theorem b_X10_sheet_33_38 : bl2 mX10_sheet 33 [(.aload_n 0, 1, 0, 0, .null), (.getfield 83, 3, 10, 10, .null), (.iload_n 1, 1, 1, 0, .null)] 38 (.aaload) 1 = true := by decide +kernel
theorem b_X10_sheet_39_41 : bl2 mX10_sheet 39 [(.iload_n 2, 1, 2, 0, .null), (.iload_n 3, 1, 3, 0, .null)] 41 (.invokevirtual 267) 3 = true := by decide +kernel
theorem b_X10_sheet_44_45 : bl2 mX10_sheet 44 [(.iload_n 3, 1, 3, 0, .null)] 45 (.ireturn) 1 = true := by decide +kernel
set_option maxRecDepth 20000 in
set_option maxHeartbeats 1000000 in
theorem x_sheet0 (E : EE) (L : Nat) (F : FF) (f x : Int32) (h : 0 ≤ f ∧ f < 3) (h60 : x ≤ 60) (hx : 0 ≤ x) : Ev3 E L 16 mX10_sheet [.ref 5, .int 0, .int f, .int x] F (some (.int (x))) (fillF (up2 (up2 (up2 F 40 1 0) 40 2 f) 40 3 x) 41 60 0) := by
  refine Ev3.of okX10_sheet.2.2.1 (Nat.le_of_ble_eq_true rfl) ?_
  show R2 E L mX10_sheet 16 0 [some (.ref 5), some (.int 0), some (.int f), some (.int x)] [] F _
  refine R2.B (ls2 := [some (.ref 5), some (.int 0), some (.int f), some (.int x)]) (st2 := [.int 0]) b_X10_sheet_0_1 rfl (fun hd => ?_)
  refine R2.callS3 (M2 := mX10_isSheet) (As := [.int 0]) (rest := []) hd lk_10_153 okX10_isSheet (by decide) (ev_isSheet E L F 0) (by decide) rfl rfl (Nat.le_of_ble_eq_true rfl) ?_
  refine R2.B (ls2 := [some (.ref 5), some (.int 0), some (.int f), some (.int x)]) (st2 := [.int (b2i (0 ≤ 0 ∧ 0 < 4))]) b_X10_sheet_4_4 rfl (fun hd => ?_)
  refine R2.if_eq 20 hd (by decide) (fun c4 => absurd c4 (b2i_nz.mpr (by decide))) (fun c4 => ?_)
  refine R2.B (ls2 := [some (.ref 5), some (.int 0), some (.int f), some (.int x)]) (st2 := [.int f]) b_X10_sheet_7_8 rfl (fun hd => ?_)
  refine R2.callS3 (M2 := mX10_isForm) (As := [.int f]) (rest := []) hd lk_10_264 okX10_isForm (by decide) (ev_isForm E L F f) (by decide) rfl rfl (Nat.le_of_ble_eq_true rfl) ?_
  refine R2.B (ls2 := [some (.ref 5), some (.int 0), some (.int f), some (.int x)]) (st2 := [.int (b2i (0 ≤ f ∧ f < 3))]) b_X10_sheet_11_11 rfl (fun hd => ?_)
  refine R2.if_eq 20 hd (by decide) (fun c11 => ?_) (fun c11 => ?_)
  · have nc11 : ¬ (0 ≤ f ∧ f < 3) := b2i_zero.mp c11
    refine R2.B (ls2 := [some (.ref 5), some (.int 0), some (.int f), some (.int x)]) (st2 := [.int (-2)]) b_X10_sheet_20_22 rfl (fun hd => ?_)
    exact False.elim (by clear hd; grind)
  · have nc11 : 0 ≤ f ∧ f < 3 := b2i_nz.mp c11
    refine R2.B (ls2 := [some (.ref 5), some (.int 0), some (.int f), some (.int x)]) (st2 := [.int 60, .int x]) b_X10_sheet_14_17 rfl (fun hd => ?_)
    refine R2.icmp_le 23 hd (by decide) (fun c17 => ?_) (fun c17 => ?_)
    · refine R2.B (ls2 := [some (.ref 5), some (.int 0), some (.int f), some (.int x)]) (st2 := [.int x]) b_X10_sheet_23_24 rfl (fun hd => ?_)
      refine R2.if_ge 33 hd (by decide) (fun c24 => ?_) (fun c24 => absurd (hx) c24)
      refine R2.B (ls2 := [some (.ref 5), some (.int 0), some (.int f), some (.int x)]) (st2 := [.int 0, .ref 39]) b_X10_sheet_33_38 rfl (fun hd => ?_)
      refine R2.aald (k2 := 40) 0 rfl hd rfl (by decide) (by omega) rfl ?_
      refine R2.B (ls2 := [some (.ref 5), some (.int 0), some (.int f), some (.int x)]) (st2 := [.int x, .int f, .ref 40]) b_X10_sheet_39_41 rfl (fun hd => ?_)
      refine R2.callV3 (M2 := mX5_renew) (As := [.int f, .int x]) (rest := []) hd lk_10_267 okX5_renew (by decide) rfl (ev_renew40 E L F f x) (by decide) rfl rfl (Nat.le_of_ble_eq_true rfl) ?_
      refine R2.B (ls2 := [some (.ref 5), some (.int 0), some (.int f), some (.int x)]) (st2 := [.int x]) b_X10_sheet_44_45 rfl (fun hd => ?_)
      exact R2.ret3 (r := some (.int x)) hd trivial rfl rfl rfl
    · refine R2.B (ls2 := [some (.ref 5), some (.int 0), some (.int f), some (.int x)]) (st2 := [.int (-2)]) b_X10_sheet_20_22 rfl (fun hd => ?_)
      exact False.elim (by clear hd; grind)
theorem b_X10_lose_10_15 : bl2 mX10_lose 10 [(.aload_n 0, 1, 0, 0, .null), (.getfield 83, 3, 10, 10, .null), (.iload_n 1, 1, 1, 0, .null)] 15 (.aaload) 1 = true := by decide +kernel
theorem b_X10_lose_16_19 : bl2 mX10_lose 16 [(.getfield 156, 3, 5, 1, .null)] 19 (.ifCond .eq 9) 3 = true := by decide +kernel
theorem b_X10_lose_22_24 : bl2 mX10_lose 22 [(.aload_n 0, 1, 0, 0, .null), (.iconst 1, 1, 0, 0, .int 1)] 24 (.invokevirtual 160) 3 = true := by decide +kernel
theorem b_X10_lose_27_27 : bl2 mX10_lose 27 [] 27 (.ireturn) 1 = true := by decide +kernel
set_option maxRecDepth 20000 in
set_option maxHeartbeats 1000000 in
theorem x_lose_null0 (E : EE) (L : Nat) (F : FF) (hl : ¬ F 40 1 = 0) : Ev3 E L 16 mX10_lose [.ref 5, .int 0] F (some (.int (-10 - 1))) (up2 F 5 11 1) := by
  refine Ev3.of okX10_lose.2.2.1 (Nat.le_of_ble_eq_true rfl) ?_
  show R2 E L mX10_lose 16 0 [some (.ref 5), some (.int 0)] [] F _
  refine R2.B (ls2 := [some (.ref 5), some (.int 0)]) (st2 := [.int 0]) b_X10_lose_0_1 rfl (fun hd => ?_)
  refine R2.callS3 (M2 := mX10_isSheet) (As := [.int 0]) (rest := []) hd lk_10_153 okX10_isSheet (by decide) (ev_isSheet E L F 0) (by decide) rfl rfl (Nat.le_of_ble_eq_true rfl) ?_
  refine R2.B (ls2 := [some (.ref 5), some (.int 0)]) (st2 := [.int (b2i (0 ≤ 0 ∧ 0 < 4))]) b_X10_lose_4_4 rfl (fun hd => ?_)
  refine R2.if_ne 10 hd (by decide) (fun c4 => ?_) (fun c4 => absurd c4 (b2i_nz.mpr (by decide)))
  refine R2.B (ls2 := [some (.ref 5), some (.int 0)]) (st2 := [.int 0, .ref 39]) b_X10_lose_10_15 rfl (fun hd => ?_)
  refine R2.aald (k2 := 40) 0 rfl hd rfl (by decide) (by omega) rfl ?_
  refine R2.B (ls2 := [some (.ref 5), some (.int 0)]) (st2 := [.int (F 40 1)]) b_X10_lose_16_19 rfl (fun hd => ?_)
  refine R2.if_eq 28 hd (by decide) (fun c19 => absurd c19 (hl)) (fun c19 => ?_)
  refine R2.B (ls2 := [some (.ref 5), some (.int 0)]) (st2 := [.int 1, .ref 5]) b_X10_lose_22_24 rfl (fun hd => ?_)
  refine R2.callV3 (M2 := mX10_found) (As := [.int 1]) (rest := []) hd lk_10_160 okX10_found (by decide) rfl (ev_found E L F 1) (by decide) rfl rfl (Nat.le_of_ble_eq_true rfl) ?_
  refine R2.B (ls2 := [some (.ref 5), some (.int 0)]) (st2 := [.int (-10 - 1)]) b_X10_lose_27_27 rfl (fun hd => ?_)
  exact R2.ret3 (r := some (.int (-10 - 1))) hd trivial rfl rfl rfl
theorem b_X10_lose_28_33 : bl2 mX10_lose 28 [(.aload_n 0, 1, 0, 0, .null), (.getfield 83, 3, 10, 10, .null), (.iload_n 1, 1, 1, 0, .null)] 33 (.aaload) 1 = true := by decide +kernel
theorem b_X10_lose_34_35 : bl2 mX10_lose 34 [(.iconst 1, 1, 0, 0, .int 1)] 35 (.putfield 156) 3 = true := by decide +kernel
theorem b_X10_lose_38_43 : bl2 mX10_lose 38 [(.aload_n 0, 1, 0, 0, .null), (.getfield 83, 3, 10, 10, .null), (.iload_n 1, 1, 1, 0, .null)] 43 (.aaload) 1 = true := by decide +kernel
theorem b_X10_lose_44_47 : bl2 mX10_lose 44 [(.getfield 164, 3, 5, 3, .null)] 47 (.ireturn) 1 = true := by decide +kernel
set_option maxRecDepth 20000 in
set_option maxHeartbeats 1000000 in
theorem x_lose0 (E : EE) (L : Nat) (F : FF) (hl : F 40 1 = 0) : Ev3 E L 16 mX10_lose [.ref 5, .int 0] F (some (.int (F 40 3))) (up2 F 40 1 1) := by
  refine Ev3.of okX10_lose.2.2.1 (Nat.le_of_ble_eq_true rfl) ?_
  show R2 E L mX10_lose 16 0 [some (.ref 5), some (.int 0)] [] F _
  refine R2.B (ls2 := [some (.ref 5), some (.int 0)]) (st2 := [.int 0]) b_X10_lose_0_1 rfl (fun hd => ?_)
  refine R2.callS3 (M2 := mX10_isSheet) (As := [.int 0]) (rest := []) hd lk_10_153 okX10_isSheet (by decide) (ev_isSheet E L F 0) (by decide) rfl rfl (Nat.le_of_ble_eq_true rfl) ?_
  refine R2.B (ls2 := [some (.ref 5), some (.int 0)]) (st2 := [.int (b2i (0 ≤ 0 ∧ 0 < 4))]) b_X10_lose_4_4 rfl (fun hd => ?_)
  refine R2.if_ne 10 hd (by decide) (fun c4 => ?_) (fun c4 => absurd c4 (b2i_nz.mpr (by decide)))
  refine R2.B (ls2 := [some (.ref 5), some (.int 0)]) (st2 := [.int 0, .ref 39]) b_X10_lose_10_15 rfl (fun hd => ?_)
  refine R2.aald (k2 := 40) 0 rfl hd rfl (by decide) (by omega) rfl ?_
  refine R2.B (ls2 := [some (.ref 5), some (.int 0)]) (st2 := [.int (F 40 1)]) b_X10_lose_16_19 rfl (fun hd => ?_)
  refine R2.if_eq 28 hd (by decide) (fun c19 => ?_) (fun c19 => absurd (hl) c19)
  refine R2.B (ls2 := [some (.ref 5), some (.int 0)]) (st2 := [.int 0, .ref 39]) b_X10_lose_28_33 rfl (fun hd => ?_)
  refine R2.aald (k2 := 40) 0 rfl hd rfl (by decide) (by omega) rfl ?_
  refine R2.B (ls2 := [some (.ref 5), some (.int 0)]) (st2 := [.int 1, .ref 40]) b_X10_lose_34_35 rfl (fun hd => ?_)
  refine R2.putf (a := 5) (b := 1) hd (by decide) (by decide) rfl rfl (fun _ => rfl) ?_
  refine R2.B (ls2 := [some (.ref 5), some (.int 0)]) (st2 := [.int 0, .ref 39]) b_X10_lose_38_43 rfl (fun hd => ?_)
  refine R2.aald (k2 := 40) 0 rfl hd rfl (by decide) (by omega) rfl ?_
  refine R2.B (ls2 := [some (.ref 5), some (.int 0)]) (st2 := [.int (F 40 3)]) b_X10_lose_44_47 rfl (fun hd => ?_)
  exact R2.ret3 (r := some (.int (F 40 3))) hd trivial rfl rfl rfl
theorem b_X10_put_17_22 : bl2 mX10_put 17 [(.aload_n 0, 1, 0, 0, .null), (.getfield 83, 3, 10, 10, .null), (.iload_n 1, 1, 1, 0, .null)] 22 (.aaload) 1 = true := by decide +kernel
theorem b_X10_put_23_25 : bl2 mX10_put 23 [(.iload_n 2, 1, 2, 0, .null), (.iload_n 3, 1, 3, 0, .null)] 25 (.invokevirtual 271) 3 = true := by decide +kernel
theorem b_X10_put_28_32 : bl2 mX10_put 28 [(.istore 5, 2, 5, 0, .null), (.iload 5, 2, 5, 0, .null)] 32 (.ifCond .eq 10) 3 = true := by decide +kernel
theorem b_X10_put_35_38 : bl2 mX10_put 35 [(.aload_n 0, 1, 0, 0, .null), (.iload 5, 2, 5, 0, .null)] 38 (.invokevirtual 160) 3 = true := by decide +kernel
theorem b_X10_put_41_41 : bl2 mX10_put 41 [] 41 (.ireturn) 1 = true := by decide +kernel
set_option maxRecDepth 20000 in
set_option maxHeartbeats 1000000 in
theorem x_put_find0 (E : EE) (L : Nat) (F : FF) (f x v : Int32) (h : 0 ≤ f ∧ f < 3) (hf : ¬ fndA (F 40 1) (F 40 2) (F 40 3) f x = 0) : Ev3 E L 16 mX10_put [.ref 5, .int 0, .int f, .int x, .int v] F (some (.int (-10 - (fndA (F 40 1) (F 40 2) (F 40 3) f x)))) (up2 F 5 11 (fndA (F 40 1) (F 40 2) (F 40 3) f x)) := by
  refine Ev3.of okX10_put.2.2.1 (Nat.le_of_ble_eq_true rfl) ?_
  show R2 E L mX10_put 16 0 [some (.ref 5), some (.int 0), some (.int f), some (.int x), some (.int v), none] [] F _
  refine R2.B (ls2 := [some (.ref 5), some (.int 0), some (.int f), some (.int x), some (.int v), none]) (st2 := [.int 0]) b_X10_put_0_1 rfl (fun hd => ?_)
  refine R2.callS3 (M2 := mX10_isSheet) (As := [.int 0]) (rest := []) hd lk_10_153 okX10_isSheet (by decide) (ev_isSheet E L F 0) (by decide) rfl rfl (Nat.le_of_ble_eq_true rfl) ?_
  refine R2.B (ls2 := [some (.ref 5), some (.int 0), some (.int f), some (.int x), some (.int v), none]) (st2 := [.int (b2i (0 ≤ 0 ∧ 0 < 4))]) b_X10_put_4_4 rfl (fun hd => ?_)
  refine R2.if_eq 14 hd (by decide) (fun c4 => absurd c4 (b2i_nz.mpr (by decide))) (fun c4 => ?_)
  refine R2.B (ls2 := [some (.ref 5), some (.int 0), some (.int f), some (.int x), some (.int v), none]) (st2 := [.int f]) b_X10_put_7_8 rfl (fun hd => ?_)
  refine R2.callS3 (M2 := mX10_isForm) (As := [.int f]) (rest := []) hd lk_10_264 okX10_isForm (by decide) (ev_isForm E L F f) (by decide) rfl rfl (Nat.le_of_ble_eq_true rfl) ?_
  refine R2.B (ls2 := [some (.ref 5), some (.int 0), some (.int f), some (.int x), some (.int v), none]) (st2 := [.int (b2i (0 ≤ f ∧ f < 3))]) b_X10_put_11_11 rfl (fun hd => ?_)
  refine R2.if_ne 17 hd (by decide) (fun c11 => ?_) (fun c11 => ?_)
  · have nc11 : 0 ≤ f ∧ f < 3 := b2i_nz.mp c11
    refine R2.B (ls2 := [some (.ref 5), some (.int 0), some (.int f), some (.int x), some (.int v), none]) (st2 := [.int 0, .ref 39]) b_X10_put_17_22 rfl (fun hd => ?_)
    refine R2.aald (k2 := 40) 0 rfl hd rfl (by decide) (by omega) rfl ?_
    refine R2.B (ls2 := [some (.ref 5), some (.int 0), some (.int f), some (.int x), some (.int v), none]) (st2 := [.int x, .int f, .ref 40]) b_X10_put_23_25 rfl (fun hd => ?_)
    refine R2.callV3 (M2 := mX5_findingAt) (As := [.int f, .int x]) (rest := []) hd lk_10_271 okX5_findingAt (by decide) rfl (ev_findingAt40 E L F f x) (by decide) rfl rfl (Nat.le_of_ble_eq_true rfl) ?_
    refine R2.B (ls2 := [some (.ref 5), some (.int 0), some (.int f), some (.int x), some (.int v), some (.int (fndA (F 40 1) (F 40 2) (F 40 3) f x))]) (st2 := [.int (fndA (F 40 1) (F 40 2) (F 40 3) f x)]) b_X10_put_28_32 rfl (fun hd => ?_)
    refine R2.if_eq 42 hd (by decide) (fun c32 => absurd c32 (hf)) (fun c32 => ?_)
    refine R2.B (ls2 := [some (.ref 5), some (.int 0), some (.int f), some (.int x), some (.int v), some (.int (fndA (F 40 1) (F 40 2) (F 40 3) f x))]) (st2 := [.int (fndA (F 40 1) (F 40 2) (F 40 3) f x), .ref 5]) b_X10_put_35_38 rfl (fun hd => ?_)
    refine R2.callV3 (M2 := mX10_found) (As := [.int (fndA (F 40 1) (F 40 2) (F 40 3) f x)]) (rest := []) hd lk_10_160 okX10_found (by decide) rfl (ev_found E L F (fndA (F 40 1) (F 40 2) (F 40 3) f x)) (by decide) rfl rfl (Nat.le_of_ble_eq_true rfl) ?_
    refine R2.B (ls2 := [some (.ref 5), some (.int 0), some (.int f), some (.int x), some (.int v), some (.int (fndA (F 40 1) (F 40 2) (F 40 3) f x))]) (st2 := [.int (-10 - (fndA (F 40 1) (F 40 2) (F 40 3) f x))]) b_X10_put_41_41 rfl (fun hd => ?_)
    exact R2.ret3 (r := some (.int (-10 - (fndA (F 40 1) (F 40 2) (F 40 3) f x)))) hd trivial rfl rfl rfl
  · have nc11 : ¬ (0 ≤ f ∧ f < 3) := b2i_zero.mp c11
    refine R2.B (ls2 := [some (.ref 5), some (.int 0), some (.int f), some (.int x), some (.int v), none]) (st2 := [.int (-2)]) b_X10_put_14_16 rfl (fun hd => ?_)
    exact False.elim (by clear hd; grind)
theorem b_X10_put_42_47 : bl2 mX10_put 42 [(.aload_n 0, 1, 0, 0, .null), (.getfield 83, 3, 10, 10, .null), (.iload_n 1, 1, 1, 0, .null)] 47 (.aaload) 1 = true := by decide +kernel
theorem b_X10_put_48_51 : bl2 mX10_put 48 [(.iload_n 3, 1, 3, 0, .null), (.iload 4, 2, 4, 0, .null)] 51 (.invokevirtual 274) 3 = true := by decide +kernel
theorem b_X10_put_54_55 : bl2 mX10_put 54 [(.iconst 1, 1, 0, 0, .int 1)] 55 (.ireturn) 1 = true := by decide +kernel
set_option maxRecDepth 20000 in
set_option maxHeartbeats 1000000 in
theorem x_put0 (E : EE) (L : Nat) (F : FF) (z : Nat) (hz : F 40 3 = nI z) (hz60 : z ≤ 60) (f v : Int32) (h : 0 ≤ f ∧ f < 3) (j : Nat) (hj : j < z) (hf : fndA (F 40 1) (F 40 2) (F 40 3) f (nI j) = 0) : Ev3 E L 16 mX10_put [.ref 5, .int 0, .int f, .int (nI j), .int v] F (some (.int (1))) (up2 F 41 j (nrw (F 40 2) v)) := by
  refine Ev3.of okX10_put.2.2.1 (Nat.le_of_ble_eq_true rfl) ?_
  show R2 E L mX10_put 16 0 [some (.ref 5), some (.int 0), some (.int f), some (.int (nI j)), some (.int v), none] [] F _
  refine R2.B (ls2 := [some (.ref 5), some (.int 0), some (.int f), some (.int (nI j)), some (.int v), none]) (st2 := [.int 0]) b_X10_put_0_1 rfl (fun hd => ?_)
  refine R2.callS3 (M2 := mX10_isSheet) (As := [.int 0]) (rest := []) hd lk_10_153 okX10_isSheet (by decide) (ev_isSheet E L F 0) (by decide) rfl rfl (Nat.le_of_ble_eq_true rfl) ?_
  refine R2.B (ls2 := [some (.ref 5), some (.int 0), some (.int f), some (.int (nI j)), some (.int v), none]) (st2 := [.int (b2i (0 ≤ 0 ∧ 0 < 4))]) b_X10_put_4_4 rfl (fun hd => ?_)
  refine R2.if_eq 14 hd (by decide) (fun c4 => absurd c4 (b2i_nz.mpr (by decide))) (fun c4 => ?_)
  refine R2.B (ls2 := [some (.ref 5), some (.int 0), some (.int f), some (.int (nI j)), some (.int v), none]) (st2 := [.int f]) b_X10_put_7_8 rfl (fun hd => ?_)
  refine R2.callS3 (M2 := mX10_isForm) (As := [.int f]) (rest := []) hd lk_10_264 okX10_isForm (by decide) (ev_isForm E L F f) (by decide) rfl rfl (Nat.le_of_ble_eq_true rfl) ?_
  refine R2.B (ls2 := [some (.ref 5), some (.int 0), some (.int f), some (.int (nI j)), some (.int v), none]) (st2 := [.int (b2i (0 ≤ f ∧ f < 3))]) b_X10_put_11_11 rfl (fun hd => ?_)
  refine R2.if_ne 17 hd (by decide) (fun c11 => ?_) (fun c11 => ?_)
  · have nc11 : 0 ≤ f ∧ f < 3 := b2i_nz.mp c11
    refine R2.B (ls2 := [some (.ref 5), some (.int 0), some (.int f), some (.int (nI j)), some (.int v), none]) (st2 := [.int 0, .ref 39]) b_X10_put_17_22 rfl (fun hd => ?_)
    refine R2.aald (k2 := 40) 0 rfl hd rfl (by decide) (by omega) rfl ?_
    refine R2.B (ls2 := [some (.ref 5), some (.int 0), some (.int f), some (.int (nI j)), some (.int v), none]) (st2 := [.int (nI j), .int f, .ref 40]) b_X10_put_23_25 rfl (fun hd => ?_)
    refine R2.callV3 (M2 := mX5_findingAt) (As := [.int f, .int (nI j)]) (rest := []) hd lk_10_271 okX5_findingAt (by decide) rfl (ev_findingAt40 E L F f (nI j)) (by decide) rfl rfl (Nat.le_of_ble_eq_true rfl) ?_
    refine R2.B (ls2 := [some (.ref 5), some (.int 0), some (.int f), some (.int (nI j)), some (.int v), some (.int (fndA (F 40 1) (F 40 2) (F 40 3) f (nI j)))]) (st2 := [.int (fndA (F 40 1) (F 40 2) (F 40 3) f (nI j))]) b_X10_put_28_32 rfl (fun hd => ?_)
    refine R2.if_eq 42 hd (by decide) (fun c32 => ?_) (fun c32 => absurd (hf) c32)
    refine R2.B (ls2 := [some (.ref 5), some (.int 0), some (.int f), some (.int (nI j)), some (.int v), some (.int (fndA (F 40 1) (F 40 2) (F 40 3) f (nI j)))]) (st2 := [.int 0, .ref 39]) b_X10_put_42_47 rfl (fun hd => ?_)
    refine R2.aald (k2 := 40) 0 rfl hd rfl (by decide) (by omega) rfl ?_
    refine R2.B (ls2 := [some (.ref 5), some (.int 0), some (.int f), some (.int (nI j)), some (.int v), some (.int (fndA (F 40 1) (F 40 2) (F 40 3) f (nI j)))]) (st2 := [.int v, .int (nI j), .ref 40]) b_X10_put_48_51 rfl (fun hd => ?_)
    refine R2.callV3 (M2 := mX5_store) (As := [.int (nI j), .int v]) (rest := []) hd lk_10_274 okX5_store (by decide) rfl (ev_store40 E L F j v (by omega) (by rw [hz]; exact nI_lt hj (by omega))) (by decide) rfl rfl (Nat.le_of_ble_eq_true rfl) ?_
    refine R2.B (ls2 := [some (.ref 5), some (.int 0), some (.int f), some (.int (nI j)), some (.int v), some (.int (fndA (F 40 1) (F 40 2) (F 40 3) f (nI j)))]) (st2 := [.int 1]) b_X10_put_54_55 rfl (fun hd => ?_)
    exact R2.ret3 (r := some (.int 1)) hd trivial rfl rfl rfl
  · have nc11 : ¬ (0 ≤ f ∧ f < 3) := b2i_zero.mp c11
    refine R2.B (ls2 := [some (.ref 5), some (.int 0), some (.int f), some (.int (nI j)), some (.int v), none]) (st2 := [.int (-2)]) b_X10_put_14_16 rfl (fun hd => ?_)
    exact False.elim (by clear hd; grind)
theorem b_X10_get_18_23 : bl2 mX10_get 18 [(.aload_n 0, 1, 0, 0, .null), (.getfield 83, 3, 10, 10, .null), (.iload_n 1, 1, 1, 0, .null)] 23 (.aaload) 1 = true := by decide +kernel
theorem b_X10_get_24_26 : bl2 mX10_get 24 [(.iload_n 2, 1, 2, 0, .null), (.iload_n 3, 1, 3, 0, .null)] 26 (.invokevirtual 271) 3 = true := by decide +kernel
theorem b_X10_get_29_33 : bl2 mX10_get 29 [(.istore 4, 2, 4, 0, .null), (.iload 4, 2, 4, 0, .null)] 33 (.ifCond .eq 13) 3 = true := by decide +kernel
theorem b_X10_get_36_39 : bl2 mX10_get 36 [(.aload_n 0, 1, 0, 0, .null), (.iload 4, 2, 4, 0, .null)] 39 (.putfield 88) 3 = true := by decide +kernel
theorem b_X10_get_42_45 : bl2 mX10_get 42 [(.ldc_w 277, 3, 0, 0, .int (-2147483648))] 45 (.ireturn) 1 = true := by decide +kernel
set_option maxRecDepth 20000 in
set_option maxHeartbeats 1000000 in
theorem x_get_find0 (E : EE) (L : Nat) (F : FF) (f x : Int32) (h : 0 ≤ f ∧ f < 3) (hf : ¬ fndA (F 40 1) (F 40 2) (F 40 3) f x = 0) : Ev3 E L 16 mX10_get [.ref 5, .int 0, .int f, .int x] F (some (.int (-2147483648))) (up2 F 5 11 (fndA (F 40 1) (F 40 2) (F 40 3) f x)) := by
  refine Ev3.of okX10_get.2.2.1 (Nat.le_of_ble_eq_true rfl) ?_
  show R2 E L mX10_get 16 0 [some (.ref 5), some (.int 0), some (.int f), some (.int x), none] [] F _
  refine R2.B (ls2 := [some (.ref 5), some (.int 0), some (.int f), some (.int x), none]) (st2 := [.int 0]) b_X10_get_0_1 rfl (fun hd => ?_)
  refine R2.callS3 (M2 := mX10_isSheet) (As := [.int 0]) (rest := []) hd lk_10_153 okX10_isSheet (by decide) (ev_isSheet E L F 0) (by decide) rfl rfl (Nat.le_of_ble_eq_true rfl) ?_
  refine R2.B (ls2 := [some (.ref 5), some (.int 0), some (.int f), some (.int x), none]) (st2 := [.int (b2i (0 ≤ 0 ∧ 0 < 4))]) b_X10_get_4_4 rfl (fun hd => ?_)
  refine R2.if_eq 14 hd (by decide) (fun c4 => absurd c4 (b2i_nz.mpr (by decide))) (fun c4 => ?_)
  refine R2.B (ls2 := [some (.ref 5), some (.int 0), some (.int f), some (.int x), none]) (st2 := [.int f]) b_X10_get_7_8 rfl (fun hd => ?_)
  refine R2.callS3 (M2 := mX10_isForm) (As := [.int f]) (rest := []) hd lk_10_264 okX10_isForm (by decide) (ev_isForm E L F f) (by decide) rfl rfl (Nat.le_of_ble_eq_true rfl) ?_
  refine R2.B (ls2 := [some (.ref 5), some (.int 0), some (.int f), some (.int x), none]) (st2 := [.int (b2i (0 ≤ f ∧ f < 3))]) b_X10_get_11_11 rfl (fun hd => ?_)
  refine R2.if_ne 18 hd (by decide) (fun c11 => ?_) (fun c11 => absurd c11 (b2i_nz.mpr h))
  refine R2.B (ls2 := [some (.ref 5), some (.int 0), some (.int f), some (.int x), none]) (st2 := [.int 0, .ref 39]) b_X10_get_18_23 rfl (fun hd => ?_)
  refine R2.aald (k2 := 40) 0 rfl hd rfl (by decide) (by omega) rfl ?_
  refine R2.B (ls2 := [some (.ref 5), some (.int 0), some (.int f), some (.int x), none]) (st2 := [.int x, .int f, .ref 40]) b_X10_get_24_26 rfl (fun hd => ?_)
  refine R2.callV3 (M2 := mX5_findingAt) (As := [.int f, .int x]) (rest := []) hd lk_10_271 okX5_findingAt (by decide) rfl (ev_findingAt40 E L F f x) (by decide) rfl rfl (Nat.le_of_ble_eq_true rfl) ?_
  refine R2.B (ls2 := [some (.ref 5), some (.int 0), some (.int f), some (.int x), some (.int (fndA (F 40 1) (F 40 2) (F 40 3) f x))]) (st2 := [.int (fndA (F 40 1) (F 40 2) (F 40 3) f x)]) b_X10_get_29_33 rfl (fun hd => ?_)
  refine R2.if_eq 46 hd (by decide) (fun c33 => absurd c33 (hf)) (fun c33 => ?_)
  refine R2.B (ls2 := [some (.ref 5), some (.int 0), some (.int f), some (.int x), some (.int (fndA (F 40 1) (F 40 2) (F 40 3) f x))]) (st2 := [.int (fndA (F 40 1) (F 40 2) (F 40 3) f x), .ref 5]) b_X10_get_36_39 rfl (fun hd => ?_)
  refine R2.putf (a := 10) (b := 11) hd (by decide) (by decide) rfl rfl (fun _ => rfl) ?_
  refine R2.B (ls2 := [some (.ref 5), some (.int 0), some (.int f), some (.int x), some (.int (fndA (F 40 1) (F 40 2) (F 40 3) f x))]) (st2 := [.int (-2147483648)]) b_X10_get_42_45 rfl (fun hd => ?_)
  exact R2.ret3 (r := some (.int (-2147483648))) hd trivial rfl rfl rfl
theorem b_X10_get_46_51 : bl2 mX10_get 46 [(.aload_n 0, 1, 0, 0, .null), (.getfield 83, 3, 10, 10, .null), (.iload_n 1, 1, 1, 0, .null)] 51 (.aaload) 1 = true := by decide +kernel
theorem b_X10_get_52_56 : bl2 mX10_get 52 [(.getfield 167, 3, 5, 0, .null), (.iload_n 3, 1, 3, 0, .null)] 56 (.iaload) 1 = true := by decide +kernel
theorem b_X10_get_57_57 : bl2 mX10_get 57 [] 57 (.ireturn) 1 = true := by decide +kernel
set_option maxRecDepth 20000 in
set_option maxHeartbeats 1000000 in
theorem x_get0 (E : EE) (L : Nat) (F : FF) (f : Int32) (h : 0 ≤ f ∧ f < 3) (j : Nat) (hj : j < 60) (hf : fndA (F 40 1) (F 40 2) (F 40 3) f (nI j) = 0) : Ev3 E L 16 mX10_get [.ref 5, .int 0, .int f, .int (nI j)] F (some (.int (F 41 j))) F := by
  refine Ev3.of okX10_get.2.2.1 (Nat.le_of_ble_eq_true rfl) ?_
  show R2 E L mX10_get 16 0 [some (.ref 5), some (.int 0), some (.int f), some (.int (nI j)), none] [] F _
  refine R2.B (ls2 := [some (.ref 5), some (.int 0), some (.int f), some (.int (nI j)), none]) (st2 := [.int 0]) b_X10_get_0_1 rfl (fun hd => ?_)
  refine R2.callS3 (M2 := mX10_isSheet) (As := [.int 0]) (rest := []) hd lk_10_153 okX10_isSheet (by decide) (ev_isSheet E L F 0) (by decide) rfl rfl (Nat.le_of_ble_eq_true rfl) ?_
  refine R2.B (ls2 := [some (.ref 5), some (.int 0), some (.int f), some (.int (nI j)), none]) (st2 := [.int (b2i (0 ≤ 0 ∧ 0 < 4))]) b_X10_get_4_4 rfl (fun hd => ?_)
  refine R2.if_eq 14 hd (by decide) (fun c4 => absurd c4 (b2i_nz.mpr (by decide))) (fun c4 => ?_)
  refine R2.B (ls2 := [some (.ref 5), some (.int 0), some (.int f), some (.int (nI j)), none]) (st2 := [.int f]) b_X10_get_7_8 rfl (fun hd => ?_)
  refine R2.callS3 (M2 := mX10_isForm) (As := [.int f]) (rest := []) hd lk_10_264 okX10_isForm (by decide) (ev_isForm E L F f) (by decide) rfl rfl (Nat.le_of_ble_eq_true rfl) ?_
  refine R2.B (ls2 := [some (.ref 5), some (.int 0), some (.int f), some (.int (nI j)), none]) (st2 := [.int (b2i (0 ≤ f ∧ f < 3))]) b_X10_get_11_11 rfl (fun hd => ?_)
  refine R2.if_ne 18 hd (by decide) (fun c11 => ?_) (fun c11 => absurd c11 (b2i_nz.mpr h))
  refine R2.B (ls2 := [some (.ref 5), some (.int 0), some (.int f), some (.int (nI j)), none]) (st2 := [.int 0, .ref 39]) b_X10_get_18_23 rfl (fun hd => ?_)
  refine R2.aald (k2 := 40) 0 rfl hd rfl (by decide) (by omega) rfl ?_
  refine R2.B (ls2 := [some (.ref 5), some (.int 0), some (.int f), some (.int (nI j)), none]) (st2 := [.int (nI j), .int f, .ref 40]) b_X10_get_24_26 rfl (fun hd => ?_)
  refine R2.callV3 (M2 := mX5_findingAt) (As := [.int f, .int (nI j)]) (rest := []) hd lk_10_271 okX5_findingAt (by decide) rfl (ev_findingAt40 E L F f (nI j)) (by decide) rfl rfl (Nat.le_of_ble_eq_true rfl) ?_
  refine R2.B (ls2 := [some (.ref 5), some (.int 0), some (.int f), some (.int (nI j)), some (.int (fndA (F 40 1) (F 40 2) (F 40 3) f (nI j)))]) (st2 := [.int (fndA (F 40 1) (F 40 2) (F 40 3) f (nI j))]) b_X10_get_29_33 rfl (fun hd => ?_)
  refine R2.if_eq 46 hd (by decide) (fun c33 => ?_) (fun c33 => absurd (hf) c33)
  refine R2.B (ls2 := [some (.ref 5), some (.int 0), some (.int f), some (.int (nI j)), some (.int (fndA (F 40 1) (F 40 2) (F 40 3) f (nI j)))]) (st2 := [.int 0, .ref 39]) b_X10_get_46_51 rfl (fun hd => ?_)
  refine R2.aald (k2 := 40) 0 rfl hd rfl (by decide) (by omega) rfl ?_
  refine R2.B (ls2 := [some (.ref 5), some (.int 0), some (.int f), some (.int (nI j)), some (.int (fndA (F 40 1) (F 40 2) (F 40 3) f (nI j)))]) (st2 := [.int (nI j), .ref 41]) b_X10_get_52_56 rfl (fun hd => ?_)
  refine R2.iald j rfl hd rfl (fun _ => rfl) (by decide) (by omega) ?_
  refine R2.B (ls2 := [some (.ref 5), some (.int 0), some (.int f), some (.int (nI j)), some (.int (fndA (F 40 1) (F 40 2) (F 40 3) f (nI j)))]) (st2 := [.int (F 41 j)]) b_X10_get_57_57 rfl (fun hd => ?_)
  exact R2.ret3 (r := some (.int (F 41 j))) hd trivial rfl rfl rfl
theorem b_X10_write_10_15 : bl2 mX10_write 10 [(.aload_n 0, 1, 0, 0, .null), (.getfield 83, 3, 10, 10, .null), (.iload_n 1, 1, 1, 0, .null)] 15 (.aaload) 1 = true := by decide +kernel
theorem b_X10_write_16_19 : bl2 mX10_write 16 [(.getfield 156, 3, 5, 1, .null)] 19 (.ifCond .eq 9) 3 = true := by decide +kernel
theorem b_X10_write_22_24 : bl2 mX10_write 22 [(.aload_n 0, 1, 0, 0, .null), (.iconst 1, 1, 0, 0, .int 1)] 24 (.invokevirtual 160) 3 = true := by decide +kernel
theorem b_X10_write_27_27 : bl2 mX10_write 27 [] 27 (.ireturn) 1 = true := by decide +kernel
set_option maxRecDepth 20000 in
set_option maxHeartbeats 1000000 in
theorem x_write_null0 (E : EE) (L : Nat) (F : FF) (hl : ¬ F 40 1 = 0) : Ev3 E L 16 mX10_write [.ref 5, .int 0] F (some (.int (-10 - 1))) (up2 F 5 11 1) := by
  refine Ev3.of okX10_write.2.2.1 (Nat.le_of_ble_eq_true rfl) ?_
  show R2 E L mX10_write 16 0 [some (.ref 5), some (.int 0), none, none] [] F _
  refine R2.B (ls2 := [some (.ref 5), some (.int 0), none, none]) (st2 := [.int 0]) b_X10_write_0_1 rfl (fun hd => ?_)
  refine R2.callS3 (M2 := mX10_isSheet) (As := [.int 0]) (rest := []) hd lk_10_153 okX10_isSheet (by decide) (ev_isSheet E L F 0) (by decide) rfl rfl (Nat.le_of_ble_eq_true rfl) ?_
  refine R2.B (ls2 := [some (.ref 5), some (.int 0), none, none]) (st2 := [.int (b2i (0 ≤ 0 ∧ 0 < 4))]) b_X10_write_4_4 rfl (fun hd => ?_)
  refine R2.if_ne 10 hd (by decide) (fun c4 => ?_) (fun c4 => absurd c4 (b2i_nz.mpr (by decide)))
  refine R2.B (ls2 := [some (.ref 5), some (.int 0), none, none]) (st2 := [.int 0, .ref 39]) b_X10_write_10_15 rfl (fun hd => ?_)
  refine R2.aald (k2 := 40) 0 rfl hd rfl (by decide) (by omega) rfl ?_
  refine R2.B (ls2 := [some (.ref 5), some (.int 0), none, none]) (st2 := [.int (F 40 1)]) b_X10_write_16_19 rfl (fun hd => ?_)
  refine R2.if_eq 28 hd (by decide) (fun c19 => absurd c19 (hl)) (fun c19 => ?_)
  refine R2.B (ls2 := [some (.ref 5), some (.int 0), none, none]) (st2 := [.int 1, .ref 5]) b_X10_write_22_24 rfl (fun hd => ?_)
  refine R2.callV3 (M2 := mX10_found) (As := [.int 1]) (rest := []) hd lk_10_160 okX10_found (by decide) rfl (ev_found E L F 1) (by decide) rfl rfl (Nat.le_of_ble_eq_true rfl) ?_
  refine R2.B (ls2 := [some (.ref 5), some (.int 0), none, none]) (st2 := [.int (-10 - 1)]) b_X10_write_27_27 rfl (fun hd => ?_)
  exact R2.ret3 (r := some (.int (-10 - 1))) hd trivial rfl rfl rfl
theorem b_X10_write_50_52 : bl2 mX10_write 50 [(.iload_n 3, 1, 3, 0, .null), (.iload_n 2, 1, 2, 0, .null)] 52 (.if_icmp .ge 28) 3 = true := by decide +kernel
theorem b_X10_write_80_81 : bl2 mX10_write 80 [(.iload_n 2, 1, 2, 0, .null)] 81 (.ireturn) 1 = true := by decide +kernel
theorem b_X10_write_55_60 : bl2 mX10_write 55 [(.aload_n 0, 1, 0, 0, .null), (.getfield 83, 3, 10, 10, .null), (.iload_n 1, 1, 1, 0, .null)] 60 (.aaload) 1 = true := by decide +kernel
theorem b_X10_write_61_70 : bl2 mX10_write 61 [(.iload_n 3, 1, 3, 0, .null), (.aload_n 0, 1, 0, 0, .null), (.getfield 24, 3, 10, 2, .null), (.getfield 143, 3, 0, 4, .null), (.iload_n 3, 1, 3, 0, .null)] 70 (.iaload) 1 = true := by decide +kernel
theorem b_X10_write_71_71 : bl2 mX10_write 71 [] 71 (.invokevirtual 274) 3 = true := by decide +kernel
theorem b_X10_write_74_50 : bl2 mX10_write 74 [(.iinc 3 1, 3, 3, 0, .int 1), (.goto (-27), 3, 50, 0, .null)] 50 (.iload_n 3) 1 = true := by decide +kernel
set_option maxRecDepth 20000 in
set_option maxHeartbeats 2000000 in
theorem lp_write0 (E : EE) (L : Nat) (z W : Nat) (hz60 : z ≤ 60) (hW : W ≤ z) (hW10 : W ≤ 10) : ∀ (k : Nat) (j : Nat) (F : FF), j + k = W → F 40 3 = nI z → R2 E L mX10_write 16 50 [some (.ref 5), some (.int 0), some (.int (nI W)), some (.int (nI j))] [] F (fun r' F' => r' = some (.int (nI W)) ∧ F' = wrL 40 k j F) := by
  intro k
  induction k with
  | zero =>
    intro j F hi h3
    refine R2.B (ls2 := [some (.ref 5), some (.int 0), some (.int (nI W)), some (.int (nI j))]) (st2 := [.int (nI W), .int (nI j)]) b_X10_write_50_52 rfl (fun hd => ?_)
    refine R2.icmp_ge 80 hd (by decide) (fun c52 => ?_) (fun c52 => absurd (nI_le (by omega) (by omega)) c52)
    refine R2.B (ls2 := [some (.ref 5), some (.int 0), some (.int (nI W)), some (.int (nI j))]) (st2 := [.int (nI W)]) b_X10_write_80_81 rfl (fun hd => ?_)
    exact R2.ret3 (r := some (.int (nI W))) hd trivial rfl rfl rfl
  | succ k ih =>
    intro j F hi h3
    refine R2.B (ls2 := [some (.ref 5), some (.int 0), some (.int (nI W)), some (.int (nI j))]) (st2 := [.int (nI W), .int (nI j)]) b_X10_write_50_52 rfl (fun hd => ?_)
    refine R2.icmp_ge 80 hd (by decide) (fun c52 => absurd c52 (nI_ge (by omega) (by omega))) (fun c52 => ?_)
    refine R2.B (ls2 := [some (.ref 5), some (.int 0), some (.int (nI W)), some (.int (nI j))]) (st2 := [.int 0, .ref 39]) b_X10_write_55_60 rfl (fun hd => ?_)
    refine R2.aald (k2 := 40) 0 rfl hd rfl (by decide) (by omega) rfl ?_
    refine R2.B (ls2 := [some (.ref 5), some (.int 0), some (.int (nI W)), some (.int (nI j))]) (st2 := [.int (nI j), .ref 15, .int (nI j), .ref 40]) b_X10_write_61_70 rfl (fun hd => ?_)
    refine R2.iald j rfl hd rfl (fun _ => rfl) (by decide) (by omega) ?_
    refine R2.B (ls2 := [some (.ref 5), some (.int 0), some (.int (nI W)), some (.int (nI j))]) (st2 := [.int (F 15 j), .int (nI j), .ref 40]) b_X10_write_71_71 rfl (fun hd => ?_)
    refine R2.callV3 (M2 := mX5_store) (As := [.int (nI j), .int (F 15 j)]) (rest := []) hd lk_10_274 okX5_store (by decide) rfl (ev_store40 E L F j (F 15 j) (by omega) (by rw [h3]; exact nI_lt (show j < z by omega) (by omega))) (by decide) rfl rfl (Nat.le_of_ble_eq_true rfl) ?_
    refine R2.B (ls2 := [some (.ref 5), some (.int 0), some (.int (nI W)), some (.int ((nI j) + 1))]) (st2 := []) b_X10_write_74_50 rfl (fun hd => ?_)
    rw [show ((nI j) + 1 : Int32) = nI (j + 1) from nI_add j 1]
    exact ih (j + 1) _ (by omega) h3
theorem b_X10_write_28_33 : bl2 mX10_write 28 [(.aload_n 0, 1, 0, 0, .null), (.getfield 83, 3, 10, 10, .null), (.iload_n 1, 1, 1, 0, .null)] 33 (.aaload) 1 = true := by decide +kernel
theorem b_X10_write_34_44 : bl2 mX10_write 34 [(.getfield 164, 3, 5, 3, .null), (.aload_n 0, 1, 0, 0, .null), (.getfield 24, 3, 10, 2, .null), (.getfield 290, 3, 0, 5, .null)] 44 (.invokestatic 291) 3 = true := by decide +kernel
theorem b_X10_write_47_50 : bl2 mX10_write 47 [(.istore_n 2, 1, 2, 0, .null), (.iconst 0, 1, 0, 0, .int 0), (.istore_n 3, 1, 3, 0, .null)] 50 (.iload_n 3) 1 = true := by decide +kernel
set_option maxRecDepth 20000 in
set_option maxHeartbeats 1000000 in
theorem x_write0 (E : EE) (L : Nat) (F : FF) (n : Nat) (hn : F 10 5 = nI n) (hn10 : n ≤ 10) (z : Nat) (hz : F 40 3 = nI z) (hz60 : z ≤ 60) (hl : F 40 1 = 0) : Ev3 E L 16 mX10_write [.ref 5, .int 0] F (some (.int (nI (if n < z then n else z)))) (wrL 40 (if n < z then n else z) 0 F) := by
  refine Ev3.of okX10_write.2.2.1 (Nat.le_of_ble_eq_true rfl) ?_
  show R2 E L mX10_write 16 0 [some (.ref 5), some (.int 0), none, none] [] F _
  refine R2.B (ls2 := [some (.ref 5), some (.int 0), none, none]) (st2 := [.int 0]) b_X10_write_0_1 rfl (fun hd => ?_)
  refine R2.callS3 (M2 := mX10_isSheet) (As := [.int 0]) (rest := []) hd lk_10_153 okX10_isSheet (by decide) (ev_isSheet E L F 0) (by decide) rfl rfl (Nat.le_of_ble_eq_true rfl) ?_
  refine R2.B (ls2 := [some (.ref 5), some (.int 0), none, none]) (st2 := [.int (b2i (0 ≤ 0 ∧ 0 < 4))]) b_X10_write_4_4 rfl (fun hd => ?_)
  refine R2.if_ne 10 hd (by decide) (fun c4 => ?_) (fun c4 => absurd c4 (b2i_nz.mpr (by decide)))
  refine R2.B (ls2 := [some (.ref 5), some (.int 0), none, none]) (st2 := [.int 0, .ref 39]) b_X10_write_10_15 rfl (fun hd => ?_)
  refine R2.aald (k2 := 40) 0 rfl hd rfl (by decide) (by omega) rfl ?_
  refine R2.B (ls2 := [some (.ref 5), some (.int 0), none, none]) (st2 := [.int (F 40 1)]) b_X10_write_16_19 rfl (fun hd => ?_)
  refine R2.if_eq 28 hd (by decide) (fun c19 => ?_) (fun c19 => absurd (hl) c19)
  refine R2.B (ls2 := [some (.ref 5), some (.int 0), none, none]) (st2 := [.int 0, .ref 39]) b_X10_write_28_33 rfl (fun hd => ?_)
  refine R2.aald (k2 := 40) 0 rfl hd rfl (by decide) (by omega) rfl ?_
  refine R2.B (ls2 := [some (.ref 5), some (.int 0), none, none]) (st2 := [.int (F 10 5), .int (F 40 3)]) b_X10_write_34_44 rfl (fun hd => ?_)
  rw [show (F 10 5 : Int32) = nI n from hn]
  rw [show (F 40 3 : Int32) = nI z from hz]
  refine R2.mmin hd ma_10_291 (by decide) (Nat.le_of_ble_eq_true rfl) ?_
  refine R2.top (show (if nI n < nI z then nI n else nI z : Int32) = nI (if n < z then n else z) from min2 (by omega) (by omega)) ?_
  refine R2.B (ls2 := [some (.ref 5), some (.int 0), some (.int (nI (if n < z then n else z))), some (.int 0)]) (st2 := []) b_X10_write_47_50 rfl (fun hd => ?_)
  exact lp_write0 E L z (if n < z then n else z) hz60 (by split <;> omega) (by split <;> omega) (if n < z then n else z) 0 F (by omega) hz
theorem b_X10_read_18_23 : bl2 mX10_read 18 [(.aload_n 0, 1, 0, 0, .null), (.getfield 83, 3, 10, 10, .null), (.iload_n 1, 1, 1, 0, .null)] 23 (.aaload) 1 = true := by decide +kernel
theorem b_X10_read_24_29 : bl2 mX10_read 24 [(.astore_n 3, 1, 3, 0, .null), (.aload_n 3, 1, 3, 0, .null), (.getfield 156, 3, 5, 1, .null)] 29 (.ifCond .eq 9) 3 = true := by decide +kernel
theorem b_X10_read_32_34 : bl2 mX10_read 32 [(.aload_n 0, 1, 0, 0, .null), (.iconst 1, 1, 0, 0, .int 1)] 34 (.invokevirtual 160) 3 = true := by decide +kernel
theorem b_X10_read_37_37 : bl2 mX10_read 37 [] 37 (.ireturn) 1 = true := by decide +kernel
set_option maxRecDepth 20000 in
set_option maxHeartbeats 1000000 in
theorem x_read_null0 (E : EE) (L : Nat) (F : FF) (n : Nat) (hn : F 10 5 = nI n) (hn10 : n ≤ 10) (a : Nat) (ha : a < n) (hl : ¬ F 40 1 = 0) : Ev3 E L 16 mX10_read [.ref 5, .int 0, .int (nI a)] F (some (.int (-10 - 1))) (up2 F 5 11 1) := by
  refine Ev3.of okX10_read.2.2.1 (Nat.le_of_ble_eq_true rfl) ?_
  show R2 E L mX10_read 16 0 [some (.ref 5), some (.int 0), some (.int (nI a)), none, none] [] F _
  refine R2.B (ls2 := [some (.ref 5), some (.int 0), some (.int (nI a)), none, none]) (st2 := [.int 0]) b_X10_read_0_1 rfl (fun hd => ?_)
  refine R2.callS3 (M2 := mX10_isSheet) (As := [.int 0]) (rest := []) hd lk_10_153 okX10_isSheet (by decide) (ev_isSheet E L F 0) (by decide) rfl rfl (Nat.le_of_ble_eq_true rfl) ?_
  refine R2.B (ls2 := [some (.ref 5), some (.int 0), some (.int (nI a)), none, none]) (st2 := [.int (b2i (0 ≤ 0 ∧ 0 < 4))]) b_X10_read_4_4 rfl (fun hd => ?_)
  refine R2.if_eq 15 hd (by decide) (fun c4 => absurd c4 (b2i_nz.mpr (by decide))) (fun c4 => ?_)
  refine R2.B (ls2 := [some (.ref 5), some (.int 0), some (.int (nI a)), none, none]) (st2 := [.int (nI a), .ref 5]) b_X10_read_7_9 rfl (fun hd => ?_)
  refine R2.callV3 (M2 := mX10_isPerson) (As := [.int (nI a)]) (rest := []) hd lk_10_131 okX10_isPerson (by decide) rfl (ev_isPerson E L F (nI a)) (by decide) rfl rfl (Nat.le_of_ble_eq_true rfl) ?_
  refine R2.B (ls2 := [some (.ref 5), some (.int 0), some (.int (nI a)), none, none]) (st2 := [.int (b2i (0 ≤ (nI a) ∧ (nI a) < F 10 5))]) b_X10_read_12_12 rfl (fun hd => ?_)
  refine R2.if_ne 18 hd (by decide) (fun c12 => ?_) (fun c12 => absurd c12 (b2i_nz.mpr (per_t hn hn10 ha)))
  refine R2.B (ls2 := [some (.ref 5), some (.int 0), some (.int (nI a)), none, none]) (st2 := [.int 0, .ref 39]) b_X10_read_18_23 rfl (fun hd => ?_)
  refine R2.aald (k2 := 40) 0 rfl hd rfl (by decide) (by omega) rfl ?_
  refine R2.B (ls2 := [some (.ref 5), some (.int 0), some (.int (nI a)), some (.ref 40), none]) (st2 := [.int (F 40 1)]) b_X10_read_24_29 rfl (fun hd => ?_)
  refine R2.if_eq 38 hd (by decide) (fun c29 => absurd c29 (hl)) (fun c29 => ?_)
  refine R2.B (ls2 := [some (.ref 5), some (.int 0), some (.int (nI a)), some (.ref 40), none]) (st2 := [.int 1, .ref 5]) b_X10_read_32_34 rfl (fun hd => ?_)
  refine R2.callV3 (M2 := mX10_found) (As := [.int 1]) (rest := []) hd lk_10_160 okX10_found (by decide) rfl (ev_found E L F 1) (by decide) rfl rfl (Nat.le_of_ble_eq_true rfl) ?_
  refine R2.B (ls2 := [some (.ref 5), some (.int 0), some (.int (nI a)), some (.ref 40), none]) (st2 := [.int (-10 - 1)]) b_X10_read_37_37 rfl (fun hd => ?_)
  exact R2.ret3 (r := some (.int (-10 - 1))) hd trivial rfl rfl rfl
theorem b_X10_read_41_47 : bl2 mX10_read 41 [(.iload 4, 2, 4, 0, .null), (.aload_n 3, 1, 3, 0, .null), (.getfield 164, 3, 5, 3, .null)] 47 (.if_icmp .ge 37) 3 = true := by decide +kernel
theorem b_X10_read_84_86 : bl2 mX10_read 84 [(.iload 4, 2, 4, 0, .null)] 86 (.ireturn) 1 = true := by decide +kernel
theorem b_X10_read_50_56 : bl2 mX10_read 50 [(.aload_n 3, 1, 3, 0, .null), (.getfield 167, 3, 5, 0, .null), (.iload 4, 2, 4, 0, .null)] 56 (.iaload) 1 = true := by decide +kernel
theorem b_X10_read_57_57 : bl2 mX10_read 57 [] 57 (.invokestatic 146) 3 = true := by decide +kernel
theorem b_X10_read_60_60 : bl2 mX10_read 60 [] 60 (.ifCond .eq 24) 3 = true := by decide +kernel
theorem b_X10_read_63_71 : bl2 mX10_read 63 [(.aload_n 0, 1, 0, 0, .null), (.iload_n 2, 1, 2, 0, .null), (.aload_n 3, 1, 3, 0, .null), (.getfield 167, 3, 5, 0, .null), (.iload 4, 2, 4, 0, .null)] 71 (.iaload) 1 = true := by decide +kernel
theorem b_X10_read_72_72 : bl2 mX10_read 72 [] 72 (.invokevirtual 149) 3 = true := by decide +kernel
theorem b_X10_read_75_75 : bl2 mX10_read 75 [] 75 (.ifCond .eq 9) 3 = true := by decide +kernel
theorem b_X10_read_78_41 : bl2 mX10_read 78 [(.iinc 4 1, 3, 4, 0, .int 1), (.goto (-40), 3, 41, 0, .null)] 41 (.iload 4) 2 = true := by decide +kernel
set_option maxRecDepth 20000 in
set_option maxHeartbeats 2000000 in
theorem lp_read0 (E : EE) (L : Nat) (n a z : Nat) (hn10 : n ≤ 10) (ha : a < n) (hz60 : z ≤ 60) : ∀ (k : Nat) (j : Nat) (F : FF), j + k = z → F 10 5 = nI n → CST F → F 40 3 = nI z → R2 E L mX10_read 16 41 [some (.ref 5), some (.int 0), some (.int (nI a)), some (.ref 40), some (.int (nI j))] [] F (fun r' F' => r' = some (.int (nI (rdL n a 40 k j F).1)) ∧ F' = (rdL n a 40 k j F).2) := by
  intro k
  induction k with
  | zero =>
    intro j F hi h5 hc h3
    refine R2.B (ls2 := [some (.ref 5), some (.int 0), some (.int (nI a)), some (.ref 40), some (.int (nI j))]) (st2 := [.int (F 40 3), .int (nI j)]) b_X10_read_41_47 rfl (fun hd => ?_)
    rw [show (F 40 3 : Int32) = nI z from h3]
    refine R2.icmp_ge 84 hd (by decide) (fun c47 => ?_) (fun c47 => absurd (nI_le (by omega) (by omega)) c47)
    refine R2.B (ls2 := [some (.ref 5), some (.int 0), some (.int (nI a)), some (.ref 40), some (.int (nI j))]) (st2 := [.int (nI j)]) b_X10_read_84_86 rfl (fun hd => ?_)
    exact R2.ret3 (r := some (.int (nI j))) hd trivial rfl rfl rfl
  | succ k ih =>
    intro j F hi h5 hc h3
    refine R2.B (ls2 := [some (.ref 5), some (.int 0), some (.int (nI a)), some (.ref 40), some (.int (nI j))]) (st2 := [.int (F 40 3), .int (nI j)]) b_X10_read_41_47 rfl (fun hd => ?_)
    rw [show (F 40 3 : Int32) = nI z from h3]
    refine R2.icmp_ge 84 hd (by decide) (fun c47 => absurd c47 (nI_ge (by omega) (by omega))) (fun c47 => ?_)
    refine R2.B (ls2 := [some (.ref 5), some (.int 0), some (.int (nI a)), some (.ref 40), some (.int (nI j))]) (st2 := [.int (nI j), .ref 41]) b_X10_read_50_56 rfl (fun hd => ?_)
    refine R2.iald j rfl hd rfl (fun _ => rfl) (by decide) (by omega) ?_
    refine R2.B (ls2 := [some (.ref 5), some (.int 0), some (.int (nI a)), some (.ref 40), some (.int (nI j))]) (st2 := [.int (F 41 j)]) b_X10_read_57_57 rfl (fun hd => ?_)
    refine R2.callS3 (M2 := mX10_isDirection) (As := [.int (F 41 j)]) (rest := []) hd lk_10_146 okX10_isDirection (by decide) (ev_isDirection E L F (F 41 j)) (by decide) rfl rfl (Nat.le_of_ble_eq_true rfl) ?_
    refine R2.B (ls2 := [some (.ref 5), some (.int 0), some (.int (nI a)), some (.ref 40), some (.int (nI j))]) (st2 := [.int (b2i (0 ≤ (F 41 j) ∧ (F 41 j) < 8))]) b_X10_read_60_60 rfl (fun hd => ?_)
    refine R2.if_eq 84 hd (by decide) (fun c60 => ?_) (fun c60 => ?_)
    · have nc60 : ¬ (0 ≤ (F 41 j) ∧ (F 41 j) < 8) := b2i_zero.mp c60
      refine R2.B (ls2 := [some (.ref 5), some (.int 0), some (.int (nI a)), some (.ref 40), some (.int (nI j))]) (st2 := [.int (nI j)]) b_X10_read_84_86 rfl (fun hd => ?_)
      have e : rdL n a 40 (k + 1) j F = (j, F) := by
        simp only [rdL]; rw [if_neg nc60]
      exact R2.ret3 (r := some (.int (nI j))) hd trivial rfl (by rw [e]) (by rw [e])
    · have nc60 : 0 ≤ (F 41 j) ∧ (F 41 j) < 8 := b2i_nz.mp c60
      refine R2.B (ls2 := [some (.ref 5), some (.int 0), some (.int (nI a)), some (.ref 40), some (.int (nI j))]) (st2 := [.int (nI j), .ref 41, .int (nI a), .ref 5]) b_X10_read_63_71 rfl (fun hd => ?_)
      obtain ⟨d, hd8, ed⟩ := dir_of nc60
      refine R2.iald j rfl hd rfl (fun _ => rfl) (by decide) (by omega) ?_
      refine R2.top (show (F 41 j : Int32) = nI d from ed) ?_
      refine R2.B (ls2 := [some (.ref 5), some (.int 0), some (.int (nI a)), some (.ref 40), some (.int (nI j))]) (st2 := [.int (nI d), .int (nI a), .ref 5]) b_X10_read_72_72 rfl (fun hd => ?_)
      by_cases hl9 : lawS (F 15) a d (F 17 2 * F 17 2) n = -1
      · refine R2.callV3 (M2 := mX10_goes) (As := [.int (nI a), .int (nI d)]) (rest := []) hd lk_10_149 okX10_goes (by decide) rfl (ev_goes0 E L F hc n h5 hn10 a d ha hd8 hl9) (by decide) rfl rfl (Nat.le_of_ble_eq_true rfl) ?_
        refine R2.B (ls2 := [some (.ref 5), some (.int 0), some (.int (nI a)), some (.ref 40), some (.int (nI j))]) (st2 := [.int 0]) b_X10_read_75_75 rfl (fun hd => ?_)
        refine R2.if_eq 84 hd (by decide) (fun c75 => ?_) (fun c75 => absurd (by decide) c75)
        refine R2.B (ls2 := [some (.ref 5), some (.int 0), some (.int (nI a)), some (.ref 40), some (.int (nI j))]) (st2 := [.int (nI j)]) b_X10_read_84_86 rfl (fun hd => ?_)
        have e : rdL n a 40 (k + 1) j F = (j, F) := by
          simp only [rdL]; rw [if_pos nc60, ed, nI_clamp (by omega), if_pos hl9]
        exact R2.ret3 (r := some (.int (nI j))) hd trivial rfl (by rw [e]) (by rw [e])
      · refine R2.callV3 (M2 := mX10_goes) (As := [.int (nI a), .int (nI d)]) (rest := []) hd lk_10_149 okX10_goes (by decide) rfl (ev_goes1 E L F hc n h5 hn10 a d ha hd8 hl9) (by decide) rfl rfl (Nat.le_of_ble_eq_true rfl) ?_
        refine R2.B (ls2 := [some (.ref 5), some (.int 0), some (.int (nI a)), some (.ref 40), some (.int (nI j))]) (st2 := [.int 1]) b_X10_read_75_75 rfl (fun hd => ?_)
        refine R2.if_eq 84 hd (by decide) (fun c75 => absurd c75 (by decide)) (fun c75 => ?_)
        refine R2.B (ls2 := [some (.ref 5), some (.int 0), some (.int (nI a)), some (.ref 40), some (.int ((nI j) + 1))]) (st2 := []) b_X10_read_78_41 rfl (fun hd => ?_)
        rw [show ((nI j) + 1 : Int32) = nI (j + 1) from nI_add j 1]
        have e : rdL n a 40 (k + 1) j F = rdL n a 40 k (j + 1) (up2 F 15 a (lawS (F 15) a d (F 17 2 * F 17 2) n)) := by
          simp only [rdL]; rw [if_pos nc60, ed, nI_clamp (by omega), if_neg hl9]
        rw [e]
        exact ih (j + 1) _ (by omega) h5 hc h3
theorem b_X10_read_38_41 : bl2 mX10_read 38 [(.iconst 0, 1, 0, 0, .int 0), (.istore 4, 2, 4, 0, .null)] 41 (.iload 4) 2 = true := by decide +kernel
set_option maxRecDepth 20000 in
set_option maxHeartbeats 1000000 in
theorem x_read0 (E : EE) (L : Nat) (F : FF) (hc : CST F) (n : Nat) (hn : F 10 5 = nI n) (hn10 : n ≤ 10) (a : Nat) (ha : a < n) (z : Nat) (hz : F 40 3 = nI z) (hz60 : z ≤ 60) (hl : F 40 1 = 0) : Ev3 E L 16 mX10_read [.ref 5, .int 0, .int (nI a)] F (some (.int (nI (rdL n a 40 z 0 F).1))) (rdL n a 40 z 0 F).2 := by
  refine Ev3.of okX10_read.2.2.1 (Nat.le_of_ble_eq_true rfl) ?_
  show R2 E L mX10_read 16 0 [some (.ref 5), some (.int 0), some (.int (nI a)), none, none] [] F _
  refine R2.B (ls2 := [some (.ref 5), some (.int 0), some (.int (nI a)), none, none]) (st2 := [.int 0]) b_X10_read_0_1 rfl (fun hd => ?_)
  refine R2.callS3 (M2 := mX10_isSheet) (As := [.int 0]) (rest := []) hd lk_10_153 okX10_isSheet (by decide) (ev_isSheet E L F 0) (by decide) rfl rfl (Nat.le_of_ble_eq_true rfl) ?_
  refine R2.B (ls2 := [some (.ref 5), some (.int 0), some (.int (nI a)), none, none]) (st2 := [.int (b2i (0 ≤ 0 ∧ 0 < 4))]) b_X10_read_4_4 rfl (fun hd => ?_)
  refine R2.if_eq 15 hd (by decide) (fun c4 => absurd c4 (b2i_nz.mpr (by decide))) (fun c4 => ?_)
  refine R2.B (ls2 := [some (.ref 5), some (.int 0), some (.int (nI a)), none, none]) (st2 := [.int (nI a), .ref 5]) b_X10_read_7_9 rfl (fun hd => ?_)
  refine R2.callV3 (M2 := mX10_isPerson) (As := [.int (nI a)]) (rest := []) hd lk_10_131 okX10_isPerson (by decide) rfl (ev_isPerson E L F (nI a)) (by decide) rfl rfl (Nat.le_of_ble_eq_true rfl) ?_
  refine R2.B (ls2 := [some (.ref 5), some (.int 0), some (.int (nI a)), none, none]) (st2 := [.int (b2i (0 ≤ (nI a) ∧ (nI a) < F 10 5))]) b_X10_read_12_12 rfl (fun hd => ?_)
  refine R2.if_ne 18 hd (by decide) (fun c12 => ?_) (fun c12 => absurd c12 (b2i_nz.mpr (per_t hn hn10 ha)))
  refine R2.B (ls2 := [some (.ref 5), some (.int 0), some (.int (nI a)), none, none]) (st2 := [.int 0, .ref 39]) b_X10_read_18_23 rfl (fun hd => ?_)
  refine R2.aald (k2 := 40) 0 rfl hd rfl (by decide) (by omega) rfl ?_
  refine R2.B (ls2 := [some (.ref 5), some (.int 0), some (.int (nI a)), some (.ref 40), none]) (st2 := [.int (F 40 1)]) b_X10_read_24_29 rfl (fun hd => ?_)
  refine R2.if_eq 38 hd (by decide) (fun c29 => ?_) (fun c29 => absurd (hl) c29)
  refine R2.B (ls2 := [some (.ref 5), some (.int 0), some (.int (nI a)), some (.ref 40), some (.int 0)]) (st2 := []) b_X10_read_38_41 rfl (fun hd => ?_)
  exact lp_read0 E L n a z hn10 ha hz60 z 0 F (by omega) hn hc hz
set_option maxRecDepth 20000 in
set_option maxHeartbeats 1000000 in
theorem x_sheet_size1 (E : EE) (L : Nat) (F : FF) (f x : Int32) (h : 0 ≤ f ∧ f < 3) (h60 : x ≤ 60) (hx : x < 0) : Ev3 E L 16 mX10_sheet [.ref 5, .int 1, .int f, .int x] F (some (.int (-10 - 5))) (up2 F 5 11 5) := by
  refine Ev3.of okX10_sheet.2.2.1 (Nat.le_of_ble_eq_true rfl) ?_
  show R2 E L mX10_sheet 16 0 [some (.ref 5), some (.int 1), some (.int f), some (.int x)] [] F _
  refine R2.B (ls2 := [some (.ref 5), some (.int 1), some (.int f), some (.int x)]) (st2 := [.int 1]) b_X10_sheet_0_1 rfl (fun hd => ?_)
  refine R2.callS3 (M2 := mX10_isSheet) (As := [.int 1]) (rest := []) hd lk_10_153 okX10_isSheet (by decide) (ev_isSheet E L F 1) (by decide) rfl rfl (Nat.le_of_ble_eq_true rfl) ?_
  refine R2.B (ls2 := [some (.ref 5), some (.int 1), some (.int f), some (.int x)]) (st2 := [.int (b2i (0 ≤ 1 ∧ 1 < 4))]) b_X10_sheet_4_4 rfl (fun hd => ?_)
  refine R2.if_eq 20 hd (by decide) (fun c4 => absurd c4 (b2i_nz.mpr (by decide))) (fun c4 => ?_)
  refine R2.B (ls2 := [some (.ref 5), some (.int 1), some (.int f), some (.int x)]) (st2 := [.int f]) b_X10_sheet_7_8 rfl (fun hd => ?_)
  refine R2.callS3 (M2 := mX10_isForm) (As := [.int f]) (rest := []) hd lk_10_264 okX10_isForm (by decide) (ev_isForm E L F f) (by decide) rfl rfl (Nat.le_of_ble_eq_true rfl) ?_
  refine R2.B (ls2 := [some (.ref 5), some (.int 1), some (.int f), some (.int x)]) (st2 := [.int (b2i (0 ≤ f ∧ f < 3))]) b_X10_sheet_11_11 rfl (fun hd => ?_)
  refine R2.if_eq 20 hd (by decide) (fun c11 => ?_) (fun c11 => ?_)
  · have nc11 : ¬ (0 ≤ f ∧ f < 3) := b2i_zero.mp c11
    refine R2.B (ls2 := [some (.ref 5), some (.int 1), some (.int f), some (.int x)]) (st2 := [.int (-2)]) b_X10_sheet_20_22 rfl (fun hd => ?_)
    exact False.elim (by clear hd; grind)
  · have nc11 : 0 ≤ f ∧ f < 3 := b2i_nz.mp c11
    refine R2.B (ls2 := [some (.ref 5), some (.int 1), some (.int f), some (.int x)]) (st2 := [.int 60, .int x]) b_X10_sheet_14_17 rfl (fun hd => ?_)
    refine R2.icmp_le 23 hd (by decide) (fun c17 => ?_) (fun c17 => ?_)
    · refine R2.B (ls2 := [some (.ref 5), some (.int 1), some (.int f), some (.int x)]) (st2 := [.int x]) b_X10_sheet_23_24 rfl (fun hd => ?_)
      refine R2.if_ge 33 hd (by decide) (fun c24 => absurd c24 (Int32.not_le.mpr hx)) (fun c24 => ?_)
      refine R2.B (ls2 := [some (.ref 5), some (.int 1), some (.int f), some (.int x)]) (st2 := [.int 5, .ref 5]) b_X10_sheet_27_29 rfl (fun hd => ?_)
      refine R2.callV3 (M2 := mX10_found) (As := [.int 5]) (rest := []) hd lk_10_160 okX10_found (by decide) rfl (ev_found E L F 5) (by decide) rfl rfl (Nat.le_of_ble_eq_true rfl) ?_
      refine R2.B (ls2 := [some (.ref 5), some (.int 1), some (.int f), some (.int x)]) (st2 := [.int (-10 - 5)]) b_X10_sheet_32_32 rfl (fun hd => ?_)
      exact R2.ret3 (r := some (.int (-10 - 5))) hd trivial rfl rfl rfl
    · refine R2.B (ls2 := [some (.ref 5), some (.int 1), some (.int f), some (.int x)]) (st2 := [.int (-2)]) b_X10_sheet_20_22 rfl (fun hd => ?_)
      exact False.elim (by clear hd; grind)
set_option maxRecDepth 20000 in
set_option maxHeartbeats 1000000 in
theorem x_sheet1 (E : EE) (L : Nat) (F : FF) (f x : Int32) (h : 0 ≤ f ∧ f < 3) (h60 : x ≤ 60) (hx : 0 ≤ x) : Ev3 E L 16 mX10_sheet [.ref 5, .int 1, .int f, .int x] F (some (.int (x))) (fillF (up2 (up2 (up2 F 42 1 0) 42 2 f) 42 3 x) 43 60 0) := by
  refine Ev3.of okX10_sheet.2.2.1 (Nat.le_of_ble_eq_true rfl) ?_
  show R2 E L mX10_sheet 16 0 [some (.ref 5), some (.int 1), some (.int f), some (.int x)] [] F _
  refine R2.B (ls2 := [some (.ref 5), some (.int 1), some (.int f), some (.int x)]) (st2 := [.int 1]) b_X10_sheet_0_1 rfl (fun hd => ?_)
  refine R2.callS3 (M2 := mX10_isSheet) (As := [.int 1]) (rest := []) hd lk_10_153 okX10_isSheet (by decide) (ev_isSheet E L F 1) (by decide) rfl rfl (Nat.le_of_ble_eq_true rfl) ?_
  refine R2.B (ls2 := [some (.ref 5), some (.int 1), some (.int f), some (.int x)]) (st2 := [.int (b2i (0 ≤ 1 ∧ 1 < 4))]) b_X10_sheet_4_4 rfl (fun hd => ?_)
  refine R2.if_eq 20 hd (by decide) (fun c4 => absurd c4 (b2i_nz.mpr (by decide))) (fun c4 => ?_)
  refine R2.B (ls2 := [some (.ref 5), some (.int 1), some (.int f), some (.int x)]) (st2 := [.int f]) b_X10_sheet_7_8 rfl (fun hd => ?_)
  refine R2.callS3 (M2 := mX10_isForm) (As := [.int f]) (rest := []) hd lk_10_264 okX10_isForm (by decide) (ev_isForm E L F f) (by decide) rfl rfl (Nat.le_of_ble_eq_true rfl) ?_
  refine R2.B (ls2 := [some (.ref 5), some (.int 1), some (.int f), some (.int x)]) (st2 := [.int (b2i (0 ≤ f ∧ f < 3))]) b_X10_sheet_11_11 rfl (fun hd => ?_)
  refine R2.if_eq 20 hd (by decide) (fun c11 => ?_) (fun c11 => ?_)
  · have nc11 : ¬ (0 ≤ f ∧ f < 3) := b2i_zero.mp c11
    refine R2.B (ls2 := [some (.ref 5), some (.int 1), some (.int f), some (.int x)]) (st2 := [.int (-2)]) b_X10_sheet_20_22 rfl (fun hd => ?_)
    exact False.elim (by clear hd; grind)
  · have nc11 : 0 ≤ f ∧ f < 3 := b2i_nz.mp c11
    refine R2.B (ls2 := [some (.ref 5), some (.int 1), some (.int f), some (.int x)]) (st2 := [.int 60, .int x]) b_X10_sheet_14_17 rfl (fun hd => ?_)
    refine R2.icmp_le 23 hd (by decide) (fun c17 => ?_) (fun c17 => ?_)
    · refine R2.B (ls2 := [some (.ref 5), some (.int 1), some (.int f), some (.int x)]) (st2 := [.int x]) b_X10_sheet_23_24 rfl (fun hd => ?_)
      refine R2.if_ge 33 hd (by decide) (fun c24 => ?_) (fun c24 => absurd (hx) c24)
      refine R2.B (ls2 := [some (.ref 5), some (.int 1), some (.int f), some (.int x)]) (st2 := [.int 1, .ref 39]) b_X10_sheet_33_38 rfl (fun hd => ?_)
      refine R2.aald (k2 := 42) 1 rfl hd rfl (by decide) (by omega) rfl ?_
      refine R2.B (ls2 := [some (.ref 5), some (.int 1), some (.int f), some (.int x)]) (st2 := [.int x, .int f, .ref 42]) b_X10_sheet_39_41 rfl (fun hd => ?_)
      refine R2.callV3 (M2 := mX5_renew) (As := [.int f, .int x]) (rest := []) hd lk_10_267 okX5_renew (by decide) rfl (ev_renew42 E L F f x) (by decide) rfl rfl (Nat.le_of_ble_eq_true rfl) ?_
      refine R2.B (ls2 := [some (.ref 5), some (.int 1), some (.int f), some (.int x)]) (st2 := [.int x]) b_X10_sheet_44_45 rfl (fun hd => ?_)
      exact R2.ret3 (r := some (.int x)) hd trivial rfl rfl rfl
    · refine R2.B (ls2 := [some (.ref 5), some (.int 1), some (.int f), some (.int x)]) (st2 := [.int (-2)]) b_X10_sheet_20_22 rfl (fun hd => ?_)
      exact False.elim (by clear hd; grind)
set_option maxRecDepth 20000 in
set_option maxHeartbeats 1000000 in
theorem x_lose_null1 (E : EE) (L : Nat) (F : FF) (hl : ¬ F 42 1 = 0) : Ev3 E L 16 mX10_lose [.ref 5, .int 1] F (some (.int (-10 - 1))) (up2 F 5 11 1) := by
  refine Ev3.of okX10_lose.2.2.1 (Nat.le_of_ble_eq_true rfl) ?_
  show R2 E L mX10_lose 16 0 [some (.ref 5), some (.int 1)] [] F _
  refine R2.B (ls2 := [some (.ref 5), some (.int 1)]) (st2 := [.int 1]) b_X10_lose_0_1 rfl (fun hd => ?_)
  refine R2.callS3 (M2 := mX10_isSheet) (As := [.int 1]) (rest := []) hd lk_10_153 okX10_isSheet (by decide) (ev_isSheet E L F 1) (by decide) rfl rfl (Nat.le_of_ble_eq_true rfl) ?_
  refine R2.B (ls2 := [some (.ref 5), some (.int 1)]) (st2 := [.int (b2i (0 ≤ 1 ∧ 1 < 4))]) b_X10_lose_4_4 rfl (fun hd => ?_)
  refine R2.if_ne 10 hd (by decide) (fun c4 => ?_) (fun c4 => absurd c4 (b2i_nz.mpr (by decide)))
  refine R2.B (ls2 := [some (.ref 5), some (.int 1)]) (st2 := [.int 1, .ref 39]) b_X10_lose_10_15 rfl (fun hd => ?_)
  refine R2.aald (k2 := 42) 1 rfl hd rfl (by decide) (by omega) rfl ?_
  refine R2.B (ls2 := [some (.ref 5), some (.int 1)]) (st2 := [.int (F 42 1)]) b_X10_lose_16_19 rfl (fun hd => ?_)
  refine R2.if_eq 28 hd (by decide) (fun c19 => absurd c19 (hl)) (fun c19 => ?_)
  refine R2.B (ls2 := [some (.ref 5), some (.int 1)]) (st2 := [.int 1, .ref 5]) b_X10_lose_22_24 rfl (fun hd => ?_)
  refine R2.callV3 (M2 := mX10_found) (As := [.int 1]) (rest := []) hd lk_10_160 okX10_found (by decide) rfl (ev_found E L F 1) (by decide) rfl rfl (Nat.le_of_ble_eq_true rfl) ?_
  refine R2.B (ls2 := [some (.ref 5), some (.int 1)]) (st2 := [.int (-10 - 1)]) b_X10_lose_27_27 rfl (fun hd => ?_)
  exact R2.ret3 (r := some (.int (-10 - 1))) hd trivial rfl rfl rfl
set_option maxRecDepth 20000 in
set_option maxHeartbeats 1000000 in
theorem x_lose1 (E : EE) (L : Nat) (F : FF) (hl : F 42 1 = 0) : Ev3 E L 16 mX10_lose [.ref 5, .int 1] F (some (.int (F 42 3))) (up2 F 42 1 1) := by
  refine Ev3.of okX10_lose.2.2.1 (Nat.le_of_ble_eq_true rfl) ?_
  show R2 E L mX10_lose 16 0 [some (.ref 5), some (.int 1)] [] F _
  refine R2.B (ls2 := [some (.ref 5), some (.int 1)]) (st2 := [.int 1]) b_X10_lose_0_1 rfl (fun hd => ?_)
  refine R2.callS3 (M2 := mX10_isSheet) (As := [.int 1]) (rest := []) hd lk_10_153 okX10_isSheet (by decide) (ev_isSheet E L F 1) (by decide) rfl rfl (Nat.le_of_ble_eq_true rfl) ?_
  refine R2.B (ls2 := [some (.ref 5), some (.int 1)]) (st2 := [.int (b2i (0 ≤ 1 ∧ 1 < 4))]) b_X10_lose_4_4 rfl (fun hd => ?_)
  refine R2.if_ne 10 hd (by decide) (fun c4 => ?_) (fun c4 => absurd c4 (b2i_nz.mpr (by decide)))
  refine R2.B (ls2 := [some (.ref 5), some (.int 1)]) (st2 := [.int 1, .ref 39]) b_X10_lose_10_15 rfl (fun hd => ?_)
  refine R2.aald (k2 := 42) 1 rfl hd rfl (by decide) (by omega) rfl ?_
  refine R2.B (ls2 := [some (.ref 5), some (.int 1)]) (st2 := [.int (F 42 1)]) b_X10_lose_16_19 rfl (fun hd => ?_)
  refine R2.if_eq 28 hd (by decide) (fun c19 => ?_) (fun c19 => absurd (hl) c19)
  refine R2.B (ls2 := [some (.ref 5), some (.int 1)]) (st2 := [.int 1, .ref 39]) b_X10_lose_28_33 rfl (fun hd => ?_)
  refine R2.aald (k2 := 42) 1 rfl hd rfl (by decide) (by omega) rfl ?_
  refine R2.B (ls2 := [some (.ref 5), some (.int 1)]) (st2 := [.int 1, .ref 42]) b_X10_lose_34_35 rfl (fun hd => ?_)
  refine R2.putf (a := 5) (b := 1) hd (by decide) (by decide) rfl rfl (fun _ => rfl) ?_
  refine R2.B (ls2 := [some (.ref 5), some (.int 1)]) (st2 := [.int 1, .ref 39]) b_X10_lose_38_43 rfl (fun hd => ?_)
  refine R2.aald (k2 := 42) 1 rfl hd rfl (by decide) (by omega) rfl ?_
  refine R2.B (ls2 := [some (.ref 5), some (.int 1)]) (st2 := [.int (F 42 3)]) b_X10_lose_44_47 rfl (fun hd => ?_)
  exact R2.ret3 (r := some (.int (F 42 3))) hd trivial rfl rfl rfl
set_option maxRecDepth 20000 in
set_option maxHeartbeats 1000000 in
theorem x_put_find1 (E : EE) (L : Nat) (F : FF) (f x v : Int32) (h : 0 ≤ f ∧ f < 3) (hf : ¬ fndA (F 42 1) (F 42 2) (F 42 3) f x = 0) : Ev3 E L 16 mX10_put [.ref 5, .int 1, .int f, .int x, .int v] F (some (.int (-10 - (fndA (F 42 1) (F 42 2) (F 42 3) f x)))) (up2 F 5 11 (fndA (F 42 1) (F 42 2) (F 42 3) f x)) := by
  refine Ev3.of okX10_put.2.2.1 (Nat.le_of_ble_eq_true rfl) ?_
  show R2 E L mX10_put 16 0 [some (.ref 5), some (.int 1), some (.int f), some (.int x), some (.int v), none] [] F _
  refine R2.B (ls2 := [some (.ref 5), some (.int 1), some (.int f), some (.int x), some (.int v), none]) (st2 := [.int 1]) b_X10_put_0_1 rfl (fun hd => ?_)
  refine R2.callS3 (M2 := mX10_isSheet) (As := [.int 1]) (rest := []) hd lk_10_153 okX10_isSheet (by decide) (ev_isSheet E L F 1) (by decide) rfl rfl (Nat.le_of_ble_eq_true rfl) ?_
  refine R2.B (ls2 := [some (.ref 5), some (.int 1), some (.int f), some (.int x), some (.int v), none]) (st2 := [.int (b2i (0 ≤ 1 ∧ 1 < 4))]) b_X10_put_4_4 rfl (fun hd => ?_)
  refine R2.if_eq 14 hd (by decide) (fun c4 => absurd c4 (b2i_nz.mpr (by decide))) (fun c4 => ?_)
  refine R2.B (ls2 := [some (.ref 5), some (.int 1), some (.int f), some (.int x), some (.int v), none]) (st2 := [.int f]) b_X10_put_7_8 rfl (fun hd => ?_)
  refine R2.callS3 (M2 := mX10_isForm) (As := [.int f]) (rest := []) hd lk_10_264 okX10_isForm (by decide) (ev_isForm E L F f) (by decide) rfl rfl (Nat.le_of_ble_eq_true rfl) ?_
  refine R2.B (ls2 := [some (.ref 5), some (.int 1), some (.int f), some (.int x), some (.int v), none]) (st2 := [.int (b2i (0 ≤ f ∧ f < 3))]) b_X10_put_11_11 rfl (fun hd => ?_)
  refine R2.if_ne 17 hd (by decide) (fun c11 => ?_) (fun c11 => ?_)
  · have nc11 : 0 ≤ f ∧ f < 3 := b2i_nz.mp c11
    refine R2.B (ls2 := [some (.ref 5), some (.int 1), some (.int f), some (.int x), some (.int v), none]) (st2 := [.int 1, .ref 39]) b_X10_put_17_22 rfl (fun hd => ?_)
    refine R2.aald (k2 := 42) 1 rfl hd rfl (by decide) (by omega) rfl ?_
    refine R2.B (ls2 := [some (.ref 5), some (.int 1), some (.int f), some (.int x), some (.int v), none]) (st2 := [.int x, .int f, .ref 42]) b_X10_put_23_25 rfl (fun hd => ?_)
    refine R2.callV3 (M2 := mX5_findingAt) (As := [.int f, .int x]) (rest := []) hd lk_10_271 okX5_findingAt (by decide) rfl (ev_findingAt42 E L F f x) (by decide) rfl rfl (Nat.le_of_ble_eq_true rfl) ?_
    refine R2.B (ls2 := [some (.ref 5), some (.int 1), some (.int f), some (.int x), some (.int v), some (.int (fndA (F 42 1) (F 42 2) (F 42 3) f x))]) (st2 := [.int (fndA (F 42 1) (F 42 2) (F 42 3) f x)]) b_X10_put_28_32 rfl (fun hd => ?_)
    refine R2.if_eq 42 hd (by decide) (fun c32 => absurd c32 (hf)) (fun c32 => ?_)
    refine R2.B (ls2 := [some (.ref 5), some (.int 1), some (.int f), some (.int x), some (.int v), some (.int (fndA (F 42 1) (F 42 2) (F 42 3) f x))]) (st2 := [.int (fndA (F 42 1) (F 42 2) (F 42 3) f x), .ref 5]) b_X10_put_35_38 rfl (fun hd => ?_)
    refine R2.callV3 (M2 := mX10_found) (As := [.int (fndA (F 42 1) (F 42 2) (F 42 3) f x)]) (rest := []) hd lk_10_160 okX10_found (by decide) rfl (ev_found E L F (fndA (F 42 1) (F 42 2) (F 42 3) f x)) (by decide) rfl rfl (Nat.le_of_ble_eq_true rfl) ?_
    refine R2.B (ls2 := [some (.ref 5), some (.int 1), some (.int f), some (.int x), some (.int v), some (.int (fndA (F 42 1) (F 42 2) (F 42 3) f x))]) (st2 := [.int (-10 - (fndA (F 42 1) (F 42 2) (F 42 3) f x))]) b_X10_put_41_41 rfl (fun hd => ?_)
    exact R2.ret3 (r := some (.int (-10 - (fndA (F 42 1) (F 42 2) (F 42 3) f x)))) hd trivial rfl rfl rfl
  · have nc11 : ¬ (0 ≤ f ∧ f < 3) := b2i_zero.mp c11
    refine R2.B (ls2 := [some (.ref 5), some (.int 1), some (.int f), some (.int x), some (.int v), none]) (st2 := [.int (-2)]) b_X10_put_14_16 rfl (fun hd => ?_)
    exact False.elim (by clear hd; grind)
set_option maxRecDepth 20000 in
set_option maxHeartbeats 1000000 in
theorem x_put1 (E : EE) (L : Nat) (F : FF) (z : Nat) (hz : F 42 3 = nI z) (hz60 : z ≤ 60) (f v : Int32) (h : 0 ≤ f ∧ f < 3) (j : Nat) (hj : j < z) (hf : fndA (F 42 1) (F 42 2) (F 42 3) f (nI j) = 0) : Ev3 E L 16 mX10_put [.ref 5, .int 1, .int f, .int (nI j), .int v] F (some (.int (1))) (up2 F 43 j (nrw (F 42 2) v)) := by
  refine Ev3.of okX10_put.2.2.1 (Nat.le_of_ble_eq_true rfl) ?_
  show R2 E L mX10_put 16 0 [some (.ref 5), some (.int 1), some (.int f), some (.int (nI j)), some (.int v), none] [] F _
  refine R2.B (ls2 := [some (.ref 5), some (.int 1), some (.int f), some (.int (nI j)), some (.int v), none]) (st2 := [.int 1]) b_X10_put_0_1 rfl (fun hd => ?_)
  refine R2.callS3 (M2 := mX10_isSheet) (As := [.int 1]) (rest := []) hd lk_10_153 okX10_isSheet (by decide) (ev_isSheet E L F 1) (by decide) rfl rfl (Nat.le_of_ble_eq_true rfl) ?_
  refine R2.B (ls2 := [some (.ref 5), some (.int 1), some (.int f), some (.int (nI j)), some (.int v), none]) (st2 := [.int (b2i (0 ≤ 1 ∧ 1 < 4))]) b_X10_put_4_4 rfl (fun hd => ?_)
  refine R2.if_eq 14 hd (by decide) (fun c4 => absurd c4 (b2i_nz.mpr (by decide))) (fun c4 => ?_)
  refine R2.B (ls2 := [some (.ref 5), some (.int 1), some (.int f), some (.int (nI j)), some (.int v), none]) (st2 := [.int f]) b_X10_put_7_8 rfl (fun hd => ?_)
  refine R2.callS3 (M2 := mX10_isForm) (As := [.int f]) (rest := []) hd lk_10_264 okX10_isForm (by decide) (ev_isForm E L F f) (by decide) rfl rfl (Nat.le_of_ble_eq_true rfl) ?_
  refine R2.B (ls2 := [some (.ref 5), some (.int 1), some (.int f), some (.int (nI j)), some (.int v), none]) (st2 := [.int (b2i (0 ≤ f ∧ f < 3))]) b_X10_put_11_11 rfl (fun hd => ?_)
  refine R2.if_ne 17 hd (by decide) (fun c11 => ?_) (fun c11 => ?_)
  · have nc11 : 0 ≤ f ∧ f < 3 := b2i_nz.mp c11
    refine R2.B (ls2 := [some (.ref 5), some (.int 1), some (.int f), some (.int (nI j)), some (.int v), none]) (st2 := [.int 1, .ref 39]) b_X10_put_17_22 rfl (fun hd => ?_)
    refine R2.aald (k2 := 42) 1 rfl hd rfl (by decide) (by omega) rfl ?_
    refine R2.B (ls2 := [some (.ref 5), some (.int 1), some (.int f), some (.int (nI j)), some (.int v), none]) (st2 := [.int (nI j), .int f, .ref 42]) b_X10_put_23_25 rfl (fun hd => ?_)
    refine R2.callV3 (M2 := mX5_findingAt) (As := [.int f, .int (nI j)]) (rest := []) hd lk_10_271 okX5_findingAt (by decide) rfl (ev_findingAt42 E L F f (nI j)) (by decide) rfl rfl (Nat.le_of_ble_eq_true rfl) ?_
    refine R2.B (ls2 := [some (.ref 5), some (.int 1), some (.int f), some (.int (nI j)), some (.int v), some (.int (fndA (F 42 1) (F 42 2) (F 42 3) f (nI j)))]) (st2 := [.int (fndA (F 42 1) (F 42 2) (F 42 3) f (nI j))]) b_X10_put_28_32 rfl (fun hd => ?_)
    refine R2.if_eq 42 hd (by decide) (fun c32 => ?_) (fun c32 => absurd (hf) c32)
    refine R2.B (ls2 := [some (.ref 5), some (.int 1), some (.int f), some (.int (nI j)), some (.int v), some (.int (fndA (F 42 1) (F 42 2) (F 42 3) f (nI j)))]) (st2 := [.int 1, .ref 39]) b_X10_put_42_47 rfl (fun hd => ?_)
    refine R2.aald (k2 := 42) 1 rfl hd rfl (by decide) (by omega) rfl ?_
    refine R2.B (ls2 := [some (.ref 5), some (.int 1), some (.int f), some (.int (nI j)), some (.int v), some (.int (fndA (F 42 1) (F 42 2) (F 42 3) f (nI j)))]) (st2 := [.int v, .int (nI j), .ref 42]) b_X10_put_48_51 rfl (fun hd => ?_)
    refine R2.callV3 (M2 := mX5_store) (As := [.int (nI j), .int v]) (rest := []) hd lk_10_274 okX5_store (by decide) rfl (ev_store42 E L F j v (by omega) (by rw [hz]; exact nI_lt hj (by omega))) (by decide) rfl rfl (Nat.le_of_ble_eq_true rfl) ?_
    refine R2.B (ls2 := [some (.ref 5), some (.int 1), some (.int f), some (.int (nI j)), some (.int v), some (.int (fndA (F 42 1) (F 42 2) (F 42 3) f (nI j)))]) (st2 := [.int 1]) b_X10_put_54_55 rfl (fun hd => ?_)
    exact R2.ret3 (r := some (.int 1)) hd trivial rfl rfl rfl
  · have nc11 : ¬ (0 ≤ f ∧ f < 3) := b2i_zero.mp c11
    refine R2.B (ls2 := [some (.ref 5), some (.int 1), some (.int f), some (.int (nI j)), some (.int v), none]) (st2 := [.int (-2)]) b_X10_put_14_16 rfl (fun hd => ?_)
    exact False.elim (by clear hd; grind)
set_option maxRecDepth 20000 in
set_option maxHeartbeats 1000000 in
theorem x_get_find1 (E : EE) (L : Nat) (F : FF) (f x : Int32) (h : 0 ≤ f ∧ f < 3) (hf : ¬ fndA (F 42 1) (F 42 2) (F 42 3) f x = 0) : Ev3 E L 16 mX10_get [.ref 5, .int 1, .int f, .int x] F (some (.int (-2147483648))) (up2 F 5 11 (fndA (F 42 1) (F 42 2) (F 42 3) f x)) := by
  refine Ev3.of okX10_get.2.2.1 (Nat.le_of_ble_eq_true rfl) ?_
  show R2 E L mX10_get 16 0 [some (.ref 5), some (.int 1), some (.int f), some (.int x), none] [] F _
  refine R2.B (ls2 := [some (.ref 5), some (.int 1), some (.int f), some (.int x), none]) (st2 := [.int 1]) b_X10_get_0_1 rfl (fun hd => ?_)
  refine R2.callS3 (M2 := mX10_isSheet) (As := [.int 1]) (rest := []) hd lk_10_153 okX10_isSheet (by decide) (ev_isSheet E L F 1) (by decide) rfl rfl (Nat.le_of_ble_eq_true rfl) ?_
  refine R2.B (ls2 := [some (.ref 5), some (.int 1), some (.int f), some (.int x), none]) (st2 := [.int (b2i (0 ≤ 1 ∧ 1 < 4))]) b_X10_get_4_4 rfl (fun hd => ?_)
  refine R2.if_eq 14 hd (by decide) (fun c4 => absurd c4 (b2i_nz.mpr (by decide))) (fun c4 => ?_)
  refine R2.B (ls2 := [some (.ref 5), some (.int 1), some (.int f), some (.int x), none]) (st2 := [.int f]) b_X10_get_7_8 rfl (fun hd => ?_)
  refine R2.callS3 (M2 := mX10_isForm) (As := [.int f]) (rest := []) hd lk_10_264 okX10_isForm (by decide) (ev_isForm E L F f) (by decide) rfl rfl (Nat.le_of_ble_eq_true rfl) ?_
  refine R2.B (ls2 := [some (.ref 5), some (.int 1), some (.int f), some (.int x), none]) (st2 := [.int (b2i (0 ≤ f ∧ f < 3))]) b_X10_get_11_11 rfl (fun hd => ?_)
  refine R2.if_ne 18 hd (by decide) (fun c11 => ?_) (fun c11 => absurd c11 (b2i_nz.mpr h))
  refine R2.B (ls2 := [some (.ref 5), some (.int 1), some (.int f), some (.int x), none]) (st2 := [.int 1, .ref 39]) b_X10_get_18_23 rfl (fun hd => ?_)
  refine R2.aald (k2 := 42) 1 rfl hd rfl (by decide) (by omega) rfl ?_
  refine R2.B (ls2 := [some (.ref 5), some (.int 1), some (.int f), some (.int x), none]) (st2 := [.int x, .int f, .ref 42]) b_X10_get_24_26 rfl (fun hd => ?_)
  refine R2.callV3 (M2 := mX5_findingAt) (As := [.int f, .int x]) (rest := []) hd lk_10_271 okX5_findingAt (by decide) rfl (ev_findingAt42 E L F f x) (by decide) rfl rfl (Nat.le_of_ble_eq_true rfl) ?_
  refine R2.B (ls2 := [some (.ref 5), some (.int 1), some (.int f), some (.int x), some (.int (fndA (F 42 1) (F 42 2) (F 42 3) f x))]) (st2 := [.int (fndA (F 42 1) (F 42 2) (F 42 3) f x)]) b_X10_get_29_33 rfl (fun hd => ?_)
  refine R2.if_eq 46 hd (by decide) (fun c33 => absurd c33 (hf)) (fun c33 => ?_)
  refine R2.B (ls2 := [some (.ref 5), some (.int 1), some (.int f), some (.int x), some (.int (fndA (F 42 1) (F 42 2) (F 42 3) f x))]) (st2 := [.int (fndA (F 42 1) (F 42 2) (F 42 3) f x), .ref 5]) b_X10_get_36_39 rfl (fun hd => ?_)
  refine R2.putf (a := 10) (b := 11) hd (by decide) (by decide) rfl rfl (fun _ => rfl) ?_
  refine R2.B (ls2 := [some (.ref 5), some (.int 1), some (.int f), some (.int x), some (.int (fndA (F 42 1) (F 42 2) (F 42 3) f x))]) (st2 := [.int (-2147483648)]) b_X10_get_42_45 rfl (fun hd => ?_)
  exact R2.ret3 (r := some (.int (-2147483648))) hd trivial rfl rfl rfl
set_option maxRecDepth 20000 in
set_option maxHeartbeats 1000000 in
theorem x_get1 (E : EE) (L : Nat) (F : FF) (f : Int32) (h : 0 ≤ f ∧ f < 3) (j : Nat) (hj : j < 60) (hf : fndA (F 42 1) (F 42 2) (F 42 3) f (nI j) = 0) : Ev3 E L 16 mX10_get [.ref 5, .int 1, .int f, .int (nI j)] F (some (.int (F 43 j))) F := by
  refine Ev3.of okX10_get.2.2.1 (Nat.le_of_ble_eq_true rfl) ?_
  show R2 E L mX10_get 16 0 [some (.ref 5), some (.int 1), some (.int f), some (.int (nI j)), none] [] F _
  refine R2.B (ls2 := [some (.ref 5), some (.int 1), some (.int f), some (.int (nI j)), none]) (st2 := [.int 1]) b_X10_get_0_1 rfl (fun hd => ?_)
  refine R2.callS3 (M2 := mX10_isSheet) (As := [.int 1]) (rest := []) hd lk_10_153 okX10_isSheet (by decide) (ev_isSheet E L F 1) (by decide) rfl rfl (Nat.le_of_ble_eq_true rfl) ?_
  refine R2.B (ls2 := [some (.ref 5), some (.int 1), some (.int f), some (.int (nI j)), none]) (st2 := [.int (b2i (0 ≤ 1 ∧ 1 < 4))]) b_X10_get_4_4 rfl (fun hd => ?_)
  refine R2.if_eq 14 hd (by decide) (fun c4 => absurd c4 (b2i_nz.mpr (by decide))) (fun c4 => ?_)
  refine R2.B (ls2 := [some (.ref 5), some (.int 1), some (.int f), some (.int (nI j)), none]) (st2 := [.int f]) b_X10_get_7_8 rfl (fun hd => ?_)
  refine R2.callS3 (M2 := mX10_isForm) (As := [.int f]) (rest := []) hd lk_10_264 okX10_isForm (by decide) (ev_isForm E L F f) (by decide) rfl rfl (Nat.le_of_ble_eq_true rfl) ?_
  refine R2.B (ls2 := [some (.ref 5), some (.int 1), some (.int f), some (.int (nI j)), none]) (st2 := [.int (b2i (0 ≤ f ∧ f < 3))]) b_X10_get_11_11 rfl (fun hd => ?_)
  refine R2.if_ne 18 hd (by decide) (fun c11 => ?_) (fun c11 => absurd c11 (b2i_nz.mpr h))
  refine R2.B (ls2 := [some (.ref 5), some (.int 1), some (.int f), some (.int (nI j)), none]) (st2 := [.int 1, .ref 39]) b_X10_get_18_23 rfl (fun hd => ?_)
  refine R2.aald (k2 := 42) 1 rfl hd rfl (by decide) (by omega) rfl ?_
  refine R2.B (ls2 := [some (.ref 5), some (.int 1), some (.int f), some (.int (nI j)), none]) (st2 := [.int (nI j), .int f, .ref 42]) b_X10_get_24_26 rfl (fun hd => ?_)
  refine R2.callV3 (M2 := mX5_findingAt) (As := [.int f, .int (nI j)]) (rest := []) hd lk_10_271 okX5_findingAt (by decide) rfl (ev_findingAt42 E L F f (nI j)) (by decide) rfl rfl (Nat.le_of_ble_eq_true rfl) ?_
  refine R2.B (ls2 := [some (.ref 5), some (.int 1), some (.int f), some (.int (nI j)), some (.int (fndA (F 42 1) (F 42 2) (F 42 3) f (nI j)))]) (st2 := [.int (fndA (F 42 1) (F 42 2) (F 42 3) f (nI j))]) b_X10_get_29_33 rfl (fun hd => ?_)
  refine R2.if_eq 46 hd (by decide) (fun c33 => ?_) (fun c33 => absurd (hf) c33)
  refine R2.B (ls2 := [some (.ref 5), some (.int 1), some (.int f), some (.int (nI j)), some (.int (fndA (F 42 1) (F 42 2) (F 42 3) f (nI j)))]) (st2 := [.int 1, .ref 39]) b_X10_get_46_51 rfl (fun hd => ?_)
  refine R2.aald (k2 := 42) 1 rfl hd rfl (by decide) (by omega) rfl ?_
  refine R2.B (ls2 := [some (.ref 5), some (.int 1), some (.int f), some (.int (nI j)), some (.int (fndA (F 42 1) (F 42 2) (F 42 3) f (nI j)))]) (st2 := [.int (nI j), .ref 43]) b_X10_get_52_56 rfl (fun hd => ?_)
  refine R2.iald j rfl hd rfl (fun _ => rfl) (by decide) (by omega) ?_
  refine R2.B (ls2 := [some (.ref 5), some (.int 1), some (.int f), some (.int (nI j)), some (.int (fndA (F 42 1) (F 42 2) (F 42 3) f (nI j)))]) (st2 := [.int (F 43 j)]) b_X10_get_57_57 rfl (fun hd => ?_)
  exact R2.ret3 (r := some (.int (F 43 j))) hd trivial rfl rfl rfl
set_option maxRecDepth 20000 in
set_option maxHeartbeats 1000000 in
theorem x_write_null1 (E : EE) (L : Nat) (F : FF) (hl : ¬ F 42 1 = 0) : Ev3 E L 16 mX10_write [.ref 5, .int 1] F (some (.int (-10 - 1))) (up2 F 5 11 1) := by
  refine Ev3.of okX10_write.2.2.1 (Nat.le_of_ble_eq_true rfl) ?_
  show R2 E L mX10_write 16 0 [some (.ref 5), some (.int 1), none, none] [] F _
  refine R2.B (ls2 := [some (.ref 5), some (.int 1), none, none]) (st2 := [.int 1]) b_X10_write_0_1 rfl (fun hd => ?_)
  refine R2.callS3 (M2 := mX10_isSheet) (As := [.int 1]) (rest := []) hd lk_10_153 okX10_isSheet (by decide) (ev_isSheet E L F 1) (by decide) rfl rfl (Nat.le_of_ble_eq_true rfl) ?_
  refine R2.B (ls2 := [some (.ref 5), some (.int 1), none, none]) (st2 := [.int (b2i (0 ≤ 1 ∧ 1 < 4))]) b_X10_write_4_4 rfl (fun hd => ?_)
  refine R2.if_ne 10 hd (by decide) (fun c4 => ?_) (fun c4 => absurd c4 (b2i_nz.mpr (by decide)))
  refine R2.B (ls2 := [some (.ref 5), some (.int 1), none, none]) (st2 := [.int 1, .ref 39]) b_X10_write_10_15 rfl (fun hd => ?_)
  refine R2.aald (k2 := 42) 1 rfl hd rfl (by decide) (by omega) rfl ?_
  refine R2.B (ls2 := [some (.ref 5), some (.int 1), none, none]) (st2 := [.int (F 42 1)]) b_X10_write_16_19 rfl (fun hd => ?_)
  refine R2.if_eq 28 hd (by decide) (fun c19 => absurd c19 (hl)) (fun c19 => ?_)
  refine R2.B (ls2 := [some (.ref 5), some (.int 1), none, none]) (st2 := [.int 1, .ref 5]) b_X10_write_22_24 rfl (fun hd => ?_)
  refine R2.callV3 (M2 := mX10_found) (As := [.int 1]) (rest := []) hd lk_10_160 okX10_found (by decide) rfl (ev_found E L F 1) (by decide) rfl rfl (Nat.le_of_ble_eq_true rfl) ?_
  refine R2.B (ls2 := [some (.ref 5), some (.int 1), none, none]) (st2 := [.int (-10 - 1)]) b_X10_write_27_27 rfl (fun hd => ?_)
  exact R2.ret3 (r := some (.int (-10 - 1))) hd trivial rfl rfl rfl
set_option maxRecDepth 20000 in
set_option maxHeartbeats 2000000 in
theorem lp_write1 (E : EE) (L : Nat) (z W : Nat) (hz60 : z ≤ 60) (hW : W ≤ z) (hW10 : W ≤ 10) : ∀ (k : Nat) (j : Nat) (F : FF), j + k = W → F 42 3 = nI z → R2 E L mX10_write 16 50 [some (.ref 5), some (.int 1), some (.int (nI W)), some (.int (nI j))] [] F (fun r' F' => r' = some (.int (nI W)) ∧ F' = wrL 42 k j F) := by
  intro k
  induction k with
  | zero =>
    intro j F hi h3
    refine R2.B (ls2 := [some (.ref 5), some (.int 1), some (.int (nI W)), some (.int (nI j))]) (st2 := [.int (nI W), .int (nI j)]) b_X10_write_50_52 rfl (fun hd => ?_)
    refine R2.icmp_ge 80 hd (by decide) (fun c52 => ?_) (fun c52 => absurd (nI_le (by omega) (by omega)) c52)
    refine R2.B (ls2 := [some (.ref 5), some (.int 1), some (.int (nI W)), some (.int (nI j))]) (st2 := [.int (nI W)]) b_X10_write_80_81 rfl (fun hd => ?_)
    exact R2.ret3 (r := some (.int (nI W))) hd trivial rfl rfl rfl
  | succ k ih =>
    intro j F hi h3
    refine R2.B (ls2 := [some (.ref 5), some (.int 1), some (.int (nI W)), some (.int (nI j))]) (st2 := [.int (nI W), .int (nI j)]) b_X10_write_50_52 rfl (fun hd => ?_)
    refine R2.icmp_ge 80 hd (by decide) (fun c52 => absurd c52 (nI_ge (by omega) (by omega))) (fun c52 => ?_)
    refine R2.B (ls2 := [some (.ref 5), some (.int 1), some (.int (nI W)), some (.int (nI j))]) (st2 := [.int 1, .ref 39]) b_X10_write_55_60 rfl (fun hd => ?_)
    refine R2.aald (k2 := 42) 1 rfl hd rfl (by decide) (by omega) rfl ?_
    refine R2.B (ls2 := [some (.ref 5), some (.int 1), some (.int (nI W)), some (.int (nI j))]) (st2 := [.int (nI j), .ref 15, .int (nI j), .ref 42]) b_X10_write_61_70 rfl (fun hd => ?_)
    refine R2.iald j rfl hd rfl (fun _ => rfl) (by decide) (by omega) ?_
    refine R2.B (ls2 := [some (.ref 5), some (.int 1), some (.int (nI W)), some (.int (nI j))]) (st2 := [.int (F 15 j), .int (nI j), .ref 42]) b_X10_write_71_71 rfl (fun hd => ?_)
    refine R2.callV3 (M2 := mX5_store) (As := [.int (nI j), .int (F 15 j)]) (rest := []) hd lk_10_274 okX5_store (by decide) rfl (ev_store42 E L F j (F 15 j) (by omega) (by rw [h3]; exact nI_lt (show j < z by omega) (by omega))) (by decide) rfl rfl (Nat.le_of_ble_eq_true rfl) ?_
    refine R2.B (ls2 := [some (.ref 5), some (.int 1), some (.int (nI W)), some (.int ((nI j) + 1))]) (st2 := []) b_X10_write_74_50 rfl (fun hd => ?_)
    rw [show ((nI j) + 1 : Int32) = nI (j + 1) from nI_add j 1]
    exact ih (j + 1) _ (by omega) h3
set_option maxRecDepth 20000 in
set_option maxHeartbeats 1000000 in
theorem x_write1 (E : EE) (L : Nat) (F : FF) (n : Nat) (hn : F 10 5 = nI n) (hn10 : n ≤ 10) (z : Nat) (hz : F 42 3 = nI z) (hz60 : z ≤ 60) (hl : F 42 1 = 0) : Ev3 E L 16 mX10_write [.ref 5, .int 1] F (some (.int (nI (if n < z then n else z)))) (wrL 42 (if n < z then n else z) 0 F) := by
  refine Ev3.of okX10_write.2.2.1 (Nat.le_of_ble_eq_true rfl) ?_
  show R2 E L mX10_write 16 0 [some (.ref 5), some (.int 1), none, none] [] F _
  refine R2.B (ls2 := [some (.ref 5), some (.int 1), none, none]) (st2 := [.int 1]) b_X10_write_0_1 rfl (fun hd => ?_)
  refine R2.callS3 (M2 := mX10_isSheet) (As := [.int 1]) (rest := []) hd lk_10_153 okX10_isSheet (by decide) (ev_isSheet E L F 1) (by decide) rfl rfl (Nat.le_of_ble_eq_true rfl) ?_
  refine R2.B (ls2 := [some (.ref 5), some (.int 1), none, none]) (st2 := [.int (b2i (0 ≤ 1 ∧ 1 < 4))]) b_X10_write_4_4 rfl (fun hd => ?_)
  refine R2.if_ne 10 hd (by decide) (fun c4 => ?_) (fun c4 => absurd c4 (b2i_nz.mpr (by decide)))
  refine R2.B (ls2 := [some (.ref 5), some (.int 1), none, none]) (st2 := [.int 1, .ref 39]) b_X10_write_10_15 rfl (fun hd => ?_)
  refine R2.aald (k2 := 42) 1 rfl hd rfl (by decide) (by omega) rfl ?_
  refine R2.B (ls2 := [some (.ref 5), some (.int 1), none, none]) (st2 := [.int (F 42 1)]) b_X10_write_16_19 rfl (fun hd => ?_)
  refine R2.if_eq 28 hd (by decide) (fun c19 => ?_) (fun c19 => absurd (hl) c19)
  refine R2.B (ls2 := [some (.ref 5), some (.int 1), none, none]) (st2 := [.int 1, .ref 39]) b_X10_write_28_33 rfl (fun hd => ?_)
  refine R2.aald (k2 := 42) 1 rfl hd rfl (by decide) (by omega) rfl ?_
  refine R2.B (ls2 := [some (.ref 5), some (.int 1), none, none]) (st2 := [.int (F 10 5), .int (F 42 3)]) b_X10_write_34_44 rfl (fun hd => ?_)
  rw [show (F 10 5 : Int32) = nI n from hn]
  rw [show (F 42 3 : Int32) = nI z from hz]
  refine R2.mmin hd ma_10_291 (by decide) (Nat.le_of_ble_eq_true rfl) ?_
  refine R2.top (show (if nI n < nI z then nI n else nI z : Int32) = nI (if n < z then n else z) from min2 (by omega) (by omega)) ?_
  refine R2.B (ls2 := [some (.ref 5), some (.int 1), some (.int (nI (if n < z then n else z))), some (.int 0)]) (st2 := []) b_X10_write_47_50 rfl (fun hd => ?_)
  exact lp_write1 E L z (if n < z then n else z) hz60 (by split <;> omega) (by split <;> omega) (if n < z then n else z) 0 F (by omega) hz
set_option maxRecDepth 20000 in
set_option maxHeartbeats 1000000 in
theorem x_read_null1 (E : EE) (L : Nat) (F : FF) (n : Nat) (hn : F 10 5 = nI n) (hn10 : n ≤ 10) (a : Nat) (ha : a < n) (hl : ¬ F 42 1 = 0) : Ev3 E L 16 mX10_read [.ref 5, .int 1, .int (nI a)] F (some (.int (-10 - 1))) (up2 F 5 11 1) := by
  refine Ev3.of okX10_read.2.2.1 (Nat.le_of_ble_eq_true rfl) ?_
  show R2 E L mX10_read 16 0 [some (.ref 5), some (.int 1), some (.int (nI a)), none, none] [] F _
  refine R2.B (ls2 := [some (.ref 5), some (.int 1), some (.int (nI a)), none, none]) (st2 := [.int 1]) b_X10_read_0_1 rfl (fun hd => ?_)
  refine R2.callS3 (M2 := mX10_isSheet) (As := [.int 1]) (rest := []) hd lk_10_153 okX10_isSheet (by decide) (ev_isSheet E L F 1) (by decide) rfl rfl (Nat.le_of_ble_eq_true rfl) ?_
  refine R2.B (ls2 := [some (.ref 5), some (.int 1), some (.int (nI a)), none, none]) (st2 := [.int (b2i (0 ≤ 1 ∧ 1 < 4))]) b_X10_read_4_4 rfl (fun hd => ?_)
  refine R2.if_eq 15 hd (by decide) (fun c4 => absurd c4 (b2i_nz.mpr (by decide))) (fun c4 => ?_)
  refine R2.B (ls2 := [some (.ref 5), some (.int 1), some (.int (nI a)), none, none]) (st2 := [.int (nI a), .ref 5]) b_X10_read_7_9 rfl (fun hd => ?_)
  refine R2.callV3 (M2 := mX10_isPerson) (As := [.int (nI a)]) (rest := []) hd lk_10_131 okX10_isPerson (by decide) rfl (ev_isPerson E L F (nI a)) (by decide) rfl rfl (Nat.le_of_ble_eq_true rfl) ?_
  refine R2.B (ls2 := [some (.ref 5), some (.int 1), some (.int (nI a)), none, none]) (st2 := [.int (b2i (0 ≤ (nI a) ∧ (nI a) < F 10 5))]) b_X10_read_12_12 rfl (fun hd => ?_)
  refine R2.if_ne 18 hd (by decide) (fun c12 => ?_) (fun c12 => absurd c12 (b2i_nz.mpr (per_t hn hn10 ha)))
  refine R2.B (ls2 := [some (.ref 5), some (.int 1), some (.int (nI a)), none, none]) (st2 := [.int 1, .ref 39]) b_X10_read_18_23 rfl (fun hd => ?_)
  refine R2.aald (k2 := 42) 1 rfl hd rfl (by decide) (by omega) rfl ?_
  refine R2.B (ls2 := [some (.ref 5), some (.int 1), some (.int (nI a)), some (.ref 42), none]) (st2 := [.int (F 42 1)]) b_X10_read_24_29 rfl (fun hd => ?_)
  refine R2.if_eq 38 hd (by decide) (fun c29 => absurd c29 (hl)) (fun c29 => ?_)
  refine R2.B (ls2 := [some (.ref 5), some (.int 1), some (.int (nI a)), some (.ref 42), none]) (st2 := [.int 1, .ref 5]) b_X10_read_32_34 rfl (fun hd => ?_)
  refine R2.callV3 (M2 := mX10_found) (As := [.int 1]) (rest := []) hd lk_10_160 okX10_found (by decide) rfl (ev_found E L F 1) (by decide) rfl rfl (Nat.le_of_ble_eq_true rfl) ?_
  refine R2.B (ls2 := [some (.ref 5), some (.int 1), some (.int (nI a)), some (.ref 42), none]) (st2 := [.int (-10 - 1)]) b_X10_read_37_37 rfl (fun hd => ?_)
  exact R2.ret3 (r := some (.int (-10 - 1))) hd trivial rfl rfl rfl
set_option maxRecDepth 20000 in
set_option maxHeartbeats 2000000 in
theorem lp_read1 (E : EE) (L : Nat) (n a z : Nat) (hn10 : n ≤ 10) (ha : a < n) (hz60 : z ≤ 60) : ∀ (k : Nat) (j : Nat) (F : FF), j + k = z → F 10 5 = nI n → CST F → F 42 3 = nI z → R2 E L mX10_read 16 41 [some (.ref 5), some (.int 1), some (.int (nI a)), some (.ref 42), some (.int (nI j))] [] F (fun r' F' => r' = some (.int (nI (rdL n a 42 k j F).1)) ∧ F' = (rdL n a 42 k j F).2) := by
  intro k
  induction k with
  | zero =>
    intro j F hi h5 hc h3
    refine R2.B (ls2 := [some (.ref 5), some (.int 1), some (.int (nI a)), some (.ref 42), some (.int (nI j))]) (st2 := [.int (F 42 3), .int (nI j)]) b_X10_read_41_47 rfl (fun hd => ?_)
    rw [show (F 42 3 : Int32) = nI z from h3]
    refine R2.icmp_ge 84 hd (by decide) (fun c47 => ?_) (fun c47 => absurd (nI_le (by omega) (by omega)) c47)
    refine R2.B (ls2 := [some (.ref 5), some (.int 1), some (.int (nI a)), some (.ref 42), some (.int (nI j))]) (st2 := [.int (nI j)]) b_X10_read_84_86 rfl (fun hd => ?_)
    exact R2.ret3 (r := some (.int (nI j))) hd trivial rfl rfl rfl
  | succ k ih =>
    intro j F hi h5 hc h3
    refine R2.B (ls2 := [some (.ref 5), some (.int 1), some (.int (nI a)), some (.ref 42), some (.int (nI j))]) (st2 := [.int (F 42 3), .int (nI j)]) b_X10_read_41_47 rfl (fun hd => ?_)
    rw [show (F 42 3 : Int32) = nI z from h3]
    refine R2.icmp_ge 84 hd (by decide) (fun c47 => absurd c47 (nI_ge (by omega) (by omega))) (fun c47 => ?_)
    refine R2.B (ls2 := [some (.ref 5), some (.int 1), some (.int (nI a)), some (.ref 42), some (.int (nI j))]) (st2 := [.int (nI j), .ref 43]) b_X10_read_50_56 rfl (fun hd => ?_)
    refine R2.iald j rfl hd rfl (fun _ => rfl) (by decide) (by omega) ?_
    refine R2.B (ls2 := [some (.ref 5), some (.int 1), some (.int (nI a)), some (.ref 42), some (.int (nI j))]) (st2 := [.int (F 43 j)]) b_X10_read_57_57 rfl (fun hd => ?_)
    refine R2.callS3 (M2 := mX10_isDirection) (As := [.int (F 43 j)]) (rest := []) hd lk_10_146 okX10_isDirection (by decide) (ev_isDirection E L F (F 43 j)) (by decide) rfl rfl (Nat.le_of_ble_eq_true rfl) ?_
    refine R2.B (ls2 := [some (.ref 5), some (.int 1), some (.int (nI a)), some (.ref 42), some (.int (nI j))]) (st2 := [.int (b2i (0 ≤ (F 43 j) ∧ (F 43 j) < 8))]) b_X10_read_60_60 rfl (fun hd => ?_)
    refine R2.if_eq 84 hd (by decide) (fun c60 => ?_) (fun c60 => ?_)
    · have nc60 : ¬ (0 ≤ (F 43 j) ∧ (F 43 j) < 8) := b2i_zero.mp c60
      refine R2.B (ls2 := [some (.ref 5), some (.int 1), some (.int (nI a)), some (.ref 42), some (.int (nI j))]) (st2 := [.int (nI j)]) b_X10_read_84_86 rfl (fun hd => ?_)
      have e : rdL n a 42 (k + 1) j F = (j, F) := by
        simp only [rdL]; rw [if_neg nc60]
      exact R2.ret3 (r := some (.int (nI j))) hd trivial rfl (by rw [e]) (by rw [e])
    · have nc60 : 0 ≤ (F 43 j) ∧ (F 43 j) < 8 := b2i_nz.mp c60
      refine R2.B (ls2 := [some (.ref 5), some (.int 1), some (.int (nI a)), some (.ref 42), some (.int (nI j))]) (st2 := [.int (nI j), .ref 43, .int (nI a), .ref 5]) b_X10_read_63_71 rfl (fun hd => ?_)
      obtain ⟨d, hd8, ed⟩ := dir_of nc60
      refine R2.iald j rfl hd rfl (fun _ => rfl) (by decide) (by omega) ?_
      refine R2.top (show (F 43 j : Int32) = nI d from ed) ?_
      refine R2.B (ls2 := [some (.ref 5), some (.int 1), some (.int (nI a)), some (.ref 42), some (.int (nI j))]) (st2 := [.int (nI d), .int (nI a), .ref 5]) b_X10_read_72_72 rfl (fun hd => ?_)
      by_cases hl9 : lawS (F 15) a d (F 17 2 * F 17 2) n = -1
      · refine R2.callV3 (M2 := mX10_goes) (As := [.int (nI a), .int (nI d)]) (rest := []) hd lk_10_149 okX10_goes (by decide) rfl (ev_goes0 E L F hc n h5 hn10 a d ha hd8 hl9) (by decide) rfl rfl (Nat.le_of_ble_eq_true rfl) ?_
        refine R2.B (ls2 := [some (.ref 5), some (.int 1), some (.int (nI a)), some (.ref 42), some (.int (nI j))]) (st2 := [.int 0]) b_X10_read_75_75 rfl (fun hd => ?_)
        refine R2.if_eq 84 hd (by decide) (fun c75 => ?_) (fun c75 => absurd (by decide) c75)
        refine R2.B (ls2 := [some (.ref 5), some (.int 1), some (.int (nI a)), some (.ref 42), some (.int (nI j))]) (st2 := [.int (nI j)]) b_X10_read_84_86 rfl (fun hd => ?_)
        have e : rdL n a 42 (k + 1) j F = (j, F) := by
          simp only [rdL]; rw [if_pos nc60, ed, nI_clamp (by omega), if_pos hl9]
        exact R2.ret3 (r := some (.int (nI j))) hd trivial rfl (by rw [e]) (by rw [e])
      · refine R2.callV3 (M2 := mX10_goes) (As := [.int (nI a), .int (nI d)]) (rest := []) hd lk_10_149 okX10_goes (by decide) rfl (ev_goes1 E L F hc n h5 hn10 a d ha hd8 hl9) (by decide) rfl rfl (Nat.le_of_ble_eq_true rfl) ?_
        refine R2.B (ls2 := [some (.ref 5), some (.int 1), some (.int (nI a)), some (.ref 42), some (.int (nI j))]) (st2 := [.int 1]) b_X10_read_75_75 rfl (fun hd => ?_)
        refine R2.if_eq 84 hd (by decide) (fun c75 => absurd c75 (by decide)) (fun c75 => ?_)
        refine R2.B (ls2 := [some (.ref 5), some (.int 1), some (.int (nI a)), some (.ref 42), some (.int ((nI j) + 1))]) (st2 := []) b_X10_read_78_41 rfl (fun hd => ?_)
        rw [show ((nI j) + 1 : Int32) = nI (j + 1) from nI_add j 1]
        have e : rdL n a 42 (k + 1) j F = rdL n a 42 k (j + 1) (up2 F 15 a (lawS (F 15) a d (F 17 2 * F 17 2) n)) := by
          simp only [rdL]; rw [if_pos nc60, ed, nI_clamp (by omega), if_neg hl9]
        rw [e]
        exact ih (j + 1) _ (by omega) h5 hc h3
set_option maxRecDepth 20000 in
set_option maxHeartbeats 1000000 in
theorem x_read1 (E : EE) (L : Nat) (F : FF) (hc : CST F) (n : Nat) (hn : F 10 5 = nI n) (hn10 : n ≤ 10) (a : Nat) (ha : a < n) (z : Nat) (hz : F 42 3 = nI z) (hz60 : z ≤ 60) (hl : F 42 1 = 0) : Ev3 E L 16 mX10_read [.ref 5, .int 1, .int (nI a)] F (some (.int (nI (rdL n a 42 z 0 F).1))) (rdL n a 42 z 0 F).2 := by
  refine Ev3.of okX10_read.2.2.1 (Nat.le_of_ble_eq_true rfl) ?_
  show R2 E L mX10_read 16 0 [some (.ref 5), some (.int 1), some (.int (nI a)), none, none] [] F _
  refine R2.B (ls2 := [some (.ref 5), some (.int 1), some (.int (nI a)), none, none]) (st2 := [.int 1]) b_X10_read_0_1 rfl (fun hd => ?_)
  refine R2.callS3 (M2 := mX10_isSheet) (As := [.int 1]) (rest := []) hd lk_10_153 okX10_isSheet (by decide) (ev_isSheet E L F 1) (by decide) rfl rfl (Nat.le_of_ble_eq_true rfl) ?_
  refine R2.B (ls2 := [some (.ref 5), some (.int 1), some (.int (nI a)), none, none]) (st2 := [.int (b2i (0 ≤ 1 ∧ 1 < 4))]) b_X10_read_4_4 rfl (fun hd => ?_)
  refine R2.if_eq 15 hd (by decide) (fun c4 => absurd c4 (b2i_nz.mpr (by decide))) (fun c4 => ?_)
  refine R2.B (ls2 := [some (.ref 5), some (.int 1), some (.int (nI a)), none, none]) (st2 := [.int (nI a), .ref 5]) b_X10_read_7_9 rfl (fun hd => ?_)
  refine R2.callV3 (M2 := mX10_isPerson) (As := [.int (nI a)]) (rest := []) hd lk_10_131 okX10_isPerson (by decide) rfl (ev_isPerson E L F (nI a)) (by decide) rfl rfl (Nat.le_of_ble_eq_true rfl) ?_
  refine R2.B (ls2 := [some (.ref 5), some (.int 1), some (.int (nI a)), none, none]) (st2 := [.int (b2i (0 ≤ (nI a) ∧ (nI a) < F 10 5))]) b_X10_read_12_12 rfl (fun hd => ?_)
  refine R2.if_ne 18 hd (by decide) (fun c12 => ?_) (fun c12 => absurd c12 (b2i_nz.mpr (per_t hn hn10 ha)))
  refine R2.B (ls2 := [some (.ref 5), some (.int 1), some (.int (nI a)), none, none]) (st2 := [.int 1, .ref 39]) b_X10_read_18_23 rfl (fun hd => ?_)
  refine R2.aald (k2 := 42) 1 rfl hd rfl (by decide) (by omega) rfl ?_
  refine R2.B (ls2 := [some (.ref 5), some (.int 1), some (.int (nI a)), some (.ref 42), none]) (st2 := [.int (F 42 1)]) b_X10_read_24_29 rfl (fun hd => ?_)
  refine R2.if_eq 38 hd (by decide) (fun c29 => ?_) (fun c29 => absurd (hl) c29)
  refine R2.B (ls2 := [some (.ref 5), some (.int 1), some (.int (nI a)), some (.ref 42), some (.int 0)]) (st2 := []) b_X10_read_38_41 rfl (fun hd => ?_)
  exact lp_read1 E L n a z hn10 ha hz60 z 0 F (by omega) hn hc hz
set_option maxRecDepth 20000 in
set_option maxHeartbeats 1000000 in
theorem x_sheet_size2 (E : EE) (L : Nat) (F : FF) (f x : Int32) (h : 0 ≤ f ∧ f < 3) (h60 : x ≤ 60) (hx : x < 0) : Ev3 E L 16 mX10_sheet [.ref 5, .int 2, .int f, .int x] F (some (.int (-10 - 5))) (up2 F 5 11 5) := by
  refine Ev3.of okX10_sheet.2.2.1 (Nat.le_of_ble_eq_true rfl) ?_
  show R2 E L mX10_sheet 16 0 [some (.ref 5), some (.int 2), some (.int f), some (.int x)] [] F _
  refine R2.B (ls2 := [some (.ref 5), some (.int 2), some (.int f), some (.int x)]) (st2 := [.int 2]) b_X10_sheet_0_1 rfl (fun hd => ?_)
  refine R2.callS3 (M2 := mX10_isSheet) (As := [.int 2]) (rest := []) hd lk_10_153 okX10_isSheet (by decide) (ev_isSheet E L F 2) (by decide) rfl rfl (Nat.le_of_ble_eq_true rfl) ?_
  refine R2.B (ls2 := [some (.ref 5), some (.int 2), some (.int f), some (.int x)]) (st2 := [.int (b2i (0 ≤ 2 ∧ 2 < 4))]) b_X10_sheet_4_4 rfl (fun hd => ?_)
  refine R2.if_eq 20 hd (by decide) (fun c4 => absurd c4 (b2i_nz.mpr (by decide))) (fun c4 => ?_)
  refine R2.B (ls2 := [some (.ref 5), some (.int 2), some (.int f), some (.int x)]) (st2 := [.int f]) b_X10_sheet_7_8 rfl (fun hd => ?_)
  refine R2.callS3 (M2 := mX10_isForm) (As := [.int f]) (rest := []) hd lk_10_264 okX10_isForm (by decide) (ev_isForm E L F f) (by decide) rfl rfl (Nat.le_of_ble_eq_true rfl) ?_
  refine R2.B (ls2 := [some (.ref 5), some (.int 2), some (.int f), some (.int x)]) (st2 := [.int (b2i (0 ≤ f ∧ f < 3))]) b_X10_sheet_11_11 rfl (fun hd => ?_)
  refine R2.if_eq 20 hd (by decide) (fun c11 => ?_) (fun c11 => ?_)
  · have nc11 : ¬ (0 ≤ f ∧ f < 3) := b2i_zero.mp c11
    refine R2.B (ls2 := [some (.ref 5), some (.int 2), some (.int f), some (.int x)]) (st2 := [.int (-2)]) b_X10_sheet_20_22 rfl (fun hd => ?_)
    exact False.elim (by clear hd; grind)
  · have nc11 : 0 ≤ f ∧ f < 3 := b2i_nz.mp c11
    refine R2.B (ls2 := [some (.ref 5), some (.int 2), some (.int f), some (.int x)]) (st2 := [.int 60, .int x]) b_X10_sheet_14_17 rfl (fun hd => ?_)
    refine R2.icmp_le 23 hd (by decide) (fun c17 => ?_) (fun c17 => ?_)
    · refine R2.B (ls2 := [some (.ref 5), some (.int 2), some (.int f), some (.int x)]) (st2 := [.int x]) b_X10_sheet_23_24 rfl (fun hd => ?_)
      refine R2.if_ge 33 hd (by decide) (fun c24 => absurd c24 (Int32.not_le.mpr hx)) (fun c24 => ?_)
      refine R2.B (ls2 := [some (.ref 5), some (.int 2), some (.int f), some (.int x)]) (st2 := [.int 5, .ref 5]) b_X10_sheet_27_29 rfl (fun hd => ?_)
      refine R2.callV3 (M2 := mX10_found) (As := [.int 5]) (rest := []) hd lk_10_160 okX10_found (by decide) rfl (ev_found E L F 5) (by decide) rfl rfl (Nat.le_of_ble_eq_true rfl) ?_
      refine R2.B (ls2 := [some (.ref 5), some (.int 2), some (.int f), some (.int x)]) (st2 := [.int (-10 - 5)]) b_X10_sheet_32_32 rfl (fun hd => ?_)
      exact R2.ret3 (r := some (.int (-10 - 5))) hd trivial rfl rfl rfl
    · refine R2.B (ls2 := [some (.ref 5), some (.int 2), some (.int f), some (.int x)]) (st2 := [.int (-2)]) b_X10_sheet_20_22 rfl (fun hd => ?_)
      exact False.elim (by clear hd; grind)
set_option maxRecDepth 20000 in
set_option maxHeartbeats 1000000 in
theorem x_sheet2 (E : EE) (L : Nat) (F : FF) (f x : Int32) (h : 0 ≤ f ∧ f < 3) (h60 : x ≤ 60) (hx : 0 ≤ x) : Ev3 E L 16 mX10_sheet [.ref 5, .int 2, .int f, .int x] F (some (.int (x))) (fillF (up2 (up2 (up2 F 44 1 0) 44 2 f) 44 3 x) 45 60 0) := by
  refine Ev3.of okX10_sheet.2.2.1 (Nat.le_of_ble_eq_true rfl) ?_
  show R2 E L mX10_sheet 16 0 [some (.ref 5), some (.int 2), some (.int f), some (.int x)] [] F _
  refine R2.B (ls2 := [some (.ref 5), some (.int 2), some (.int f), some (.int x)]) (st2 := [.int 2]) b_X10_sheet_0_1 rfl (fun hd => ?_)
  refine R2.callS3 (M2 := mX10_isSheet) (As := [.int 2]) (rest := []) hd lk_10_153 okX10_isSheet (by decide) (ev_isSheet E L F 2) (by decide) rfl rfl (Nat.le_of_ble_eq_true rfl) ?_
  refine R2.B (ls2 := [some (.ref 5), some (.int 2), some (.int f), some (.int x)]) (st2 := [.int (b2i (0 ≤ 2 ∧ 2 < 4))]) b_X10_sheet_4_4 rfl (fun hd => ?_)
  refine R2.if_eq 20 hd (by decide) (fun c4 => absurd c4 (b2i_nz.mpr (by decide))) (fun c4 => ?_)
  refine R2.B (ls2 := [some (.ref 5), some (.int 2), some (.int f), some (.int x)]) (st2 := [.int f]) b_X10_sheet_7_8 rfl (fun hd => ?_)
  refine R2.callS3 (M2 := mX10_isForm) (As := [.int f]) (rest := []) hd lk_10_264 okX10_isForm (by decide) (ev_isForm E L F f) (by decide) rfl rfl (Nat.le_of_ble_eq_true rfl) ?_
  refine R2.B (ls2 := [some (.ref 5), some (.int 2), some (.int f), some (.int x)]) (st2 := [.int (b2i (0 ≤ f ∧ f < 3))]) b_X10_sheet_11_11 rfl (fun hd => ?_)
  refine R2.if_eq 20 hd (by decide) (fun c11 => ?_) (fun c11 => ?_)
  · have nc11 : ¬ (0 ≤ f ∧ f < 3) := b2i_zero.mp c11
    refine R2.B (ls2 := [some (.ref 5), some (.int 2), some (.int f), some (.int x)]) (st2 := [.int (-2)]) b_X10_sheet_20_22 rfl (fun hd => ?_)
    exact False.elim (by clear hd; grind)
  · have nc11 : 0 ≤ f ∧ f < 3 := b2i_nz.mp c11
    refine R2.B (ls2 := [some (.ref 5), some (.int 2), some (.int f), some (.int x)]) (st2 := [.int 60, .int x]) b_X10_sheet_14_17 rfl (fun hd => ?_)
    refine R2.icmp_le 23 hd (by decide) (fun c17 => ?_) (fun c17 => ?_)
    · refine R2.B (ls2 := [some (.ref 5), some (.int 2), some (.int f), some (.int x)]) (st2 := [.int x]) b_X10_sheet_23_24 rfl (fun hd => ?_)
      refine R2.if_ge 33 hd (by decide) (fun c24 => ?_) (fun c24 => absurd (hx) c24)
      refine R2.B (ls2 := [some (.ref 5), some (.int 2), some (.int f), some (.int x)]) (st2 := [.int 2, .ref 39]) b_X10_sheet_33_38 rfl (fun hd => ?_)
      refine R2.aald (k2 := 44) 2 rfl hd rfl (by decide) (by omega) rfl ?_
      refine R2.B (ls2 := [some (.ref 5), some (.int 2), some (.int f), some (.int x)]) (st2 := [.int x, .int f, .ref 44]) b_X10_sheet_39_41 rfl (fun hd => ?_)
      refine R2.callV3 (M2 := mX5_renew) (As := [.int f, .int x]) (rest := []) hd lk_10_267 okX5_renew (by decide) rfl (ev_renew44 E L F f x) (by decide) rfl rfl (Nat.le_of_ble_eq_true rfl) ?_
      refine R2.B (ls2 := [some (.ref 5), some (.int 2), some (.int f), some (.int x)]) (st2 := [.int x]) b_X10_sheet_44_45 rfl (fun hd => ?_)
      exact R2.ret3 (r := some (.int x)) hd trivial rfl rfl rfl
    · refine R2.B (ls2 := [some (.ref 5), some (.int 2), some (.int f), some (.int x)]) (st2 := [.int (-2)]) b_X10_sheet_20_22 rfl (fun hd => ?_)
      exact False.elim (by clear hd; grind)
set_option maxRecDepth 20000 in
set_option maxHeartbeats 1000000 in
theorem x_lose_null2 (E : EE) (L : Nat) (F : FF) (hl : ¬ F 44 1 = 0) : Ev3 E L 16 mX10_lose [.ref 5, .int 2] F (some (.int (-10 - 1))) (up2 F 5 11 1) := by
  refine Ev3.of okX10_lose.2.2.1 (Nat.le_of_ble_eq_true rfl) ?_
  show R2 E L mX10_lose 16 0 [some (.ref 5), some (.int 2)] [] F _
  refine R2.B (ls2 := [some (.ref 5), some (.int 2)]) (st2 := [.int 2]) b_X10_lose_0_1 rfl (fun hd => ?_)
  refine R2.callS3 (M2 := mX10_isSheet) (As := [.int 2]) (rest := []) hd lk_10_153 okX10_isSheet (by decide) (ev_isSheet E L F 2) (by decide) rfl rfl (Nat.le_of_ble_eq_true rfl) ?_
  refine R2.B (ls2 := [some (.ref 5), some (.int 2)]) (st2 := [.int (b2i (0 ≤ 2 ∧ 2 < 4))]) b_X10_lose_4_4 rfl (fun hd => ?_)
  refine R2.if_ne 10 hd (by decide) (fun c4 => ?_) (fun c4 => absurd c4 (b2i_nz.mpr (by decide)))
  refine R2.B (ls2 := [some (.ref 5), some (.int 2)]) (st2 := [.int 2, .ref 39]) b_X10_lose_10_15 rfl (fun hd => ?_)
  refine R2.aald (k2 := 44) 2 rfl hd rfl (by decide) (by omega) rfl ?_
  refine R2.B (ls2 := [some (.ref 5), some (.int 2)]) (st2 := [.int (F 44 1)]) b_X10_lose_16_19 rfl (fun hd => ?_)
  refine R2.if_eq 28 hd (by decide) (fun c19 => absurd c19 (hl)) (fun c19 => ?_)
  refine R2.B (ls2 := [some (.ref 5), some (.int 2)]) (st2 := [.int 1, .ref 5]) b_X10_lose_22_24 rfl (fun hd => ?_)
  refine R2.callV3 (M2 := mX10_found) (As := [.int 1]) (rest := []) hd lk_10_160 okX10_found (by decide) rfl (ev_found E L F 1) (by decide) rfl rfl (Nat.le_of_ble_eq_true rfl) ?_
  refine R2.B (ls2 := [some (.ref 5), some (.int 2)]) (st2 := [.int (-10 - 1)]) b_X10_lose_27_27 rfl (fun hd => ?_)
  exact R2.ret3 (r := some (.int (-10 - 1))) hd trivial rfl rfl rfl
set_option maxRecDepth 20000 in
set_option maxHeartbeats 1000000 in
theorem x_lose2 (E : EE) (L : Nat) (F : FF) (hl : F 44 1 = 0) : Ev3 E L 16 mX10_lose [.ref 5, .int 2] F (some (.int (F 44 3))) (up2 F 44 1 1) := by
  refine Ev3.of okX10_lose.2.2.1 (Nat.le_of_ble_eq_true rfl) ?_
  show R2 E L mX10_lose 16 0 [some (.ref 5), some (.int 2)] [] F _
  refine R2.B (ls2 := [some (.ref 5), some (.int 2)]) (st2 := [.int 2]) b_X10_lose_0_1 rfl (fun hd => ?_)
  refine R2.callS3 (M2 := mX10_isSheet) (As := [.int 2]) (rest := []) hd lk_10_153 okX10_isSheet (by decide) (ev_isSheet E L F 2) (by decide) rfl rfl (Nat.le_of_ble_eq_true rfl) ?_
  refine R2.B (ls2 := [some (.ref 5), some (.int 2)]) (st2 := [.int (b2i (0 ≤ 2 ∧ 2 < 4))]) b_X10_lose_4_4 rfl (fun hd => ?_)
  refine R2.if_ne 10 hd (by decide) (fun c4 => ?_) (fun c4 => absurd c4 (b2i_nz.mpr (by decide)))
  refine R2.B (ls2 := [some (.ref 5), some (.int 2)]) (st2 := [.int 2, .ref 39]) b_X10_lose_10_15 rfl (fun hd => ?_)
  refine R2.aald (k2 := 44) 2 rfl hd rfl (by decide) (by omega) rfl ?_
  refine R2.B (ls2 := [some (.ref 5), some (.int 2)]) (st2 := [.int (F 44 1)]) b_X10_lose_16_19 rfl (fun hd => ?_)
  refine R2.if_eq 28 hd (by decide) (fun c19 => ?_) (fun c19 => absurd (hl) c19)
  refine R2.B (ls2 := [some (.ref 5), some (.int 2)]) (st2 := [.int 2, .ref 39]) b_X10_lose_28_33 rfl (fun hd => ?_)
  refine R2.aald (k2 := 44) 2 rfl hd rfl (by decide) (by omega) rfl ?_
  refine R2.B (ls2 := [some (.ref 5), some (.int 2)]) (st2 := [.int 1, .ref 44]) b_X10_lose_34_35 rfl (fun hd => ?_)
  refine R2.putf (a := 5) (b := 1) hd (by decide) (by decide) rfl rfl (fun _ => rfl) ?_
  refine R2.B (ls2 := [some (.ref 5), some (.int 2)]) (st2 := [.int 2, .ref 39]) b_X10_lose_38_43 rfl (fun hd => ?_)
  refine R2.aald (k2 := 44) 2 rfl hd rfl (by decide) (by omega) rfl ?_
  refine R2.B (ls2 := [some (.ref 5), some (.int 2)]) (st2 := [.int (F 44 3)]) b_X10_lose_44_47 rfl (fun hd => ?_)
  exact R2.ret3 (r := some (.int (F 44 3))) hd trivial rfl rfl rfl
set_option maxRecDepth 20000 in
set_option maxHeartbeats 1000000 in
theorem x_put_find2 (E : EE) (L : Nat) (F : FF) (f x v : Int32) (h : 0 ≤ f ∧ f < 3) (hf : ¬ fndA (F 44 1) (F 44 2) (F 44 3) f x = 0) : Ev3 E L 16 mX10_put [.ref 5, .int 2, .int f, .int x, .int v] F (some (.int (-10 - (fndA (F 44 1) (F 44 2) (F 44 3) f x)))) (up2 F 5 11 (fndA (F 44 1) (F 44 2) (F 44 3) f x)) := by
  refine Ev3.of okX10_put.2.2.1 (Nat.le_of_ble_eq_true rfl) ?_
  show R2 E L mX10_put 16 0 [some (.ref 5), some (.int 2), some (.int f), some (.int x), some (.int v), none] [] F _
  refine R2.B (ls2 := [some (.ref 5), some (.int 2), some (.int f), some (.int x), some (.int v), none]) (st2 := [.int 2]) b_X10_put_0_1 rfl (fun hd => ?_)
  refine R2.callS3 (M2 := mX10_isSheet) (As := [.int 2]) (rest := []) hd lk_10_153 okX10_isSheet (by decide) (ev_isSheet E L F 2) (by decide) rfl rfl (Nat.le_of_ble_eq_true rfl) ?_
  refine R2.B (ls2 := [some (.ref 5), some (.int 2), some (.int f), some (.int x), some (.int v), none]) (st2 := [.int (b2i (0 ≤ 2 ∧ 2 < 4))]) b_X10_put_4_4 rfl (fun hd => ?_)
  refine R2.if_eq 14 hd (by decide) (fun c4 => absurd c4 (b2i_nz.mpr (by decide))) (fun c4 => ?_)
  refine R2.B (ls2 := [some (.ref 5), some (.int 2), some (.int f), some (.int x), some (.int v), none]) (st2 := [.int f]) b_X10_put_7_8 rfl (fun hd => ?_)
  refine R2.callS3 (M2 := mX10_isForm) (As := [.int f]) (rest := []) hd lk_10_264 okX10_isForm (by decide) (ev_isForm E L F f) (by decide) rfl rfl (Nat.le_of_ble_eq_true rfl) ?_
  refine R2.B (ls2 := [some (.ref 5), some (.int 2), some (.int f), some (.int x), some (.int v), none]) (st2 := [.int (b2i (0 ≤ f ∧ f < 3))]) b_X10_put_11_11 rfl (fun hd => ?_)
  refine R2.if_ne 17 hd (by decide) (fun c11 => ?_) (fun c11 => ?_)
  · have nc11 : 0 ≤ f ∧ f < 3 := b2i_nz.mp c11
    refine R2.B (ls2 := [some (.ref 5), some (.int 2), some (.int f), some (.int x), some (.int v), none]) (st2 := [.int 2, .ref 39]) b_X10_put_17_22 rfl (fun hd => ?_)
    refine R2.aald (k2 := 44) 2 rfl hd rfl (by decide) (by omega) rfl ?_
    refine R2.B (ls2 := [some (.ref 5), some (.int 2), some (.int f), some (.int x), some (.int v), none]) (st2 := [.int x, .int f, .ref 44]) b_X10_put_23_25 rfl (fun hd => ?_)
    refine R2.callV3 (M2 := mX5_findingAt) (As := [.int f, .int x]) (rest := []) hd lk_10_271 okX5_findingAt (by decide) rfl (ev_findingAt44 E L F f x) (by decide) rfl rfl (Nat.le_of_ble_eq_true rfl) ?_
    refine R2.B (ls2 := [some (.ref 5), some (.int 2), some (.int f), some (.int x), some (.int v), some (.int (fndA (F 44 1) (F 44 2) (F 44 3) f x))]) (st2 := [.int (fndA (F 44 1) (F 44 2) (F 44 3) f x)]) b_X10_put_28_32 rfl (fun hd => ?_)
    refine R2.if_eq 42 hd (by decide) (fun c32 => absurd c32 (hf)) (fun c32 => ?_)
    refine R2.B (ls2 := [some (.ref 5), some (.int 2), some (.int f), some (.int x), some (.int v), some (.int (fndA (F 44 1) (F 44 2) (F 44 3) f x))]) (st2 := [.int (fndA (F 44 1) (F 44 2) (F 44 3) f x), .ref 5]) b_X10_put_35_38 rfl (fun hd => ?_)
    refine R2.callV3 (M2 := mX10_found) (As := [.int (fndA (F 44 1) (F 44 2) (F 44 3) f x)]) (rest := []) hd lk_10_160 okX10_found (by decide) rfl (ev_found E L F (fndA (F 44 1) (F 44 2) (F 44 3) f x)) (by decide) rfl rfl (Nat.le_of_ble_eq_true rfl) ?_
    refine R2.B (ls2 := [some (.ref 5), some (.int 2), some (.int f), some (.int x), some (.int v), some (.int (fndA (F 44 1) (F 44 2) (F 44 3) f x))]) (st2 := [.int (-10 - (fndA (F 44 1) (F 44 2) (F 44 3) f x))]) b_X10_put_41_41 rfl (fun hd => ?_)
    exact R2.ret3 (r := some (.int (-10 - (fndA (F 44 1) (F 44 2) (F 44 3) f x)))) hd trivial rfl rfl rfl
  · have nc11 : ¬ (0 ≤ f ∧ f < 3) := b2i_zero.mp c11
    refine R2.B (ls2 := [some (.ref 5), some (.int 2), some (.int f), some (.int x), some (.int v), none]) (st2 := [.int (-2)]) b_X10_put_14_16 rfl (fun hd => ?_)
    exact False.elim (by clear hd; grind)
set_option maxRecDepth 20000 in
set_option maxHeartbeats 1000000 in
theorem x_put2 (E : EE) (L : Nat) (F : FF) (z : Nat) (hz : F 44 3 = nI z) (hz60 : z ≤ 60) (f v : Int32) (h : 0 ≤ f ∧ f < 3) (j : Nat) (hj : j < z) (hf : fndA (F 44 1) (F 44 2) (F 44 3) f (nI j) = 0) : Ev3 E L 16 mX10_put [.ref 5, .int 2, .int f, .int (nI j), .int v] F (some (.int (1))) (up2 F 45 j (nrw (F 44 2) v)) := by
  refine Ev3.of okX10_put.2.2.1 (Nat.le_of_ble_eq_true rfl) ?_
  show R2 E L mX10_put 16 0 [some (.ref 5), some (.int 2), some (.int f), some (.int (nI j)), some (.int v), none] [] F _
  refine R2.B (ls2 := [some (.ref 5), some (.int 2), some (.int f), some (.int (nI j)), some (.int v), none]) (st2 := [.int 2]) b_X10_put_0_1 rfl (fun hd => ?_)
  refine R2.callS3 (M2 := mX10_isSheet) (As := [.int 2]) (rest := []) hd lk_10_153 okX10_isSheet (by decide) (ev_isSheet E L F 2) (by decide) rfl rfl (Nat.le_of_ble_eq_true rfl) ?_
  refine R2.B (ls2 := [some (.ref 5), some (.int 2), some (.int f), some (.int (nI j)), some (.int v), none]) (st2 := [.int (b2i (0 ≤ 2 ∧ 2 < 4))]) b_X10_put_4_4 rfl (fun hd => ?_)
  refine R2.if_eq 14 hd (by decide) (fun c4 => absurd c4 (b2i_nz.mpr (by decide))) (fun c4 => ?_)
  refine R2.B (ls2 := [some (.ref 5), some (.int 2), some (.int f), some (.int (nI j)), some (.int v), none]) (st2 := [.int f]) b_X10_put_7_8 rfl (fun hd => ?_)
  refine R2.callS3 (M2 := mX10_isForm) (As := [.int f]) (rest := []) hd lk_10_264 okX10_isForm (by decide) (ev_isForm E L F f) (by decide) rfl rfl (Nat.le_of_ble_eq_true rfl) ?_
  refine R2.B (ls2 := [some (.ref 5), some (.int 2), some (.int f), some (.int (nI j)), some (.int v), none]) (st2 := [.int (b2i (0 ≤ f ∧ f < 3))]) b_X10_put_11_11 rfl (fun hd => ?_)
  refine R2.if_ne 17 hd (by decide) (fun c11 => ?_) (fun c11 => ?_)
  · have nc11 : 0 ≤ f ∧ f < 3 := b2i_nz.mp c11
    refine R2.B (ls2 := [some (.ref 5), some (.int 2), some (.int f), some (.int (nI j)), some (.int v), none]) (st2 := [.int 2, .ref 39]) b_X10_put_17_22 rfl (fun hd => ?_)
    refine R2.aald (k2 := 44) 2 rfl hd rfl (by decide) (by omega) rfl ?_
    refine R2.B (ls2 := [some (.ref 5), some (.int 2), some (.int f), some (.int (nI j)), some (.int v), none]) (st2 := [.int (nI j), .int f, .ref 44]) b_X10_put_23_25 rfl (fun hd => ?_)
    refine R2.callV3 (M2 := mX5_findingAt) (As := [.int f, .int (nI j)]) (rest := []) hd lk_10_271 okX5_findingAt (by decide) rfl (ev_findingAt44 E L F f (nI j)) (by decide) rfl rfl (Nat.le_of_ble_eq_true rfl) ?_
    refine R2.B (ls2 := [some (.ref 5), some (.int 2), some (.int f), some (.int (nI j)), some (.int v), some (.int (fndA (F 44 1) (F 44 2) (F 44 3) f (nI j)))]) (st2 := [.int (fndA (F 44 1) (F 44 2) (F 44 3) f (nI j))]) b_X10_put_28_32 rfl (fun hd => ?_)
    refine R2.if_eq 42 hd (by decide) (fun c32 => ?_) (fun c32 => absurd (hf) c32)
    refine R2.B (ls2 := [some (.ref 5), some (.int 2), some (.int f), some (.int (nI j)), some (.int v), some (.int (fndA (F 44 1) (F 44 2) (F 44 3) f (nI j)))]) (st2 := [.int 2, .ref 39]) b_X10_put_42_47 rfl (fun hd => ?_)
    refine R2.aald (k2 := 44) 2 rfl hd rfl (by decide) (by omega) rfl ?_
    refine R2.B (ls2 := [some (.ref 5), some (.int 2), some (.int f), some (.int (nI j)), some (.int v), some (.int (fndA (F 44 1) (F 44 2) (F 44 3) f (nI j)))]) (st2 := [.int v, .int (nI j), .ref 44]) b_X10_put_48_51 rfl (fun hd => ?_)
    refine R2.callV3 (M2 := mX5_store) (As := [.int (nI j), .int v]) (rest := []) hd lk_10_274 okX5_store (by decide) rfl (ev_store44 E L F j v (by omega) (by rw [hz]; exact nI_lt hj (by omega))) (by decide) rfl rfl (Nat.le_of_ble_eq_true rfl) ?_
    refine R2.B (ls2 := [some (.ref 5), some (.int 2), some (.int f), some (.int (nI j)), some (.int v), some (.int (fndA (F 44 1) (F 44 2) (F 44 3) f (nI j)))]) (st2 := [.int 1]) b_X10_put_54_55 rfl (fun hd => ?_)
    exact R2.ret3 (r := some (.int 1)) hd trivial rfl rfl rfl
  · have nc11 : ¬ (0 ≤ f ∧ f < 3) := b2i_zero.mp c11
    refine R2.B (ls2 := [some (.ref 5), some (.int 2), some (.int f), some (.int (nI j)), some (.int v), none]) (st2 := [.int (-2)]) b_X10_put_14_16 rfl (fun hd => ?_)
    exact False.elim (by clear hd; grind)
set_option maxRecDepth 20000 in
set_option maxHeartbeats 1000000 in
theorem x_get_find2 (E : EE) (L : Nat) (F : FF) (f x : Int32) (h : 0 ≤ f ∧ f < 3) (hf : ¬ fndA (F 44 1) (F 44 2) (F 44 3) f x = 0) : Ev3 E L 16 mX10_get [.ref 5, .int 2, .int f, .int x] F (some (.int (-2147483648))) (up2 F 5 11 (fndA (F 44 1) (F 44 2) (F 44 3) f x)) := by
  refine Ev3.of okX10_get.2.2.1 (Nat.le_of_ble_eq_true rfl) ?_
  show R2 E L mX10_get 16 0 [some (.ref 5), some (.int 2), some (.int f), some (.int x), none] [] F _
  refine R2.B (ls2 := [some (.ref 5), some (.int 2), some (.int f), some (.int x), none]) (st2 := [.int 2]) b_X10_get_0_1 rfl (fun hd => ?_)
  refine R2.callS3 (M2 := mX10_isSheet) (As := [.int 2]) (rest := []) hd lk_10_153 okX10_isSheet (by decide) (ev_isSheet E L F 2) (by decide) rfl rfl (Nat.le_of_ble_eq_true rfl) ?_
  refine R2.B (ls2 := [some (.ref 5), some (.int 2), some (.int f), some (.int x), none]) (st2 := [.int (b2i (0 ≤ 2 ∧ 2 < 4))]) b_X10_get_4_4 rfl (fun hd => ?_)
  refine R2.if_eq 14 hd (by decide) (fun c4 => absurd c4 (b2i_nz.mpr (by decide))) (fun c4 => ?_)
  refine R2.B (ls2 := [some (.ref 5), some (.int 2), some (.int f), some (.int x), none]) (st2 := [.int f]) b_X10_get_7_8 rfl (fun hd => ?_)
  refine R2.callS3 (M2 := mX10_isForm) (As := [.int f]) (rest := []) hd lk_10_264 okX10_isForm (by decide) (ev_isForm E L F f) (by decide) rfl rfl (Nat.le_of_ble_eq_true rfl) ?_
  refine R2.B (ls2 := [some (.ref 5), some (.int 2), some (.int f), some (.int x), none]) (st2 := [.int (b2i (0 ≤ f ∧ f < 3))]) b_X10_get_11_11 rfl (fun hd => ?_)
  refine R2.if_ne 18 hd (by decide) (fun c11 => ?_) (fun c11 => absurd c11 (b2i_nz.mpr h))
  refine R2.B (ls2 := [some (.ref 5), some (.int 2), some (.int f), some (.int x), none]) (st2 := [.int 2, .ref 39]) b_X10_get_18_23 rfl (fun hd => ?_)
  refine R2.aald (k2 := 44) 2 rfl hd rfl (by decide) (by omega) rfl ?_
  refine R2.B (ls2 := [some (.ref 5), some (.int 2), some (.int f), some (.int x), none]) (st2 := [.int x, .int f, .ref 44]) b_X10_get_24_26 rfl (fun hd => ?_)
  refine R2.callV3 (M2 := mX5_findingAt) (As := [.int f, .int x]) (rest := []) hd lk_10_271 okX5_findingAt (by decide) rfl (ev_findingAt44 E L F f x) (by decide) rfl rfl (Nat.le_of_ble_eq_true rfl) ?_
  refine R2.B (ls2 := [some (.ref 5), some (.int 2), some (.int f), some (.int x), some (.int (fndA (F 44 1) (F 44 2) (F 44 3) f x))]) (st2 := [.int (fndA (F 44 1) (F 44 2) (F 44 3) f x)]) b_X10_get_29_33 rfl (fun hd => ?_)
  refine R2.if_eq 46 hd (by decide) (fun c33 => absurd c33 (hf)) (fun c33 => ?_)
  refine R2.B (ls2 := [some (.ref 5), some (.int 2), some (.int f), some (.int x), some (.int (fndA (F 44 1) (F 44 2) (F 44 3) f x))]) (st2 := [.int (fndA (F 44 1) (F 44 2) (F 44 3) f x), .ref 5]) b_X10_get_36_39 rfl (fun hd => ?_)
  refine R2.putf (a := 10) (b := 11) hd (by decide) (by decide) rfl rfl (fun _ => rfl) ?_
  refine R2.B (ls2 := [some (.ref 5), some (.int 2), some (.int f), some (.int x), some (.int (fndA (F 44 1) (F 44 2) (F 44 3) f x))]) (st2 := [.int (-2147483648)]) b_X10_get_42_45 rfl (fun hd => ?_)
  exact R2.ret3 (r := some (.int (-2147483648))) hd trivial rfl rfl rfl
set_option maxRecDepth 20000 in
set_option maxHeartbeats 1000000 in
theorem x_get2 (E : EE) (L : Nat) (F : FF) (f : Int32) (h : 0 ≤ f ∧ f < 3) (j : Nat) (hj : j < 60) (hf : fndA (F 44 1) (F 44 2) (F 44 3) f (nI j) = 0) : Ev3 E L 16 mX10_get [.ref 5, .int 2, .int f, .int (nI j)] F (some (.int (F 45 j))) F := by
  refine Ev3.of okX10_get.2.2.1 (Nat.le_of_ble_eq_true rfl) ?_
  show R2 E L mX10_get 16 0 [some (.ref 5), some (.int 2), some (.int f), some (.int (nI j)), none] [] F _
  refine R2.B (ls2 := [some (.ref 5), some (.int 2), some (.int f), some (.int (nI j)), none]) (st2 := [.int 2]) b_X10_get_0_1 rfl (fun hd => ?_)
  refine R2.callS3 (M2 := mX10_isSheet) (As := [.int 2]) (rest := []) hd lk_10_153 okX10_isSheet (by decide) (ev_isSheet E L F 2) (by decide) rfl rfl (Nat.le_of_ble_eq_true rfl) ?_
  refine R2.B (ls2 := [some (.ref 5), some (.int 2), some (.int f), some (.int (nI j)), none]) (st2 := [.int (b2i (0 ≤ 2 ∧ 2 < 4))]) b_X10_get_4_4 rfl (fun hd => ?_)
  refine R2.if_eq 14 hd (by decide) (fun c4 => absurd c4 (b2i_nz.mpr (by decide))) (fun c4 => ?_)
  refine R2.B (ls2 := [some (.ref 5), some (.int 2), some (.int f), some (.int (nI j)), none]) (st2 := [.int f]) b_X10_get_7_8 rfl (fun hd => ?_)
  refine R2.callS3 (M2 := mX10_isForm) (As := [.int f]) (rest := []) hd lk_10_264 okX10_isForm (by decide) (ev_isForm E L F f) (by decide) rfl rfl (Nat.le_of_ble_eq_true rfl) ?_
  refine R2.B (ls2 := [some (.ref 5), some (.int 2), some (.int f), some (.int (nI j)), none]) (st2 := [.int (b2i (0 ≤ f ∧ f < 3))]) b_X10_get_11_11 rfl (fun hd => ?_)
  refine R2.if_ne 18 hd (by decide) (fun c11 => ?_) (fun c11 => absurd c11 (b2i_nz.mpr h))
  refine R2.B (ls2 := [some (.ref 5), some (.int 2), some (.int f), some (.int (nI j)), none]) (st2 := [.int 2, .ref 39]) b_X10_get_18_23 rfl (fun hd => ?_)
  refine R2.aald (k2 := 44) 2 rfl hd rfl (by decide) (by omega) rfl ?_
  refine R2.B (ls2 := [some (.ref 5), some (.int 2), some (.int f), some (.int (nI j)), none]) (st2 := [.int (nI j), .int f, .ref 44]) b_X10_get_24_26 rfl (fun hd => ?_)
  refine R2.callV3 (M2 := mX5_findingAt) (As := [.int f, .int (nI j)]) (rest := []) hd lk_10_271 okX5_findingAt (by decide) rfl (ev_findingAt44 E L F f (nI j)) (by decide) rfl rfl (Nat.le_of_ble_eq_true rfl) ?_
  refine R2.B (ls2 := [some (.ref 5), some (.int 2), some (.int f), some (.int (nI j)), some (.int (fndA (F 44 1) (F 44 2) (F 44 3) f (nI j)))]) (st2 := [.int (fndA (F 44 1) (F 44 2) (F 44 3) f (nI j))]) b_X10_get_29_33 rfl (fun hd => ?_)
  refine R2.if_eq 46 hd (by decide) (fun c33 => ?_) (fun c33 => absurd (hf) c33)
  refine R2.B (ls2 := [some (.ref 5), some (.int 2), some (.int f), some (.int (nI j)), some (.int (fndA (F 44 1) (F 44 2) (F 44 3) f (nI j)))]) (st2 := [.int 2, .ref 39]) b_X10_get_46_51 rfl (fun hd => ?_)
  refine R2.aald (k2 := 44) 2 rfl hd rfl (by decide) (by omega) rfl ?_
  refine R2.B (ls2 := [some (.ref 5), some (.int 2), some (.int f), some (.int (nI j)), some (.int (fndA (F 44 1) (F 44 2) (F 44 3) f (nI j)))]) (st2 := [.int (nI j), .ref 45]) b_X10_get_52_56 rfl (fun hd => ?_)
  refine R2.iald j rfl hd rfl (fun _ => rfl) (by decide) (by omega) ?_
  refine R2.B (ls2 := [some (.ref 5), some (.int 2), some (.int f), some (.int (nI j)), some (.int (fndA (F 44 1) (F 44 2) (F 44 3) f (nI j)))]) (st2 := [.int (F 45 j)]) b_X10_get_57_57 rfl (fun hd => ?_)
  exact R2.ret3 (r := some (.int (F 45 j))) hd trivial rfl rfl rfl
set_option maxRecDepth 20000 in
set_option maxHeartbeats 1000000 in
theorem x_write_null2 (E : EE) (L : Nat) (F : FF) (hl : ¬ F 44 1 = 0) : Ev3 E L 16 mX10_write [.ref 5, .int 2] F (some (.int (-10 - 1))) (up2 F 5 11 1) := by
  refine Ev3.of okX10_write.2.2.1 (Nat.le_of_ble_eq_true rfl) ?_
  show R2 E L mX10_write 16 0 [some (.ref 5), some (.int 2), none, none] [] F _
  refine R2.B (ls2 := [some (.ref 5), some (.int 2), none, none]) (st2 := [.int 2]) b_X10_write_0_1 rfl (fun hd => ?_)
  refine R2.callS3 (M2 := mX10_isSheet) (As := [.int 2]) (rest := []) hd lk_10_153 okX10_isSheet (by decide) (ev_isSheet E L F 2) (by decide) rfl rfl (Nat.le_of_ble_eq_true rfl) ?_
  refine R2.B (ls2 := [some (.ref 5), some (.int 2), none, none]) (st2 := [.int (b2i (0 ≤ 2 ∧ 2 < 4))]) b_X10_write_4_4 rfl (fun hd => ?_)
  refine R2.if_ne 10 hd (by decide) (fun c4 => ?_) (fun c4 => absurd c4 (b2i_nz.mpr (by decide)))
  refine R2.B (ls2 := [some (.ref 5), some (.int 2), none, none]) (st2 := [.int 2, .ref 39]) b_X10_write_10_15 rfl (fun hd => ?_)
  refine R2.aald (k2 := 44) 2 rfl hd rfl (by decide) (by omega) rfl ?_
  refine R2.B (ls2 := [some (.ref 5), some (.int 2), none, none]) (st2 := [.int (F 44 1)]) b_X10_write_16_19 rfl (fun hd => ?_)
  refine R2.if_eq 28 hd (by decide) (fun c19 => absurd c19 (hl)) (fun c19 => ?_)
  refine R2.B (ls2 := [some (.ref 5), some (.int 2), none, none]) (st2 := [.int 1, .ref 5]) b_X10_write_22_24 rfl (fun hd => ?_)
  refine R2.callV3 (M2 := mX10_found) (As := [.int 1]) (rest := []) hd lk_10_160 okX10_found (by decide) rfl (ev_found E L F 1) (by decide) rfl rfl (Nat.le_of_ble_eq_true rfl) ?_
  refine R2.B (ls2 := [some (.ref 5), some (.int 2), none, none]) (st2 := [.int (-10 - 1)]) b_X10_write_27_27 rfl (fun hd => ?_)
  exact R2.ret3 (r := some (.int (-10 - 1))) hd trivial rfl rfl rfl
set_option maxRecDepth 20000 in
set_option maxHeartbeats 2000000 in
theorem lp_write2 (E : EE) (L : Nat) (z W : Nat) (hz60 : z ≤ 60) (hW : W ≤ z) (hW10 : W ≤ 10) : ∀ (k : Nat) (j : Nat) (F : FF), j + k = W → F 44 3 = nI z → R2 E L mX10_write 16 50 [some (.ref 5), some (.int 2), some (.int (nI W)), some (.int (nI j))] [] F (fun r' F' => r' = some (.int (nI W)) ∧ F' = wrL 44 k j F) := by
  intro k
  induction k with
  | zero =>
    intro j F hi h3
    refine R2.B (ls2 := [some (.ref 5), some (.int 2), some (.int (nI W)), some (.int (nI j))]) (st2 := [.int (nI W), .int (nI j)]) b_X10_write_50_52 rfl (fun hd => ?_)
    refine R2.icmp_ge 80 hd (by decide) (fun c52 => ?_) (fun c52 => absurd (nI_le (by omega) (by omega)) c52)
    refine R2.B (ls2 := [some (.ref 5), some (.int 2), some (.int (nI W)), some (.int (nI j))]) (st2 := [.int (nI W)]) b_X10_write_80_81 rfl (fun hd => ?_)
    exact R2.ret3 (r := some (.int (nI W))) hd trivial rfl rfl rfl
  | succ k ih =>
    intro j F hi h3
    refine R2.B (ls2 := [some (.ref 5), some (.int 2), some (.int (nI W)), some (.int (nI j))]) (st2 := [.int (nI W), .int (nI j)]) b_X10_write_50_52 rfl (fun hd => ?_)
    refine R2.icmp_ge 80 hd (by decide) (fun c52 => absurd c52 (nI_ge (by omega) (by omega))) (fun c52 => ?_)
    refine R2.B (ls2 := [some (.ref 5), some (.int 2), some (.int (nI W)), some (.int (nI j))]) (st2 := [.int 2, .ref 39]) b_X10_write_55_60 rfl (fun hd => ?_)
    refine R2.aald (k2 := 44) 2 rfl hd rfl (by decide) (by omega) rfl ?_
    refine R2.B (ls2 := [some (.ref 5), some (.int 2), some (.int (nI W)), some (.int (nI j))]) (st2 := [.int (nI j), .ref 15, .int (nI j), .ref 44]) b_X10_write_61_70 rfl (fun hd => ?_)
    refine R2.iald j rfl hd rfl (fun _ => rfl) (by decide) (by omega) ?_
    refine R2.B (ls2 := [some (.ref 5), some (.int 2), some (.int (nI W)), some (.int (nI j))]) (st2 := [.int (F 15 j), .int (nI j), .ref 44]) b_X10_write_71_71 rfl (fun hd => ?_)
    refine R2.callV3 (M2 := mX5_store) (As := [.int (nI j), .int (F 15 j)]) (rest := []) hd lk_10_274 okX5_store (by decide) rfl (ev_store44 E L F j (F 15 j) (by omega) (by rw [h3]; exact nI_lt (show j < z by omega) (by omega))) (by decide) rfl rfl (Nat.le_of_ble_eq_true rfl) ?_
    refine R2.B (ls2 := [some (.ref 5), some (.int 2), some (.int (nI W)), some (.int ((nI j) + 1))]) (st2 := []) b_X10_write_74_50 rfl (fun hd => ?_)
    rw [show ((nI j) + 1 : Int32) = nI (j + 1) from nI_add j 1]
    exact ih (j + 1) _ (by omega) h3
set_option maxRecDepth 20000 in
set_option maxHeartbeats 1000000 in
theorem x_write2 (E : EE) (L : Nat) (F : FF) (n : Nat) (hn : F 10 5 = nI n) (hn10 : n ≤ 10) (z : Nat) (hz : F 44 3 = nI z) (hz60 : z ≤ 60) (hl : F 44 1 = 0) : Ev3 E L 16 mX10_write [.ref 5, .int 2] F (some (.int (nI (if n < z then n else z)))) (wrL 44 (if n < z then n else z) 0 F) := by
  refine Ev3.of okX10_write.2.2.1 (Nat.le_of_ble_eq_true rfl) ?_
  show R2 E L mX10_write 16 0 [some (.ref 5), some (.int 2), none, none] [] F _
  refine R2.B (ls2 := [some (.ref 5), some (.int 2), none, none]) (st2 := [.int 2]) b_X10_write_0_1 rfl (fun hd => ?_)
  refine R2.callS3 (M2 := mX10_isSheet) (As := [.int 2]) (rest := []) hd lk_10_153 okX10_isSheet (by decide) (ev_isSheet E L F 2) (by decide) rfl rfl (Nat.le_of_ble_eq_true rfl) ?_
  refine R2.B (ls2 := [some (.ref 5), some (.int 2), none, none]) (st2 := [.int (b2i (0 ≤ 2 ∧ 2 < 4))]) b_X10_write_4_4 rfl (fun hd => ?_)
  refine R2.if_ne 10 hd (by decide) (fun c4 => ?_) (fun c4 => absurd c4 (b2i_nz.mpr (by decide)))
  refine R2.B (ls2 := [some (.ref 5), some (.int 2), none, none]) (st2 := [.int 2, .ref 39]) b_X10_write_10_15 rfl (fun hd => ?_)
  refine R2.aald (k2 := 44) 2 rfl hd rfl (by decide) (by omega) rfl ?_
  refine R2.B (ls2 := [some (.ref 5), some (.int 2), none, none]) (st2 := [.int (F 44 1)]) b_X10_write_16_19 rfl (fun hd => ?_)
  refine R2.if_eq 28 hd (by decide) (fun c19 => ?_) (fun c19 => absurd (hl) c19)
  refine R2.B (ls2 := [some (.ref 5), some (.int 2), none, none]) (st2 := [.int 2, .ref 39]) b_X10_write_28_33 rfl (fun hd => ?_)
  refine R2.aald (k2 := 44) 2 rfl hd rfl (by decide) (by omega) rfl ?_
  refine R2.B (ls2 := [some (.ref 5), some (.int 2), none, none]) (st2 := [.int (F 10 5), .int (F 44 3)]) b_X10_write_34_44 rfl (fun hd => ?_)
  rw [show (F 10 5 : Int32) = nI n from hn]
  rw [show (F 44 3 : Int32) = nI z from hz]
  refine R2.mmin hd ma_10_291 (by decide) (Nat.le_of_ble_eq_true rfl) ?_
  refine R2.top (show (if nI n < nI z then nI n else nI z : Int32) = nI (if n < z then n else z) from min2 (by omega) (by omega)) ?_
  refine R2.B (ls2 := [some (.ref 5), some (.int 2), some (.int (nI (if n < z then n else z))), some (.int 0)]) (st2 := []) b_X10_write_47_50 rfl (fun hd => ?_)
  exact lp_write2 E L z (if n < z then n else z) hz60 (by split <;> omega) (by split <;> omega) (if n < z then n else z) 0 F (by omega) hz
set_option maxRecDepth 20000 in
set_option maxHeartbeats 1000000 in
theorem x_read_null2 (E : EE) (L : Nat) (F : FF) (n : Nat) (hn : F 10 5 = nI n) (hn10 : n ≤ 10) (a : Nat) (ha : a < n) (hl : ¬ F 44 1 = 0) : Ev3 E L 16 mX10_read [.ref 5, .int 2, .int (nI a)] F (some (.int (-10 - 1))) (up2 F 5 11 1) := by
  refine Ev3.of okX10_read.2.2.1 (Nat.le_of_ble_eq_true rfl) ?_
  show R2 E L mX10_read 16 0 [some (.ref 5), some (.int 2), some (.int (nI a)), none, none] [] F _
  refine R2.B (ls2 := [some (.ref 5), some (.int 2), some (.int (nI a)), none, none]) (st2 := [.int 2]) b_X10_read_0_1 rfl (fun hd => ?_)
  refine R2.callS3 (M2 := mX10_isSheet) (As := [.int 2]) (rest := []) hd lk_10_153 okX10_isSheet (by decide) (ev_isSheet E L F 2) (by decide) rfl rfl (Nat.le_of_ble_eq_true rfl) ?_
  refine R2.B (ls2 := [some (.ref 5), some (.int 2), some (.int (nI a)), none, none]) (st2 := [.int (b2i (0 ≤ 2 ∧ 2 < 4))]) b_X10_read_4_4 rfl (fun hd => ?_)
  refine R2.if_eq 15 hd (by decide) (fun c4 => absurd c4 (b2i_nz.mpr (by decide))) (fun c4 => ?_)
  refine R2.B (ls2 := [some (.ref 5), some (.int 2), some (.int (nI a)), none, none]) (st2 := [.int (nI a), .ref 5]) b_X10_read_7_9 rfl (fun hd => ?_)
  refine R2.callV3 (M2 := mX10_isPerson) (As := [.int (nI a)]) (rest := []) hd lk_10_131 okX10_isPerson (by decide) rfl (ev_isPerson E L F (nI a)) (by decide) rfl rfl (Nat.le_of_ble_eq_true rfl) ?_
  refine R2.B (ls2 := [some (.ref 5), some (.int 2), some (.int (nI a)), none, none]) (st2 := [.int (b2i (0 ≤ (nI a) ∧ (nI a) < F 10 5))]) b_X10_read_12_12 rfl (fun hd => ?_)
  refine R2.if_ne 18 hd (by decide) (fun c12 => ?_) (fun c12 => absurd c12 (b2i_nz.mpr (per_t hn hn10 ha)))
  refine R2.B (ls2 := [some (.ref 5), some (.int 2), some (.int (nI a)), none, none]) (st2 := [.int 2, .ref 39]) b_X10_read_18_23 rfl (fun hd => ?_)
  refine R2.aald (k2 := 44) 2 rfl hd rfl (by decide) (by omega) rfl ?_
  refine R2.B (ls2 := [some (.ref 5), some (.int 2), some (.int (nI a)), some (.ref 44), none]) (st2 := [.int (F 44 1)]) b_X10_read_24_29 rfl (fun hd => ?_)
  refine R2.if_eq 38 hd (by decide) (fun c29 => absurd c29 (hl)) (fun c29 => ?_)
  refine R2.B (ls2 := [some (.ref 5), some (.int 2), some (.int (nI a)), some (.ref 44), none]) (st2 := [.int 1, .ref 5]) b_X10_read_32_34 rfl (fun hd => ?_)
  refine R2.callV3 (M2 := mX10_found) (As := [.int 1]) (rest := []) hd lk_10_160 okX10_found (by decide) rfl (ev_found E L F 1) (by decide) rfl rfl (Nat.le_of_ble_eq_true rfl) ?_
  refine R2.B (ls2 := [some (.ref 5), some (.int 2), some (.int (nI a)), some (.ref 44), none]) (st2 := [.int (-10 - 1)]) b_X10_read_37_37 rfl (fun hd => ?_)
  exact R2.ret3 (r := some (.int (-10 - 1))) hd trivial rfl rfl rfl
set_option maxRecDepth 20000 in
set_option maxHeartbeats 2000000 in
theorem lp_read2 (E : EE) (L : Nat) (n a z : Nat) (hn10 : n ≤ 10) (ha : a < n) (hz60 : z ≤ 60) : ∀ (k : Nat) (j : Nat) (F : FF), j + k = z → F 10 5 = nI n → CST F → F 44 3 = nI z → R2 E L mX10_read 16 41 [some (.ref 5), some (.int 2), some (.int (nI a)), some (.ref 44), some (.int (nI j))] [] F (fun r' F' => r' = some (.int (nI (rdL n a 44 k j F).1)) ∧ F' = (rdL n a 44 k j F).2) := by
  intro k
  induction k with
  | zero =>
    intro j F hi h5 hc h3
    refine R2.B (ls2 := [some (.ref 5), some (.int 2), some (.int (nI a)), some (.ref 44), some (.int (nI j))]) (st2 := [.int (F 44 3), .int (nI j)]) b_X10_read_41_47 rfl (fun hd => ?_)
    rw [show (F 44 3 : Int32) = nI z from h3]
    refine R2.icmp_ge 84 hd (by decide) (fun c47 => ?_) (fun c47 => absurd (nI_le (by omega) (by omega)) c47)
    refine R2.B (ls2 := [some (.ref 5), some (.int 2), some (.int (nI a)), some (.ref 44), some (.int (nI j))]) (st2 := [.int (nI j)]) b_X10_read_84_86 rfl (fun hd => ?_)
    exact R2.ret3 (r := some (.int (nI j))) hd trivial rfl rfl rfl
  | succ k ih =>
    intro j F hi h5 hc h3
    refine R2.B (ls2 := [some (.ref 5), some (.int 2), some (.int (nI a)), some (.ref 44), some (.int (nI j))]) (st2 := [.int (F 44 3), .int (nI j)]) b_X10_read_41_47 rfl (fun hd => ?_)
    rw [show (F 44 3 : Int32) = nI z from h3]
    refine R2.icmp_ge 84 hd (by decide) (fun c47 => absurd c47 (nI_ge (by omega) (by omega))) (fun c47 => ?_)
    refine R2.B (ls2 := [some (.ref 5), some (.int 2), some (.int (nI a)), some (.ref 44), some (.int (nI j))]) (st2 := [.int (nI j), .ref 45]) b_X10_read_50_56 rfl (fun hd => ?_)
    refine R2.iald j rfl hd rfl (fun _ => rfl) (by decide) (by omega) ?_
    refine R2.B (ls2 := [some (.ref 5), some (.int 2), some (.int (nI a)), some (.ref 44), some (.int (nI j))]) (st2 := [.int (F 45 j)]) b_X10_read_57_57 rfl (fun hd => ?_)
    refine R2.callS3 (M2 := mX10_isDirection) (As := [.int (F 45 j)]) (rest := []) hd lk_10_146 okX10_isDirection (by decide) (ev_isDirection E L F (F 45 j)) (by decide) rfl rfl (Nat.le_of_ble_eq_true rfl) ?_
    refine R2.B (ls2 := [some (.ref 5), some (.int 2), some (.int (nI a)), some (.ref 44), some (.int (nI j))]) (st2 := [.int (b2i (0 ≤ (F 45 j) ∧ (F 45 j) < 8))]) b_X10_read_60_60 rfl (fun hd => ?_)
    refine R2.if_eq 84 hd (by decide) (fun c60 => ?_) (fun c60 => ?_)
    · have nc60 : ¬ (0 ≤ (F 45 j) ∧ (F 45 j) < 8) := b2i_zero.mp c60
      refine R2.B (ls2 := [some (.ref 5), some (.int 2), some (.int (nI a)), some (.ref 44), some (.int (nI j))]) (st2 := [.int (nI j)]) b_X10_read_84_86 rfl (fun hd => ?_)
      have e : rdL n a 44 (k + 1) j F = (j, F) := by
        simp only [rdL]; rw [if_neg nc60]
      exact R2.ret3 (r := some (.int (nI j))) hd trivial rfl (by rw [e]) (by rw [e])
    · have nc60 : 0 ≤ (F 45 j) ∧ (F 45 j) < 8 := b2i_nz.mp c60
      refine R2.B (ls2 := [some (.ref 5), some (.int 2), some (.int (nI a)), some (.ref 44), some (.int (nI j))]) (st2 := [.int (nI j), .ref 45, .int (nI a), .ref 5]) b_X10_read_63_71 rfl (fun hd => ?_)
      obtain ⟨d, hd8, ed⟩ := dir_of nc60
      refine R2.iald j rfl hd rfl (fun _ => rfl) (by decide) (by omega) ?_
      refine R2.top (show (F 45 j : Int32) = nI d from ed) ?_
      refine R2.B (ls2 := [some (.ref 5), some (.int 2), some (.int (nI a)), some (.ref 44), some (.int (nI j))]) (st2 := [.int (nI d), .int (nI a), .ref 5]) b_X10_read_72_72 rfl (fun hd => ?_)
      by_cases hl9 : lawS (F 15) a d (F 17 2 * F 17 2) n = -1
      · refine R2.callV3 (M2 := mX10_goes) (As := [.int (nI a), .int (nI d)]) (rest := []) hd lk_10_149 okX10_goes (by decide) rfl (ev_goes0 E L F hc n h5 hn10 a d ha hd8 hl9) (by decide) rfl rfl (Nat.le_of_ble_eq_true rfl) ?_
        refine R2.B (ls2 := [some (.ref 5), some (.int 2), some (.int (nI a)), some (.ref 44), some (.int (nI j))]) (st2 := [.int 0]) b_X10_read_75_75 rfl (fun hd => ?_)
        refine R2.if_eq 84 hd (by decide) (fun c75 => ?_) (fun c75 => absurd (by decide) c75)
        refine R2.B (ls2 := [some (.ref 5), some (.int 2), some (.int (nI a)), some (.ref 44), some (.int (nI j))]) (st2 := [.int (nI j)]) b_X10_read_84_86 rfl (fun hd => ?_)
        have e : rdL n a 44 (k + 1) j F = (j, F) := by
          simp only [rdL]; rw [if_pos nc60, ed, nI_clamp (by omega), if_pos hl9]
        exact R2.ret3 (r := some (.int (nI j))) hd trivial rfl (by rw [e]) (by rw [e])
      · refine R2.callV3 (M2 := mX10_goes) (As := [.int (nI a), .int (nI d)]) (rest := []) hd lk_10_149 okX10_goes (by decide) rfl (ev_goes1 E L F hc n h5 hn10 a d ha hd8 hl9) (by decide) rfl rfl (Nat.le_of_ble_eq_true rfl) ?_
        refine R2.B (ls2 := [some (.ref 5), some (.int 2), some (.int (nI a)), some (.ref 44), some (.int (nI j))]) (st2 := [.int 1]) b_X10_read_75_75 rfl (fun hd => ?_)
        refine R2.if_eq 84 hd (by decide) (fun c75 => absurd c75 (by decide)) (fun c75 => ?_)
        refine R2.B (ls2 := [some (.ref 5), some (.int 2), some (.int (nI a)), some (.ref 44), some (.int ((nI j) + 1))]) (st2 := []) b_X10_read_78_41 rfl (fun hd => ?_)
        rw [show ((nI j) + 1 : Int32) = nI (j + 1) from nI_add j 1]
        have e : rdL n a 44 (k + 1) j F = rdL n a 44 k (j + 1) (up2 F 15 a (lawS (F 15) a d (F 17 2 * F 17 2) n)) := by
          simp only [rdL]; rw [if_pos nc60, ed, nI_clamp (by omega), if_neg hl9]
        rw [e]
        exact ih (j + 1) _ (by omega) h5 hc h3
set_option maxRecDepth 20000 in
set_option maxHeartbeats 1000000 in
theorem x_read2 (E : EE) (L : Nat) (F : FF) (hc : CST F) (n : Nat) (hn : F 10 5 = nI n) (hn10 : n ≤ 10) (a : Nat) (ha : a < n) (z : Nat) (hz : F 44 3 = nI z) (hz60 : z ≤ 60) (hl : F 44 1 = 0) : Ev3 E L 16 mX10_read [.ref 5, .int 2, .int (nI a)] F (some (.int (nI (rdL n a 44 z 0 F).1))) (rdL n a 44 z 0 F).2 := by
  refine Ev3.of okX10_read.2.2.1 (Nat.le_of_ble_eq_true rfl) ?_
  show R2 E L mX10_read 16 0 [some (.ref 5), some (.int 2), some (.int (nI a)), none, none] [] F _
  refine R2.B (ls2 := [some (.ref 5), some (.int 2), some (.int (nI a)), none, none]) (st2 := [.int 2]) b_X10_read_0_1 rfl (fun hd => ?_)
  refine R2.callS3 (M2 := mX10_isSheet) (As := [.int 2]) (rest := []) hd lk_10_153 okX10_isSheet (by decide) (ev_isSheet E L F 2) (by decide) rfl rfl (Nat.le_of_ble_eq_true rfl) ?_
  refine R2.B (ls2 := [some (.ref 5), some (.int 2), some (.int (nI a)), none, none]) (st2 := [.int (b2i (0 ≤ 2 ∧ 2 < 4))]) b_X10_read_4_4 rfl (fun hd => ?_)
  refine R2.if_eq 15 hd (by decide) (fun c4 => absurd c4 (b2i_nz.mpr (by decide))) (fun c4 => ?_)
  refine R2.B (ls2 := [some (.ref 5), some (.int 2), some (.int (nI a)), none, none]) (st2 := [.int (nI a), .ref 5]) b_X10_read_7_9 rfl (fun hd => ?_)
  refine R2.callV3 (M2 := mX10_isPerson) (As := [.int (nI a)]) (rest := []) hd lk_10_131 okX10_isPerson (by decide) rfl (ev_isPerson E L F (nI a)) (by decide) rfl rfl (Nat.le_of_ble_eq_true rfl) ?_
  refine R2.B (ls2 := [some (.ref 5), some (.int 2), some (.int (nI a)), none, none]) (st2 := [.int (b2i (0 ≤ (nI a) ∧ (nI a) < F 10 5))]) b_X10_read_12_12 rfl (fun hd => ?_)
  refine R2.if_ne 18 hd (by decide) (fun c12 => ?_) (fun c12 => absurd c12 (b2i_nz.mpr (per_t hn hn10 ha)))
  refine R2.B (ls2 := [some (.ref 5), some (.int 2), some (.int (nI a)), none, none]) (st2 := [.int 2, .ref 39]) b_X10_read_18_23 rfl (fun hd => ?_)
  refine R2.aald (k2 := 44) 2 rfl hd rfl (by decide) (by omega) rfl ?_
  refine R2.B (ls2 := [some (.ref 5), some (.int 2), some (.int (nI a)), some (.ref 44), none]) (st2 := [.int (F 44 1)]) b_X10_read_24_29 rfl (fun hd => ?_)
  refine R2.if_eq 38 hd (by decide) (fun c29 => ?_) (fun c29 => absurd (hl) c29)
  refine R2.B (ls2 := [some (.ref 5), some (.int 2), some (.int (nI a)), some (.ref 44), some (.int 0)]) (st2 := []) b_X10_read_38_41 rfl (fun hd => ?_)
  exact lp_read2 E L n a z hn10 ha hz60 z 0 F (by omega) hn hc hz
set_option maxRecDepth 20000 in
set_option maxHeartbeats 1000000 in
theorem x_sheet_size3 (E : EE) (L : Nat) (F : FF) (f x : Int32) (h : 0 ≤ f ∧ f < 3) (h60 : x ≤ 60) (hx : x < 0) : Ev3 E L 16 mX10_sheet [.ref 5, .int 3, .int f, .int x] F (some (.int (-10 - 5))) (up2 F 5 11 5) := by
  refine Ev3.of okX10_sheet.2.2.1 (Nat.le_of_ble_eq_true rfl) ?_
  show R2 E L mX10_sheet 16 0 [some (.ref 5), some (.int 3), some (.int f), some (.int x)] [] F _
  refine R2.B (ls2 := [some (.ref 5), some (.int 3), some (.int f), some (.int x)]) (st2 := [.int 3]) b_X10_sheet_0_1 rfl (fun hd => ?_)
  refine R2.callS3 (M2 := mX10_isSheet) (As := [.int 3]) (rest := []) hd lk_10_153 okX10_isSheet (by decide) (ev_isSheet E L F 3) (by decide) rfl rfl (Nat.le_of_ble_eq_true rfl) ?_
  refine R2.B (ls2 := [some (.ref 5), some (.int 3), some (.int f), some (.int x)]) (st2 := [.int (b2i (0 ≤ 3 ∧ 3 < 4))]) b_X10_sheet_4_4 rfl (fun hd => ?_)
  refine R2.if_eq 20 hd (by decide) (fun c4 => absurd c4 (b2i_nz.mpr (by decide))) (fun c4 => ?_)
  refine R2.B (ls2 := [some (.ref 5), some (.int 3), some (.int f), some (.int x)]) (st2 := [.int f]) b_X10_sheet_7_8 rfl (fun hd => ?_)
  refine R2.callS3 (M2 := mX10_isForm) (As := [.int f]) (rest := []) hd lk_10_264 okX10_isForm (by decide) (ev_isForm E L F f) (by decide) rfl rfl (Nat.le_of_ble_eq_true rfl) ?_
  refine R2.B (ls2 := [some (.ref 5), some (.int 3), some (.int f), some (.int x)]) (st2 := [.int (b2i (0 ≤ f ∧ f < 3))]) b_X10_sheet_11_11 rfl (fun hd => ?_)
  refine R2.if_eq 20 hd (by decide) (fun c11 => ?_) (fun c11 => ?_)
  · have nc11 : ¬ (0 ≤ f ∧ f < 3) := b2i_zero.mp c11
    refine R2.B (ls2 := [some (.ref 5), some (.int 3), some (.int f), some (.int x)]) (st2 := [.int (-2)]) b_X10_sheet_20_22 rfl (fun hd => ?_)
    exact False.elim (by clear hd; grind)
  · have nc11 : 0 ≤ f ∧ f < 3 := b2i_nz.mp c11
    refine R2.B (ls2 := [some (.ref 5), some (.int 3), some (.int f), some (.int x)]) (st2 := [.int 60, .int x]) b_X10_sheet_14_17 rfl (fun hd => ?_)
    refine R2.icmp_le 23 hd (by decide) (fun c17 => ?_) (fun c17 => ?_)
    · refine R2.B (ls2 := [some (.ref 5), some (.int 3), some (.int f), some (.int x)]) (st2 := [.int x]) b_X10_sheet_23_24 rfl (fun hd => ?_)
      refine R2.if_ge 33 hd (by decide) (fun c24 => absurd c24 (Int32.not_le.mpr hx)) (fun c24 => ?_)
      refine R2.B (ls2 := [some (.ref 5), some (.int 3), some (.int f), some (.int x)]) (st2 := [.int 5, .ref 5]) b_X10_sheet_27_29 rfl (fun hd => ?_)
      refine R2.callV3 (M2 := mX10_found) (As := [.int 5]) (rest := []) hd lk_10_160 okX10_found (by decide) rfl (ev_found E L F 5) (by decide) rfl rfl (Nat.le_of_ble_eq_true rfl) ?_
      refine R2.B (ls2 := [some (.ref 5), some (.int 3), some (.int f), some (.int x)]) (st2 := [.int (-10 - 5)]) b_X10_sheet_32_32 rfl (fun hd => ?_)
      exact R2.ret3 (r := some (.int (-10 - 5))) hd trivial rfl rfl rfl
    · refine R2.B (ls2 := [some (.ref 5), some (.int 3), some (.int f), some (.int x)]) (st2 := [.int (-2)]) b_X10_sheet_20_22 rfl (fun hd => ?_)
      exact False.elim (by clear hd; grind)
set_option maxRecDepth 20000 in
set_option maxHeartbeats 1000000 in
theorem x_sheet3 (E : EE) (L : Nat) (F : FF) (f x : Int32) (h : 0 ≤ f ∧ f < 3) (h60 : x ≤ 60) (hx : 0 ≤ x) : Ev3 E L 16 mX10_sheet [.ref 5, .int 3, .int f, .int x] F (some (.int (x))) (fillF (up2 (up2 (up2 F 46 1 0) 46 2 f) 46 3 x) 47 60 0) := by
  refine Ev3.of okX10_sheet.2.2.1 (Nat.le_of_ble_eq_true rfl) ?_
  show R2 E L mX10_sheet 16 0 [some (.ref 5), some (.int 3), some (.int f), some (.int x)] [] F _
  refine R2.B (ls2 := [some (.ref 5), some (.int 3), some (.int f), some (.int x)]) (st2 := [.int 3]) b_X10_sheet_0_1 rfl (fun hd => ?_)
  refine R2.callS3 (M2 := mX10_isSheet) (As := [.int 3]) (rest := []) hd lk_10_153 okX10_isSheet (by decide) (ev_isSheet E L F 3) (by decide) rfl rfl (Nat.le_of_ble_eq_true rfl) ?_
  refine R2.B (ls2 := [some (.ref 5), some (.int 3), some (.int f), some (.int x)]) (st2 := [.int (b2i (0 ≤ 3 ∧ 3 < 4))]) b_X10_sheet_4_4 rfl (fun hd => ?_)
  refine R2.if_eq 20 hd (by decide) (fun c4 => absurd c4 (b2i_nz.mpr (by decide))) (fun c4 => ?_)
  refine R2.B (ls2 := [some (.ref 5), some (.int 3), some (.int f), some (.int x)]) (st2 := [.int f]) b_X10_sheet_7_8 rfl (fun hd => ?_)
  refine R2.callS3 (M2 := mX10_isForm) (As := [.int f]) (rest := []) hd lk_10_264 okX10_isForm (by decide) (ev_isForm E L F f) (by decide) rfl rfl (Nat.le_of_ble_eq_true rfl) ?_
  refine R2.B (ls2 := [some (.ref 5), some (.int 3), some (.int f), some (.int x)]) (st2 := [.int (b2i (0 ≤ f ∧ f < 3))]) b_X10_sheet_11_11 rfl (fun hd => ?_)
  refine R2.if_eq 20 hd (by decide) (fun c11 => ?_) (fun c11 => ?_)
  · have nc11 : ¬ (0 ≤ f ∧ f < 3) := b2i_zero.mp c11
    refine R2.B (ls2 := [some (.ref 5), some (.int 3), some (.int f), some (.int x)]) (st2 := [.int (-2)]) b_X10_sheet_20_22 rfl (fun hd => ?_)
    exact False.elim (by clear hd; grind)
  · have nc11 : 0 ≤ f ∧ f < 3 := b2i_nz.mp c11
    refine R2.B (ls2 := [some (.ref 5), some (.int 3), some (.int f), some (.int x)]) (st2 := [.int 60, .int x]) b_X10_sheet_14_17 rfl (fun hd => ?_)
    refine R2.icmp_le 23 hd (by decide) (fun c17 => ?_) (fun c17 => ?_)
    · refine R2.B (ls2 := [some (.ref 5), some (.int 3), some (.int f), some (.int x)]) (st2 := [.int x]) b_X10_sheet_23_24 rfl (fun hd => ?_)
      refine R2.if_ge 33 hd (by decide) (fun c24 => ?_) (fun c24 => absurd (hx) c24)
      refine R2.B (ls2 := [some (.ref 5), some (.int 3), some (.int f), some (.int x)]) (st2 := [.int 3, .ref 39]) b_X10_sheet_33_38 rfl (fun hd => ?_)
      refine R2.aald (k2 := 46) 3 rfl hd rfl (by decide) (by omega) rfl ?_
      refine R2.B (ls2 := [some (.ref 5), some (.int 3), some (.int f), some (.int x)]) (st2 := [.int x, .int f, .ref 46]) b_X10_sheet_39_41 rfl (fun hd => ?_)
      refine R2.callV3 (M2 := mX5_renew) (As := [.int f, .int x]) (rest := []) hd lk_10_267 okX5_renew (by decide) rfl (ev_renew46 E L F f x) (by decide) rfl rfl (Nat.le_of_ble_eq_true rfl) ?_
      refine R2.B (ls2 := [some (.ref 5), some (.int 3), some (.int f), some (.int x)]) (st2 := [.int x]) b_X10_sheet_44_45 rfl (fun hd => ?_)
      exact R2.ret3 (r := some (.int x)) hd trivial rfl rfl rfl
    · refine R2.B (ls2 := [some (.ref 5), some (.int 3), some (.int f), some (.int x)]) (st2 := [.int (-2)]) b_X10_sheet_20_22 rfl (fun hd => ?_)
      exact False.elim (by clear hd; grind)
set_option maxRecDepth 20000 in
set_option maxHeartbeats 1000000 in
theorem x_lose_null3 (E : EE) (L : Nat) (F : FF) (hl : ¬ F 46 1 = 0) : Ev3 E L 16 mX10_lose [.ref 5, .int 3] F (some (.int (-10 - 1))) (up2 F 5 11 1) := by
  refine Ev3.of okX10_lose.2.2.1 (Nat.le_of_ble_eq_true rfl) ?_
  show R2 E L mX10_lose 16 0 [some (.ref 5), some (.int 3)] [] F _
  refine R2.B (ls2 := [some (.ref 5), some (.int 3)]) (st2 := [.int 3]) b_X10_lose_0_1 rfl (fun hd => ?_)
  refine R2.callS3 (M2 := mX10_isSheet) (As := [.int 3]) (rest := []) hd lk_10_153 okX10_isSheet (by decide) (ev_isSheet E L F 3) (by decide) rfl rfl (Nat.le_of_ble_eq_true rfl) ?_
  refine R2.B (ls2 := [some (.ref 5), some (.int 3)]) (st2 := [.int (b2i (0 ≤ 3 ∧ 3 < 4))]) b_X10_lose_4_4 rfl (fun hd => ?_)
  refine R2.if_ne 10 hd (by decide) (fun c4 => ?_) (fun c4 => absurd c4 (b2i_nz.mpr (by decide)))
  refine R2.B (ls2 := [some (.ref 5), some (.int 3)]) (st2 := [.int 3, .ref 39]) b_X10_lose_10_15 rfl (fun hd => ?_)
  refine R2.aald (k2 := 46) 3 rfl hd rfl (by decide) (by omega) rfl ?_
  refine R2.B (ls2 := [some (.ref 5), some (.int 3)]) (st2 := [.int (F 46 1)]) b_X10_lose_16_19 rfl (fun hd => ?_)
  refine R2.if_eq 28 hd (by decide) (fun c19 => absurd c19 (hl)) (fun c19 => ?_)
  refine R2.B (ls2 := [some (.ref 5), some (.int 3)]) (st2 := [.int 1, .ref 5]) b_X10_lose_22_24 rfl (fun hd => ?_)
  refine R2.callV3 (M2 := mX10_found) (As := [.int 1]) (rest := []) hd lk_10_160 okX10_found (by decide) rfl (ev_found E L F 1) (by decide) rfl rfl (Nat.le_of_ble_eq_true rfl) ?_
  refine R2.B (ls2 := [some (.ref 5), some (.int 3)]) (st2 := [.int (-10 - 1)]) b_X10_lose_27_27 rfl (fun hd => ?_)
  exact R2.ret3 (r := some (.int (-10 - 1))) hd trivial rfl rfl rfl
set_option maxRecDepth 20000 in
set_option maxHeartbeats 1000000 in
theorem x_lose3 (E : EE) (L : Nat) (F : FF) (hl : F 46 1 = 0) : Ev3 E L 16 mX10_lose [.ref 5, .int 3] F (some (.int (F 46 3))) (up2 F 46 1 1) := by
  refine Ev3.of okX10_lose.2.2.1 (Nat.le_of_ble_eq_true rfl) ?_
  show R2 E L mX10_lose 16 0 [some (.ref 5), some (.int 3)] [] F _
  refine R2.B (ls2 := [some (.ref 5), some (.int 3)]) (st2 := [.int 3]) b_X10_lose_0_1 rfl (fun hd => ?_)
  refine R2.callS3 (M2 := mX10_isSheet) (As := [.int 3]) (rest := []) hd lk_10_153 okX10_isSheet (by decide) (ev_isSheet E L F 3) (by decide) rfl rfl (Nat.le_of_ble_eq_true rfl) ?_
  refine R2.B (ls2 := [some (.ref 5), some (.int 3)]) (st2 := [.int (b2i (0 ≤ 3 ∧ 3 < 4))]) b_X10_lose_4_4 rfl (fun hd => ?_)
  refine R2.if_ne 10 hd (by decide) (fun c4 => ?_) (fun c4 => absurd c4 (b2i_nz.mpr (by decide)))
  refine R2.B (ls2 := [some (.ref 5), some (.int 3)]) (st2 := [.int 3, .ref 39]) b_X10_lose_10_15 rfl (fun hd => ?_)
  refine R2.aald (k2 := 46) 3 rfl hd rfl (by decide) (by omega) rfl ?_
  refine R2.B (ls2 := [some (.ref 5), some (.int 3)]) (st2 := [.int (F 46 1)]) b_X10_lose_16_19 rfl (fun hd => ?_)
  refine R2.if_eq 28 hd (by decide) (fun c19 => ?_) (fun c19 => absurd (hl) c19)
  refine R2.B (ls2 := [some (.ref 5), some (.int 3)]) (st2 := [.int 3, .ref 39]) b_X10_lose_28_33 rfl (fun hd => ?_)
  refine R2.aald (k2 := 46) 3 rfl hd rfl (by decide) (by omega) rfl ?_
  refine R2.B (ls2 := [some (.ref 5), some (.int 3)]) (st2 := [.int 1, .ref 46]) b_X10_lose_34_35 rfl (fun hd => ?_)
  refine R2.putf (a := 5) (b := 1) hd (by decide) (by decide) rfl rfl (fun _ => rfl) ?_
  refine R2.B (ls2 := [some (.ref 5), some (.int 3)]) (st2 := [.int 3, .ref 39]) b_X10_lose_38_43 rfl (fun hd => ?_)
  refine R2.aald (k2 := 46) 3 rfl hd rfl (by decide) (by omega) rfl ?_
  refine R2.B (ls2 := [some (.ref 5), some (.int 3)]) (st2 := [.int (F 46 3)]) b_X10_lose_44_47 rfl (fun hd => ?_)
  exact R2.ret3 (r := some (.int (F 46 3))) hd trivial rfl rfl rfl
set_option maxRecDepth 20000 in
set_option maxHeartbeats 1000000 in
theorem x_put_find3 (E : EE) (L : Nat) (F : FF) (f x v : Int32) (h : 0 ≤ f ∧ f < 3) (hf : ¬ fndA (F 46 1) (F 46 2) (F 46 3) f x = 0) : Ev3 E L 16 mX10_put [.ref 5, .int 3, .int f, .int x, .int v] F (some (.int (-10 - (fndA (F 46 1) (F 46 2) (F 46 3) f x)))) (up2 F 5 11 (fndA (F 46 1) (F 46 2) (F 46 3) f x)) := by
  refine Ev3.of okX10_put.2.2.1 (Nat.le_of_ble_eq_true rfl) ?_
  show R2 E L mX10_put 16 0 [some (.ref 5), some (.int 3), some (.int f), some (.int x), some (.int v), none] [] F _
  refine R2.B (ls2 := [some (.ref 5), some (.int 3), some (.int f), some (.int x), some (.int v), none]) (st2 := [.int 3]) b_X10_put_0_1 rfl (fun hd => ?_)
  refine R2.callS3 (M2 := mX10_isSheet) (As := [.int 3]) (rest := []) hd lk_10_153 okX10_isSheet (by decide) (ev_isSheet E L F 3) (by decide) rfl rfl (Nat.le_of_ble_eq_true rfl) ?_
  refine R2.B (ls2 := [some (.ref 5), some (.int 3), some (.int f), some (.int x), some (.int v), none]) (st2 := [.int (b2i (0 ≤ 3 ∧ 3 < 4))]) b_X10_put_4_4 rfl (fun hd => ?_)
  refine R2.if_eq 14 hd (by decide) (fun c4 => absurd c4 (b2i_nz.mpr (by decide))) (fun c4 => ?_)
  refine R2.B (ls2 := [some (.ref 5), some (.int 3), some (.int f), some (.int x), some (.int v), none]) (st2 := [.int f]) b_X10_put_7_8 rfl (fun hd => ?_)
  refine R2.callS3 (M2 := mX10_isForm) (As := [.int f]) (rest := []) hd lk_10_264 okX10_isForm (by decide) (ev_isForm E L F f) (by decide) rfl rfl (Nat.le_of_ble_eq_true rfl) ?_
  refine R2.B (ls2 := [some (.ref 5), some (.int 3), some (.int f), some (.int x), some (.int v), none]) (st2 := [.int (b2i (0 ≤ f ∧ f < 3))]) b_X10_put_11_11 rfl (fun hd => ?_)
  refine R2.if_ne 17 hd (by decide) (fun c11 => ?_) (fun c11 => ?_)
  · have nc11 : 0 ≤ f ∧ f < 3 := b2i_nz.mp c11
    refine R2.B (ls2 := [some (.ref 5), some (.int 3), some (.int f), some (.int x), some (.int v), none]) (st2 := [.int 3, .ref 39]) b_X10_put_17_22 rfl (fun hd => ?_)
    refine R2.aald (k2 := 46) 3 rfl hd rfl (by decide) (by omega) rfl ?_
    refine R2.B (ls2 := [some (.ref 5), some (.int 3), some (.int f), some (.int x), some (.int v), none]) (st2 := [.int x, .int f, .ref 46]) b_X10_put_23_25 rfl (fun hd => ?_)
    refine R2.callV3 (M2 := mX5_findingAt) (As := [.int f, .int x]) (rest := []) hd lk_10_271 okX5_findingAt (by decide) rfl (ev_findingAt46 E L F f x) (by decide) rfl rfl (Nat.le_of_ble_eq_true rfl) ?_
    refine R2.B (ls2 := [some (.ref 5), some (.int 3), some (.int f), some (.int x), some (.int v), some (.int (fndA (F 46 1) (F 46 2) (F 46 3) f x))]) (st2 := [.int (fndA (F 46 1) (F 46 2) (F 46 3) f x)]) b_X10_put_28_32 rfl (fun hd => ?_)
    refine R2.if_eq 42 hd (by decide) (fun c32 => absurd c32 (hf)) (fun c32 => ?_)
    refine R2.B (ls2 := [some (.ref 5), some (.int 3), some (.int f), some (.int x), some (.int v), some (.int (fndA (F 46 1) (F 46 2) (F 46 3) f x))]) (st2 := [.int (fndA (F 46 1) (F 46 2) (F 46 3) f x), .ref 5]) b_X10_put_35_38 rfl (fun hd => ?_)
    refine R2.callV3 (M2 := mX10_found) (As := [.int (fndA (F 46 1) (F 46 2) (F 46 3) f x)]) (rest := []) hd lk_10_160 okX10_found (by decide) rfl (ev_found E L F (fndA (F 46 1) (F 46 2) (F 46 3) f x)) (by decide) rfl rfl (Nat.le_of_ble_eq_true rfl) ?_
    refine R2.B (ls2 := [some (.ref 5), some (.int 3), some (.int f), some (.int x), some (.int v), some (.int (fndA (F 46 1) (F 46 2) (F 46 3) f x))]) (st2 := [.int (-10 - (fndA (F 46 1) (F 46 2) (F 46 3) f x))]) b_X10_put_41_41 rfl (fun hd => ?_)
    exact R2.ret3 (r := some (.int (-10 - (fndA (F 46 1) (F 46 2) (F 46 3) f x)))) hd trivial rfl rfl rfl
  · have nc11 : ¬ (0 ≤ f ∧ f < 3) := b2i_zero.mp c11
    refine R2.B (ls2 := [some (.ref 5), some (.int 3), some (.int f), some (.int x), some (.int v), none]) (st2 := [.int (-2)]) b_X10_put_14_16 rfl (fun hd => ?_)
    exact False.elim (by clear hd; grind)
set_option maxRecDepth 20000 in
set_option maxHeartbeats 1000000 in
theorem x_put3 (E : EE) (L : Nat) (F : FF) (z : Nat) (hz : F 46 3 = nI z) (hz60 : z ≤ 60) (f v : Int32) (h : 0 ≤ f ∧ f < 3) (j : Nat) (hj : j < z) (hf : fndA (F 46 1) (F 46 2) (F 46 3) f (nI j) = 0) : Ev3 E L 16 mX10_put [.ref 5, .int 3, .int f, .int (nI j), .int v] F (some (.int (1))) (up2 F 47 j (nrw (F 46 2) v)) := by
  refine Ev3.of okX10_put.2.2.1 (Nat.le_of_ble_eq_true rfl) ?_
  show R2 E L mX10_put 16 0 [some (.ref 5), some (.int 3), some (.int f), some (.int (nI j)), some (.int v), none] [] F _
  refine R2.B (ls2 := [some (.ref 5), some (.int 3), some (.int f), some (.int (nI j)), some (.int v), none]) (st2 := [.int 3]) b_X10_put_0_1 rfl (fun hd => ?_)
  refine R2.callS3 (M2 := mX10_isSheet) (As := [.int 3]) (rest := []) hd lk_10_153 okX10_isSheet (by decide) (ev_isSheet E L F 3) (by decide) rfl rfl (Nat.le_of_ble_eq_true rfl) ?_
  refine R2.B (ls2 := [some (.ref 5), some (.int 3), some (.int f), some (.int (nI j)), some (.int v), none]) (st2 := [.int (b2i (0 ≤ 3 ∧ 3 < 4))]) b_X10_put_4_4 rfl (fun hd => ?_)
  refine R2.if_eq 14 hd (by decide) (fun c4 => absurd c4 (b2i_nz.mpr (by decide))) (fun c4 => ?_)
  refine R2.B (ls2 := [some (.ref 5), some (.int 3), some (.int f), some (.int (nI j)), some (.int v), none]) (st2 := [.int f]) b_X10_put_7_8 rfl (fun hd => ?_)
  refine R2.callS3 (M2 := mX10_isForm) (As := [.int f]) (rest := []) hd lk_10_264 okX10_isForm (by decide) (ev_isForm E L F f) (by decide) rfl rfl (Nat.le_of_ble_eq_true rfl) ?_
  refine R2.B (ls2 := [some (.ref 5), some (.int 3), some (.int f), some (.int (nI j)), some (.int v), none]) (st2 := [.int (b2i (0 ≤ f ∧ f < 3))]) b_X10_put_11_11 rfl (fun hd => ?_)
  refine R2.if_ne 17 hd (by decide) (fun c11 => ?_) (fun c11 => ?_)
  · have nc11 : 0 ≤ f ∧ f < 3 := b2i_nz.mp c11
    refine R2.B (ls2 := [some (.ref 5), some (.int 3), some (.int f), some (.int (nI j)), some (.int v), none]) (st2 := [.int 3, .ref 39]) b_X10_put_17_22 rfl (fun hd => ?_)
    refine R2.aald (k2 := 46) 3 rfl hd rfl (by decide) (by omega) rfl ?_
    refine R2.B (ls2 := [some (.ref 5), some (.int 3), some (.int f), some (.int (nI j)), some (.int v), none]) (st2 := [.int (nI j), .int f, .ref 46]) b_X10_put_23_25 rfl (fun hd => ?_)
    refine R2.callV3 (M2 := mX5_findingAt) (As := [.int f, .int (nI j)]) (rest := []) hd lk_10_271 okX5_findingAt (by decide) rfl (ev_findingAt46 E L F f (nI j)) (by decide) rfl rfl (Nat.le_of_ble_eq_true rfl) ?_
    refine R2.B (ls2 := [some (.ref 5), some (.int 3), some (.int f), some (.int (nI j)), some (.int v), some (.int (fndA (F 46 1) (F 46 2) (F 46 3) f (nI j)))]) (st2 := [.int (fndA (F 46 1) (F 46 2) (F 46 3) f (nI j))]) b_X10_put_28_32 rfl (fun hd => ?_)
    refine R2.if_eq 42 hd (by decide) (fun c32 => ?_) (fun c32 => absurd (hf) c32)
    refine R2.B (ls2 := [some (.ref 5), some (.int 3), some (.int f), some (.int (nI j)), some (.int v), some (.int (fndA (F 46 1) (F 46 2) (F 46 3) f (nI j)))]) (st2 := [.int 3, .ref 39]) b_X10_put_42_47 rfl (fun hd => ?_)
    refine R2.aald (k2 := 46) 3 rfl hd rfl (by decide) (by omega) rfl ?_
    refine R2.B (ls2 := [some (.ref 5), some (.int 3), some (.int f), some (.int (nI j)), some (.int v), some (.int (fndA (F 46 1) (F 46 2) (F 46 3) f (nI j)))]) (st2 := [.int v, .int (nI j), .ref 46]) b_X10_put_48_51 rfl (fun hd => ?_)
    refine R2.callV3 (M2 := mX5_store) (As := [.int (nI j), .int v]) (rest := []) hd lk_10_274 okX5_store (by decide) rfl (ev_store46 E L F j v (by omega) (by rw [hz]; exact nI_lt hj (by omega))) (by decide) rfl rfl (Nat.le_of_ble_eq_true rfl) ?_
    refine R2.B (ls2 := [some (.ref 5), some (.int 3), some (.int f), some (.int (nI j)), some (.int v), some (.int (fndA (F 46 1) (F 46 2) (F 46 3) f (nI j)))]) (st2 := [.int 1]) b_X10_put_54_55 rfl (fun hd => ?_)
    exact R2.ret3 (r := some (.int 1)) hd trivial rfl rfl rfl
  · have nc11 : ¬ (0 ≤ f ∧ f < 3) := b2i_zero.mp c11
    refine R2.B (ls2 := [some (.ref 5), some (.int 3), some (.int f), some (.int (nI j)), some (.int v), none]) (st2 := [.int (-2)]) b_X10_put_14_16 rfl (fun hd => ?_)
    exact False.elim (by clear hd; grind)
set_option maxRecDepth 20000 in
set_option maxHeartbeats 1000000 in
theorem x_get_find3 (E : EE) (L : Nat) (F : FF) (f x : Int32) (h : 0 ≤ f ∧ f < 3) (hf : ¬ fndA (F 46 1) (F 46 2) (F 46 3) f x = 0) : Ev3 E L 16 mX10_get [.ref 5, .int 3, .int f, .int x] F (some (.int (-2147483648))) (up2 F 5 11 (fndA (F 46 1) (F 46 2) (F 46 3) f x)) := by
  refine Ev3.of okX10_get.2.2.1 (Nat.le_of_ble_eq_true rfl) ?_
  show R2 E L mX10_get 16 0 [some (.ref 5), some (.int 3), some (.int f), some (.int x), none] [] F _
  refine R2.B (ls2 := [some (.ref 5), some (.int 3), some (.int f), some (.int x), none]) (st2 := [.int 3]) b_X10_get_0_1 rfl (fun hd => ?_)
  refine R2.callS3 (M2 := mX10_isSheet) (As := [.int 3]) (rest := []) hd lk_10_153 okX10_isSheet (by decide) (ev_isSheet E L F 3) (by decide) rfl rfl (Nat.le_of_ble_eq_true rfl) ?_
  refine R2.B (ls2 := [some (.ref 5), some (.int 3), some (.int f), some (.int x), none]) (st2 := [.int (b2i (0 ≤ 3 ∧ 3 < 4))]) b_X10_get_4_4 rfl (fun hd => ?_)
  refine R2.if_eq 14 hd (by decide) (fun c4 => absurd c4 (b2i_nz.mpr (by decide))) (fun c4 => ?_)
  refine R2.B (ls2 := [some (.ref 5), some (.int 3), some (.int f), some (.int x), none]) (st2 := [.int f]) b_X10_get_7_8 rfl (fun hd => ?_)
  refine R2.callS3 (M2 := mX10_isForm) (As := [.int f]) (rest := []) hd lk_10_264 okX10_isForm (by decide) (ev_isForm E L F f) (by decide) rfl rfl (Nat.le_of_ble_eq_true rfl) ?_
  refine R2.B (ls2 := [some (.ref 5), some (.int 3), some (.int f), some (.int x), none]) (st2 := [.int (b2i (0 ≤ f ∧ f < 3))]) b_X10_get_11_11 rfl (fun hd => ?_)
  refine R2.if_ne 18 hd (by decide) (fun c11 => ?_) (fun c11 => absurd c11 (b2i_nz.mpr h))
  refine R2.B (ls2 := [some (.ref 5), some (.int 3), some (.int f), some (.int x), none]) (st2 := [.int 3, .ref 39]) b_X10_get_18_23 rfl (fun hd => ?_)
  refine R2.aald (k2 := 46) 3 rfl hd rfl (by decide) (by omega) rfl ?_
  refine R2.B (ls2 := [some (.ref 5), some (.int 3), some (.int f), some (.int x), none]) (st2 := [.int x, .int f, .ref 46]) b_X10_get_24_26 rfl (fun hd => ?_)
  refine R2.callV3 (M2 := mX5_findingAt) (As := [.int f, .int x]) (rest := []) hd lk_10_271 okX5_findingAt (by decide) rfl (ev_findingAt46 E L F f x) (by decide) rfl rfl (Nat.le_of_ble_eq_true rfl) ?_
  refine R2.B (ls2 := [some (.ref 5), some (.int 3), some (.int f), some (.int x), some (.int (fndA (F 46 1) (F 46 2) (F 46 3) f x))]) (st2 := [.int (fndA (F 46 1) (F 46 2) (F 46 3) f x)]) b_X10_get_29_33 rfl (fun hd => ?_)
  refine R2.if_eq 46 hd (by decide) (fun c33 => absurd c33 (hf)) (fun c33 => ?_)
  refine R2.B (ls2 := [some (.ref 5), some (.int 3), some (.int f), some (.int x), some (.int (fndA (F 46 1) (F 46 2) (F 46 3) f x))]) (st2 := [.int (fndA (F 46 1) (F 46 2) (F 46 3) f x), .ref 5]) b_X10_get_36_39 rfl (fun hd => ?_)
  refine R2.putf (a := 10) (b := 11) hd (by decide) (by decide) rfl rfl (fun _ => rfl) ?_
  refine R2.B (ls2 := [some (.ref 5), some (.int 3), some (.int f), some (.int x), some (.int (fndA (F 46 1) (F 46 2) (F 46 3) f x))]) (st2 := [.int (-2147483648)]) b_X10_get_42_45 rfl (fun hd => ?_)
  exact R2.ret3 (r := some (.int (-2147483648))) hd trivial rfl rfl rfl
set_option maxRecDepth 20000 in
set_option maxHeartbeats 1000000 in
theorem x_get3 (E : EE) (L : Nat) (F : FF) (f : Int32) (h : 0 ≤ f ∧ f < 3) (j : Nat) (hj : j < 60) (hf : fndA (F 46 1) (F 46 2) (F 46 3) f (nI j) = 0) : Ev3 E L 16 mX10_get [.ref 5, .int 3, .int f, .int (nI j)] F (some (.int (F 47 j))) F := by
  refine Ev3.of okX10_get.2.2.1 (Nat.le_of_ble_eq_true rfl) ?_
  show R2 E L mX10_get 16 0 [some (.ref 5), some (.int 3), some (.int f), some (.int (nI j)), none] [] F _
  refine R2.B (ls2 := [some (.ref 5), some (.int 3), some (.int f), some (.int (nI j)), none]) (st2 := [.int 3]) b_X10_get_0_1 rfl (fun hd => ?_)
  refine R2.callS3 (M2 := mX10_isSheet) (As := [.int 3]) (rest := []) hd lk_10_153 okX10_isSheet (by decide) (ev_isSheet E L F 3) (by decide) rfl rfl (Nat.le_of_ble_eq_true rfl) ?_
  refine R2.B (ls2 := [some (.ref 5), some (.int 3), some (.int f), some (.int (nI j)), none]) (st2 := [.int (b2i (0 ≤ 3 ∧ 3 < 4))]) b_X10_get_4_4 rfl (fun hd => ?_)
  refine R2.if_eq 14 hd (by decide) (fun c4 => absurd c4 (b2i_nz.mpr (by decide))) (fun c4 => ?_)
  refine R2.B (ls2 := [some (.ref 5), some (.int 3), some (.int f), some (.int (nI j)), none]) (st2 := [.int f]) b_X10_get_7_8 rfl (fun hd => ?_)
  refine R2.callS3 (M2 := mX10_isForm) (As := [.int f]) (rest := []) hd lk_10_264 okX10_isForm (by decide) (ev_isForm E L F f) (by decide) rfl rfl (Nat.le_of_ble_eq_true rfl) ?_
  refine R2.B (ls2 := [some (.ref 5), some (.int 3), some (.int f), some (.int (nI j)), none]) (st2 := [.int (b2i (0 ≤ f ∧ f < 3))]) b_X10_get_11_11 rfl (fun hd => ?_)
  refine R2.if_ne 18 hd (by decide) (fun c11 => ?_) (fun c11 => absurd c11 (b2i_nz.mpr h))
  refine R2.B (ls2 := [some (.ref 5), some (.int 3), some (.int f), some (.int (nI j)), none]) (st2 := [.int 3, .ref 39]) b_X10_get_18_23 rfl (fun hd => ?_)
  refine R2.aald (k2 := 46) 3 rfl hd rfl (by decide) (by omega) rfl ?_
  refine R2.B (ls2 := [some (.ref 5), some (.int 3), some (.int f), some (.int (nI j)), none]) (st2 := [.int (nI j), .int f, .ref 46]) b_X10_get_24_26 rfl (fun hd => ?_)
  refine R2.callV3 (M2 := mX5_findingAt) (As := [.int f, .int (nI j)]) (rest := []) hd lk_10_271 okX5_findingAt (by decide) rfl (ev_findingAt46 E L F f (nI j)) (by decide) rfl rfl (Nat.le_of_ble_eq_true rfl) ?_
  refine R2.B (ls2 := [some (.ref 5), some (.int 3), some (.int f), some (.int (nI j)), some (.int (fndA (F 46 1) (F 46 2) (F 46 3) f (nI j)))]) (st2 := [.int (fndA (F 46 1) (F 46 2) (F 46 3) f (nI j))]) b_X10_get_29_33 rfl (fun hd => ?_)
  refine R2.if_eq 46 hd (by decide) (fun c33 => ?_) (fun c33 => absurd (hf) c33)
  refine R2.B (ls2 := [some (.ref 5), some (.int 3), some (.int f), some (.int (nI j)), some (.int (fndA (F 46 1) (F 46 2) (F 46 3) f (nI j)))]) (st2 := [.int 3, .ref 39]) b_X10_get_46_51 rfl (fun hd => ?_)
  refine R2.aald (k2 := 46) 3 rfl hd rfl (by decide) (by omega) rfl ?_
  refine R2.B (ls2 := [some (.ref 5), some (.int 3), some (.int f), some (.int (nI j)), some (.int (fndA (F 46 1) (F 46 2) (F 46 3) f (nI j)))]) (st2 := [.int (nI j), .ref 47]) b_X10_get_52_56 rfl (fun hd => ?_)
  refine R2.iald j rfl hd rfl (fun _ => rfl) (by decide) (by omega) ?_
  refine R2.B (ls2 := [some (.ref 5), some (.int 3), some (.int f), some (.int (nI j)), some (.int (fndA (F 46 1) (F 46 2) (F 46 3) f (nI j)))]) (st2 := [.int (F 47 j)]) b_X10_get_57_57 rfl (fun hd => ?_)
  exact R2.ret3 (r := some (.int (F 47 j))) hd trivial rfl rfl rfl
set_option maxRecDepth 20000 in
set_option maxHeartbeats 1000000 in
theorem x_write_null3 (E : EE) (L : Nat) (F : FF) (hl : ¬ F 46 1 = 0) : Ev3 E L 16 mX10_write [.ref 5, .int 3] F (some (.int (-10 - 1))) (up2 F 5 11 1) := by
  refine Ev3.of okX10_write.2.2.1 (Nat.le_of_ble_eq_true rfl) ?_
  show R2 E L mX10_write 16 0 [some (.ref 5), some (.int 3), none, none] [] F _
  refine R2.B (ls2 := [some (.ref 5), some (.int 3), none, none]) (st2 := [.int 3]) b_X10_write_0_1 rfl (fun hd => ?_)
  refine R2.callS3 (M2 := mX10_isSheet) (As := [.int 3]) (rest := []) hd lk_10_153 okX10_isSheet (by decide) (ev_isSheet E L F 3) (by decide) rfl rfl (Nat.le_of_ble_eq_true rfl) ?_
  refine R2.B (ls2 := [some (.ref 5), some (.int 3), none, none]) (st2 := [.int (b2i (0 ≤ 3 ∧ 3 < 4))]) b_X10_write_4_4 rfl (fun hd => ?_)
  refine R2.if_ne 10 hd (by decide) (fun c4 => ?_) (fun c4 => absurd c4 (b2i_nz.mpr (by decide)))
  refine R2.B (ls2 := [some (.ref 5), some (.int 3), none, none]) (st2 := [.int 3, .ref 39]) b_X10_write_10_15 rfl (fun hd => ?_)
  refine R2.aald (k2 := 46) 3 rfl hd rfl (by decide) (by omega) rfl ?_
  refine R2.B (ls2 := [some (.ref 5), some (.int 3), none, none]) (st2 := [.int (F 46 1)]) b_X10_write_16_19 rfl (fun hd => ?_)
  refine R2.if_eq 28 hd (by decide) (fun c19 => absurd c19 (hl)) (fun c19 => ?_)
  refine R2.B (ls2 := [some (.ref 5), some (.int 3), none, none]) (st2 := [.int 1, .ref 5]) b_X10_write_22_24 rfl (fun hd => ?_)
  refine R2.callV3 (M2 := mX10_found) (As := [.int 1]) (rest := []) hd lk_10_160 okX10_found (by decide) rfl (ev_found E L F 1) (by decide) rfl rfl (Nat.le_of_ble_eq_true rfl) ?_
  refine R2.B (ls2 := [some (.ref 5), some (.int 3), none, none]) (st2 := [.int (-10 - 1)]) b_X10_write_27_27 rfl (fun hd => ?_)
  exact R2.ret3 (r := some (.int (-10 - 1))) hd trivial rfl rfl rfl
set_option maxRecDepth 20000 in
set_option maxHeartbeats 2000000 in
theorem lp_write3 (E : EE) (L : Nat) (z W : Nat) (hz60 : z ≤ 60) (hW : W ≤ z) (hW10 : W ≤ 10) : ∀ (k : Nat) (j : Nat) (F : FF), j + k = W → F 46 3 = nI z → R2 E L mX10_write 16 50 [some (.ref 5), some (.int 3), some (.int (nI W)), some (.int (nI j))] [] F (fun r' F' => r' = some (.int (nI W)) ∧ F' = wrL 46 k j F) := by
  intro k
  induction k with
  | zero =>
    intro j F hi h3
    refine R2.B (ls2 := [some (.ref 5), some (.int 3), some (.int (nI W)), some (.int (nI j))]) (st2 := [.int (nI W), .int (nI j)]) b_X10_write_50_52 rfl (fun hd => ?_)
    refine R2.icmp_ge 80 hd (by decide) (fun c52 => ?_) (fun c52 => absurd (nI_le (by omega) (by omega)) c52)
    refine R2.B (ls2 := [some (.ref 5), some (.int 3), some (.int (nI W)), some (.int (nI j))]) (st2 := [.int (nI W)]) b_X10_write_80_81 rfl (fun hd => ?_)
    exact R2.ret3 (r := some (.int (nI W))) hd trivial rfl rfl rfl
  | succ k ih =>
    intro j F hi h3
    refine R2.B (ls2 := [some (.ref 5), some (.int 3), some (.int (nI W)), some (.int (nI j))]) (st2 := [.int (nI W), .int (nI j)]) b_X10_write_50_52 rfl (fun hd => ?_)
    refine R2.icmp_ge 80 hd (by decide) (fun c52 => absurd c52 (nI_ge (by omega) (by omega))) (fun c52 => ?_)
    refine R2.B (ls2 := [some (.ref 5), some (.int 3), some (.int (nI W)), some (.int (nI j))]) (st2 := [.int 3, .ref 39]) b_X10_write_55_60 rfl (fun hd => ?_)
    refine R2.aald (k2 := 46) 3 rfl hd rfl (by decide) (by omega) rfl ?_
    refine R2.B (ls2 := [some (.ref 5), some (.int 3), some (.int (nI W)), some (.int (nI j))]) (st2 := [.int (nI j), .ref 15, .int (nI j), .ref 46]) b_X10_write_61_70 rfl (fun hd => ?_)
    refine R2.iald j rfl hd rfl (fun _ => rfl) (by decide) (by omega) ?_
    refine R2.B (ls2 := [some (.ref 5), some (.int 3), some (.int (nI W)), some (.int (nI j))]) (st2 := [.int (F 15 j), .int (nI j), .ref 46]) b_X10_write_71_71 rfl (fun hd => ?_)
    refine R2.callV3 (M2 := mX5_store) (As := [.int (nI j), .int (F 15 j)]) (rest := []) hd lk_10_274 okX5_store (by decide) rfl (ev_store46 E L F j (F 15 j) (by omega) (by rw [h3]; exact nI_lt (show j < z by omega) (by omega))) (by decide) rfl rfl (Nat.le_of_ble_eq_true rfl) ?_
    refine R2.B (ls2 := [some (.ref 5), some (.int 3), some (.int (nI W)), some (.int ((nI j) + 1))]) (st2 := []) b_X10_write_74_50 rfl (fun hd => ?_)
    rw [show ((nI j) + 1 : Int32) = nI (j + 1) from nI_add j 1]
    exact ih (j + 1) _ (by omega) h3
set_option maxRecDepth 20000 in
set_option maxHeartbeats 1000000 in
theorem x_write3 (E : EE) (L : Nat) (F : FF) (n : Nat) (hn : F 10 5 = nI n) (hn10 : n ≤ 10) (z : Nat) (hz : F 46 3 = nI z) (hz60 : z ≤ 60) (hl : F 46 1 = 0) : Ev3 E L 16 mX10_write [.ref 5, .int 3] F (some (.int (nI (if n < z then n else z)))) (wrL 46 (if n < z then n else z) 0 F) := by
  refine Ev3.of okX10_write.2.2.1 (Nat.le_of_ble_eq_true rfl) ?_
  show R2 E L mX10_write 16 0 [some (.ref 5), some (.int 3), none, none] [] F _
  refine R2.B (ls2 := [some (.ref 5), some (.int 3), none, none]) (st2 := [.int 3]) b_X10_write_0_1 rfl (fun hd => ?_)
  refine R2.callS3 (M2 := mX10_isSheet) (As := [.int 3]) (rest := []) hd lk_10_153 okX10_isSheet (by decide) (ev_isSheet E L F 3) (by decide) rfl rfl (Nat.le_of_ble_eq_true rfl) ?_
  refine R2.B (ls2 := [some (.ref 5), some (.int 3), none, none]) (st2 := [.int (b2i (0 ≤ 3 ∧ 3 < 4))]) b_X10_write_4_4 rfl (fun hd => ?_)
  refine R2.if_ne 10 hd (by decide) (fun c4 => ?_) (fun c4 => absurd c4 (b2i_nz.mpr (by decide)))
  refine R2.B (ls2 := [some (.ref 5), some (.int 3), none, none]) (st2 := [.int 3, .ref 39]) b_X10_write_10_15 rfl (fun hd => ?_)
  refine R2.aald (k2 := 46) 3 rfl hd rfl (by decide) (by omega) rfl ?_
  refine R2.B (ls2 := [some (.ref 5), some (.int 3), none, none]) (st2 := [.int (F 46 1)]) b_X10_write_16_19 rfl (fun hd => ?_)
  refine R2.if_eq 28 hd (by decide) (fun c19 => ?_) (fun c19 => absurd (hl) c19)
  refine R2.B (ls2 := [some (.ref 5), some (.int 3), none, none]) (st2 := [.int 3, .ref 39]) b_X10_write_28_33 rfl (fun hd => ?_)
  refine R2.aald (k2 := 46) 3 rfl hd rfl (by decide) (by omega) rfl ?_
  refine R2.B (ls2 := [some (.ref 5), some (.int 3), none, none]) (st2 := [.int (F 10 5), .int (F 46 3)]) b_X10_write_34_44 rfl (fun hd => ?_)
  rw [show (F 10 5 : Int32) = nI n from hn]
  rw [show (F 46 3 : Int32) = nI z from hz]
  refine R2.mmin hd ma_10_291 (by decide) (Nat.le_of_ble_eq_true rfl) ?_
  refine R2.top (show (if nI n < nI z then nI n else nI z : Int32) = nI (if n < z then n else z) from min2 (by omega) (by omega)) ?_
  refine R2.B (ls2 := [some (.ref 5), some (.int 3), some (.int (nI (if n < z then n else z))), some (.int 0)]) (st2 := []) b_X10_write_47_50 rfl (fun hd => ?_)
  exact lp_write3 E L z (if n < z then n else z) hz60 (by split <;> omega) (by split <;> omega) (if n < z then n else z) 0 F (by omega) hz
set_option maxRecDepth 20000 in
set_option maxHeartbeats 1000000 in
theorem x_read_null3 (E : EE) (L : Nat) (F : FF) (n : Nat) (hn : F 10 5 = nI n) (hn10 : n ≤ 10) (a : Nat) (ha : a < n) (hl : ¬ F 46 1 = 0) : Ev3 E L 16 mX10_read [.ref 5, .int 3, .int (nI a)] F (some (.int (-10 - 1))) (up2 F 5 11 1) := by
  refine Ev3.of okX10_read.2.2.1 (Nat.le_of_ble_eq_true rfl) ?_
  show R2 E L mX10_read 16 0 [some (.ref 5), some (.int 3), some (.int (nI a)), none, none] [] F _
  refine R2.B (ls2 := [some (.ref 5), some (.int 3), some (.int (nI a)), none, none]) (st2 := [.int 3]) b_X10_read_0_1 rfl (fun hd => ?_)
  refine R2.callS3 (M2 := mX10_isSheet) (As := [.int 3]) (rest := []) hd lk_10_153 okX10_isSheet (by decide) (ev_isSheet E L F 3) (by decide) rfl rfl (Nat.le_of_ble_eq_true rfl) ?_
  refine R2.B (ls2 := [some (.ref 5), some (.int 3), some (.int (nI a)), none, none]) (st2 := [.int (b2i (0 ≤ 3 ∧ 3 < 4))]) b_X10_read_4_4 rfl (fun hd => ?_)
  refine R2.if_eq 15 hd (by decide) (fun c4 => absurd c4 (b2i_nz.mpr (by decide))) (fun c4 => ?_)
  refine R2.B (ls2 := [some (.ref 5), some (.int 3), some (.int (nI a)), none, none]) (st2 := [.int (nI a), .ref 5]) b_X10_read_7_9 rfl (fun hd => ?_)
  refine R2.callV3 (M2 := mX10_isPerson) (As := [.int (nI a)]) (rest := []) hd lk_10_131 okX10_isPerson (by decide) rfl (ev_isPerson E L F (nI a)) (by decide) rfl rfl (Nat.le_of_ble_eq_true rfl) ?_
  refine R2.B (ls2 := [some (.ref 5), some (.int 3), some (.int (nI a)), none, none]) (st2 := [.int (b2i (0 ≤ (nI a) ∧ (nI a) < F 10 5))]) b_X10_read_12_12 rfl (fun hd => ?_)
  refine R2.if_ne 18 hd (by decide) (fun c12 => ?_) (fun c12 => absurd c12 (b2i_nz.mpr (per_t hn hn10 ha)))
  refine R2.B (ls2 := [some (.ref 5), some (.int 3), some (.int (nI a)), none, none]) (st2 := [.int 3, .ref 39]) b_X10_read_18_23 rfl (fun hd => ?_)
  refine R2.aald (k2 := 46) 3 rfl hd rfl (by decide) (by omega) rfl ?_
  refine R2.B (ls2 := [some (.ref 5), some (.int 3), some (.int (nI a)), some (.ref 46), none]) (st2 := [.int (F 46 1)]) b_X10_read_24_29 rfl (fun hd => ?_)
  refine R2.if_eq 38 hd (by decide) (fun c29 => absurd c29 (hl)) (fun c29 => ?_)
  refine R2.B (ls2 := [some (.ref 5), some (.int 3), some (.int (nI a)), some (.ref 46), none]) (st2 := [.int 1, .ref 5]) b_X10_read_32_34 rfl (fun hd => ?_)
  refine R2.callV3 (M2 := mX10_found) (As := [.int 1]) (rest := []) hd lk_10_160 okX10_found (by decide) rfl (ev_found E L F 1) (by decide) rfl rfl (Nat.le_of_ble_eq_true rfl) ?_
  refine R2.B (ls2 := [some (.ref 5), some (.int 3), some (.int (nI a)), some (.ref 46), none]) (st2 := [.int (-10 - 1)]) b_X10_read_37_37 rfl (fun hd => ?_)
  exact R2.ret3 (r := some (.int (-10 - 1))) hd trivial rfl rfl rfl
set_option maxRecDepth 20000 in
set_option maxHeartbeats 2000000 in
theorem lp_read3 (E : EE) (L : Nat) (n a z : Nat) (hn10 : n ≤ 10) (ha : a < n) (hz60 : z ≤ 60) : ∀ (k : Nat) (j : Nat) (F : FF), j + k = z → F 10 5 = nI n → CST F → F 46 3 = nI z → R2 E L mX10_read 16 41 [some (.ref 5), some (.int 3), some (.int (nI a)), some (.ref 46), some (.int (nI j))] [] F (fun r' F' => r' = some (.int (nI (rdL n a 46 k j F).1)) ∧ F' = (rdL n a 46 k j F).2) := by
  intro k
  induction k with
  | zero =>
    intro j F hi h5 hc h3
    refine R2.B (ls2 := [some (.ref 5), some (.int 3), some (.int (nI a)), some (.ref 46), some (.int (nI j))]) (st2 := [.int (F 46 3), .int (nI j)]) b_X10_read_41_47 rfl (fun hd => ?_)
    rw [show (F 46 3 : Int32) = nI z from h3]
    refine R2.icmp_ge 84 hd (by decide) (fun c47 => ?_) (fun c47 => absurd (nI_le (by omega) (by omega)) c47)
    refine R2.B (ls2 := [some (.ref 5), some (.int 3), some (.int (nI a)), some (.ref 46), some (.int (nI j))]) (st2 := [.int (nI j)]) b_X10_read_84_86 rfl (fun hd => ?_)
    exact R2.ret3 (r := some (.int (nI j))) hd trivial rfl rfl rfl
  | succ k ih =>
    intro j F hi h5 hc h3
    refine R2.B (ls2 := [some (.ref 5), some (.int 3), some (.int (nI a)), some (.ref 46), some (.int (nI j))]) (st2 := [.int (F 46 3), .int (nI j)]) b_X10_read_41_47 rfl (fun hd => ?_)
    rw [show (F 46 3 : Int32) = nI z from h3]
    refine R2.icmp_ge 84 hd (by decide) (fun c47 => absurd c47 (nI_ge (by omega) (by omega))) (fun c47 => ?_)
    refine R2.B (ls2 := [some (.ref 5), some (.int 3), some (.int (nI a)), some (.ref 46), some (.int (nI j))]) (st2 := [.int (nI j), .ref 47]) b_X10_read_50_56 rfl (fun hd => ?_)
    refine R2.iald j rfl hd rfl (fun _ => rfl) (by decide) (by omega) ?_
    refine R2.B (ls2 := [some (.ref 5), some (.int 3), some (.int (nI a)), some (.ref 46), some (.int (nI j))]) (st2 := [.int (F 47 j)]) b_X10_read_57_57 rfl (fun hd => ?_)
    refine R2.callS3 (M2 := mX10_isDirection) (As := [.int (F 47 j)]) (rest := []) hd lk_10_146 okX10_isDirection (by decide) (ev_isDirection E L F (F 47 j)) (by decide) rfl rfl (Nat.le_of_ble_eq_true rfl) ?_
    refine R2.B (ls2 := [some (.ref 5), some (.int 3), some (.int (nI a)), some (.ref 46), some (.int (nI j))]) (st2 := [.int (b2i (0 ≤ (F 47 j) ∧ (F 47 j) < 8))]) b_X10_read_60_60 rfl (fun hd => ?_)
    refine R2.if_eq 84 hd (by decide) (fun c60 => ?_) (fun c60 => ?_)
    · have nc60 : ¬ (0 ≤ (F 47 j) ∧ (F 47 j) < 8) := b2i_zero.mp c60
      refine R2.B (ls2 := [some (.ref 5), some (.int 3), some (.int (nI a)), some (.ref 46), some (.int (nI j))]) (st2 := [.int (nI j)]) b_X10_read_84_86 rfl (fun hd => ?_)
      have e : rdL n a 46 (k + 1) j F = (j, F) := by
        simp only [rdL]; rw [if_neg nc60]
      exact R2.ret3 (r := some (.int (nI j))) hd trivial rfl (by rw [e]) (by rw [e])
    · have nc60 : 0 ≤ (F 47 j) ∧ (F 47 j) < 8 := b2i_nz.mp c60
      refine R2.B (ls2 := [some (.ref 5), some (.int 3), some (.int (nI a)), some (.ref 46), some (.int (nI j))]) (st2 := [.int (nI j), .ref 47, .int (nI a), .ref 5]) b_X10_read_63_71 rfl (fun hd => ?_)
      obtain ⟨d, hd8, ed⟩ := dir_of nc60
      refine R2.iald j rfl hd rfl (fun _ => rfl) (by decide) (by omega) ?_
      refine R2.top (show (F 47 j : Int32) = nI d from ed) ?_
      refine R2.B (ls2 := [some (.ref 5), some (.int 3), some (.int (nI a)), some (.ref 46), some (.int (nI j))]) (st2 := [.int (nI d), .int (nI a), .ref 5]) b_X10_read_72_72 rfl (fun hd => ?_)
      by_cases hl9 : lawS (F 15) a d (F 17 2 * F 17 2) n = -1
      · refine R2.callV3 (M2 := mX10_goes) (As := [.int (nI a), .int (nI d)]) (rest := []) hd lk_10_149 okX10_goes (by decide) rfl (ev_goes0 E L F hc n h5 hn10 a d ha hd8 hl9) (by decide) rfl rfl (Nat.le_of_ble_eq_true rfl) ?_
        refine R2.B (ls2 := [some (.ref 5), some (.int 3), some (.int (nI a)), some (.ref 46), some (.int (nI j))]) (st2 := [.int 0]) b_X10_read_75_75 rfl (fun hd => ?_)
        refine R2.if_eq 84 hd (by decide) (fun c75 => ?_) (fun c75 => absurd (by decide) c75)
        refine R2.B (ls2 := [some (.ref 5), some (.int 3), some (.int (nI a)), some (.ref 46), some (.int (nI j))]) (st2 := [.int (nI j)]) b_X10_read_84_86 rfl (fun hd => ?_)
        have e : rdL n a 46 (k + 1) j F = (j, F) := by
          simp only [rdL]; rw [if_pos nc60, ed, nI_clamp (by omega), if_pos hl9]
        exact R2.ret3 (r := some (.int (nI j))) hd trivial rfl (by rw [e]) (by rw [e])
      · refine R2.callV3 (M2 := mX10_goes) (As := [.int (nI a), .int (nI d)]) (rest := []) hd lk_10_149 okX10_goes (by decide) rfl (ev_goes1 E L F hc n h5 hn10 a d ha hd8 hl9) (by decide) rfl rfl (Nat.le_of_ble_eq_true rfl) ?_
        refine R2.B (ls2 := [some (.ref 5), some (.int 3), some (.int (nI a)), some (.ref 46), some (.int (nI j))]) (st2 := [.int 1]) b_X10_read_75_75 rfl (fun hd => ?_)
        refine R2.if_eq 84 hd (by decide) (fun c75 => absurd c75 (by decide)) (fun c75 => ?_)
        refine R2.B (ls2 := [some (.ref 5), some (.int 3), some (.int (nI a)), some (.ref 46), some (.int ((nI j) + 1))]) (st2 := []) b_X10_read_78_41 rfl (fun hd => ?_)
        rw [show ((nI j) + 1 : Int32) = nI (j + 1) from nI_add j 1]
        have e : rdL n a 46 (k + 1) j F = rdL n a 46 k (j + 1) (up2 F 15 a (lawS (F 15) a d (F 17 2 * F 17 2) n)) := by
          simp only [rdL]; rw [if_pos nc60, ed, nI_clamp (by omega), if_neg hl9]
        rw [e]
        exact ih (j + 1) _ (by omega) h5 hc h3
set_option maxRecDepth 20000 in
set_option maxHeartbeats 1000000 in
theorem x_read3 (E : EE) (L : Nat) (F : FF) (hc : CST F) (n : Nat) (hn : F 10 5 = nI n) (hn10 : n ≤ 10) (a : Nat) (ha : a < n) (z : Nat) (hz : F 46 3 = nI z) (hz60 : z ≤ 60) (hl : F 46 1 = 0) : Ev3 E L 16 mX10_read [.ref 5, .int 3, .int (nI a)] F (some (.int (nI (rdL n a 46 z 0 F).1))) (rdL n a 46 z 0 F).2 := by
  refine Ev3.of okX10_read.2.2.1 (Nat.le_of_ble_eq_true rfl) ?_
  show R2 E L mX10_read 16 0 [some (.ref 5), some (.int 3), some (.int (nI a)), none, none] [] F _
  refine R2.B (ls2 := [some (.ref 5), some (.int 3), some (.int (nI a)), none, none]) (st2 := [.int 3]) b_X10_read_0_1 rfl (fun hd => ?_)
  refine R2.callS3 (M2 := mX10_isSheet) (As := [.int 3]) (rest := []) hd lk_10_153 okX10_isSheet (by decide) (ev_isSheet E L F 3) (by decide) rfl rfl (Nat.le_of_ble_eq_true rfl) ?_
  refine R2.B (ls2 := [some (.ref 5), some (.int 3), some (.int (nI a)), none, none]) (st2 := [.int (b2i (0 ≤ 3 ∧ 3 < 4))]) b_X10_read_4_4 rfl (fun hd => ?_)
  refine R2.if_eq 15 hd (by decide) (fun c4 => absurd c4 (b2i_nz.mpr (by decide))) (fun c4 => ?_)
  refine R2.B (ls2 := [some (.ref 5), some (.int 3), some (.int (nI a)), none, none]) (st2 := [.int (nI a), .ref 5]) b_X10_read_7_9 rfl (fun hd => ?_)
  refine R2.callV3 (M2 := mX10_isPerson) (As := [.int (nI a)]) (rest := []) hd lk_10_131 okX10_isPerson (by decide) rfl (ev_isPerson E L F (nI a)) (by decide) rfl rfl (Nat.le_of_ble_eq_true rfl) ?_
  refine R2.B (ls2 := [some (.ref 5), some (.int 3), some (.int (nI a)), none, none]) (st2 := [.int (b2i (0 ≤ (nI a) ∧ (nI a) < F 10 5))]) b_X10_read_12_12 rfl (fun hd => ?_)
  refine R2.if_ne 18 hd (by decide) (fun c12 => ?_) (fun c12 => absurd c12 (b2i_nz.mpr (per_t hn hn10 ha)))
  refine R2.B (ls2 := [some (.ref 5), some (.int 3), some (.int (nI a)), none, none]) (st2 := [.int 3, .ref 39]) b_X10_read_18_23 rfl (fun hd => ?_)
  refine R2.aald (k2 := 46) 3 rfl hd rfl (by decide) (by omega) rfl ?_
  refine R2.B (ls2 := [some (.ref 5), some (.int 3), some (.int (nI a)), some (.ref 46), none]) (st2 := [.int (F 46 1)]) b_X10_read_24_29 rfl (fun hd => ?_)
  refine R2.if_eq 38 hd (by decide) (fun c29 => ?_) (fun c29 => absurd (hl) c29)
  refine R2.B (ls2 := [some (.ref 5), some (.int 3), some (.int (nI a)), some (.ref 46), some (.int 0)]) (st2 := []) b_X10_read_38_41 rfl (fun hd => ?_)
  exact lp_read3 E L n a z hn10 ha hz60 z 0 F (by omega) hn hc hz
