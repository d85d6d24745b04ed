/-! copy, count. Printed by wip/whole/gen/spec13.py. -/
theorem b_X10_copy_17_22 : bl2 mX10_copy 17 [(.aload_n 0, 1, 0, 0, .null), (.getfield 83, 3, 10, 10, .null), (.iload_n 1, 1, 1, 0, .null)] 22 (.aaload) 1 = true := by decide +kernel
theorem b_X10_copy_23_30 : bl2 mX10_copy 23 [(.astore 6, 2, 6, 0, .null), (.aload_n 0, 1, 0, 0, .null), (.getfield 83, 3, 10, 10, .null), (.iload_n 3, 1, 3, 0, .null)] 30 (.aaload) 1 = true := by decide +kernel
theorem b_X10_copy_31_38 : bl2 mX10_copy 31 [(.astore 7, 2, 7, 0, .null), (.aload 6, 2, 6, 0, .null), (.getfield 156, 3, 5, 1, .null)] 38 (.ifCond .ne 11) 3 = true := by decide +kernel
theorem b_X10_copy_49_51 : bl2 mX10_copy 49 [(.aload_n 0, 1, 0, 0, .null), (.iconst 1, 1, 0, 0, .int 1)] 51 (.invokevirtual 160) 3 = true := by decide +kernel
theorem b_X10_copy_54_54 : bl2 mX10_copy 54 [] 54 (.ireturn) 1 = true := by decide +kernel
theorem b_X10_copy_41_46 : bl2 mX10_copy 41 [(.aload 7, 2, 7, 0, .null), (.getfield 156, 3, 5, 1, .null)] 46 (.ifCond .eq 9) 3 = true := by decide +kernel
theorem b_X10_copy_55_55 : bl2 mX10_copy 55 [] 55 (.aload 6) 2 = true := by decide +kernel
set_option maxRecDepth 20000 in
set_option maxHeartbeats 1000000 in
theorem x_copy_null00 (E : EE) (L : Nat) (F : FF) (x y n : Int32) (h : ¬ F 40 1 = 0 ∨ ¬ F 40 1 = 0) : Ev3 E L 16 mX10_copy [.ref 5, .int 0, .int x, .int 0, .int y, .int n] F (some (.int (-10 - 1))) (up2 F 5 11 1) := by
  refine Ev3.of okX10_copy.2.2.1 (Nat.le_of_ble_eq_true rfl) ?_
  show R2 E L mX10_copy 16 0 [some (.ref 5), some (.int 0), some (.int x), some (.int 0), some (.int y), some (.int n), none, none] [] F _
  refine R2.B (ls2 := [some (.ref 5), some (.int 0), some (.int x), some (.int 0), some (.int y), some (.int n), none, none]) (st2 := [.int 0]) b_X10_copy_0_1 rfl (fun hd => ?_)
  refine R2.callS3 (M2 := mX10_isSheet) (As := [.int 0]) (rest := []) hd lk_10_153 okX10_isSheet (by decide) (ev_isSheet E L F 0) (by decide) rfl rfl (Nat.le_of_ble_eq_true rfl) ?_
  refine R2.B (ls2 := [some (.ref 5), some (.int 0), some (.int x), some (.int 0), some (.int y), some (.int n), none, none]) (st2 := [.int (b2i (0 ≤ 0 ∧ 0 < 4))]) b_X10_copy_4_4 rfl (fun hd => ?_)
  refine R2.if_eq 14 hd (by decide) (fun c4 => absurd c4 (b2i_nz.mpr (by decide))) (fun c4 => ?_)
  refine R2.B (ls2 := [some (.ref 5), some (.int 0), some (.int x), some (.int 0), some (.int y), some (.int n), none, none]) (st2 := [.int 0]) b_X10_copy_7_8 rfl (fun hd => ?_)
  refine R2.callS3 (M2 := mX10_isSheet) (As := [.int 0]) (rest := []) hd lk_10_153 okX10_isSheet (by decide) (ev_isSheet E L F 0) (by decide) rfl rfl (Nat.le_of_ble_eq_true rfl) ?_
  refine R2.B (ls2 := [some (.ref 5), some (.int 0), some (.int x), some (.int 0), some (.int y), some (.int n), none, none]) (st2 := [.int (b2i (0 ≤ 0 ∧ 0 < 4))]) b_X10_copy_11_11 rfl (fun hd => ?_)
  refine R2.if_ne 17 hd (by decide) (fun c11 => ?_) (fun c11 => absurd c11 (b2i_nz.mpr (by decide)))
  refine R2.B (ls2 := [some (.ref 5), some (.int 0), some (.int x), some (.int 0), some (.int y), some (.int n), none, none]) (st2 := [.int 0, .ref 39]) b_X10_copy_17_22 rfl (fun hd => ?_)
  refine R2.aald (k2 := 40) 0 rfl hd rfl (by decide) (by omega) rfl ?_
  refine R2.B (ls2 := [some (.ref 5), some (.int 0), some (.int x), some (.int 0), some (.int y), some (.int n), some (.ref 40), none]) (st2 := [.int 0, .ref 39]) b_X10_copy_23_30 rfl (fun hd => ?_)
  refine R2.aald (k2 := 40) 0 rfl hd rfl (by decide) (by omega) rfl ?_
  refine R2.B (ls2 := [some (.ref 5), some (.int 0), some (.int x), some (.int 0), some (.int y), some (.int n), some (.ref 40), some (.ref 40)]) (st2 := [.int (F 40 1)]) b_X10_copy_31_38 rfl (fun hd => ?_)
  refine R2.if_ne 49 hd (by decide) (fun c38 => ?_) (fun c38 => ?_)
  · refine R2.B (ls2 := [some (.ref 5), some (.int 0), some (.int x), some (.int 0), some (.int y), some (.int n), some (.ref 40), some (.ref 40)]) (st2 := [.int 1, .ref 5]) b_X10_copy_49_51 rfl (fun hd => ?_)
    refine R2.callV3 (M2 := mX10_found) (As := [.int 1]) (rest := []) hd lk_10_160 okX10_found (by decide) rfl (ev_found E L F 1) (by decide) rfl rfl (Nat.le_of_ble_eq_true rfl) ?_
    refine R2.B (ls2 := [some (.ref 5), some (.int 0), some (.int x), some (.int 0), some (.int y), some (.int n), some (.ref 40), some (.ref 40)]) (st2 := [.int (-10 - 1)]) b_X10_copy_54_54 rfl (fun hd => ?_)
    exact R2.ret3 (r := some (.int (-10 - 1))) hd trivial rfl rfl rfl
  · refine R2.B (ls2 := [some (.ref 5), some (.int 0), some (.int x), some (.int 0), some (.int y), some (.int n), some (.ref 40), some (.ref 40)]) (st2 := [.int (F 40 1)]) b_X10_copy_41_46 rfl (fun hd => ?_)
    refine R2.if_eq 55 hd (by decide) (fun c46 => ?_) (fun c46 => ?_)
    · refine R2.B (ls2 := [some (.ref 5), some (.int 0), some (.int x), some (.int 0), some (.int y), some (.int n), some (.ref 40), some (.ref 40)]) (st2 := []) b_X10_copy_55_55 rfl (fun hd => ?_)
      exact False.elim (by clear hd; grind)
    · refine R2.B (ls2 := [some (.ref 5), some (.int 0), some (.int x), some (.int 0), some (.int y), some (.int n), some (.ref 40), some (.ref 40)]) (st2 := [.int 1, .ref 5]) b_X10_copy_49_51 rfl (fun hd => ?_)
      refine R2.callV3 (M2 := mX10_found) (As := [.int 1]) (rest := []) hd lk_10_160 okX10_found (by decide) rfl (ev_found E L F 1) (by decide) rfl rfl (Nat.le_of_ble_eq_true rfl) ?_
      refine R2.B (ls2 := [some (.ref 5), some (.int 0), some (.int x), some (.int 0), some (.int y), some (.int n), some (.ref 40), some (.ref 40)]) (st2 := [.int (-10 - 1)]) b_X10_copy_54_54 rfl (fun hd => ?_)
      exact R2.ret3 (r := some (.int (-10 - 1))) hd trivial rfl rfl rfl
theorem b_X10_copy_55_65 : bl2 mX10_copy 55 [(.aload 6, 2, 6, 0, .null), (.getfield 278, 3, 5, 2, .null), (.aload 7, 2, 7, 0, .null), (.getfield 278, 3, 5, 2, .null)] 65 (.if_icmp .eq 9) 3 = true := by decide +kernel
theorem b_X10_copy_74_79 : bl2 mX10_copy 74 [(.aload 6, 2, 6, 0, .null), (.iload_n 2, 1, 2, 0, .null), (.iload 5, 2, 5, 0, .null)] 79 (.invokevirtual 281) 3 = true := by decide +kernel
theorem b_X10_copy_82_82 : bl2 mX10_copy 82 [] 82 (.ifCond .eq 15) 3 = true := by decide +kernel
theorem b_X10_copy_97_99 : bl2 mX10_copy 97 [(.aload_n 0, 1, 0, 0, .null), (.iconst 2, 1, 0, 0, .int 2)] 99 (.invokevirtual 160) 3 = true := by decide +kernel
theorem b_X10_copy_102_102 : bl2 mX10_copy 102 [] 102 (.ireturn) 1 = true := by decide +kernel
theorem b_X10_copy_85_91 : bl2 mX10_copy 85 [(.aload 7, 2, 7, 0, .null), (.iload 4, 2, 4, 0, .null), (.iload 5, 2, 5, 0, .null)] 91 (.invokevirtual 281) 3 = true := by decide +kernel
theorem b_X10_copy_94_94 : bl2 mX10_copy 94 [] 94 (.ifCond .ne 9) 3 = true := by decide +kernel
theorem b_X10_copy_103_103 : bl2 mX10_copy 103 [] 103 (.aload 6) 2 = true := by decide +kernel
set_option maxRecDepth 20000 in
set_option maxHeartbeats 1000000 in
theorem x_copy_index00 (E : EE) (L : Nat) (F : FF) (x y n : Int32) (h1 : F 40 1 = 0) (h2 : F 40 1 = 0) (h3 : F 40 2 = F 40 2) (h : ¬ (0 ≤ x ∧ 0 ≤ n ∧ x ≤ F 40 3 - n) ∨ ¬ (0 ≤ y ∧ 0 ≤ n ∧ y ≤ F 40 3 - n)) : Ev3 E L 16 mX10_copy [.ref 5, .int 0, .int x, .int 0, .int y, .int n] F (some (.int (-10 - 2))) (up2 F 5 11 2) := by
  refine Ev3.of okX10_copy.2.2.1 (Nat.le_of_ble_eq_true rfl) ?_
  show R2 E L mX10_copy 16 0 [some (.ref 5), some (.int 0), some (.int x), some (.int 0), some (.int y), some (.int n), none, none] [] F _
  refine R2.B (ls2 := [some (.ref 5), some (.int 0), some (.int x), some (.int 0), some (.int y), some (.int n), none, none]) (st2 := [.int 0]) b_X10_copy_0_1 rfl (fun hd => ?_)
  refine R2.callS3 (M2 := mX10_isSheet) (As := [.int 0]) (rest := []) hd lk_10_153 okX10_isSheet (by decide) (ev_isSheet E L F 0) (by decide) rfl rfl (Nat.le_of_ble_eq_true rfl) ?_
  refine R2.B (ls2 := [some (.ref 5), some (.int 0), some (.int x), some (.int 0), some (.int y), some (.int n), none, none]) (st2 := [.int (b2i (0 ≤ 0 ∧ 0 < 4))]) b_X10_copy_4_4 rfl (fun hd => ?_)
  refine R2.if_eq 14 hd (by decide) (fun c4 => absurd c4 (b2i_nz.mpr (by decide))) (fun c4 => ?_)
  refine R2.B (ls2 := [some (.ref 5), some (.int 0), some (.int x), some (.int 0), some (.int y), some (.int n), none, none]) (st2 := [.int 0]) b_X10_copy_7_8 rfl (fun hd => ?_)
  refine R2.callS3 (M2 := mX10_isSheet) (As := [.int 0]) (rest := []) hd lk_10_153 okX10_isSheet (by decide) (ev_isSheet E L F 0) (by decide) rfl rfl (Nat.le_of_ble_eq_true rfl) ?_
  refine R2.B (ls2 := [some (.ref 5), some (.int 0), some (.int x), some (.int 0), some (.int y), some (.int n), none, none]) (st2 := [.int (b2i (0 ≤ 0 ∧ 0 < 4))]) b_X10_copy_11_11 rfl (fun hd => ?_)
  refine R2.if_ne 17 hd (by decide) (fun c11 => ?_) (fun c11 => absurd c11 (b2i_nz.mpr (by decide)))
  refine R2.B (ls2 := [some (.ref 5), some (.int 0), some (.int x), some (.int 0), some (.int y), some (.int n), none, none]) (st2 := [.int 0, .ref 39]) b_X10_copy_17_22 rfl (fun hd => ?_)
  refine R2.aald (k2 := 40) 0 rfl hd rfl (by decide) (by omega) rfl ?_
  refine R2.B (ls2 := [some (.ref 5), some (.int 0), some (.int x), some (.int 0), some (.int y), some (.int n), some (.ref 40), none]) (st2 := [.int 0, .ref 39]) b_X10_copy_23_30 rfl (fun hd => ?_)
  refine R2.aald (k2 := 40) 0 rfl hd rfl (by decide) (by omega) rfl ?_
  refine R2.B (ls2 := [some (.ref 5), some (.int 0), some (.int x), some (.int 0), some (.int y), some (.int n), some (.ref 40), some (.ref 40)]) (st2 := [.int (F 40 1)]) b_X10_copy_31_38 rfl (fun hd => ?_)
  refine R2.if_ne 49 hd (by decide) (fun c38 => absurd (h1) c38) (fun c38 => ?_)
  refine R2.B (ls2 := [some (.ref 5), some (.int 0), some (.int x), some (.int 0), some (.int y), some (.int n), some (.ref 40), some (.ref 40)]) (st2 := [.int (F 40 1)]) b_X10_copy_41_46 rfl (fun hd => ?_)
  refine R2.if_eq 55 hd (by decide) (fun c46 => ?_) (fun c46 => absurd (h2) c46)
  refine R2.B (ls2 := [some (.ref 5), some (.int 0), some (.int x), some (.int 0), some (.int y), some (.int n), some (.ref 40), some (.ref 40)]) (st2 := [.int (F 40 2), .int (F 40 2)]) b_X10_copy_55_65 rfl (fun hd => ?_)
  refine R2.icmp_eq 74 hd (by decide) (fun c65 => ?_) (fun c65 => absurd (h3) c65)
  refine R2.B (ls2 := [some (.ref 5), some (.int 0), some (.int x), some (.int 0), some (.int y), some (.int n), some (.ref 40), some (.ref 40)]) (st2 := [.int n, .int x, .ref 40]) b_X10_copy_74_79 rfl (fun hd => ?_)
  refine R2.callV3 (M2 := mX5_hasRange) (As := [.int x, .int n]) (rest := []) hd lk_10_281 okX5_hasRange (by decide) rfl (ev_hasRange40 E L F x n) (by decide) rfl rfl (Nat.le_of_ble_eq_true rfl) ?_
  refine R2.B (ls2 := [some (.ref 5), some (.int 0), some (.int x), some (.int 0), some (.int y), some (.int n), some (.ref 40), some (.ref 40)]) (st2 := [.int (b2i (0 ≤ x ∧ 0 ≤ n ∧ x ≤ F 40 3 - n))]) b_X10_copy_82_82 rfl (fun hd => ?_)
  refine R2.if_eq 97 hd (by decide) (fun c82 => ?_) (fun c82 => ?_)
  · have nc82 : ¬ (0 ≤ x ∧ 0 ≤ n ∧ x ≤ F 40 3 - n) := b2i_zero.mp c82
    refine R2.B (ls2 := [some (.ref 5), some (.int 0), some (.int x), some (.int 0), some (.int y), some (.int n), some (.ref 40), some (.ref 40)]) (st2 := [.int 2, .ref 5]) b_X10_copy_97_99 rfl (fun hd => ?_)
    refine R2.callV3 (M2 := mX10_found) (As := [.int 2]) (rest := []) hd lk_10_160 okX10_found (by decide) rfl (ev_found E L F 2) (by decide) rfl rfl (Nat.le_of_ble_eq_true rfl) ?_
    refine R2.B (ls2 := [some (.ref 5), some (.int 0), some (.int x), some (.int 0), some (.int y), some (.int n), some (.ref 40), some (.ref 40)]) (st2 := [.int (-10 - 2)]) b_X10_copy_102_102 rfl (fun hd => ?_)
    exact R2.ret3 (r := some (.int (-10 - 2))) hd trivial rfl rfl rfl
  · have nc82 : 0 ≤ x ∧ 0 ≤ n ∧ x ≤ F 40 3 - n := b2i_nz.mp c82
    refine R2.B (ls2 := [some (.ref 5), some (.int 0), some (.int x), some (.int 0), some (.int y), some (.int n), some (.ref 40), some (.ref 40)]) (st2 := [.int n, .int y, .ref 40]) b_X10_copy_85_91 rfl (fun hd => ?_)
    refine R2.callV3 (M2 := mX5_hasRange) (As := [.int y, .int n]) (rest := []) hd lk_10_281 okX5_hasRange (by decide) rfl (ev_hasRange40 E L F y n) (by decide) rfl rfl (Nat.le_of_ble_eq_true rfl) ?_
    refine R2.B (ls2 := [some (.ref 5), some (.int 0), some (.int x), some (.int 0), some (.int y), some (.int n), some (.ref 40), some (.ref 40)]) (st2 := [.int (b2i (0 ≤ y ∧ 0 ≤ n ∧ y ≤ F 40 3 - n))]) b_X10_copy_94_94 rfl (fun hd => ?_)
    refine R2.if_ne 103 hd (by decide) (fun c94 => ?_) (fun c94 => ?_)
    · have nc94 : 0 ≤ y ∧ 0 ≤ n ∧ y ≤ F 40 3 - n := b2i_nz.mp c94
      refine R2.B (ls2 := [some (.ref 5), some (.int 0), some (.int x), some (.int 0), some (.int y), some (.int n), some (.ref 40), some (.ref 40)]) (st2 := []) b_X10_copy_103_103 rfl (fun hd => ?_)
      exact False.elim (by clear hd; grind)
    · have nc94 : ¬ (0 ≤ y ∧ 0 ≤ n ∧ y ≤ F 40 3 - n) := b2i_zero.mp c94
      refine R2.B (ls2 := [some (.ref 5), some (.int 0), some (.int x), some (.int 0), some (.int y), some (.int n), some (.ref 40), some (.ref 40)]) (st2 := [.int 2, .ref 5]) b_X10_copy_97_99 rfl (fun hd => ?_)
      refine R2.callV3 (M2 := mX10_found) (As := [.int 2]) (rest := []) hd lk_10_160 okX10_found (by decide) rfl (ev_found E L F 2) (by decide) rfl rfl (Nat.le_of_ble_eq_true rfl) ?_
      refine R2.B (ls2 := [some (.ref 5), some (.int 0), some (.int x), some (.int 0), some (.int y), some (.int n), some (.ref 40), some (.ref 40)]) (st2 := [.int (-10 - 2)]) b_X10_copy_102_102 rfl (fun hd => ?_)
      exact R2.ret3 (r := some (.int (-10 - 2))) hd trivial rfl rfl rfl
theorem b_X10_copy_103_118 : bl2 mX10_copy 103 [(.aload 6, 2, 6, 0, .null), (.getfield 167, 3, 5, 0, .null), (.iload_n 2, 1, 2, 0, .null), (.aload 7, 2, 7, 0, .null), (.getfield 167, 3, 5, 0, .null), (.iload 4, 2, 4, 0, .null), (.iload 5, 2, 5, 0, .null)] 118 (.invokestatic 284) 3 = true := by decide +kernel
theorem b_X10_copy_121_122 : bl2 mX10_copy 121 [(.iconst 1, 1, 0, 0, .int 1)] 122 (.ireturn) 1 = true := by decide +kernel
set_option maxRecDepth 20000 in
set_option maxHeartbeats 1000000 in
theorem x_copy00 (E : EE) (L : Nat) (F : FF) (a b q : Nat) (h1 : F 40 1 = 0) (h2 : F 40 1 = 0) (h3 : F 40 2 = F 40 2) (hx : (0 ≤ nI a ∧ 0 ≤ nI q ∧ nI a ≤ F 40 3 - nI q)) (hy : (0 ≤ nI b ∧ 0 ≤ nI q ∧ nI b ≤ F 40 3 - nI q)) (ha : a + q ≤ 60) (hb : b + q ≤ 60) : Ev3 E L 16 mX10_copy [.ref 5, .int 0, .int (nI a), .int 0, .int (nI b), .int (nI q)] F (some (.int (1))) (cpyF F 41 41 a b q) := by
  refine Ev3.of okX10_copy.2.2.1 (Nat.le_of_ble_eq_true rfl) ?_
  show R2 E L mX10_copy 16 0 [some (.ref 5), some (.int 0), some (.int (nI a)), some (.int 0), some (.int (nI b)), some (.int (nI q)), none, none] [] F _
  refine R2.B (ls2 := [some (.ref 5), some (.int 0), some (.int (nI a)), some (.int 0), some (.int (nI b)), some (.int (nI q)), none, none]) (st2 := [.int 0]) b_X10_copy_0_1 rfl (fun hd => ?_)
  refine R2.callS3 (M2 := mX10_isSheet) (As := [.int 0]) (rest := []) hd lk_10_153 okX10_isSheet (by decide) (ev_isSheet E L F 0) (by decide) rfl rfl (Nat.le_of_ble_eq_true rfl) ?_
  refine R2.B (ls2 := [some (.ref 5), some (.int 0), some (.int (nI a)), some (.int 0), some (.int (nI b)), some (.int (nI q)), none, none]) (st2 := [.int (b2i (0 ≤ 0 ∧ 0 < 4))]) b_X10_copy_4_4 rfl (fun hd => ?_)
  refine R2.if_eq 14 hd (by decide) (fun c4 => absurd c4 (b2i_nz.mpr (by decide))) (fun c4 => ?_)
  refine R2.B (ls2 := [some (.ref 5), some (.int 0), some (.int (nI a)), some (.int 0), some (.int (nI b)), some (.int (nI q)), none, none]) (st2 := [.int 0]) b_X10_copy_7_8 rfl (fun hd => ?_)
  refine R2.callS3 (M2 := mX10_isSheet) (As := [.int 0]) (rest := []) hd lk_10_153 okX10_isSheet (by decide) (ev_isSheet E L F 0) (by decide) rfl rfl (Nat.le_of_ble_eq_true rfl) ?_
  refine R2.B (ls2 := [some (.ref 5), some (.int 0), some (.int (nI a)), some (.int 0), some (.int (nI b)), some (.int (nI q)), none, none]) (st2 := [.int (b2i (0 ≤ 0 ∧ 0 < 4))]) b_X10_copy_11_11 rfl (fun hd => ?_)
  refine R2.if_ne 17 hd (by decide) (fun c11 => ?_) (fun c11 => absurd c11 (b2i_nz.mpr (by decide)))
  refine R2.B (ls2 := [some (.ref 5), some (.int 0), some (.int (nI a)), some (.int 0), some (.int (nI b)), some (.int (nI q)), none, none]) (st2 := [.int 0, .ref 39]) b_X10_copy_17_22 rfl (fun hd => ?_)
  refine R2.aald (k2 := 40) 0 rfl hd rfl (by decide) (by omega) rfl ?_
  refine R2.B (ls2 := [some (.ref 5), some (.int 0), some (.int (nI a)), some (.int 0), some (.int (nI b)), some (.int (nI q)), some (.ref 40), none]) (st2 := [.int 0, .ref 39]) b_X10_copy_23_30 rfl (fun hd => ?_)
  refine R2.aald (k2 := 40) 0 rfl hd rfl (by decide) (by omega) rfl ?_
  refine R2.B (ls2 := [some (.ref 5), some (.int 0), some (.int (nI a)), some (.int 0), some (.int (nI b)), some (.int (nI q)), some (.ref 40), some (.ref 40)]) (st2 := [.int (F 40 1)]) b_X10_copy_31_38 rfl (fun hd => ?_)
  refine R2.if_ne 49 hd (by decide) (fun c38 => absurd (h1) c38) (fun c38 => ?_)
  refine R2.B (ls2 := [some (.ref 5), some (.int 0), some (.int (nI a)), some (.int 0), some (.int (nI b)), some (.int (nI q)), some (.ref 40), some (.ref 40)]) (st2 := [.int (F 40 1)]) b_X10_copy_41_46 rfl (fun hd => ?_)
  refine R2.if_eq 55 hd (by decide) (fun c46 => ?_) (fun c46 => absurd (h2) c46)
  refine R2.B (ls2 := [some (.ref 5), some (.int 0), some (.int (nI a)), some (.int 0), some (.int (nI b)), some (.int (nI q)), some (.ref 40), some (.ref 40)]) (st2 := [.int (F 40 2), .int (F 40 2)]) b_X10_copy_55_65 rfl (fun hd => ?_)
  refine R2.icmp_eq 74 hd (by decide) (fun c65 => ?_) (fun c65 => absurd (h3) c65)
  refine R2.B (ls2 := [some (.ref 5), some (.int 0), some (.int (nI a)), some (.int 0), some (.int (nI b)), some (.int (nI q)), some (.ref 40), some (.ref 40)]) (st2 := [.int (nI q), .int (nI a), .ref 40]) b_X10_copy_74_79 rfl (fun hd => ?_)
  refine R2.callV3 (M2 := mX5_hasRange) (As := [.int (nI a), .int (nI q)]) (rest := []) hd lk_10_281 okX5_hasRange (by decide) rfl (ev_hasRange40 E L F (nI a) (nI q)) (by decide) rfl rfl (Nat.le_of_ble_eq_true rfl) ?_
  refine R2.B (ls2 := [some (.ref 5), some (.int 0), some (.int (nI a)), some (.int 0), some (.int (nI b)), some (.int (nI q)), some (.ref 40), some (.ref 40)]) (st2 := [.int (b2i (0 ≤ (nI a) ∧ 0 ≤ (nI q) ∧ (nI a) ≤ F 40 3 - (nI q)))]) b_X10_copy_82_82 rfl (fun hd => ?_)
  refine R2.if_eq 97 hd (by decide) (fun c82 => absurd c82 (b2i_nz.mpr hx)) (fun c82 => ?_)
  refine R2.B (ls2 := [some (.ref 5), some (.int 0), some (.int (nI a)), some (.int 0), some (.int (nI b)), some (.int (nI q)), some (.ref 40), some (.ref 40)]) (st2 := [.int (nI q), .int (nI b), .ref 40]) b_X10_copy_85_91 rfl (fun hd => ?_)
  refine R2.callV3 (M2 := mX5_hasRange) (As := [.int (nI b), .int (nI q)]) (rest := []) hd lk_10_281 okX5_hasRange (by decide) rfl (ev_hasRange40 E L F (nI b) (nI q)) (by decide) rfl rfl (Nat.le_of_ble_eq_true rfl) ?_
  refine R2.B (ls2 := [some (.ref 5), some (.int 0), some (.int (nI a)), some (.int 0), some (.int (nI b)), some (.int (nI q)), some (.ref 40), some (.ref 40)]) (st2 := [.int (b2i (0 ≤ (nI b) ∧ 0 ≤ (nI q) ∧ (nI b) ≤ F 40 3 - (nI q)))]) b_X10_copy_94_94 rfl (fun hd => ?_)
  refine R2.if_ne 103 hd (by decide) (fun c94 => ?_) (fun c94 => absurd c94 (b2i_nz.mpr hy))
  refine R2.B (ls2 := [some (.ref 5), some (.int 0), some (.int (nI a)), some (.int 0), some (.int (nI b)), some (.int (nI q)), some (.ref 40), some (.ref 40)]) (st2 := [.int (nI q), .int (nI b), .ref 41, .int (nI a), .ref 41]) b_X10_copy_103_118 rfl (fun hd => ?_)
  refine R2.acopy (sp := a) (dp := b) (n := q) rfl rfl rfl hd ac_10_284 (by decide) (by decide) rfl rfl (fun _ => rfl) (fun _ => rfl) (by decide) (by decide) (show a + q ≤ 60 by omega) (show b + q ≤ 60 by omega) (by decide) (Nat.le_of_ble_eq_true rfl) ?_
  refine R2.B (ls2 := [some (.ref 5), some (.int 0), some (.int (nI a)), some (.int 0), some (.int (nI b)), some (.int (nI q)), some (.ref 40), some (.ref 40)]) (st2 := [.int 1]) b_X10_copy_121_122 rfl (fun hd => ?_)
  exact R2.ret3 (r := some (.int 1)) hd trivial rfl rfl rfl
set_option maxRecDepth 20000 in
set_option maxHeartbeats 1000000 in
theorem x_copy_null01 (E : EE) (L : Nat) (F : FF) (x y n : Int32) (h : ¬ F 40 1 = 0 ∨ ¬ F 42 1 = 0) : Ev3 E L 16 mX10_copy [.ref 5, .int 0, .int x, .int 1, .int y, .int n] F (some (.int (-10 - 1))) (up2 F 5 11 1) := by
  refine Ev3.of okX10_copy.2.2.1 (Nat.le_of_ble_eq_true rfl) ?_
  show R2 E L mX10_copy 16 0 [some (.ref 5), some (.int 0), some (.int x), some (.int 1), some (.int y), some (.int n), none, none] [] F _
  refine R2.B (ls2 := [some (.ref 5), some (.int 0), some (.int x), some (.int 1), some (.int y), some (.int n), none, none]) (st2 := [.int 0]) b_X10_copy_0_1 rfl (fun hd => ?_)
  refine R2.callS3 (M2 := mX10_isSheet) (As := [.int 0]) (rest := []) hd lk_10_153 okX10_isSheet (by decide) (ev_isSheet E L F 0) (by decide) rfl rfl (Nat.le_of_ble_eq_true rfl) ?_
  refine R2.B (ls2 := [some (.ref 5), some (.int 0), some (.int x), some (.int 1), some (.int y), some (.int n), none, none]) (st2 := [.int (b2i (0 ≤ 0 ∧ 0 < 4))]) b_X10_copy_4_4 rfl (fun hd => ?_)
  refine R2.if_eq 14 hd (by decide) (fun c4 => absurd c4 (b2i_nz.mpr (by decide))) (fun c4 => ?_)
  refine R2.B (ls2 := [some (.ref 5), some (.int 0), some (.int x), some (.int 1), some (.int y), some (.int n), none, none]) (st2 := [.int 1]) b_X10_copy_7_8 rfl (fun hd => ?_)
  refine R2.callS3 (M2 := mX10_isSheet) (As := [.int 1]) (rest := []) hd lk_10_153 okX10_isSheet (by decide) (ev_isSheet E L F 1) (by decide) rfl rfl (Nat.le_of_ble_eq_true rfl) ?_
  refine R2.B (ls2 := [some (.ref 5), some (.int 0), some (.int x), some (.int 1), some (.int y), some (.int n), none, none]) (st2 := [.int (b2i (0 ≤ 1 ∧ 1 < 4))]) b_X10_copy_11_11 rfl (fun hd => ?_)
  refine R2.if_ne 17 hd (by decide) (fun c11 => ?_) (fun c11 => absurd c11 (b2i_nz.mpr (by decide)))
  refine R2.B (ls2 := [some (.ref 5), some (.int 0), some (.int x), some (.int 1), some (.int y), some (.int n), none, none]) (st2 := [.int 0, .ref 39]) b_X10_copy_17_22 rfl (fun hd => ?_)
  refine R2.aald (k2 := 40) 0 rfl hd rfl (by decide) (by omega) rfl ?_
  refine R2.B (ls2 := [some (.ref 5), some (.int 0), some (.int x), some (.int 1), some (.int y), some (.int n), some (.ref 40), none]) (st2 := [.int 1, .ref 39]) b_X10_copy_23_30 rfl (fun hd => ?_)
  refine R2.aald (k2 := 42) 1 rfl hd rfl (by decide) (by omega) rfl ?_
  refine R2.B (ls2 := [some (.ref 5), some (.int 0), some (.int x), some (.int 1), some (.int y), some (.int n), some (.ref 40), some (.ref 42)]) (st2 := [.int (F 40 1)]) b_X10_copy_31_38 rfl (fun hd => ?_)
  refine R2.if_ne 49 hd (by decide) (fun c38 => ?_) (fun c38 => ?_)
  · refine R2.B (ls2 := [some (.ref 5), some (.int 0), some (.int x), some (.int 1), some (.int y), some (.int n), some (.ref 40), some (.ref 42)]) (st2 := [.int 1, .ref 5]) b_X10_copy_49_51 rfl (fun hd => ?_)
    refine R2.callV3 (M2 := mX10_found) (As := [.int 1]) (rest := []) hd lk_10_160 okX10_found (by decide) rfl (ev_found E L F 1) (by decide) rfl rfl (Nat.le_of_ble_eq_true rfl) ?_
    refine R2.B (ls2 := [some (.ref 5), some (.int 0), some (.int x), some (.int 1), some (.int y), some (.int n), some (.ref 40), some (.ref 42)]) (st2 := [.int (-10 - 1)]) b_X10_copy_54_54 rfl (fun hd => ?_)
    exact R2.ret3 (r := some (.int (-10 - 1))) hd trivial rfl rfl rfl
  · refine R2.B (ls2 := [some (.ref 5), some (.int 0), some (.int x), some (.int 1), some (.int y), some (.int n), some (.ref 40), some (.ref 42)]) (st2 := [.int (F 42 1)]) b_X10_copy_41_46 rfl (fun hd => ?_)
    refine R2.if_eq 55 hd (by decide) (fun c46 => ?_) (fun c46 => ?_)
    · refine R2.B (ls2 := [some (.ref 5), some (.int 0), some (.int x), some (.int 1), some (.int y), some (.int n), some (.ref 40), some (.ref 42)]) (st2 := []) b_X10_copy_55_55 rfl (fun hd => ?_)
      exact False.elim (by clear hd; grind)
    · refine R2.B (ls2 := [some (.ref 5), some (.int 0), some (.int x), some (.int 1), some (.int y), some (.int n), some (.ref 40), some (.ref 42)]) (st2 := [.int 1, .ref 5]) b_X10_copy_49_51 rfl (fun hd => ?_)
      refine R2.callV3 (M2 := mX10_found) (As := [.int 1]) (rest := []) hd lk_10_160 okX10_found (by decide) rfl (ev_found E L F 1) (by decide) rfl rfl (Nat.le_of_ble_eq_true rfl) ?_
      refine R2.B (ls2 := [some (.ref 5), some (.int 0), some (.int x), some (.int 1), some (.int y), some (.int n), some (.ref 40), some (.ref 42)]) (st2 := [.int (-10 - 1)]) b_X10_copy_54_54 rfl (fun hd => ?_)
      exact R2.ret3 (r := some (.int (-10 - 1))) hd trivial rfl rfl rfl
theorem b_X10_copy_68_70 : bl2 mX10_copy 68 [(.aload_n 0, 1, 0, 0, .null), (.iconst 4, 1, 0, 0, .int 4)] 70 (.invokevirtual 160) 3 = true := by decide +kernel
theorem b_X10_copy_73_73 : bl2 mX10_copy 73 [] 73 (.ireturn) 1 = true := by decide +kernel
set_option maxRecDepth 20000 in
set_option maxHeartbeats 1000000 in
theorem x_copy_store01 (E : EE) (L : Nat) (F : FF) (x y n : Int32) (h1 : F 40 1 = 0) (h2 : F 42 1 = 0) (h3 : ¬ F 40 2 = F 42 2) : Ev3 E L 16 mX10_copy [.ref 5, .int 0, .int x, .int 1, .int y, .int n] F (some (.int (-10 - 4))) (up2 F 5 11 4) := by
  refine Ev3.of okX10_copy.2.2.1 (Nat.le_of_ble_eq_true rfl) ?_
  show R2 E L mX10_copy 16 0 [some (.ref 5), some (.int 0), some (.int x), some (.int 1), some (.int y), some (.int n), none, none] [] F _
  refine R2.B (ls2 := [some (.ref 5), some (.int 0), some (.int x), some (.int 1), some (.int y), some (.int n), none, none]) (st2 := [.int 0]) b_X10_copy_0_1 rfl (fun hd => ?_)
  refine R2.callS3 (M2 := mX10_isSheet) (As := [.int 0]) (rest := []) hd lk_10_153 okX10_isSheet (by decide) (ev_isSheet E L F 0) (by decide) rfl rfl (Nat.le_of_ble_eq_true rfl) ?_
  refine R2.B (ls2 := [some (.ref 5), some (.int 0), some (.int x), some (.int 1), some (.int y), some (.int n), none, none]) (st2 := [.int (b2i (0 ≤ 0 ∧ 0 < 4))]) b_X10_copy_4_4 rfl (fun hd => ?_)
  refine R2.if_eq 14 hd (by decide) (fun c4 => absurd c4 (b2i_nz.mpr (by decide))) (fun c4 => ?_)
  refine R2.B (ls2 := [some (.ref 5), some (.int 0), some (.int x), some (.int 1), some (.int y), some (.int n), none, none]) (st2 := [.int 1]) b_X10_copy_7_8 rfl (fun hd => ?_)
  refine R2.callS3 (M2 := mX10_isSheet) (As := [.int 1]) (rest := []) hd lk_10_153 okX10_isSheet (by decide) (ev_isSheet E L F 1) (by decide) rfl rfl (Nat.le_of_ble_eq_true rfl) ?_
  refine R2.B (ls2 := [some (.ref 5), some (.int 0), some (.int x), some (.int 1), some (.int y), some (.int n), none, none]) (st2 := [.int (b2i (0 ≤ 1 ∧ 1 < 4))]) b_X10_copy_11_11 rfl (fun hd => ?_)
  refine R2.if_ne 17 hd (by decide) (fun c11 => ?_) (fun c11 => absurd c11 (b2i_nz.mpr (by decide)))
  refine R2.B (ls2 := [some (.ref 5), some (.int 0), some (.int x), some (.int 1), some (.int y), some (.int n), none, none]) (st2 := [.int 0, .ref 39]) b_X10_copy_17_22 rfl (fun hd => ?_)
  refine R2.aald (k2 := 40) 0 rfl hd rfl (by decide) (by omega) rfl ?_
  refine R2.B (ls2 := [some (.ref 5), some (.int 0), some (.int x), some (.int 1), some (.int y), some (.int n), some (.ref 40), none]) (st2 := [.int 1, .ref 39]) b_X10_copy_23_30 rfl (fun hd => ?_)
  refine R2.aald (k2 := 42) 1 rfl hd rfl (by decide) (by omega) rfl ?_
  refine R2.B (ls2 := [some (.ref 5), some (.int 0), some (.int x), some (.int 1), some (.int y), some (.int n), some (.ref 40), some (.ref 42)]) (st2 := [.int (F 40 1)]) b_X10_copy_31_38 rfl (fun hd => ?_)
  refine R2.if_ne 49 hd (by decide) (fun c38 => absurd (h1) c38) (fun c38 => ?_)
  refine R2.B (ls2 := [some (.ref 5), some (.int 0), some (.int x), some (.int 1), some (.int y), some (.int n), some (.ref 40), some (.ref 42)]) (st2 := [.int (F 42 1)]) b_X10_copy_41_46 rfl (fun hd => ?_)
  refine R2.if_eq 55 hd (by decide) (fun c46 => ?_) (fun c46 => absurd (h2) c46)
  refine R2.B (ls2 := [some (.ref 5), some (.int 0), some (.int x), some (.int 1), some (.int y), some (.int n), some (.ref 40), some (.ref 42)]) (st2 := [.int (F 42 2), .int (F 40 2)]) b_X10_copy_55_65 rfl (fun hd => ?_)
  refine R2.icmp_eq 74 hd (by decide) (fun c65 => absurd c65 (h3)) (fun c65 => ?_)
  refine R2.B (ls2 := [some (.ref 5), some (.int 0), some (.int x), some (.int 1), some (.int y), some (.int n), some (.ref 40), some (.ref 42)]) (st2 := [.int 4, .ref 5]) b_X10_copy_68_70 rfl (fun hd => ?_)
  refine R2.callV3 (M2 := mX10_found) (As := [.int 4]) (rest := []) hd lk_10_160 okX10_found (by decide) rfl (ev_found E L F 4) (by decide) rfl rfl (Nat.le_of_ble_eq_true rfl) ?_
  refine R2.B (ls2 := [some (.ref 5), some (.int 0), some (.int x), some (.int 1), some (.int y), some (.int n), some (.ref 40), some (.ref 42)]) (st2 := [.int (-10 - 4)]) b_X10_copy_73_73 rfl (fun hd => ?_)
  exact R2.ret3 (r := some (.int (-10 - 4))) hd trivial rfl rfl rfl
set_option maxRecDepth 20000 in
set_option maxHeartbeats 1000000 in
theorem x_copy_index01 (E : EE) (L : Nat) (F : FF) (x y n : Int32) (h1 : F 40 1 = 0) (h2 : F 42 1 = 0) (h3 : F 40 2 = F 42 2) (h : ¬ (0 ≤ x ∧ 0 ≤ n ∧ x ≤ F 40 3 - n) ∨ ¬ (0 ≤ y ∧ 0 ≤ n ∧ y ≤ F 42 3 - n)) : Ev3 E L 16 mX10_copy [.ref 5, .int 0, .int x, .int 1, .int y, .int n] F (some (.int (-10 - 2))) (up2 F 5 11 2) := by
  refine Ev3.of okX10_copy.2.2.1 (Nat.le_of_ble_eq_true rfl) ?_
  show R2 E L mX10_copy 16 0 [some (.ref 5), some (.int 0), some (.int x), some (.int 1), some (.int y), some (.int n), none, none] [] F _
  refine R2.B (ls2 := [some (.ref 5), some (.int 0), some (.int x), some (.int 1), some (.int y), some (.int n), none, none]) (st2 := [.int 0]) b_X10_copy_0_1 rfl (fun hd => ?_)
  refine R2.callS3 (M2 := mX10_isSheet) (As := [.int 0]) (rest := []) hd lk_10_153 okX10_isSheet (by decide) (ev_isSheet E L F 0) (by decide) rfl rfl (Nat.le_of_ble_eq_true rfl) ?_
  refine R2.B (ls2 := [some (.ref 5), some (.int 0), some (.int x), some (.int 1), some (.int y), some (.int n), none, none]) (st2 := [.int (b2i (0 ≤ 0 ∧ 0 < 4))]) b_X10_copy_4_4 rfl (fun hd => ?_)
  refine R2.if_eq 14 hd (by decide) (fun c4 => absurd c4 (b2i_nz.mpr (by decide))) (fun c4 => ?_)
  refine R2.B (ls2 := [some (.ref 5), some (.int 0), some (.int x), some (.int 1), some (.int y), some (.int n), none, none]) (st2 := [.int 1]) b_X10_copy_7_8 rfl (fun hd => ?_)
  refine R2.callS3 (M2 := mX10_isSheet) (As := [.int 1]) (rest := []) hd lk_10_153 okX10_isSheet (by decide) (ev_isSheet E L F 1) (by decide) rfl rfl (Nat.le_of_ble_eq_true rfl) ?_
  refine R2.B (ls2 := [some (.ref 5), some (.int 0), some (.int x), some (.int 1), some (.int y), some (.int n), none, none]) (st2 := [.int (b2i (0 ≤ 1 ∧ 1 < 4))]) b_X10_copy_11_11 rfl (fun hd => ?_)
  refine R2.if_ne 17 hd (by decide) (fun c11 => ?_) (fun c11 => absurd c11 (b2i_nz.mpr (by decide)))
  refine R2.B (ls2 := [some (.ref 5), some (.int 0), some (.int x), some (.int 1), some (.int y), some (.int n), none, none]) (st2 := [.int 0, .ref 39]) b_X10_copy_17_22 rfl (fun hd => ?_)
  refine R2.aald (k2 := 40) 0 rfl hd rfl (by decide) (by omega) rfl ?_
  refine R2.B (ls2 := [some (.ref 5), some (.int 0), some (.int x), some (.int 1), some (.int y), some (.int n), some (.ref 40), none]) (st2 := [.int 1, .ref 39]) b_X10_copy_23_30 rfl (fun hd => ?_)
  refine R2.aald (k2 := 42) 1 rfl hd rfl (by decide) (by omega) rfl ?_
  refine R2.B (ls2 := [some (.ref 5), some (.int 0), some (.int x), some (.int 1), some (.int y), some (.int n), some (.ref 40), some (.ref 42)]) (st2 := [.int (F 40 1)]) b_X10_copy_31_38 rfl (fun hd => ?_)
  refine R2.if_ne 49 hd (by decide) (fun c38 => absurd (h1) c38) (fun c38 => ?_)
  refine R2.B (ls2 := [some (.ref 5), some (.int 0), some (.int x), some (.int 1), some (.int y), some (.int n), some (.ref 40), some (.ref 42)]) (st2 := [.int (F 42 1)]) b_X10_copy_41_46 rfl (fun hd => ?_)
  refine R2.if_eq 55 hd (by decide) (fun c46 => ?_) (fun c46 => absurd (h2) c46)
  refine R2.B (ls2 := [some (.ref 5), some (.int 0), some (.int x), some (.int 1), some (.int y), some (.int n), some (.ref 40), some (.ref 42)]) (st2 := [.int (F 42 2), .int (F 40 2)]) b_X10_copy_55_65 rfl (fun hd => ?_)
  refine R2.icmp_eq 74 hd (by decide) (fun c65 => ?_) (fun c65 => absurd (h3) c65)
  refine R2.B (ls2 := [some (.ref 5), some (.int 0), some (.int x), some (.int 1), some (.int y), some (.int n), some (.ref 40), some (.ref 42)]) (st2 := [.int n, .int x, .ref 40]) b_X10_copy_74_79 rfl (fun hd => ?_)
  refine R2.callV3 (M2 := mX5_hasRange) (As := [.int x, .int n]) (rest := []) hd lk_10_281 okX5_hasRange (by decide) rfl (ev_hasRange40 E L F x n) (by decide) rfl rfl (Nat.le_of_ble_eq_true rfl) ?_
  refine R2.B (ls2 := [some (.ref 5), some (.int 0), some (.int x), some (.int 1), some (.int y), some (.int n), some (.ref 40), some (.ref 42)]) (st2 := [.int (b2i (0 ≤ x ∧ 0 ≤ n ∧ x ≤ F 40 3 - n))]) b_X10_copy_82_82 rfl (fun hd => ?_)
  refine R2.if_eq 97 hd (by decide) (fun c82 => ?_) (fun c82 => ?_)
  · have nc82 : ¬ (0 ≤ x ∧ 0 ≤ n ∧ x ≤ F 40 3 - n) := b2i_zero.mp c82
    refine R2.B (ls2 := [some (.ref 5), some (.int 0), some (.int x), some (.int 1), some (.int y), some (.int n), some (.ref 40), some (.ref 42)]) (st2 := [.int 2, .ref 5]) b_X10_copy_97_99 rfl (fun hd => ?_)
    refine R2.callV3 (M2 := mX10_found) (As := [.int 2]) (rest := []) hd lk_10_160 okX10_found (by decide) rfl (ev_found E L F 2) (by decide) rfl rfl (Nat.le_of_ble_eq_true rfl) ?_
    refine R2.B (ls2 := [some (.ref 5), some (.int 0), some (.int x), some (.int 1), some (.int y), some (.int n), some (.ref 40), some (.ref 42)]) (st2 := [.int (-10 - 2)]) b_X10_copy_102_102 rfl (fun hd => ?_)
    exact R2.ret3 (r := some (.int (-10 - 2))) hd trivial rfl rfl rfl
  · have nc82 : 0 ≤ x ∧ 0 ≤ n ∧ x ≤ F 40 3 - n := b2i_nz.mp c82
    refine R2.B (ls2 := [some (.ref 5), some (.int 0), some (.int x), some (.int 1), some (.int y), some (.int n), some (.ref 40), some (.ref 42)]) (st2 := [.int n, .int y, .ref 42]) b_X10_copy_85_91 rfl (fun hd => ?_)
    refine R2.callV3 (M2 := mX5_hasRange) (As := [.int y, .int n]) (rest := []) hd lk_10_281 okX5_hasRange (by decide) rfl (ev_hasRange42 E L F y n) (by decide) rfl rfl (Nat.le_of_ble_eq_true rfl) ?_
    refine R2.B (ls2 := [some (.ref 5), some (.int 0), some (.int x), some (.int 1), some (.int y), some (.int n), some (.ref 40), some (.ref 42)]) (st2 := [.int (b2i (0 ≤ y ∧ 0 ≤ n ∧ y ≤ F 42 3 - n))]) b_X10_copy_94_94 rfl (fun hd => ?_)
    refine R2.if_ne 103 hd (by decide) (fun c94 => ?_) (fun c94 => ?_)
    · have nc94 : 0 ≤ y ∧ 0 ≤ n ∧ y ≤ F 42 3 - n := b2i_nz.mp c94
      refine R2.B (ls2 := [some (.ref 5), some (.int 0), some (.int x), some (.int 1), some (.int y), some (.int n), some (.ref 40), some (.ref 42)]) (st2 := []) b_X10_copy_103_103 rfl (fun hd => ?_)
      exact False.elim (by clear hd; grind)
    · have nc94 : ¬ (0 ≤ y ∧ 0 ≤ n ∧ y ≤ F 42 3 - n) := b2i_zero.mp c94
      refine R2.B (ls2 := [some (.ref 5), some (.int 0), some (.int x), some (.int 1), some (.int y), some (.int n), some (.ref 40), some (.ref 42)]) (st2 := [.int 2, .ref 5]) b_X10_copy_97_99 rfl (fun hd => ?_)
      refine R2.callV3 (M2 := mX10_found) (As := [.int 2]) (rest := []) hd lk_10_160 okX10_found (by decide) rfl (ev_found E L F 2) (by decide) rfl rfl (Nat.le_of_ble_eq_true rfl) ?_
      refine R2.B (ls2 := [some (.ref 5), some (.int 0), some (.int x), some (.int 1), some (.int y), some (.int n), some (.ref 40), some (.ref 42)]) (st2 := [.int (-10 - 2)]) b_X10_copy_102_102 rfl (fun hd => ?_)
      exact R2.ret3 (r := some (.int (-10 - 2))) hd trivial rfl rfl rfl
set_option maxRecDepth 20000 in
set_option maxHeartbeats 1000000 in
theorem x_copy01 (E : EE) (L : Nat) (F : FF) (a b q : Nat) (h1 : F 40 1 = 0) (h2 : F 42 1 = 0) (h3 : F 40 2 = F 42 2) (hx : (0 ≤ nI a ∧ 0 ≤ nI q ∧ nI a ≤ F 40 3 - nI q)) (hy : (0 ≤ nI b ∧ 0 ≤ nI q ∧ nI b ≤ F 42 3 - nI q)) (ha : a + q ≤ 60) (hb : b + q ≤ 60) : Ev3 E L 16 mX10_copy [.ref 5, .int 0, .int (nI a), .int 1, .int (nI b), .int (nI q)] F (some (.int (1))) (cpyF F 41 43 a b q) := by
  refine Ev3.of okX10_copy.2.2.1 (Nat.le_of_ble_eq_true rfl) ?_
  show R2 E L mX10_copy 16 0 [some (.ref 5), some (.int 0), some (.int (nI a)), some (.int 1), some (.int (nI b)), some (.int (nI q)), none, none] [] F _
  refine R2.B (ls2 := [some (.ref 5), some (.int 0), some (.int (nI a)), some (.int 1), some (.int (nI b)), some (.int (nI q)), none, none]) (st2 := [.int 0]) b_X10_copy_0_1 rfl (fun hd => ?_)
  refine R2.callS3 (M2 := mX10_isSheet) (As := [.int 0]) (rest := []) hd lk_10_153 okX10_isSheet (by decide) (ev_isSheet E L F 0) (by decide) rfl rfl (Nat.le_of_ble_eq_true rfl) ?_
  refine R2.B (ls2 := [some (.ref 5), some (.int 0), some (.int (nI a)), some (.int 1), some (.int (nI b)), some (.int (nI q)), none, none]) (st2 := [.int (b2i (0 ≤ 0 ∧ 0 < 4))]) b_X10_copy_4_4 rfl (fun hd => ?_)
  refine R2.if_eq 14 hd (by decide) (fun c4 => absurd c4 (b2i_nz.mpr (by decide))) (fun c4 => ?_)
  refine R2.B (ls2 := [some (.ref 5), some (.int 0), some (.int (nI a)), some (.int 1), some (.int (nI b)), some (.int (nI q)), none, none]) (st2 := [.int 1]) b_X10_copy_7_8 rfl (fun hd => ?_)
  refine R2.callS3 (M2 := mX10_isSheet) (As := [.int 1]) (rest := []) hd lk_10_153 okX10_isSheet (by decide) (ev_isSheet E L F 1) (by decide) rfl rfl (Nat.le_of_ble_eq_true rfl) ?_
  refine R2.B (ls2 := [some (.ref 5), some (.int 0), some (.int (nI a)), some (.int 1), some (.int (nI b)), some (.int (nI q)), none, none]) (st2 := [.int (b2i (0 ≤ 1 ∧ 1 < 4))]) b_X10_copy_11_11 rfl (fun hd => ?_)
  refine R2.if_ne 17 hd (by decide) (fun c11 => ?_) (fun c11 => absurd c11 (b2i_nz.mpr (by decide)))
  refine R2.B (ls2 := [some (.ref 5), some (.int 0), some (.int (nI a)), some (.int 1), some (.int (nI b)), some (.int (nI q)), none, none]) (st2 := [.int 0, .ref 39]) b_X10_copy_17_22 rfl (fun hd => ?_)
  refine R2.aald (k2 := 40) 0 rfl hd rfl (by decide) (by omega) rfl ?_
  refine R2.B (ls2 := [some (.ref 5), some (.int 0), some (.int (nI a)), some (.int 1), some (.int (nI b)), some (.int (nI q)), some (.ref 40), none]) (st2 := [.int 1, .ref 39]) b_X10_copy_23_30 rfl (fun hd => ?_)
  refine R2.aald (k2 := 42) 1 rfl hd rfl (by decide) (by omega) rfl ?_
  refine R2.B (ls2 := [some (.ref 5), some (.int 0), some (.int (nI a)), some (.int 1), some (.int (nI b)), some (.int (nI q)), some (.ref 40), some (.ref 42)]) (st2 := [.int (F 40 1)]) b_X10_copy_31_38 rfl (fun hd => ?_)
  refine R2.if_ne 49 hd (by decide) (fun c38 => absurd (h1) c38) (fun c38 => ?_)
  refine R2.B (ls2 := [some (.ref 5), some (.int 0), some (.int (nI a)), some (.int 1), some (.int (nI b)), some (.int (nI q)), some (.ref 40), some (.ref 42)]) (st2 := [.int (F 42 1)]) b_X10_copy_41_46 rfl (fun hd => ?_)
  refine R2.if_eq 55 hd (by decide) (fun c46 => ?_) (fun c46 => absurd (h2) c46)
  refine R2.B (ls2 := [some (.ref 5), some (.int 0), some (.int (nI a)), some (.int 1), some (.int (nI b)), some (.int (nI q)), some (.ref 40), some (.ref 42)]) (st2 := [.int (F 42 2), .int (F 40 2)]) b_X10_copy_55_65 rfl (fun hd => ?_)
  refine R2.icmp_eq 74 hd (by decide) (fun c65 => ?_) (fun c65 => absurd (h3) c65)
  refine R2.B (ls2 := [some (.ref 5), some (.int 0), some (.int (nI a)), some (.int 1), some (.int (nI b)), some (.int (nI q)), some (.ref 40), some (.ref 42)]) (st2 := [.int (nI q), .int (nI a), .ref 40]) b_X10_copy_74_79 rfl (fun hd => ?_)
  refine R2.callV3 (M2 := mX5_hasRange) (As := [.int (nI a), .int (nI q)]) (rest := []) hd lk_10_281 okX5_hasRange (by decide) rfl (ev_hasRange40 E L F (nI a) (nI q)) (by decide) rfl rfl (Nat.le_of_ble_eq_true rfl) ?_
  refine R2.B (ls2 := [some (.ref 5), some (.int 0), some (.int (nI a)), some (.int 1), some (.int (nI b)), some (.int (nI q)), some (.ref 40), some (.ref 42)]) (st2 := [.int (b2i (0 ≤ (nI a) ∧ 0 ≤ (nI q) ∧ (nI a) ≤ F 40 3 - (nI q)))]) b_X10_copy_82_82 rfl (fun hd => ?_)
  refine R2.if_eq 97 hd (by decide) (fun c82 => absurd c82 (b2i_nz.mpr hx)) (fun c82 => ?_)
  refine R2.B (ls2 := [some (.ref 5), some (.int 0), some (.int (nI a)), some (.int 1), some (.int (nI b)), some (.int (nI q)), some (.ref 40), some (.ref 42)]) (st2 := [.int (nI q), .int (nI b), .ref 42]) b_X10_copy_85_91 rfl (fun hd => ?_)
  refine R2.callV3 (M2 := mX5_hasRange) (As := [.int (nI b), .int (nI q)]) (rest := []) hd lk_10_281 okX5_hasRange (by decide) rfl (ev_hasRange42 E L F (nI b) (nI q)) (by decide) rfl rfl (Nat.le_of_ble_eq_true rfl) ?_
  refine R2.B (ls2 := [some (.ref 5), some (.int 0), some (.int (nI a)), some (.int 1), some (.int (nI b)), some (.int (nI q)), some (.ref 40), some (.ref 42)]) (st2 := [.int (b2i (0 ≤ (nI b) ∧ 0 ≤ (nI q) ∧ (nI b) ≤ F 42 3 - (nI q)))]) b_X10_copy_94_94 rfl (fun hd => ?_)
  refine R2.if_ne 103 hd (by decide) (fun c94 => ?_) (fun c94 => absurd c94 (b2i_nz.mpr hy))
  refine R2.B (ls2 := [some (.ref 5), some (.int 0), some (.int (nI a)), some (.int 1), some (.int (nI b)), some (.int (nI q)), some (.ref 40), some (.ref 42)]) (st2 := [.int (nI q), .int (nI b), .ref 43, .int (nI a), .ref 41]) b_X10_copy_103_118 rfl (fun hd => ?_)
  refine R2.acopy (sp := a) (dp := b) (n := q) rfl rfl rfl hd ac_10_284 (by decide) (by decide) rfl rfl (fun _ => rfl) (fun _ => rfl) (by decide) (by decide) (show a + q ≤ 60 by omega) (show b + q ≤ 60 by omega) (by decide) (Nat.le_of_ble_eq_true rfl) ?_
  refine R2.B (ls2 := [some (.ref 5), some (.int 0), some (.int (nI a)), some (.int 1), some (.int (nI b)), some (.int (nI q)), some (.ref 40), some (.ref 42)]) (st2 := [.int 1]) b_X10_copy_121_122 rfl (fun hd => ?_)
  exact R2.ret3 (r := some (.int 1)) hd trivial rfl rfl rfl
set_option maxRecDepth 20000 in
set_option maxHeartbeats 1000000 in
theorem x_copy_null02 (E : EE) (L : Nat) (F : FF) (x y n : Int32) (h : ¬ F 40 1 = 0 ∨ ¬ F 44 1 = 0) : Ev3 E L 16 mX10_copy [.ref 5, .int 0, .int x, .int 2, .int y, .int n] F (some (.int (-10 - 1))) (up2 F 5 11 1) := by
  refine Ev3.of okX10_copy.2.2.1 (Nat.le_of_ble_eq_true rfl) ?_
  show R2 E L mX10_copy 16 0 [some (.ref 5), some (.int 0), some (.int x), some (.int 2), some (.int y), some (.int n), none, none] [] F _
  refine R2.B (ls2 := [some (.ref 5), some (.int 0), some (.int x), some (.int 2), some (.int y), some (.int n), none, none]) (st2 := [.int 0]) b_X10_copy_0_1 rfl (fun hd => ?_)
  refine R2.callS3 (M2 := mX10_isSheet) (As := [.int 0]) (rest := []) hd lk_10_153 okX10_isSheet (by decide) (ev_isSheet E L F 0) (by decide) rfl rfl (Nat.le_of_ble_eq_true rfl) ?_
  refine R2.B (ls2 := [some (.ref 5), some (.int 0), some (.int x), some (.int 2), some (.int y), some (.int n), none, none]) (st2 := [.int (b2i (0 ≤ 0 ∧ 0 < 4))]) b_X10_copy_4_4 rfl (fun hd => ?_)
  refine R2.if_eq 14 hd (by decide) (fun c4 => absurd c4 (b2i_nz.mpr (by decide))) (fun c4 => ?_)
  refine R2.B (ls2 := [some (.ref 5), some (.int 0), some (.int x), some (.int 2), some (.int y), some (.int n), none, none]) (st2 := [.int 2]) b_X10_copy_7_8 rfl (fun hd => ?_)
  refine R2.callS3 (M2 := mX10_isSheet) (As := [.int 2]) (rest := []) hd lk_10_153 okX10_isSheet (by decide) (ev_isSheet E L F 2) (by decide) rfl rfl (Nat.le_of_ble_eq_true rfl) ?_
  refine R2.B (ls2 := [some (.ref 5), some (.int 0), some (.int x), some (.int 2), some (.int y), some (.int n), none, none]) (st2 := [.int (b2i (0 ≤ 2 ∧ 2 < 4))]) b_X10_copy_11_11 rfl (fun hd => ?_)
  refine R2.if_ne 17 hd (by decide) (fun c11 => ?_) (fun c11 => absurd c11 (b2i_nz.mpr (by decide)))
  refine R2.B (ls2 := [some (.ref 5), some (.int 0), some (.int x), some (.int 2), some (.int y), some (.int n), none, none]) (st2 := [.int 0, .ref 39]) b_X10_copy_17_22 rfl (fun hd => ?_)
  refine R2.aald (k2 := 40) 0 rfl hd rfl (by decide) (by omega) rfl ?_
  refine R2.B (ls2 := [some (.ref 5), some (.int 0), some (.int x), some (.int 2), some (.int y), some (.int n), some (.ref 40), none]) (st2 := [.int 2, .ref 39]) b_X10_copy_23_30 rfl (fun hd => ?_)
  refine R2.aald (k2 := 44) 2 rfl hd rfl (by decide) (by omega) rfl ?_
  refine R2.B (ls2 := [some (.ref 5), some (.int 0), some (.int x), some (.int 2), some (.int y), some (.int n), some (.ref 40), some (.ref 44)]) (st2 := [.int (F 40 1)]) b_X10_copy_31_38 rfl (fun hd => ?_)
  refine R2.if_ne 49 hd (by decide) (fun c38 => ?_) (fun c38 => ?_)
  · refine R2.B (ls2 := [some (.ref 5), some (.int 0), some (.int x), some (.int 2), some (.int y), some (.int n), some (.ref 40), some (.ref 44)]) (st2 := [.int 1, .ref 5]) b_X10_copy_49_51 rfl (fun hd => ?_)
    refine R2.callV3 (M2 := mX10_found) (As := [.int 1]) (rest := []) hd lk_10_160 okX10_found (by decide) rfl (ev_found E L F 1) (by decide) rfl rfl (Nat.le_of_ble_eq_true rfl) ?_
    refine R2.B (ls2 := [some (.ref 5), some (.int 0), some (.int x), some (.int 2), some (.int y), some (.int n), some (.ref 40), some (.ref 44)]) (st2 := [.int (-10 - 1)]) b_X10_copy_54_54 rfl (fun hd => ?_)
    exact R2.ret3 (r := some (.int (-10 - 1))) hd trivial rfl rfl rfl
  · refine R2.B (ls2 := [some (.ref 5), some (.int 0), some (.int x), some (.int 2), some (.int y), some (.int n), some (.ref 40), some (.ref 44)]) (st2 := [.int (F 44 1)]) b_X10_copy_41_46 rfl (fun hd => ?_)
    refine R2.if_eq 55 hd (by decide) (fun c46 => ?_) (fun c46 => ?_)
    · refine R2.B (ls2 := [some (.ref 5), some (.int 0), some (.int x), some (.int 2), some (.int y), some (.int n), some (.ref 40), some (.ref 44)]) (st2 := []) b_X10_copy_55_55 rfl (fun hd => ?_)
      exact False.elim (by clear hd; grind)
    · refine R2.B (ls2 := [some (.ref 5), some (.int 0), some (.int x), some (.int 2), some (.int y), some (.int n), some (.ref 40), some (.ref 44)]) (st2 := [.int 1, .ref 5]) b_X10_copy_49_51 rfl (fun hd => ?_)
      refine R2.callV3 (M2 := mX10_found) (As := [.int 1]) (rest := []) hd lk_10_160 okX10_found (by decide) rfl (ev_found E L F 1) (by decide) rfl rfl (Nat.le_of_ble_eq_true rfl) ?_
      refine R2.B (ls2 := [some (.ref 5), some (.int 0), some (.int x), some (.int 2), some (.int y), some (.int n), some (.ref 40), some (.ref 44)]) (st2 := [.int (-10 - 1)]) b_X10_copy_54_54 rfl (fun hd => ?_)
      exact R2.ret3 (r := some (.int (-10 - 1))) hd trivial rfl rfl rfl
set_option maxRecDepth 20000 in
set_option maxHeartbeats 1000000 in
theorem x_copy_store02 (E : EE) (L : Nat) (F : FF) (x y n : Int32) (h1 : F 40 1 = 0) (h2 : F 44 1 = 0) (h3 : ¬ F 40 2 = F 44 2) : Ev3 E L 16 mX10_copy [.ref 5, .int 0, .int x, .int 2, .int y, .int n] F (some (.int (-10 - 4))) (up2 F 5 11 4) := by
  refine Ev3.of okX10_copy.2.2.1 (Nat.le_of_ble_eq_true rfl) ?_
  show R2 E L mX10_copy 16 0 [some (.ref 5), some (.int 0), some (.int x), some (.int 2), some (.int y), some (.int n), none, none] [] F _
  refine R2.B (ls2 := [some (.ref 5), some (.int 0), some (.int x), some (.int 2), some (.int y), some (.int n), none, none]) (st2 := [.int 0]) b_X10_copy_0_1 rfl (fun hd => ?_)
  refine R2.callS3 (M2 := mX10_isSheet) (As := [.int 0]) (rest := []) hd lk_10_153 okX10_isSheet (by decide) (ev_isSheet E L F 0) (by decide) rfl rfl (Nat.le_of_ble_eq_true rfl) ?_
  refine R2.B (ls2 := [some (.ref 5), some (.int 0), some (.int x), some (.int 2), some (.int y), some (.int n), none, none]) (st2 := [.int (b2i (0 ≤ 0 ∧ 0 < 4))]) b_X10_copy_4_4 rfl (fun hd => ?_)
  refine R2.if_eq 14 hd (by decide) (fun c4 => absurd c4 (b2i_nz.mpr (by decide))) (fun c4 => ?_)
  refine R2.B (ls2 := [some (.ref 5), some (.int 0), some (.int x), some (.int 2), some (.int y), some (.int n), none, none]) (st2 := [.int 2]) b_X10_copy_7_8 rfl (fun hd => ?_)
  refine R2.callS3 (M2 := mX10_isSheet) (As := [.int 2]) (rest := []) hd lk_10_153 okX10_isSheet (by decide) (ev_isSheet E L F 2) (by decide) rfl rfl (Nat.le_of_ble_eq_true rfl) ?_
  refine R2.B (ls2 := [some (.ref 5), some (.int 0), some (.int x), some (.int 2), some (.int y), some (.int n), none, none]) (st2 := [.int (b2i (0 ≤ 2 ∧ 2 < 4))]) b_X10_copy_11_11 rfl (fun hd => ?_)
  refine R2.if_ne 17 hd (by decide) (fun c11 => ?_) (fun c11 => absurd c11 (b2i_nz.mpr (by decide)))
  refine R2.B (ls2 := [some (.ref 5), some (.int 0), some (.int x), some (.int 2), some (.int y), some (.int n), none, none]) (st2 := [.int 0, .ref 39]) b_X10_copy_17_22 rfl (fun hd => ?_)
  refine R2.aald (k2 := 40) 0 rfl hd rfl (by decide) (by omega) rfl ?_
  refine R2.B (ls2 := [some (.ref 5), some (.int 0), some (.int x), some (.int 2), some (.int y), some (.int n), some (.ref 40), none]) (st2 := [.int 2, .ref 39]) b_X10_copy_23_30 rfl (fun hd => ?_)
  refine R2.aald (k2 := 44) 2 rfl hd rfl (by decide) (by omega) rfl ?_
  refine R2.B (ls2 := [some (.ref 5), some (.int 0), some (.int x), some (.int 2), some (.int y), some (.int n), some (.ref 40), some (.ref 44)]) (st2 := [.int (F 40 1)]) b_X10_copy_31_38 rfl (fun hd => ?_)
  refine R2.if_ne 49 hd (by decide) (fun c38 => absurd (h1) c38) (fun c38 => ?_)
  refine R2.B (ls2 := [some (.ref 5), some (.int 0), some (.int x), some (.int 2), some (.int y), some (.int n), some (.ref 40), some (.ref 44)]) (st2 := [.int (F 44 1)]) b_X10_copy_41_46 rfl (fun hd => ?_)
  refine R2.if_eq 55 hd (by decide) (fun c46 => ?_) (fun c46 => absurd (h2) c46)
  refine R2.B (ls2 := [some (.ref 5), some (.int 0), some (.int x), some (.int 2), some (.int y), some (.int n), some (.ref 40), some (.ref 44)]) (st2 := [.int (F 44 2), .int (F 40 2)]) b_X10_copy_55_65 rfl (fun hd => ?_)
  refine R2.icmp_eq 74 hd (by decide) (fun c65 => absurd c65 (h3)) (fun c65 => ?_)
  refine R2.B (ls2 := [some (.ref 5), some (.int 0), some (.int x), some (.int 2), some (.int y), some (.int n), some (.ref 40), some (.ref 44)]) (st2 := [.int 4, .ref 5]) b_X10_copy_68_70 rfl (fun hd => ?_)
  refine R2.callV3 (M2 := mX10_found) (As := [.int 4]) (rest := []) hd lk_10_160 okX10_found (by decide) rfl (ev_found E L F 4) (by decide) rfl rfl (Nat.le_of_ble_eq_true rfl) ?_
  refine R2.B (ls2 := [some (.ref 5), some (.int 0), some (.int x), some (.int 2), some (.int y), some (.int n), some (.ref 40), some (.ref 44)]) (st2 := [.int (-10 - 4)]) b_X10_copy_73_73 rfl (fun hd => ?_)
  exact R2.ret3 (r := some (.int (-10 - 4))) hd trivial rfl rfl rfl
set_option maxRecDepth 20000 in
set_option maxHeartbeats 1000000 in
theorem x_copy_index02 (E : EE) (L : Nat) (F : FF) (x y n : Int32) (h1 : F 40 1 = 0) (h2 : F 44 1 = 0) (h3 : F 40 2 = F 44 2) (h : ¬ (0 ≤ x ∧ 0 ≤ n ∧ x ≤ F 40 3 - n) ∨ ¬ (0 ≤ y ∧ 0 ≤ n ∧ y ≤ F 44 3 - n)) : Ev3 E L 16 mX10_copy [.ref 5, .int 0, .int x, .int 2, .int y, .int n] F (some (.int (-10 - 2))) (up2 F 5 11 2) := by
  refine Ev3.of okX10_copy.2.2.1 (Nat.le_of_ble_eq_true rfl) ?_
  show R2 E L mX10_copy 16 0 [some (.ref 5), some (.int 0), some (.int x), some (.int 2), some (.int y), some (.int n), none, none] [] F _
  refine R2.B (ls2 := [some (.ref 5), some (.int 0), some (.int x), some (.int 2), some (.int y), some (.int n), none, none]) (st2 := [.int 0]) b_X10_copy_0_1 rfl (fun hd => ?_)
  refine R2.callS3 (M2 := mX10_isSheet) (As := [.int 0]) (rest := []) hd lk_10_153 okX10_isSheet (by decide) (ev_isSheet E L F 0) (by decide) rfl rfl (Nat.le_of_ble_eq_true rfl) ?_
  refine R2.B (ls2 := [some (.ref 5), some (.int 0), some (.int x), some (.int 2), some (.int y), some (.int n), none, none]) (st2 := [.int (b2i (0 ≤ 0 ∧ 0 < 4))]) b_X10_copy_4_4 rfl (fun hd => ?_)
  refine R2.if_eq 14 hd (by decide) (fun c4 => absurd c4 (b2i_nz.mpr (by decide))) (fun c4 => ?_)
  refine R2.B (ls2 := [some (.ref 5), some (.int 0), some (.int x), some (.int 2), some (.int y), some (.int n), none, none]) (st2 := [.int 2]) b_X10_copy_7_8 rfl (fun hd => ?_)
  refine R2.callS3 (M2 := mX10_isSheet) (As := [.int 2]) (rest := []) hd lk_10_153 okX10_isSheet (by decide) (ev_isSheet E L F 2) (by decide) rfl rfl (Nat.le_of_ble_eq_true rfl) ?_
  refine R2.B (ls2 := [some (.ref 5), some (.int 0), some (.int x), some (.int 2), some (.int y), some (.int n), none, none]) (st2 := [.int (b2i (0 ≤ 2 ∧ 2 < 4))]) b_X10_copy_11_11 rfl (fun hd => ?_)
  refine R2.if_ne 17 hd (by decide) (fun c11 => ?_) (fun c11 => absurd c11 (b2i_nz.mpr (by decide)))
  refine R2.B (ls2 := [some (.ref 5), some (.int 0), some (.int x), some (.int 2), some (.int y), some (.int n), none, none]) (st2 := [.int 0, .ref 39]) b_X10_copy_17_22 rfl (fun hd => ?_)
  refine R2.aald (k2 := 40) 0 rfl hd rfl (by decide) (by omega) rfl ?_
  refine R2.B (ls2 := [some (.ref 5), some (.int 0), some (.int x), some (.int 2), some (.int y), some (.int n), some (.ref 40), none]) (st2 := [.int 2, .ref 39]) b_X10_copy_23_30 rfl (fun hd => ?_)
  refine R2.aald (k2 := 44) 2 rfl hd rfl (by decide) (by omega) rfl ?_
  refine R2.B (ls2 := [some (.ref 5), some (.int 0), some (.int x), some (.int 2), some (.int y), some (.int n), some (.ref 40), some (.ref 44)]) (st2 := [.int (F 40 1)]) b_X10_copy_31_38 rfl (fun hd => ?_)
  refine R2.if_ne 49 hd (by decide) (fun c38 => absurd (h1) c38) (fun c38 => ?_)
  refine R2.B (ls2 := [some (.ref 5), some (.int 0), some (.int x), some (.int 2), some (.int y), some (.int n), some (.ref 40), some (.ref 44)]) (st2 := [.int (F 44 1)]) b_X10_copy_41_46 rfl (fun hd => ?_)
  refine R2.if_eq 55 hd (by decide) (fun c46 => ?_) (fun c46 => absurd (h2) c46)
  refine R2.B (ls2 := [some (.ref 5), some (.int 0), some (.int x), some (.int 2), some (.int y), some (.int n), some (.ref 40), some (.ref 44)]) (st2 := [.int (F 44 2), .int (F 40 2)]) b_X10_copy_55_65 rfl (fun hd => ?_)
  refine R2.icmp_eq 74 hd (by decide) (fun c65 => ?_) (fun c65 => absurd (h3) c65)
  refine R2.B (ls2 := [some (.ref 5), some (.int 0), some (.int x), some (.int 2), some (.int y), some (.int n), some (.ref 40), some (.ref 44)]) (st2 := [.int n, .int x, .ref 40]) b_X10_copy_74_79 rfl (fun hd => ?_)
  refine R2.callV3 (M2 := mX5_hasRange) (As := [.int x, .int n]) (rest := []) hd lk_10_281 okX5_hasRange (by decide) rfl (ev_hasRange40 E L F x n) (by decide) rfl rfl (Nat.le_of_ble_eq_true rfl) ?_
  refine R2.B (ls2 := [some (.ref 5), some (.int 0), some (.int x), some (.int 2), some (.int y), some (.int n), some (.ref 40), some (.ref 44)]) (st2 := [.int (b2i (0 ≤ x ∧ 0 ≤ n ∧ x ≤ F 40 3 - n))]) b_X10_copy_82_82 rfl (fun hd => ?_)
  refine R2.if_eq 97 hd (by decide) (fun c82 => ?_) (fun c82 => ?_)
  · have nc82 : ¬ (0 ≤ x ∧ 0 ≤ n ∧ x ≤ F 40 3 - n) := b2i_zero.mp c82
    refine R2.B (ls2 := [some (.ref 5), some (.int 0), some (.int x), some (.int 2), some (.int y), some (.int n), some (.ref 40), some (.ref 44)]) (st2 := [.int 2, .ref 5]) b_X10_copy_97_99 rfl (fun hd => ?_)
    refine R2.callV3 (M2 := mX10_found) (As := [.int 2]) (rest := []) hd lk_10_160 okX10_found (by decide) rfl (ev_found E L F 2) (by decide) rfl rfl (Nat.le_of_ble_eq_true rfl) ?_
    refine R2.B (ls2 := [some (.ref 5), some (.int 0), some (.int x), some (.int 2), some (.int y), some (.int n), some (.ref 40), some (.ref 44)]) (st2 := [.int (-10 - 2)]) b_X10_copy_102_102 rfl (fun hd => ?_)
    exact R2.ret3 (r := some (.int (-10 - 2))) hd trivial rfl rfl rfl
  · have nc82 : 0 ≤ x ∧ 0 ≤ n ∧ x ≤ F 40 3 - n := b2i_nz.mp c82
    refine R2.B (ls2 := [some (.ref 5), some (.int 0), some (.int x), some (.int 2), some (.int y), some (.int n), some (.ref 40), some (.ref 44)]) (st2 := [.int n, .int y, .ref 44]) b_X10_copy_85_91 rfl (fun hd => ?_)
    refine R2.callV3 (M2 := mX5_hasRange) (As := [.int y, .int n]) (rest := []) hd lk_10_281 okX5_hasRange (by decide) rfl (ev_hasRange44 E L F y n) (by decide) rfl rfl (Nat.le_of_ble_eq_true rfl) ?_
    refine R2.B (ls2 := [some (.ref 5), some (.int 0), some (.int x), some (.int 2), some (.int y), some (.int n), some (.ref 40), some (.ref 44)]) (st2 := [.int (b2i (0 ≤ y ∧ 0 ≤ n ∧ y ≤ F 44 3 - n))]) b_X10_copy_94_94 rfl (fun hd => ?_)
    refine R2.if_ne 103 hd (by decide) (fun c94 => ?_) (fun c94 => ?_)
    · have nc94 : 0 ≤ y ∧ 0 ≤ n ∧ y ≤ F 44 3 - n := b2i_nz.mp c94
      refine R2.B (ls2 := [some (.ref 5), some (.int 0), some (.int x), some (.int 2), some (.int y), some (.int n), some (.ref 40), some (.ref 44)]) (st2 := []) b_X10_copy_103_103 rfl (fun hd => ?_)
      exact False.elim (by clear hd; grind)
    · have nc94 : ¬ (0 ≤ y ∧ 0 ≤ n ∧ y ≤ F 44 3 - n) := b2i_zero.mp c94
      refine R2.B (ls2 := [some (.ref 5), some (.int 0), some (.int x), some (.int 2), some (.int y), some (.int n), some (.ref 40), some (.ref 44)]) (st2 := [.int 2, .ref 5]) b_X10_copy_97_99 rfl (fun hd => ?_)
      refine R2.callV3 (M2 := mX10_found) (As := [.int 2]) (rest := []) hd lk_10_160 okX10_found (by decide) rfl (ev_found E L F 2) (by decide) rfl rfl (Nat.le_of_ble_eq_true rfl) ?_
      refine R2.B (ls2 := [some (.ref 5), some (.int 0), some (.int x), some (.int 2), some (.int y), some (.int n), some (.ref 40), some (.ref 44)]) (st2 := [.int (-10 - 2)]) b_X10_copy_102_102 rfl (fun hd => ?_)
      exact R2.ret3 (r := some (.int (-10 - 2))) hd trivial rfl rfl rfl
set_option maxRecDepth 20000 in
set_option maxHeartbeats 1000000 in
theorem x_copy02 (E : EE) (L : Nat) (F : FF) (a b q : Nat) (h1 : F 40 1 = 0) (h2 : F 44 1 = 0) (h3 : F 40 2 = F 44 2) (hx : (0 ≤ nI a ∧ 0 ≤ nI q ∧ nI a ≤ F 40 3 - nI q)) (hy : (0 ≤ nI b ∧ 0 ≤ nI q ∧ nI b ≤ F 44 3 - nI q)) (ha : a + q ≤ 60) (hb : b + q ≤ 60) : Ev3 E L 16 mX10_copy [.ref 5, .int 0, .int (nI a), .int 2, .int (nI b), .int (nI q)] F (some (.int (1))) (cpyF F 41 45 a b q) := by
  refine Ev3.of okX10_copy.2.2.1 (Nat.le_of_ble_eq_true rfl) ?_
  show R2 E L mX10_copy 16 0 [some (.ref 5), some (.int 0), some (.int (nI a)), some (.int 2), some (.int (nI b)), some (.int (nI q)), none, none] [] F _
  refine R2.B (ls2 := [some (.ref 5), some (.int 0), some (.int (nI a)), some (.int 2), some (.int (nI b)), some (.int (nI q)), none, none]) (st2 := [.int 0]) b_X10_copy_0_1 rfl (fun hd => ?_)
  refine R2.callS3 (M2 := mX10_isSheet) (As := [.int 0]) (rest := []) hd lk_10_153 okX10_isSheet (by decide) (ev_isSheet E L F 0) (by decide) rfl rfl (Nat.le_of_ble_eq_true rfl) ?_
  refine R2.B (ls2 := [some (.ref 5), some (.int 0), some (.int (nI a)), some (.int 2), some (.int (nI b)), some (.int (nI q)), none, none]) (st2 := [.int (b2i (0 ≤ 0 ∧ 0 < 4))]) b_X10_copy_4_4 rfl (fun hd => ?_)
  refine R2.if_eq 14 hd (by decide) (fun c4 => absurd c4 (b2i_nz.mpr (by decide))) (fun c4 => ?_)
  refine R2.B (ls2 := [some (.ref 5), some (.int 0), some (.int (nI a)), some (.int 2), some (.int (nI b)), some (.int (nI q)), none, none]) (st2 := [.int 2]) b_X10_copy_7_8 rfl (fun hd => ?_)
  refine R2.callS3 (M2 := mX10_isSheet) (As := [.int 2]) (rest := []) hd lk_10_153 okX10_isSheet (by decide) (ev_isSheet E L F 2) (by decide) rfl rfl (Nat.le_of_ble_eq_true rfl) ?_
  refine R2.B (ls2 := [some (.ref 5), some (.int 0), some (.int (nI a)), some (.int 2), some (.int (nI b)), some (.int (nI q)), none, none]) (st2 := [.int (b2i (0 ≤ 2 ∧ 2 < 4))]) b_X10_copy_11_11 rfl (fun hd => ?_)
  refine R2.if_ne 17 hd (by decide) (fun c11 => ?_) (fun c11 => absurd c11 (b2i_nz.mpr (by decide)))
  refine R2.B (ls2 := [some (.ref 5), some (.int 0), some (.int (nI a)), some (.int 2), some (.int (nI b)), some (.int (nI q)), none, none]) (st2 := [.int 0, .ref 39]) b_X10_copy_17_22 rfl (fun hd => ?_)
  refine R2.aald (k2 := 40) 0 rfl hd rfl (by decide) (by omega) rfl ?_
  refine R2.B (ls2 := [some (.ref 5), some (.int 0), some (.int (nI a)), some (.int 2), some (.int (nI b)), some (.int (nI q)), some (.ref 40), none]) (st2 := [.int 2, .ref 39]) b_X10_copy_23_30 rfl (fun hd => ?_)
  refine R2.aald (k2 := 44) 2 rfl hd rfl (by decide) (by omega) rfl ?_
  refine R2.B (ls2 := [some (.ref 5), some (.int 0), some (.int (nI a)), some (.int 2), some (.int (nI b)), some (.int (nI q)), some (.ref 40), some (.ref 44)]) (st2 := [.int (F 40 1)]) b_X10_copy_31_38 rfl (fun hd => ?_)
  refine R2.if_ne 49 hd (by decide) (fun c38 => absurd (h1) c38) (fun c38 => ?_)
  refine R2.B (ls2 := [some (.ref 5), some (.int 0), some (.int (nI a)), some (.int 2), some (.int (nI b)), some (.int (nI q)), some (.ref 40), some (.ref 44)]) (st2 := [.int (F 44 1)]) b_X10_copy_41_46 rfl (fun hd => ?_)
  refine R2.if_eq 55 hd (by decide) (fun c46 => ?_) (fun c46 => absurd (h2) c46)
  refine R2.B (ls2 := [some (.ref 5), some (.int 0), some (.int (nI a)), some (.int 2), some (.int (nI b)), some (.int (nI q)), some (.ref 40), some (.ref 44)]) (st2 := [.int (F 44 2), .int (F 40 2)]) b_X10_copy_55_65 rfl (fun hd => ?_)
  refine R2.icmp_eq 74 hd (by decide) (fun c65 => ?_) (fun c65 => absurd (h3) c65)
  refine R2.B (ls2 := [some (.ref 5), some (.int 0), some (.int (nI a)), some (.int 2), some (.int (nI b)), some (.int (nI q)), some (.ref 40), some (.ref 44)]) (st2 := [.int (nI q), .int (nI a), .ref 40]) b_X10_copy_74_79 rfl (fun hd => ?_)
  refine R2.callV3 (M2 := mX5_hasRange) (As := [.int (nI a), .int (nI q)]) (rest := []) hd lk_10_281 okX5_hasRange (by decide) rfl (ev_hasRange40 E L F (nI a) (nI q)) (by decide) rfl rfl (Nat.le_of_ble_eq_true rfl) ?_
  refine R2.B (ls2 := [some (.ref 5), some (.int 0), some (.int (nI a)), some (.int 2), some (.int (nI b)), some (.int (nI q)), some (.ref 40), some (.ref 44)]) (st2 := [.int (b2i (0 ≤ (nI a) ∧ 0 ≤ (nI q) ∧ (nI a) ≤ F 40 3 - (nI q)))]) b_X10_copy_82_82 rfl (fun hd => ?_)
  refine R2.if_eq 97 hd (by decide) (fun c82 => absurd c82 (b2i_nz.mpr hx)) (fun c82 => ?_)
  refine R2.B (ls2 := [some (.ref 5), some (.int 0), some (.int (nI a)), some (.int 2), some (.int (nI b)), some (.int (nI q)), some (.ref 40), some (.ref 44)]) (st2 := [.int (nI q), .int (nI b), .ref 44]) b_X10_copy_85_91 rfl (fun hd => ?_)
  refine R2.callV3 (M2 := mX5_hasRange) (As := [.int (nI b), .int (nI q)]) (rest := []) hd lk_10_281 okX5_hasRange (by decide) rfl (ev_hasRange44 E L F (nI b) (nI q)) (by decide) rfl rfl (Nat.le_of_ble_eq_true rfl) ?_
  refine R2.B (ls2 := [some (.ref 5), some (.int 0), some (.int (nI a)), some (.int 2), some (.int (nI b)), some (.int (nI q)), some (.ref 40), some (.ref 44)]) (st2 := [.int (b2i (0 ≤ (nI b) ∧ 0 ≤ (nI q) ∧ (nI b) ≤ F 44 3 - (nI q)))]) b_X10_copy_94_94 rfl (fun hd => ?_)
  refine R2.if_ne 103 hd (by decide) (fun c94 => ?_) (fun c94 => absurd c94 (b2i_nz.mpr hy))
  refine R2.B (ls2 := [some (.ref 5), some (.int 0), some (.int (nI a)), some (.int 2), some (.int (nI b)), some (.int (nI q)), some (.ref 40), some (.ref 44)]) (st2 := [.int (nI q), .int (nI b), .ref 45, .int (nI a), .ref 41]) b_X10_copy_103_118 rfl (fun hd => ?_)
  refine R2.acopy (sp := a) (dp := b) (n := q) rfl rfl rfl hd ac_10_284 (by decide) (by decide) rfl rfl (fun _ => rfl) (fun _ => rfl) (by decide) (by decide) (show a + q ≤ 60 by omega) (show b + q ≤ 60 by omega) (by decide) (Nat.le_of_ble_eq_true rfl) ?_
  refine R2.B (ls2 := [some (.ref 5), some (.int 0), some (.int (nI a)), some (.int 2), some (.int (nI b)), some (.int (nI q)), some (.ref 40), some (.ref 44)]) (st2 := [.int 1]) b_X10_copy_121_122 rfl (fun hd => ?_)
  exact R2.ret3 (r := some (.int 1)) hd trivial rfl rfl rfl
set_option maxRecDepth 20000 in
set_option maxHeartbeats 1000000 in
theorem x_copy_null03 (E : EE) (L : Nat) (F : FF) (x y n : Int32) (h : ¬ F 40 1 = 0 ∨ ¬ F 46 1 = 0) : Ev3 E L 16 mX10_copy [.ref 5, .int 0, .int x, .int 3, .int y, .int n] F (some (.int (-10 - 1))) (up2 F 5 11 1) := by
  refine Ev3.of okX10_copy.2.2.1 (Nat.le_of_ble_eq_true rfl) ?_
  show R2 E L mX10_copy 16 0 [some (.ref 5), some (.int 0), some (.int x), some (.int 3), some (.int y), some (.int n), none, none] [] F _
  refine R2.B (ls2 := [some (.ref 5), some (.int 0), some (.int x), some (.int 3), some (.int y), some (.int n), none, none]) (st2 := [.int 0]) b_X10_copy_0_1 rfl (fun hd => ?_)
  refine R2.callS3 (M2 := mX10_isSheet) (As := [.int 0]) (rest := []) hd lk_10_153 okX10_isSheet (by decide) (ev_isSheet E L F 0) (by decide) rfl rfl (Nat.le_of_ble_eq_true rfl) ?_
  refine R2.B (ls2 := [some (.ref 5), some (.int 0), some (.int x), some (.int 3), some (.int y), some (.int n), none, none]) (st2 := [.int (b2i (0 ≤ 0 ∧ 0 < 4))]) b_X10_copy_4_4 rfl (fun hd => ?_)
  refine R2.if_eq 14 hd (by decide) (fun c4 => absurd c4 (b2i_nz.mpr (by decide))) (fun c4 => ?_)
  refine R2.B (ls2 := [some (.ref 5), some (.int 0), some (.int x), some (.int 3), some (.int y), some (.int n), none, none]) (st2 := [.int 3]) b_X10_copy_7_8 rfl (fun hd => ?_)
  refine R2.callS3 (M2 := mX10_isSheet) (As := [.int 3]) (rest := []) hd lk_10_153 okX10_isSheet (by decide) (ev_isSheet E L F 3) (by decide) rfl rfl (Nat.le_of_ble_eq_true rfl) ?_
  refine R2.B (ls2 := [some (.ref 5), some (.int 0), some (.int x), some (.int 3), some (.int y), some (.int n), none, none]) (st2 := [.int (b2i (0 ≤ 3 ∧ 3 < 4))]) b_X10_copy_11_11 rfl (fun hd => ?_)
  refine R2.if_ne 17 hd (by decide) (fun c11 => ?_) (fun c11 => absurd c11 (b2i_nz.mpr (by decide)))
  refine R2.B (ls2 := [some (.ref 5), some (.int 0), some (.int x), some (.int 3), some (.int y), some (.int n), none, none]) (st2 := [.int 0, .ref 39]) b_X10_copy_17_22 rfl (fun hd => ?_)
  refine R2.aald (k2 := 40) 0 rfl hd rfl (by decide) (by omega) rfl ?_
  refine R2.B (ls2 := [some (.ref 5), some (.int 0), some (.int x), some (.int 3), some (.int y), some (.int n), some (.ref 40), none]) (st2 := [.int 3, .ref 39]) b_X10_copy_23_30 rfl (fun hd => ?_)
  refine R2.aald (k2 := 46) 3 rfl hd rfl (by decide) (by omega) rfl ?_
  refine R2.B (ls2 := [some (.ref 5), some (.int 0), some (.int x), some (.int 3), some (.int y), some (.int n), some (.ref 40), some (.ref 46)]) (st2 := [.int (F 40 1)]) b_X10_copy_31_38 rfl (fun hd => ?_)
  refine R2.if_ne 49 hd (by decide) (fun c38 => ?_) (fun c38 => ?_)
  · refine R2.B (ls2 := [some (.ref 5), some (.int 0), some (.int x), some (.int 3), some (.int y), some (.int n), some (.ref 40), some (.ref 46)]) (st2 := [.int 1, .ref 5]) b_X10_copy_49_51 rfl (fun hd => ?_)
    refine R2.callV3 (M2 := mX10_found) (As := [.int 1]) (rest := []) hd lk_10_160 okX10_found (by decide) rfl (ev_found E L F 1) (by decide) rfl rfl (Nat.le_of_ble_eq_true rfl) ?_
    refine R2.B (ls2 := [some (.ref 5), some (.int 0), some (.int x), some (.int 3), some (.int y), some (.int n), some (.ref 40), some (.ref 46)]) (st2 := [.int (-10 - 1)]) b_X10_copy_54_54 rfl (fun hd => ?_)
    exact R2.ret3 (r := some (.int (-10 - 1))) hd trivial rfl rfl rfl
  · refine R2.B (ls2 := [some (.ref 5), some (.int 0), some (.int x), some (.int 3), some (.int y), some (.int n), some (.ref 40), some (.ref 46)]) (st2 := [.int (F 46 1)]) b_X10_copy_41_46 rfl (fun hd => ?_)
    refine R2.if_eq 55 hd (by decide) (fun c46 => ?_) (fun c46 => ?_)
    · refine R2.B (ls2 := [some (.ref 5), some (.int 0), some (.int x), some (.int 3), some (.int y), some (.int n), some (.ref 40), some (.ref 46)]) (st2 := []) b_X10_copy_55_55 rfl (fun hd => ?_)
      exact False.elim (by clear hd; grind)
    · refine R2.B (ls2 := [some (.ref 5), some (.int 0), some (.int x), some (.int 3), some (.int y), some (.int n), some (.ref 40), some (.ref 46)]) (st2 := [.int 1, .ref 5]) b_X10_copy_49_51 rfl (fun hd => ?_)
      refine R2.callV3 (M2 := mX10_found) (As := [.int 1]) (rest := []) hd lk_10_160 okX10_found (by decide) rfl (ev_found E L F 1) (by decide) rfl rfl (Nat.le_of_ble_eq_true rfl) ?_
      refine R2.B (ls2 := [some (.ref 5), some (.int 0), some (.int x), some (.int 3), some (.int y), some (.int n), some (.ref 40), some (.ref 46)]) (st2 := [.int (-10 - 1)]) b_X10_copy_54_54 rfl (fun hd => ?_)
      exact R2.ret3 (r := some (.int (-10 - 1))) hd trivial rfl rfl rfl
set_option maxRecDepth 20000 in
set_option maxHeartbeats 1000000 in
theorem x_copy_store03 (E : EE) (L : Nat) (F : FF) (x y n : Int32) (h1 : F 40 1 = 0) (h2 : F 46 1 = 0) (h3 : ¬ F 40 2 = F 46 2) : Ev3 E L 16 mX10_copy [.ref 5, .int 0, .int x, .int 3, .int y, .int n] F (some (.int (-10 - 4))) (up2 F 5 11 4) := by
  refine Ev3.of okX10_copy.2.2.1 (Nat.le_of_ble_eq_true rfl) ?_
  show R2 E L mX10_copy 16 0 [some (.ref 5), some (.int 0), some (.int x), some (.int 3), some (.int y), some (.int n), none, none] [] F _
  refine R2.B (ls2 := [some (.ref 5), some (.int 0), some (.int x), some (.int 3), some (.int y), some (.int n), none, none]) (st2 := [.int 0]) b_X10_copy_0_1 rfl (fun hd => ?_)
  refine R2.callS3 (M2 := mX10_isSheet) (As := [.int 0]) (rest := []) hd lk_10_153 okX10_isSheet (by decide) (ev_isSheet E L F 0) (by decide) rfl rfl (Nat.le_of_ble_eq_true rfl) ?_
  refine R2.B (ls2 := [some (.ref 5), some (.int 0), some (.int x), some (.int 3), some (.int y), some (.int n), none, none]) (st2 := [.int (b2i (0 ≤ 0 ∧ 0 < 4))]) b_X10_copy_4_4 rfl (fun hd => ?_)
  refine R2.if_eq 14 hd (by decide) (fun c4 => absurd c4 (b2i_nz.mpr (by decide))) (fun c4 => ?_)
  refine R2.B (ls2 := [some (.ref 5), some (.int 0), some (.int x), some (.int 3), some (.int y), some (.int n), none, none]) (st2 := [.int 3]) b_X10_copy_7_8 rfl (fun hd => ?_)
  refine R2.callS3 (M2 := mX10_isSheet) (As := [.int 3]) (rest := []) hd lk_10_153 okX10_isSheet (by decide) (ev_isSheet E L F 3) (by decide) rfl rfl (Nat.le_of_ble_eq_true rfl) ?_
  refine R2.B (ls2 := [some (.ref 5), some (.int 0), some (.int x), some (.int 3), some (.int y), some (.int n), none, none]) (st2 := [.int (b2i (0 ≤ 3 ∧ 3 < 4))]) b_X10_copy_11_11 rfl (fun hd => ?_)
  refine R2.if_ne 17 hd (by decide) (fun c11 => ?_) (fun c11 => absurd c11 (b2i_nz.mpr (by decide)))
  refine R2.B (ls2 := [some (.ref 5), some (.int 0), some (.int x), some (.int 3), some (.int y), some (.int n), none, none]) (st2 := [.int 0, .ref 39]) b_X10_copy_17_22 rfl (fun hd => ?_)
  refine R2.aald (k2 := 40) 0 rfl hd rfl (by decide) (by omega) rfl ?_
  refine R2.B (ls2 := [some (.ref 5), some (.int 0), some (.int x), some (.int 3), some (.int y), some (.int n), some (.ref 40), none]) (st2 := [.int 3, .ref 39]) b_X10_copy_23_30 rfl (fun hd => ?_)
  refine R2.aald (k2 := 46) 3 rfl hd rfl (by decide) (by omega) rfl ?_
  refine R2.B (ls2 := [some (.ref 5), some (.int 0), some (.int x), some (.int 3), some (.int y), some (.int n), some (.ref 40), some (.ref 46)]) (st2 := [.int (F 40 1)]) b_X10_copy_31_38 rfl (fun hd => ?_)
  refine R2.if_ne 49 hd (by decide) (fun c38 => absurd (h1) c38) (fun c38 => ?_)
  refine R2.B (ls2 := [some (.ref 5), some (.int 0), some (.int x), some (.int 3), some (.int y), some (.int n), some (.ref 40), some (.ref 46)]) (st2 := [.int (F 46 1)]) b_X10_copy_41_46 rfl (fun hd => ?_)
  refine R2.if_eq 55 hd (by decide) (fun c46 => ?_) (fun c46 => absurd (h2) c46)
  refine R2.B (ls2 := [some (.ref 5), some (.int 0), some (.int x), some (.int 3), some (.int y), some (.int n), some (.ref 40), some (.ref 46)]) (st2 := [.int (F 46 2), .int (F 40 2)]) b_X10_copy_55_65 rfl (fun hd => ?_)
  refine R2.icmp_eq 74 hd (by decide) (fun c65 => absurd c65 (h3)) (fun c65 => ?_)
  refine R2.B (ls2 := [some (.ref 5), some (.int 0), some (.int x), some (.int 3), some (.int y), some (.int n), some (.ref 40), some (.ref 46)]) (st2 := [.int 4, .ref 5]) b_X10_copy_68_70 rfl (fun hd => ?_)
  refine R2.callV3 (M2 := mX10_found) (As := [.int 4]) (rest := []) hd lk_10_160 okX10_found (by decide) rfl (ev_found E L F 4) (by decide) rfl rfl (Nat.le_of_ble_eq_true rfl) ?_
  refine R2.B (ls2 := [some (.ref 5), some (.int 0), some (.int x), some (.int 3), some (.int y), some (.int n), some (.ref 40), some (.ref 46)]) (st2 := [.int (-10 - 4)]) b_X10_copy_73_73 rfl (fun hd => ?_)
  exact R2.ret3 (r := some (.int (-10 - 4))) hd trivial rfl rfl rfl
set_option maxRecDepth 20000 in
set_option maxHeartbeats 1000000 in
theorem x_copy_index03 (E : EE) (L : Nat) (F : FF) (x y n : Int32) (h1 : F 40 1 = 0) (h2 : F 46 1 = 0) (h3 : F 40 2 = F 46 2) (h : ¬ (0 ≤ x ∧ 0 ≤ n ∧ x ≤ F 40 3 - n) ∨ ¬ (0 ≤ y ∧ 0 ≤ n ∧ y ≤ F 46 3 - n)) : Ev3 E L 16 mX10_copy [.ref 5, .int 0, .int x, .int 3, .int y, .int n] F (some (.int (-10 - 2))) (up2 F 5 11 2) := by
  refine Ev3.of okX10_copy.2.2.1 (Nat.le_of_ble_eq_true rfl) ?_
  show R2 E L mX10_copy 16 0 [some (.ref 5), some (.int 0), some (.int x), some (.int 3), some (.int y), some (.int n), none, none] [] F _
  refine R2.B (ls2 := [some (.ref 5), some (.int 0), some (.int x), some (.int 3), some (.int y), some (.int n), none, none]) (st2 := [.int 0]) b_X10_copy_0_1 rfl (fun hd => ?_)
  refine R2.callS3 (M2 := mX10_isSheet) (As := [.int 0]) (rest := []) hd lk_10_153 okX10_isSheet (by decide) (ev_isSheet E L F 0) (by decide) rfl rfl (Nat.le_of_ble_eq_true rfl) ?_
  refine R2.B (ls2 := [some (.ref 5), some (.int 0), some (.int x), some (.int 3), some (.int y), some (.int n), none, none]) (st2 := [.int (b2i (0 ≤ 0 ∧ 0 < 4))]) b_X10_copy_4_4 rfl (fun hd => ?_)
  refine R2.if_eq 14 hd (by decide) (fun c4 => absurd c4 (b2i_nz.mpr (by decide))) (fun c4 => ?_)
  refine R2.B (ls2 := [some (.ref 5), some (.int 0), some (.int x), some (.int 3), some (.int y), some (.int n), none, none]) (st2 := [.int 3]) b_X10_copy_7_8 rfl (fun hd => ?_)
  refine R2.callS3 (M2 := mX10_isSheet) (As := [.int 3]) (rest := []) hd lk_10_153 okX10_isSheet (by decide) (ev_isSheet E L F 3) (by decide) rfl rfl (Nat.le_of_ble_eq_true rfl) ?_
  refine R2.B (ls2 := [some (.ref 5), some (.int 0), some (.int x), some (.int 3), some (.int y), some (.int n), none, none]) (st2 := [.int (b2i (0 ≤ 3 ∧ 3 < 4))]) b_X10_copy_11_11 rfl (fun hd => ?_)
  refine R2.if_ne 17 hd (by decide) (fun c11 => ?_) (fun c11 => absurd c11 (b2i_nz.mpr (by decide)))
  refine R2.B (ls2 := [some (.ref 5), some (.int 0), some (.int x), some (.int 3), some (.int y), some (.int n), none, none]) (st2 := [.int 0, .ref 39]) b_X10_copy_17_22 rfl (fun hd => ?_)
  refine R2.aald (k2 := 40) 0 rfl hd rfl (by decide) (by omega) rfl ?_
  refine R2.B (ls2 := [some (.ref 5), some (.int 0), some (.int x), some (.int 3), some (.int y), some (.int n), some (.ref 40), none]) (st2 := [.int 3, .ref 39]) b_X10_copy_23_30 rfl (fun hd => ?_)
  refine R2.aald (k2 := 46) 3 rfl hd rfl (by decide) (by omega) rfl ?_
  refine R2.B (ls2 := [some (.ref 5), some (.int 0), some (.int x), some (.int 3), some (.int y), some (.int n), some (.ref 40), some (.ref 46)]) (st2 := [.int (F 40 1)]) b_X10_copy_31_38 rfl (fun hd => ?_)
  refine R2.if_ne 49 hd (by decide) (fun c38 => absurd (h1) c38) (fun c38 => ?_)
  refine R2.B (ls2 := [some (.ref 5), some (.int 0), some (.int x), some (.int 3), some (.int y), some (.int n), some (.ref 40), some (.ref 46)]) (st2 := [.int (F 46 1)]) b_X10_copy_41_46 rfl (fun hd => ?_)
  refine R2.if_eq 55 hd (by decide) (fun c46 => ?_) (fun c46 => absurd (h2) c46)
  refine R2.B (ls2 := [some (.ref 5), some (.int 0), some (.int x), some (.int 3), some (.int y), some (.int n), some (.ref 40), some (.ref 46)]) (st2 := [.int (F 46 2), .int (F 40 2)]) b_X10_copy_55_65 rfl (fun hd => ?_)
  refine R2.icmp_eq 74 hd (by decide) (fun c65 => ?_) (fun c65 => absurd (h3) c65)
  refine R2.B (ls2 := [some (.ref 5), some (.int 0), some (.int x), some (.int 3), some (.int y), some (.int n), some (.ref 40), some (.ref 46)]) (st2 := [.int n, .int x, .ref 40]) b_X10_copy_74_79 rfl (fun hd => ?_)
  refine R2.callV3 (M2 := mX5_hasRange) (As := [.int x, .int n]) (rest := []) hd lk_10_281 okX5_hasRange (by decide) rfl (ev_hasRange40 E L F x n) (by decide) rfl rfl (Nat.le_of_ble_eq_true rfl) ?_
  refine R2.B (ls2 := [some (.ref 5), some (.int 0), some (.int x), some (.int 3), some (.int y), some (.int n), some (.ref 40), some (.ref 46)]) (st2 := [.int (b2i (0 ≤ x ∧ 0 ≤ n ∧ x ≤ F 40 3 - n))]) b_X10_copy_82_82 rfl (fun hd => ?_)
  refine R2.if_eq 97 hd (by decide) (fun c82 => ?_) (fun c82 => ?_)
  · have nc82 : ¬ (0 ≤ x ∧ 0 ≤ n ∧ x ≤ F 40 3 - n) := b2i_zero.mp c82
    refine R2.B (ls2 := [some (.ref 5), some (.int 0), some (.int x), some (.int 3), some (.int y), some (.int n), some (.ref 40), some (.ref 46)]) (st2 := [.int 2, .ref 5]) b_X10_copy_97_99 rfl (fun hd => ?_)
    refine R2.callV3 (M2 := mX10_found) (As := [.int 2]) (rest := []) hd lk_10_160 okX10_found (by decide) rfl (ev_found E L F 2) (by decide) rfl rfl (Nat.le_of_ble_eq_true rfl) ?_
    refine R2.B (ls2 := [some (.ref 5), some (.int 0), some (.int x), some (.int 3), some (.int y), some (.int n), some (.ref 40), some (.ref 46)]) (st2 := [.int (-10 - 2)]) b_X10_copy_102_102 rfl (fun hd => ?_)
    exact R2.ret3 (r := some (.int (-10 - 2))) hd trivial rfl rfl rfl
  · have nc82 : 0 ≤ x ∧ 0 ≤ n ∧ x ≤ F 40 3 - n := b2i_nz.mp c82
    refine R2.B (ls2 := [some (.ref 5), some (.int 0), some (.int x), some (.int 3), some (.int y), some (.int n), some (.ref 40), some (.ref 46)]) (st2 := [.int n, .int y, .ref 46]) b_X10_copy_85_91 rfl (fun hd => ?_)
    refine R2.callV3 (M2 := mX5_hasRange) (As := [.int y, .int n]) (rest := []) hd lk_10_281 okX5_hasRange (by decide) rfl (ev_hasRange46 E L F y n) (by decide) rfl rfl (Nat.le_of_ble_eq_true rfl) ?_
    refine R2.B (ls2 := [some (.ref 5), some (.int 0), some (.int x), some (.int 3), some (.int y), some (.int n), some (.ref 40), some (.ref 46)]) (st2 := [.int (b2i (0 ≤ y ∧ 0 ≤ n ∧ y ≤ F 46 3 - n))]) b_X10_copy_94_94 rfl (fun hd => ?_)
    refine R2.if_ne 103 hd (by decide) (fun c94 => ?_) (fun c94 => ?_)
    · have nc94 : 0 ≤ y ∧ 0 ≤ n ∧ y ≤ F 46 3 - n := b2i_nz.mp c94
      refine R2.B (ls2 := [some (.ref 5), some (.int 0), some (.int x), some (.int 3), some (.int y), some (.int n), some (.ref 40), some (.ref 46)]) (st2 := []) b_X10_copy_103_103 rfl (fun hd => ?_)
      exact False.elim (by clear hd; grind)
    · have nc94 : ¬ (0 ≤ y ∧ 0 ≤ n ∧ y ≤ F 46 3 - n) := b2i_zero.mp c94
      refine R2.B (ls2 := [some (.ref 5), some (.int 0), some (.int x), some (.int 3), some (.int y), some (.int n), some (.ref 40), some (.ref 46)]) (st2 := [.int 2, .ref 5]) b_X10_copy_97_99 rfl (fun hd => ?_)
      refine R2.callV3 (M2 := mX10_found) (As := [.int 2]) (rest := []) hd lk_10_160 okX10_found (by decide) rfl (ev_found E L F 2) (by decide) rfl rfl (Nat.le_of_ble_eq_true rfl) ?_
      refine R2.B (ls2 := [some (.ref 5), some (.int 0), some (.int x), some (.int 3), some (.int y), some (.int n), some (.ref 40), some (.ref 46)]) (st2 := [.int (-10 - 2)]) b_X10_copy_102_102 rfl (fun hd => ?_)
      exact R2.ret3 (r := some (.int (-10 - 2))) hd trivial rfl rfl rfl
set_option maxRecDepth 20000 in
set_option maxHeartbeats 1000000 in
theorem x_copy03 (E : EE) (L : Nat) (F : FF) (a b q : Nat) (h1 : F 40 1 = 0) (h2 : F 46 1 = 0) (h3 : F 40 2 = F 46 2) (hx : (0 ≤ nI a ∧ 0 ≤ nI q ∧ nI a ≤ F 40 3 - nI q)) (hy : (0 ≤ nI b ∧ 0 ≤ nI q ∧ nI b ≤ F 46 3 - nI q)) (ha : a + q ≤ 60) (hb : b + q ≤ 60) : Ev3 E L 16 mX10_copy [.ref 5, .int 0, .int (nI a), .int 3, .int (nI b), .int (nI q)] F (some (.int (1))) (cpyF F 41 47 a b q) := by
  refine Ev3.of okX10_copy.2.2.1 (Nat.le_of_ble_eq_true rfl) ?_
  show R2 E L mX10_copy 16 0 [some (.ref 5), some (.int 0), some (.int (nI a)), some (.int 3), some (.int (nI b)), some (.int (nI q)), none, none] [] F _
  refine R2.B (ls2 := [some (.ref 5), some (.int 0), some (.int (nI a)), some (.int 3), some (.int (nI b)), some (.int (nI q)), none, none]) (st2 := [.int 0]) b_X10_copy_0_1 rfl (fun hd => ?_)
  refine R2.callS3 (M2 := mX10_isSheet) (As := [.int 0]) (rest := []) hd lk_10_153 okX10_isSheet (by decide) (ev_isSheet E L F 0) (by decide) rfl rfl (Nat.le_of_ble_eq_true rfl) ?_
  refine R2.B (ls2 := [some (.ref 5), some (.int 0), some (.int (nI a)), some (.int 3), some (.int (nI b)), some (.int (nI q)), none, none]) (st2 := [.int (b2i (0 ≤ 0 ∧ 0 < 4))]) b_X10_copy_4_4 rfl (fun hd => ?_)
  refine R2.if_eq 14 hd (by decide) (fun c4 => absurd c4 (b2i_nz.mpr (by decide))) (fun c4 => ?_)
  refine R2.B (ls2 := [some (.ref 5), some (.int 0), some (.int (nI a)), some (.int 3), some (.int (nI b)), some (.int (nI q)), none, none]) (st2 := [.int 3]) b_X10_copy_7_8 rfl (fun hd => ?_)
  refine R2.callS3 (M2 := mX10_isSheet) (As := [.int 3]) (rest := []) hd lk_10_153 okX10_isSheet (by decide) (ev_isSheet E L F 3) (by decide) rfl rfl (Nat.le_of_ble_eq_true rfl) ?_
  refine R2.B (ls2 := [some (.ref 5), some (.int 0), some (.int (nI a)), some (.int 3), some (.int (nI b)), some (.int (nI q)), none, none]) (st2 := [.int (b2i (0 ≤ 3 ∧ 3 < 4))]) b_X10_copy_11_11 rfl (fun hd => ?_)
  refine R2.if_ne 17 hd (by decide) (fun c11 => ?_) (fun c11 => absurd c11 (b2i_nz.mpr (by decide)))
  refine R2.B (ls2 := [some (.ref 5), some (.int 0), some (.int (nI a)), some (.int 3), some (.int (nI b)), some (.int (nI q)), none, none]) (st2 := [.int 0, .ref 39]) b_X10_copy_17_22 rfl (fun hd => ?_)
  refine R2.aald (k2 := 40) 0 rfl hd rfl (by decide) (by omega) rfl ?_
  refine R2.B (ls2 := [some (.ref 5), some (.int 0), some (.int (nI a)), some (.int 3), some (.int (nI b)), some (.int (nI q)), some (.ref 40), none]) (st2 := [.int 3, .ref 39]) b_X10_copy_23_30 rfl (fun hd => ?_)
  refine R2.aald (k2 := 46) 3 rfl hd rfl (by decide) (by omega) rfl ?_
  refine R2.B (ls2 := [some (.ref 5), some (.int 0), some (.int (nI a)), some (.int 3), some (.int (nI b)), some (.int (nI q)), some (.ref 40), some (.ref 46)]) (st2 := [.int (F 40 1)]) b_X10_copy_31_38 rfl (fun hd => ?_)
  refine R2.if_ne 49 hd (by decide) (fun c38 => absurd (h1) c38) (fun c38 => ?_)
  refine R2.B (ls2 := [some (.ref 5), some (.int 0), some (.int (nI a)), some (.int 3), some (.int (nI b)), some (.int (nI q)), some (.ref 40), some (.ref 46)]) (st2 := [.int (F 46 1)]) b_X10_copy_41_46 rfl (fun hd => ?_)
  refine R2.if_eq 55 hd (by decide) (fun c46 => ?_) (fun c46 => absurd (h2) c46)
  refine R2.B (ls2 := [some (.ref 5), some (.int 0), some (.int (nI a)), some (.int 3), some (.int (nI b)), some (.int (nI q)), some (.ref 40), some (.ref 46)]) (st2 := [.int (F 46 2), .int (F 40 2)]) b_X10_copy_55_65 rfl (fun hd => ?_)
  refine R2.icmp_eq 74 hd (by decide) (fun c65 => ?_) (fun c65 => absurd (h3) c65)
  refine R2.B (ls2 := [some (.ref 5), some (.int 0), some (.int (nI a)), some (.int 3), some (.int (nI b)), some (.int (nI q)), some (.ref 40), some (.ref 46)]) (st2 := [.int (nI q), .int (nI a), .ref 40]) b_X10_copy_74_79 rfl (fun hd => ?_)
  refine R2.callV3 (M2 := mX5_hasRange) (As := [.int (nI a), .int (nI q)]) (rest := []) hd lk_10_281 okX5_hasRange (by decide) rfl (ev_hasRange40 E L F (nI a) (nI q)) (by decide) rfl rfl (Nat.le_of_ble_eq_true rfl) ?_
  refine R2.B (ls2 := [some (.ref 5), some (.int 0), some (.int (nI a)), some (.int 3), some (.int (nI b)), some (.int (nI q)), some (.ref 40), some (.ref 46)]) (st2 := [.int (b2i (0 ≤ (nI a) ∧ 0 ≤ (nI q) ∧ (nI a) ≤ F 40 3 - (nI q)))]) b_X10_copy_82_82 rfl (fun hd => ?_)
  refine R2.if_eq 97 hd (by decide) (fun c82 => absurd c82 (b2i_nz.mpr hx)) (fun c82 => ?_)
  refine R2.B (ls2 := [some (.ref 5), some (.int 0), some (.int (nI a)), some (.int 3), some (.int (nI b)), some (.int (nI q)), some (.ref 40), some (.ref 46)]) (st2 := [.int (nI q), .int (nI b), .ref 46]) b_X10_copy_85_91 rfl (fun hd => ?_)
  refine R2.callV3 (M2 := mX5_hasRange) (As := [.int (nI b), .int (nI q)]) (rest := []) hd lk_10_281 okX5_hasRange (by decide) rfl (ev_hasRange46 E L F (nI b) (nI q)) (by decide) rfl rfl (Nat.le_of_ble_eq_true rfl) ?_
  refine R2.B (ls2 := [some (.ref 5), some (.int 0), some (.int (nI a)), some (.int 3), some (.int (nI b)), some (.int (nI q)), some (.ref 40), some (.ref 46)]) (st2 := [.int (b2i (0 ≤ (nI b) ∧ 0 ≤ (nI q) ∧ (nI b) ≤ F 46 3 - (nI q)))]) b_X10_copy_94_94 rfl (fun hd => ?_)
  refine R2.if_ne 103 hd (by decide) (fun c94 => ?_) (fun c94 => absurd c94 (b2i_nz.mpr hy))
  refine R2.B (ls2 := [some (.ref 5), some (.int 0), some (.int (nI a)), some (.int 3), some (.int (nI b)), some (.int (nI q)), some (.ref 40), some (.ref 46)]) (st2 := [.int (nI q), .int (nI b), .ref 47, .int (nI a), .ref 41]) b_X10_copy_103_118 rfl (fun hd => ?_)
  refine R2.acopy (sp := a) (dp := b) (n := q) rfl rfl rfl hd ac_10_284 (by decide) (by decide) rfl rfl (fun _ => rfl) (fun _ => rfl) (by decide) (by decide) (show a + q ≤ 60 by omega) (show b + q ≤ 60 by omega) (by decide) (Nat.le_of_ble_eq_true rfl) ?_
  refine R2.B (ls2 := [some (.ref 5), some (.int 0), some (.int (nI a)), some (.int 3), some (.int (nI b)), some (.int (nI q)), some (.ref 40), some (.ref 46)]) (st2 := [.int 1]) b_X10_copy_121_122 rfl (fun hd => ?_)
  exact R2.ret3 (r := some (.int 1)) hd trivial rfl rfl rfl
set_option maxRecDepth 20000 in
set_option maxHeartbeats 1000000 in
theorem x_copy_null10 (E : EE) (L : Nat) (F : FF) (x y n : Int32) (h : ¬ F 42 1 = 0 ∨ ¬ F 40 1 = 0) : Ev3 E L 16 mX10_copy [.ref 5, .int 1, .int x, .int 0, .int y, .int n] F (some (.int (-10 - 1))) (up2 F 5 11 1) := by
  refine Ev3.of okX10_copy.2.2.1 (Nat.le_of_ble_eq_true rfl) ?_
  show R2 E L mX10_copy 16 0 [some (.ref 5), some (.int 1), some (.int x), some (.int 0), some (.int y), some (.int n), none, none] [] F _
  refine R2.B (ls2 := [some (.ref 5), some (.int 1), some (.int x), some (.int 0), some (.int y), some (.int n), none, none]) (st2 := [.int 1]) b_X10_copy_0_1 rfl (fun hd => ?_)
  refine R2.callS3 (M2 := mX10_isSheet) (As := [.int 1]) (rest := []) hd lk_10_153 okX10_isSheet (by decide) (ev_isSheet E L F 1) (by decide) rfl rfl (Nat.le_of_ble_eq_true rfl) ?_
  refine R2.B (ls2 := [some (.ref 5), some (.int 1), some (.int x), some (.int 0), some (.int y), some (.int n), none, none]) (st2 := [.int (b2i (0 ≤ 1 ∧ 1 < 4))]) b_X10_copy_4_4 rfl (fun hd => ?_)
  refine R2.if_eq 14 hd (by decide) (fun c4 => absurd c4 (b2i_nz.mpr (by decide))) (fun c4 => ?_)
  refine R2.B (ls2 := [some (.ref 5), some (.int 1), some (.int x), some (.int 0), some (.int y), some (.int n), none, none]) (st2 := [.int 0]) b_X10_copy_7_8 rfl (fun hd => ?_)
  refine R2.callS3 (M2 := mX10_isSheet) (As := [.int 0]) (rest := []) hd lk_10_153 okX10_isSheet (by decide) (ev_isSheet E L F 0) (by decide) rfl rfl (Nat.le_of_ble_eq_true rfl) ?_
  refine R2.B (ls2 := [some (.ref 5), some (.int 1), some (.int x), some (.int 0), some (.int y), some (.int n), none, none]) (st2 := [.int (b2i (0 ≤ 0 ∧ 0 < 4))]) b_X10_copy_11_11 rfl (fun hd => ?_)
  refine R2.if_ne 17 hd (by decide) (fun c11 => ?_) (fun c11 => absurd c11 (b2i_nz.mpr (by decide)))
  refine R2.B (ls2 := [some (.ref 5), some (.int 1), some (.int x), some (.int 0), some (.int y), some (.int n), none, none]) (st2 := [.int 1, .ref 39]) b_X10_copy_17_22 rfl (fun hd => ?_)
  refine R2.aald (k2 := 42) 1 rfl hd rfl (by decide) (by omega) rfl ?_
  refine R2.B (ls2 := [some (.ref 5), some (.int 1), some (.int x), some (.int 0), some (.int y), some (.int n), some (.ref 42), none]) (st2 := [.int 0, .ref 39]) b_X10_copy_23_30 rfl (fun hd => ?_)
  refine R2.aald (k2 := 40) 0 rfl hd rfl (by decide) (by omega) rfl ?_
  refine R2.B (ls2 := [some (.ref 5), some (.int 1), some (.int x), some (.int 0), some (.int y), some (.int n), some (.ref 42), some (.ref 40)]) (st2 := [.int (F 42 1)]) b_X10_copy_31_38 rfl (fun hd => ?_)
  refine R2.if_ne 49 hd (by decide) (fun c38 => ?_) (fun c38 => ?_)
  · refine R2.B (ls2 := [some (.ref 5), some (.int 1), some (.int x), some (.int 0), some (.int y), some (.int n), some (.ref 42), some (.ref 40)]) (st2 := [.int 1, .ref 5]) b_X10_copy_49_51 rfl (fun hd => ?_)
    refine R2.callV3 (M2 := mX10_found) (As := [.int 1]) (rest := []) hd lk_10_160 okX10_found (by decide) rfl (ev_found E L F 1) (by decide) rfl rfl (Nat.le_of_ble_eq_true rfl) ?_
    refine R2.B (ls2 := [some (.ref 5), some (.int 1), some (.int x), some (.int 0), some (.int y), some (.int n), some (.ref 42), some (.ref 40)]) (st2 := [.int (-10 - 1)]) b_X10_copy_54_54 rfl (fun hd => ?_)
    exact R2.ret3 (r := some (.int (-10 - 1))) hd trivial rfl rfl rfl
  · refine R2.B (ls2 := [some (.ref 5), some (.int 1), some (.int x), some (.int 0), some (.int y), some (.int n), some (.ref 42), some (.ref 40)]) (st2 := [.int (F 40 1)]) b_X10_copy_41_46 rfl (fun hd => ?_)
    refine R2.if_eq 55 hd (by decide) (fun c46 => ?_) (fun c46 => ?_)
    · refine R2.B (ls2 := [some (.ref 5), some (.int 1), some (.int x), some (.int 0), some (.int y), some (.int n), some (.ref 42), some (.ref 40)]) (st2 := []) b_X10_copy_55_55 rfl (fun hd => ?_)
      exact False.elim (by clear hd; grind)
    · refine R2.B (ls2 := [some (.ref 5), some (.int 1), some (.int x), some (.int 0), some (.int y), some (.int n), some (.ref 42), some (.ref 40)]) (st2 := [.int 1, .ref 5]) b_X10_copy_49_51 rfl (fun hd => ?_)
      refine R2.callV3 (M2 := mX10_found) (As := [.int 1]) (rest := []) hd lk_10_160 okX10_found (by decide) rfl (ev_found E L F 1) (by decide) rfl rfl (Nat.le_of_ble_eq_true rfl) ?_
      refine R2.B (ls2 := [some (.ref 5), some (.int 1), some (.int x), some (.int 0), some (.int y), some (.int n), some (.ref 42), some (.ref 40)]) (st2 := [.int (-10 - 1)]) b_X10_copy_54_54 rfl (fun hd => ?_)
      exact R2.ret3 (r := some (.int (-10 - 1))) hd trivial rfl rfl rfl
set_option maxRecDepth 20000 in
set_option maxHeartbeats 1000000 in
theorem x_copy_store10 (E : EE) (L : Nat) (F : FF) (x y n : Int32) (h1 : F 42 1 = 0) (h2 : F 40 1 = 0) (h3 : ¬ F 42 2 = F 40 2) : Ev3 E L 16 mX10_copy [.ref 5, .int 1, .int x, .int 0, .int y, .int n] F (some (.int (-10 - 4))) (up2 F 5 11 4) := by
  refine Ev3.of okX10_copy.2.2.1 (Nat.le_of_ble_eq_true rfl) ?_
  show R2 E L mX10_copy 16 0 [some (.ref 5), some (.int 1), some (.int x), some (.int 0), some (.int y), some (.int n), none, none] [] F _
  refine R2.B (ls2 := [some (.ref 5), some (.int 1), some (.int x), some (.int 0), some (.int y), some (.int n), none, none]) (st2 := [.int 1]) b_X10_copy_0_1 rfl (fun hd => ?_)
  refine R2.callS3 (M2 := mX10_isSheet) (As := [.int 1]) (rest := []) hd lk_10_153 okX10_isSheet (by decide) (ev_isSheet E L F 1) (by decide) rfl rfl (Nat.le_of_ble_eq_true rfl) ?_
  refine R2.B (ls2 := [some (.ref 5), some (.int 1), some (.int x), some (.int 0), some (.int y), some (.int n), none, none]) (st2 := [.int (b2i (0 ≤ 1 ∧ 1 < 4))]) b_X10_copy_4_4 rfl (fun hd => ?_)
  refine R2.if_eq 14 hd (by decide) (fun c4 => absurd c4 (b2i_nz.mpr (by decide))) (fun c4 => ?_)
  refine R2.B (ls2 := [some (.ref 5), some (.int 1), some (.int x), some (.int 0), some (.int y), some (.int n), none, none]) (st2 := [.int 0]) b_X10_copy_7_8 rfl (fun hd => ?_)
  refine R2.callS3 (M2 := mX10_isSheet) (As := [.int 0]) (rest := []) hd lk_10_153 okX10_isSheet (by decide) (ev_isSheet E L F 0) (by decide) rfl rfl (Nat.le_of_ble_eq_true rfl) ?_
  refine R2.B (ls2 := [some (.ref 5), some (.int 1), some (.int x), some (.int 0), some (.int y), some (.int n), none, none]) (st2 := [.int (b2i (0 ≤ 0 ∧ 0 < 4))]) b_X10_copy_11_11 rfl (fun hd => ?_)
  refine R2.if_ne 17 hd (by decide) (fun c11 => ?_) (fun c11 => absurd c11 (b2i_nz.mpr (by decide)))
  refine R2.B (ls2 := [some (.ref 5), some (.int 1), some (.int x), some (.int 0), some (.int y), some (.int n), none, none]) (st2 := [.int 1, .ref 39]) b_X10_copy_17_22 rfl (fun hd => ?_)
  refine R2.aald (k2 := 42) 1 rfl hd rfl (by decide) (by omega) rfl ?_
  refine R2.B (ls2 := [some (.ref 5), some (.int 1), some (.int x), some (.int 0), some (.int y), some (.int n), some (.ref 42), none]) (st2 := [.int 0, .ref 39]) b_X10_copy_23_30 rfl (fun hd => ?_)
  refine R2.aald (k2 := 40) 0 rfl hd rfl (by decide) (by omega) rfl ?_
  refine R2.B (ls2 := [some (.ref 5), some (.int 1), some (.int x), some (.int 0), some (.int y), some (.int n), some (.ref 42), some (.ref 40)]) (st2 := [.int (F 42 1)]) b_X10_copy_31_38 rfl (fun hd => ?_)
  refine R2.if_ne 49 hd (by decide) (fun c38 => absurd (h1) c38) (fun c38 => ?_)
  refine R2.B (ls2 := [some (.ref 5), some (.int 1), some (.int x), some (.int 0), some (.int y), some (.int n), some (.ref 42), some (.ref 40)]) (st2 := [.int (F 40 1)]) b_X10_copy_41_46 rfl (fun hd => ?_)
  refine R2.if_eq 55 hd (by decide) (fun c46 => ?_) (fun c46 => absurd (h2) c46)
  refine R2.B (ls2 := [some (.ref 5), some (.int 1), some (.int x), some (.int 0), some (.int y), some (.int n), some (.ref 42), some (.ref 40)]) (st2 := [.int (F 40 2), .int (F 42 2)]) b_X10_copy_55_65 rfl (fun hd => ?_)
  refine R2.icmp_eq 74 hd (by decide) (fun c65 => absurd c65 (h3)) (fun c65 => ?_)
  refine R2.B (ls2 := [some (.ref 5), some (.int 1), some (.int x), some (.int 0), some (.int y), some (.int n), some (.ref 42), some (.ref 40)]) (st2 := [.int 4, .ref 5]) b_X10_copy_68_70 rfl (fun hd => ?_)
  refine R2.callV3 (M2 := mX10_found) (As := [.int 4]) (rest := []) hd lk_10_160 okX10_found (by decide) rfl (ev_found E L F 4) (by decide) rfl rfl (Nat.le_of_ble_eq_true rfl) ?_
  refine R2.B (ls2 := [some (.ref 5), some (.int 1), some (.int x), some (.int 0), some (.int y), some (.int n), some (.ref 42), some (.ref 40)]) (st2 := [.int (-10 - 4)]) b_X10_copy_73_73 rfl (fun hd => ?_)
  exact R2.ret3 (r := some (.int (-10 - 4))) hd trivial rfl rfl rfl
set_option maxRecDepth 20000 in
set_option maxHeartbeats 1000000 in
theorem x_copy_index10 (E : EE) (L : Nat) (F : FF) (x y n : Int32) (h1 : F 42 1 = 0) (h2 : F 40 1 = 0) (h3 : F 42 2 = F 40 2) (h : ¬ (0 ≤ x ∧ 0 ≤ n ∧ x ≤ F 42 3 - n) ∨ ¬ (0 ≤ y ∧ 0 ≤ n ∧ y ≤ F 40 3 - n)) : Ev3 E L 16 mX10_copy [.ref 5, .int 1, .int x, .int 0, .int y, .int n] F (some (.int (-10 - 2))) (up2 F 5 11 2) := by
  refine Ev3.of okX10_copy.2.2.1 (Nat.le_of_ble_eq_true rfl) ?_
  show R2 E L mX10_copy 16 0 [some (.ref 5), some (.int 1), some (.int x), some (.int 0), some (.int y), some (.int n), none, none] [] F _
  refine R2.B (ls2 := [some (.ref 5), some (.int 1), some (.int x), some (.int 0), some (.int y), some (.int n), none, none]) (st2 := [.int 1]) b_X10_copy_0_1 rfl (fun hd => ?_)
  refine R2.callS3 (M2 := mX10_isSheet) (As := [.int 1]) (rest := []) hd lk_10_153 okX10_isSheet (by decide) (ev_isSheet E L F 1) (by decide) rfl rfl (Nat.le_of_ble_eq_true rfl) ?_
  refine R2.B (ls2 := [some (.ref 5), some (.int 1), some (.int x), some (.int 0), some (.int y), some (.int n), none, none]) (st2 := [.int (b2i (0 ≤ 1 ∧ 1 < 4))]) b_X10_copy_4_4 rfl (fun hd => ?_)
  refine R2.if_eq 14 hd (by decide) (fun c4 => absurd c4 (b2i_nz.mpr (by decide))) (fun c4 => ?_)
  refine R2.B (ls2 := [some (.ref 5), some (.int 1), some (.int x), some (.int 0), some (.int y), some (.int n), none, none]) (st2 := [.int 0]) b_X10_copy_7_8 rfl (fun hd => ?_)
  refine R2.callS3 (M2 := mX10_isSheet) (As := [.int 0]) (rest := []) hd lk_10_153 okX10_isSheet (by decide) (ev_isSheet E L F 0) (by decide) rfl rfl (Nat.le_of_ble_eq_true rfl) ?_
  refine R2.B (ls2 := [some (.ref 5), some (.int 1), some (.int x), some (.int 0), some (.int y), some (.int n), none, none]) (st2 := [.int (b2i (0 ≤ 0 ∧ 0 < 4))]) b_X10_copy_11_11 rfl (fun hd => ?_)
  refine R2.if_ne 17 hd (by decide) (fun c11 => ?_) (fun c11 => absurd c11 (b2i_nz.mpr (by decide)))
  refine R2.B (ls2 := [some (.ref 5), some (.int 1), some (.int x), some (.int 0), some (.int y), some (.int n), none, none]) (st2 := [.int 1, .ref 39]) b_X10_copy_17_22 rfl (fun hd => ?_)
  refine R2.aald (k2 := 42) 1 rfl hd rfl (by decide) (by omega) rfl ?_
  refine R2.B (ls2 := [some (.ref 5), some (.int 1), some (.int x), some (.int 0), some (.int y), some (.int n), some (.ref 42), none]) (st2 := [.int 0, .ref 39]) b_X10_copy_23_30 rfl (fun hd => ?_)
  refine R2.aald (k2 := 40) 0 rfl hd rfl (by decide) (by omega) rfl ?_
  refine R2.B (ls2 := [some (.ref 5), some (.int 1), some (.int x), some (.int 0), some (.int y), some (.int n), some (.ref 42), some (.ref 40)]) (st2 := [.int (F 42 1)]) b_X10_copy_31_38 rfl (fun hd => ?_)
  refine R2.if_ne 49 hd (by decide) (fun c38 => absurd (h1) c38) (fun c38 => ?_)
  refine R2.B (ls2 := [some (.ref 5), some (.int 1), some (.int x), some (.int 0), some (.int y), some (.int n), some (.ref 42), some (.ref 40)]) (st2 := [.int (F 40 1)]) b_X10_copy_41_46 rfl (fun hd => ?_)
  refine R2.if_eq 55 hd (by decide) (fun c46 => ?_) (fun c46 => absurd (h2) c46)
  refine R2.B (ls2 := [some (.ref 5), some (.int 1), some (.int x), some (.int 0), some (.int y), some (.int n), some (.ref 42), some (.ref 40)]) (st2 := [.int (F 40 2), .int (F 42 2)]) b_X10_copy_55_65 rfl (fun hd => ?_)
  refine R2.icmp_eq 74 hd (by decide) (fun c65 => ?_) (fun c65 => absurd (h3) c65)
  refine R2.B (ls2 := [some (.ref 5), some (.int 1), some (.int x), some (.int 0), some (.int y), some (.int n), some (.ref 42), some (.ref 40)]) (st2 := [.int n, .int x, .ref 42]) b_X10_copy_74_79 rfl (fun hd => ?_)
  refine R2.callV3 (M2 := mX5_hasRange) (As := [.int x, .int n]) (rest := []) hd lk_10_281 okX5_hasRange (by decide) rfl (ev_hasRange42 E L F x n) (by decide) rfl rfl (Nat.le_of_ble_eq_true rfl) ?_
  refine R2.B (ls2 := [some (.ref 5), some (.int 1), some (.int x), some (.int 0), some (.int y), some (.int n), some (.ref 42), some (.ref 40)]) (st2 := [.int (b2i (0 ≤ x ∧ 0 ≤ n ∧ x ≤ F 42 3 - n))]) b_X10_copy_82_82 rfl (fun hd => ?_)
  refine R2.if_eq 97 hd (by decide) (fun c82 => ?_) (fun c82 => ?_)
  · have nc82 : ¬ (0 ≤ x ∧ 0 ≤ n ∧ x ≤ F 42 3 - n) := b2i_zero.mp c82
    refine R2.B (ls2 := [some (.ref 5), some (.int 1), some (.int x), some (.int 0), some (.int y), some (.int n), some (.ref 42), some (.ref 40)]) (st2 := [.int 2, .ref 5]) b_X10_copy_97_99 rfl (fun hd => ?_)
    refine R2.callV3 (M2 := mX10_found) (As := [.int 2]) (rest := []) hd lk_10_160 okX10_found (by decide) rfl (ev_found E L F 2) (by decide) rfl rfl (Nat.le_of_ble_eq_true rfl) ?_
    refine R2.B (ls2 := [some (.ref 5), some (.int 1), some (.int x), some (.int 0), some (.int y), some (.int n), some (.ref 42), some (.ref 40)]) (st2 := [.int (-10 - 2)]) b_X10_copy_102_102 rfl (fun hd => ?_)
    exact R2.ret3 (r := some (.int (-10 - 2))) hd trivial rfl rfl rfl
  · have nc82 : 0 ≤ x ∧ 0 ≤ n ∧ x ≤ F 42 3 - n := b2i_nz.mp c82
    refine R2.B (ls2 := [some (.ref 5), some (.int 1), some (.int x), some (.int 0), some (.int y), some (.int n), some (.ref 42), some (.ref 40)]) (st2 := [.int n, .int y, .ref 40]) b_X10_copy_85_91 rfl (fun hd => ?_)
    refine R2.callV3 (M2 := mX5_hasRange) (As := [.int y, .int n]) (rest := []) hd lk_10_281 okX5_hasRange (by decide) rfl (ev_hasRange40 E L F y n) (by decide) rfl rfl (Nat.le_of_ble_eq_true rfl) ?_
    refine R2.B (ls2 := [some (.ref 5), some (.int 1), some (.int x), some (.int 0), some (.int y), some (.int n), some (.ref 42), some (.ref 40)]) (st2 := [.int (b2i (0 ≤ y ∧ 0 ≤ n ∧ y ≤ F 40 3 - n))]) b_X10_copy_94_94 rfl (fun hd => ?_)
    refine R2.if_ne 103 hd (by decide) (fun c94 => ?_) (fun c94 => ?_)
    · have nc94 : 0 ≤ y ∧ 0 ≤ n ∧ y ≤ F 40 3 - n := b2i_nz.mp c94
      refine R2.B (ls2 := [some (.ref 5), some (.int 1), some (.int x), some (.int 0), some (.int y), some (.int n), some (.ref 42), some (.ref 40)]) (st2 := []) b_X10_copy_103_103 rfl (fun hd => ?_)
      exact False.elim (by clear hd; grind)
    · have nc94 : ¬ (0 ≤ y ∧ 0 ≤ n ∧ y ≤ F 40 3 - n) := b2i_zero.mp c94
      refine R2.B (ls2 := [some (.ref 5), some (.int 1), some (.int x), some (.int 0), some (.int y), some (.int n), some (.ref 42), some (.ref 40)]) (st2 := [.int 2, .ref 5]) b_X10_copy_97_99 rfl (fun hd => ?_)
      refine R2.callV3 (M2 := mX10_found) (As := [.int 2]) (rest := []) hd lk_10_160 okX10_found (by decide) rfl (ev_found E L F 2) (by decide) rfl rfl (Nat.le_of_ble_eq_true rfl) ?_
      refine R2.B (ls2 := [some (.ref 5), some (.int 1), some (.int x), some (.int 0), some (.int y), some (.int n), some (.ref 42), some (.ref 40)]) (st2 := [.int (-10 - 2)]) b_X10_copy_102_102 rfl (fun hd => ?_)
      exact R2.ret3 (r := some (.int (-10 - 2))) hd trivial rfl rfl rfl
set_option maxRecDepth 20000 in
set_option maxHeartbeats 1000000 in
theorem x_copy10 (E : EE) (L : Nat) (F : FF) (a b q : Nat) (h1 : F 42 1 = 0) (h2 : F 40 1 = 0) (h3 : F 42 2 = F 40 2) (hx : (0 ≤ nI a ∧ 0 ≤ nI q ∧ nI a ≤ F 42 3 - nI q)) (hy : (0 ≤ nI b ∧ 0 ≤ nI q ∧ nI b ≤ F 40 3 - nI q)) (ha : a + q ≤ 60) (hb : b + q ≤ 60) : Ev3 E L 16 mX10_copy [.ref 5, .int 1, .int (nI a), .int 0, .int (nI b), .int (nI q)] F (some (.int (1))) (cpyF F 43 41 a b q) := by
  refine Ev3.of okX10_copy.2.2.1 (Nat.le_of_ble_eq_true rfl) ?_
  show R2 E L mX10_copy 16 0 [some (.ref 5), some (.int 1), some (.int (nI a)), some (.int 0), some (.int (nI b)), some (.int (nI q)), none, none] [] F _
  refine R2.B (ls2 := [some (.ref 5), some (.int 1), some (.int (nI a)), some (.int 0), some (.int (nI b)), some (.int (nI q)), none, none]) (st2 := [.int 1]) b_X10_copy_0_1 rfl (fun hd => ?_)
  refine R2.callS3 (M2 := mX10_isSheet) (As := [.int 1]) (rest := []) hd lk_10_153 okX10_isSheet (by decide) (ev_isSheet E L F 1) (by decide) rfl rfl (Nat.le_of_ble_eq_true rfl) ?_
  refine R2.B (ls2 := [some (.ref 5), some (.int 1), some (.int (nI a)), some (.int 0), some (.int (nI b)), some (.int (nI q)), none, none]) (st2 := [.int (b2i (0 ≤ 1 ∧ 1 < 4))]) b_X10_copy_4_4 rfl (fun hd => ?_)
  refine R2.if_eq 14 hd (by decide) (fun c4 => absurd c4 (b2i_nz.mpr (by decide))) (fun c4 => ?_)
  refine R2.B (ls2 := [some (.ref 5), some (.int 1), some (.int (nI a)), some (.int 0), some (.int (nI b)), some (.int (nI q)), none, none]) (st2 := [.int 0]) b_X10_copy_7_8 rfl (fun hd => ?_)
  refine R2.callS3 (M2 := mX10_isSheet) (As := [.int 0]) (rest := []) hd lk_10_153 okX10_isSheet (by decide) (ev_isSheet E L F 0) (by decide) rfl rfl (Nat.le_of_ble_eq_true rfl) ?_
  refine R2.B (ls2 := [some (.ref 5), some (.int 1), some (.int (nI a)), some (.int 0), some (.int (nI b)), some (.int (nI q)), none, none]) (st2 := [.int (b2i (0 ≤ 0 ∧ 0 < 4))]) b_X10_copy_11_11 rfl (fun hd => ?_)
  refine R2.if_ne 17 hd (by decide) (fun c11 => ?_) (fun c11 => absurd c11 (b2i_nz.mpr (by decide)))
  refine R2.B (ls2 := [some (.ref 5), some (.int 1), some (.int (nI a)), some (.int 0), some (.int (nI b)), some (.int (nI q)), none, none]) (st2 := [.int 1, .ref 39]) b_X10_copy_17_22 rfl (fun hd => ?_)
  refine R2.aald (k2 := 42) 1 rfl hd rfl (by decide) (by omega) rfl ?_
  refine R2.B (ls2 := [some (.ref 5), some (.int 1), some (.int (nI a)), some (.int 0), some (.int (nI b)), some (.int (nI q)), some (.ref 42), none]) (st2 := [.int 0, .ref 39]) b_X10_copy_23_30 rfl (fun hd => ?_)
  refine R2.aald (k2 := 40) 0 rfl hd rfl (by decide) (by omega) rfl ?_
  refine R2.B (ls2 := [some (.ref 5), some (.int 1), some (.int (nI a)), some (.int 0), some (.int (nI b)), some (.int (nI q)), some (.ref 42), some (.ref 40)]) (st2 := [.int (F 42 1)]) b_X10_copy_31_38 rfl (fun hd => ?_)
  refine R2.if_ne 49 hd (by decide) (fun c38 => absurd (h1) c38) (fun c38 => ?_)
  refine R2.B (ls2 := [some (.ref 5), some (.int 1), some (.int (nI a)), some (.int 0), some (.int (nI b)), some (.int (nI q)), some (.ref 42), some (.ref 40)]) (st2 := [.int (F 40 1)]) b_X10_copy_41_46 rfl (fun hd => ?_)
  refine R2.if_eq 55 hd (by decide) (fun c46 => ?_) (fun c46 => absurd (h2) c46)
  refine R2.B (ls2 := [some (.ref 5), some (.int 1), some (.int (nI a)), some (.int 0), some (.int (nI b)), some (.int (nI q)), some (.ref 42), some (.ref 40)]) (st2 := [.int (F 40 2), .int (F 42 2)]) b_X10_copy_55_65 rfl (fun hd => ?_)
  refine R2.icmp_eq 74 hd (by decide) (fun c65 => ?_) (fun c65 => absurd (h3) c65)
  refine R2.B (ls2 := [some (.ref 5), some (.int 1), some (.int (nI a)), some (.int 0), some (.int (nI b)), some (.int (nI q)), some (.ref 42), some (.ref 40)]) (st2 := [.int (nI q), .int (nI a), .ref 42]) b_X10_copy_74_79 rfl (fun hd => ?_)
  refine R2.callV3 (M2 := mX5_hasRange) (As := [.int (nI a), .int (nI q)]) (rest := []) hd lk_10_281 okX5_hasRange (by decide) rfl (ev_hasRange42 E L F (nI a) (nI q)) (by decide) rfl rfl (Nat.le_of_ble_eq_true rfl) ?_
  refine R2.B (ls2 := [some (.ref 5), some (.int 1), some (.int (nI a)), some (.int 0), some (.int (nI b)), some (.int (nI q)), some (.ref 42), some (.ref 40)]) (st2 := [.int (b2i (0 ≤ (nI a) ∧ 0 ≤ (nI q) ∧ (nI a) ≤ F 42 3 - (nI q)))]) b_X10_copy_82_82 rfl (fun hd => ?_)
  refine R2.if_eq 97 hd (by decide) (fun c82 => absurd c82 (b2i_nz.mpr hx)) (fun c82 => ?_)
  refine R2.B (ls2 := [some (.ref 5), some (.int 1), some (.int (nI a)), some (.int 0), some (.int (nI b)), some (.int (nI q)), some (.ref 42), some (.ref 40)]) (st2 := [.int (nI q), .int (nI b), .ref 40]) b_X10_copy_85_91 rfl (fun hd => ?_)
  refine R2.callV3 (M2 := mX5_hasRange) (As := [.int (nI b), .int (nI q)]) (rest := []) hd lk_10_281 okX5_hasRange (by decide) rfl (ev_hasRange40 E L F (nI b) (nI q)) (by decide) rfl rfl (Nat.le_of_ble_eq_true rfl) ?_
  refine R2.B (ls2 := [some (.ref 5), some (.int 1), some (.int (nI a)), some (.int 0), some (.int (nI b)), some (.int (nI q)), some (.ref 42), some (.ref 40)]) (st2 := [.int (b2i (0 ≤ (nI b) ∧ 0 ≤ (nI q) ∧ (nI b) ≤ F 40 3 - (nI q)))]) b_X10_copy_94_94 rfl (fun hd => ?_)
  refine R2.if_ne 103 hd (by decide) (fun c94 => ?_) (fun c94 => absurd c94 (b2i_nz.mpr hy))
  refine R2.B (ls2 := [some (.ref 5), some (.int 1), some (.int (nI a)), some (.int 0), some (.int (nI b)), some (.int (nI q)), some (.ref 42), some (.ref 40)]) (st2 := [.int (nI q), .int (nI b), .ref 41, .int (nI a), .ref 43]) b_X10_copy_103_118 rfl (fun hd => ?_)
  refine R2.acopy (sp := a) (dp := b) (n := q) rfl rfl rfl hd ac_10_284 (by decide) (by decide) rfl rfl (fun _ => rfl) (fun _ => rfl) (by decide) (by decide) (show a + q ≤ 60 by omega) (show b + q ≤ 60 by omega) (by decide) (Nat.le_of_ble_eq_true rfl) ?_
  refine R2.B (ls2 := [some (.ref 5), some (.int 1), some (.int (nI a)), some (.int 0), some (.int (nI b)), some (.int (nI q)), some (.ref 42), some (.ref 40)]) (st2 := [.int 1]) b_X10_copy_121_122 rfl (fun hd => ?_)
  exact R2.ret3 (r := some (.int 1)) hd trivial rfl rfl rfl
set_option maxRecDepth 20000 in
set_option maxHeartbeats 1000000 in
theorem x_copy_null11 (E : EE) (L : Nat) (F : FF) (x y n : Int32) (h : ¬ F 42 1 = 0 ∨ ¬ F 42 1 = 0) : Ev3 E L 16 mX10_copy [.ref 5, .int 1, .int x, .int 1, .int y, .int n] F (some (.int (-10 - 1))) (up2 F 5 11 1) := by
  refine Ev3.of okX10_copy.2.2.1 (Nat.le_of_ble_eq_true rfl) ?_
  show R2 E L mX10_copy 16 0 [some (.ref 5), some (.int 1), some (.int x), some (.int 1), some (.int y), some (.int n), none, none] [] F _
  refine R2.B (ls2 := [some (.ref 5), some (.int 1), some (.int x), some (.int 1), some (.int y), some (.int n), none, none]) (st2 := [.int 1]) b_X10_copy_0_1 rfl (fun hd => ?_)
  refine R2.callS3 (M2 := mX10_isSheet) (As := [.int 1]) (rest := []) hd lk_10_153 okX10_isSheet (by decide) (ev_isSheet E L F 1) (by decide) rfl rfl (Nat.le_of_ble_eq_true rfl) ?_
  refine R2.B (ls2 := [some (.ref 5), some (.int 1), some (.int x), some (.int 1), some (.int y), some (.int n), none, none]) (st2 := [.int (b2i (0 ≤ 1 ∧ 1 < 4))]) b_X10_copy_4_4 rfl (fun hd => ?_)
  refine R2.if_eq 14 hd (by decide) (fun c4 => absurd c4 (b2i_nz.mpr (by decide))) (fun c4 => ?_)
  refine R2.B (ls2 := [some (.ref 5), some (.int 1), some (.int x), some (.int 1), some (.int y), some (.int n), none, none]) (st2 := [.int 1]) b_X10_copy_7_8 rfl (fun hd => ?_)
  refine R2.callS3 (M2 := mX10_isSheet) (As := [.int 1]) (rest := []) hd lk_10_153 okX10_isSheet (by decide) (ev_isSheet E L F 1) (by decide) rfl rfl (Nat.le_of_ble_eq_true rfl) ?_
  refine R2.B (ls2 := [some (.ref 5), some (.int 1), some (.int x), some (.int 1), some (.int y), some (.int n), none, none]) (st2 := [.int (b2i (0 ≤ 1 ∧ 1 < 4))]) b_X10_copy_11_11 rfl (fun hd => ?_)
  refine R2.if_ne 17 hd (by decide) (fun c11 => ?_) (fun c11 => absurd c11 (b2i_nz.mpr (by decide)))
  refine R2.B (ls2 := [some (.ref 5), some (.int 1), some (.int x), some (.int 1), some (.int y), some (.int n), none, none]) (st2 := [.int 1, .ref 39]) b_X10_copy_17_22 rfl (fun hd => ?_)
  refine R2.aald (k2 := 42) 1 rfl hd rfl (by decide) (by omega) rfl ?_
  refine R2.B (ls2 := [some (.ref 5), some (.int 1), some (.int x), some (.int 1), some (.int y), some (.int n), some (.ref 42), none]) (st2 := [.int 1, .ref 39]) b_X10_copy_23_30 rfl (fun hd => ?_)
  refine R2.aald (k2 := 42) 1 rfl hd rfl (by decide) (by omega) rfl ?_
  refine R2.B (ls2 := [some (.ref 5), some (.int 1), some (.int x), some (.int 1), some (.int y), some (.int n), some (.ref 42), some (.ref 42)]) (st2 := [.int (F 42 1)]) b_X10_copy_31_38 rfl (fun hd => ?_)
  refine R2.if_ne 49 hd (by decide) (fun c38 => ?_) (fun c38 => ?_)
  · refine R2.B (ls2 := [some (.ref 5), some (.int 1), some (.int x), some (.int 1), some (.int y), some (.int n), some (.ref 42), some (.ref 42)]) (st2 := [.int 1, .ref 5]) b_X10_copy_49_51 rfl (fun hd => ?_)
    refine R2.callV3 (M2 := mX10_found) (As := [.int 1]) (rest := []) hd lk_10_160 okX10_found (by decide) rfl (ev_found E L F 1) (by decide) rfl rfl (Nat.le_of_ble_eq_true rfl) ?_
    refine R2.B (ls2 := [some (.ref 5), some (.int 1), some (.int x), some (.int 1), some (.int y), some (.int n), some (.ref 42), some (.ref 42)]) (st2 := [.int (-10 - 1)]) b_X10_copy_54_54 rfl (fun hd => ?_)
    exact R2.ret3 (r := some (.int (-10 - 1))) hd trivial rfl rfl rfl
  · refine R2.B (ls2 := [some (.ref 5), some (.int 1), some (.int x), some (.int 1), some (.int y), some (.int n), some (.ref 42), some (.ref 42)]) (st2 := [.int (F 42 1)]) b_X10_copy_41_46 rfl (fun hd => ?_)
    refine R2.if_eq 55 hd (by decide) (fun c46 => ?_) (fun c46 => ?_)
    · refine R2.B (ls2 := [some (.ref 5), some (.int 1), some (.int x), some (.int 1), some (.int y), some (.int n), some (.ref 42), some (.ref 42)]) (st2 := []) b_X10_copy_55_55 rfl (fun hd => ?_)
      exact False.elim (by clear hd; grind)
    · refine R2.B (ls2 := [some (.ref 5), some (.int 1), some (.int x), some (.int 1), some (.int y), some (.int n), some (.ref 42), some (.ref 42)]) (st2 := [.int 1, .ref 5]) b_X10_copy_49_51 rfl (fun hd => ?_)
      refine R2.callV3 (M2 := mX10_found) (As := [.int 1]) (rest := []) hd lk_10_160 okX10_found (by decide) rfl (ev_found E L F 1) (by decide) rfl rfl (Nat.le_of_ble_eq_true rfl) ?_
      refine R2.B (ls2 := [some (.ref 5), some (.int 1), some (.int x), some (.int 1), some (.int y), some (.int n), some (.ref 42), some (.ref 42)]) (st2 := [.int (-10 - 1)]) b_X10_copy_54_54 rfl (fun hd => ?_)
      exact R2.ret3 (r := some (.int (-10 - 1))) hd trivial rfl rfl rfl
set_option maxRecDepth 20000 in
set_option maxHeartbeats 1000000 in
theorem x_copy_index11 (E : EE) (L : Nat) (F : FF) (x y n : Int32) (h1 : F 42 1 = 0) (h2 : F 42 1 = 0) (h3 : F 42 2 = F 42 2) (h : ¬ (0 ≤ x ∧ 0 ≤ n ∧ x ≤ F 42 3 - n) ∨ ¬ (0 ≤ y ∧ 0 ≤ n ∧ y ≤ F 42 3 - n)) : Ev3 E L 16 mX10_copy [.ref 5, .int 1, .int x, .int 1, .int y, .int n] F (some (.int (-10 - 2))) (up2 F 5 11 2) := by
  refine Ev3.of okX10_copy.2.2.1 (Nat.le_of_ble_eq_true rfl) ?_
  show R2 E L mX10_copy 16 0 [some (.ref 5), some (.int 1), some (.int x), some (.int 1), some (.int y), some (.int n), none, none] [] F _
  refine R2.B (ls2 := [some (.ref 5), some (.int 1), some (.int x), some (.int 1), some (.int y), some (.int n), none, none]) (st2 := [.int 1]) b_X10_copy_0_1 rfl (fun hd => ?_)
  refine R2.callS3 (M2 := mX10_isSheet) (As := [.int 1]) (rest := []) hd lk_10_153 okX10_isSheet (by decide) (ev_isSheet E L F 1) (by decide) rfl rfl (Nat.le_of_ble_eq_true rfl) ?_
  refine R2.B (ls2 := [some (.ref 5), some (.int 1), some (.int x), some (.int 1), some (.int y), some (.int n), none, none]) (st2 := [.int (b2i (0 ≤ 1 ∧ 1 < 4))]) b_X10_copy_4_4 rfl (fun hd => ?_)
  refine R2.if_eq 14 hd (by decide) (fun c4 => absurd c4 (b2i_nz.mpr (by decide))) (fun c4 => ?_)
  refine R2.B (ls2 := [some (.ref 5), some (.int 1), some (.int x), some (.int 1), some (.int y), some (.int n), none, none]) (st2 := [.int 1]) b_X10_copy_7_8 rfl (fun hd => ?_)
  refine R2.callS3 (M2 := mX10_isSheet) (As := [.int 1]) (rest := []) hd lk_10_153 okX10_isSheet (by decide) (ev_isSheet E L F 1) (by decide) rfl rfl (Nat.le_of_ble_eq_true rfl) ?_
  refine R2.B (ls2 := [some (.ref 5), some (.int 1), some (.int x), some (.int 1), some (.int y), some (.int n), none, none]) (st2 := [.int (b2i (0 ≤ 1 ∧ 1 < 4))]) b_X10_copy_11_11 rfl (fun hd => ?_)
  refine R2.if_ne 17 hd (by decide) (fun c11 => ?_) (fun c11 => absurd c11 (b2i_nz.mpr (by decide)))
  refine R2.B (ls2 := [some (.ref 5), some (.int 1), some (.int x), some (.int 1), some (.int y), some (.int n), none, none]) (st2 := [.int 1, .ref 39]) b_X10_copy_17_22 rfl (fun hd => ?_)
  refine R2.aald (k2 := 42) 1 rfl hd rfl (by decide) (by omega) rfl ?_
  refine R2.B (ls2 := [some (.ref 5), some (.int 1), some (.int x), some (.int 1), some (.int y), some (.int n), some (.ref 42), none]) (st2 := [.int 1, .ref 39]) b_X10_copy_23_30 rfl (fun hd => ?_)
  refine R2.aald (k2 := 42) 1 rfl hd rfl (by decide) (by omega) rfl ?_
  refine R2.B (ls2 := [some (.ref 5), some (.int 1), some (.int x), some (.int 1), some (.int y), some (.int n), some (.ref 42), some (.ref 42)]) (st2 := [.int (F 42 1)]) b_X10_copy_31_38 rfl (fun hd => ?_)
  refine R2.if_ne 49 hd (by decide) (fun c38 => absurd (h1) c38) (fun c38 => ?_)
  refine R2.B (ls2 := [some (.ref 5), some (.int 1), some (.int x), some (.int 1), some (.int y), some (.int n), some (.ref 42), some (.ref 42)]) (st2 := [.int (F 42 1)]) b_X10_copy_41_46 rfl (fun hd => ?_)
  refine R2.if_eq 55 hd (by decide) (fun c46 => ?_) (fun c46 => absurd (h2) c46)
  refine R2.B (ls2 := [some (.ref 5), some (.int 1), some (.int x), some (.int 1), some (.int y), some (.int n), some (.ref 42), some (.ref 42)]) (st2 := [.int (F 42 2), .int (F 42 2)]) b_X10_copy_55_65 rfl (fun hd => ?_)
  refine R2.icmp_eq 74 hd (by decide) (fun c65 => ?_) (fun c65 => absurd (h3) c65)
  refine R2.B (ls2 := [some (.ref 5), some (.int 1), some (.int x), some (.int 1), some (.int y), some (.int n), some (.ref 42), some (.ref 42)]) (st2 := [.int n, .int x, .ref 42]) b_X10_copy_74_79 rfl (fun hd => ?_)
  refine R2.callV3 (M2 := mX5_hasRange) (As := [.int x, .int n]) (rest := []) hd lk_10_281 okX5_hasRange (by decide) rfl (ev_hasRange42 E L F x n) (by decide) rfl rfl (Nat.le_of_ble_eq_true rfl) ?_
  refine R2.B (ls2 := [some (.ref 5), some (.int 1), some (.int x), some (.int 1), some (.int y), some (.int n), some (.ref 42), some (.ref 42)]) (st2 := [.int (b2i (0 ≤ x ∧ 0 ≤ n ∧ x ≤ F 42 3 - n))]) b_X10_copy_82_82 rfl (fun hd => ?_)
  refine R2.if_eq 97 hd (by decide) (fun c82 => ?_) (fun c82 => ?_)
  · have nc82 : ¬ (0 ≤ x ∧ 0 ≤ n ∧ x ≤ F 42 3 - n) := b2i_zero.mp c82
    refine R2.B (ls2 := [some (.ref 5), some (.int 1), some (.int x), some (.int 1), some (.int y), some (.int n), some (.ref 42), some (.ref 42)]) (st2 := [.int 2, .ref 5]) b_X10_copy_97_99 rfl (fun hd => ?_)
    refine R2.callV3 (M2 := mX10_found) (As := [.int 2]) (rest := []) hd lk_10_160 okX10_found (by decide) rfl (ev_found E L F 2) (by decide) rfl rfl (Nat.le_of_ble_eq_true rfl) ?_
    refine R2.B (ls2 := [some (.ref 5), some (.int 1), some (.int x), some (.int 1), some (.int y), some (.int n), some (.ref 42), some (.ref 42)]) (st2 := [.int (-10 - 2)]) b_X10_copy_102_102 rfl (fun hd => ?_)
    exact R2.ret3 (r := some (.int (-10 - 2))) hd trivial rfl rfl rfl
  · have nc82 : 0 ≤ x ∧ 0 ≤ n ∧ x ≤ F 42 3 - n := b2i_nz.mp c82
    refine R2.B (ls2 := [some (.ref 5), some (.int 1), some (.int x), some (.int 1), some (.int y), some (.int n), some (.ref 42), some (.ref 42)]) (st2 := [.int n, .int y, .ref 42]) b_X10_copy_85_91 rfl (fun hd => ?_)
    refine R2.callV3 (M2 := mX5_hasRange) (As := [.int y, .int n]) (rest := []) hd lk_10_281 okX5_hasRange (by decide) rfl (ev_hasRange42 E L F y n) (by decide) rfl rfl (Nat.le_of_ble_eq_true rfl) ?_
    refine R2.B (ls2 := [some (.ref 5), some (.int 1), some (.int x), some (.int 1), some (.int y), some (.int n), some (.ref 42), some (.ref 42)]) (st2 := [.int (b2i (0 ≤ y ∧ 0 ≤ n ∧ y ≤ F 42 3 - n))]) b_X10_copy_94_94 rfl (fun hd => ?_)
    refine R2.if_ne 103 hd (by decide) (fun c94 => ?_) (fun c94 => ?_)
    · have nc94 : 0 ≤ y ∧ 0 ≤ n ∧ y ≤ F 42 3 - n := b2i_nz.mp c94
      refine R2.B (ls2 := [some (.ref 5), some (.int 1), some (.int x), some (.int 1), some (.int y), some (.int n), some (.ref 42), some (.ref 42)]) (st2 := []) b_X10_copy_103_103 rfl (fun hd => ?_)
      exact False.elim (by clear hd; grind)
    · have nc94 : ¬ (0 ≤ y ∧ 0 ≤ n ∧ y ≤ F 42 3 - n) := b2i_zero.mp c94
      refine R2.B (ls2 := [some (.ref 5), some (.int 1), some (.int x), some (.int 1), some (.int y), some (.int n), some (.ref 42), some (.ref 42)]) (st2 := [.int 2, .ref 5]) b_X10_copy_97_99 rfl (fun hd => ?_)
      refine R2.callV3 (M2 := mX10_found) (As := [.int 2]) (rest := []) hd lk_10_160 okX10_found (by decide) rfl (ev_found E L F 2) (by decide) rfl rfl (Nat.le_of_ble_eq_true rfl) ?_
      refine R2.B (ls2 := [some (.ref 5), some (.int 1), some (.int x), some (.int 1), some (.int y), some (.int n), some (.ref 42), some (.ref 42)]) (st2 := [.int (-10 - 2)]) b_X10_copy_102_102 rfl (fun hd => ?_)
      exact R2.ret3 (r := some (.int (-10 - 2))) hd trivial rfl rfl rfl
set_option maxRecDepth 20000 in
set_option maxHeartbeats 1000000 in
theorem x_copy11 (E : EE) (L : Nat) (F : FF) (a b q : Nat) (h1 : F 42 1 = 0) (h2 : F 42 1 = 0) (h3 : F 42 2 = F 42 2) (hx : (0 ≤ nI a ∧ 0 ≤ nI q ∧ nI a ≤ F 42 3 - nI q)) (hy : (0 ≤ nI b ∧ 0 ≤ nI q ∧ nI b ≤ F 42 3 - nI q)) (ha : a + q ≤ 60) (hb : b + q ≤ 60) : Ev3 E L 16 mX10_copy [.ref 5, .int 1, .int (nI a), .int 1, .int (nI b), .int (nI q)] F (some (.int (1))) (cpyF F 43 43 a b q) := by
  refine Ev3.of okX10_copy.2.2.1 (Nat.le_of_ble_eq_true rfl) ?_
  show R2 E L mX10_copy 16 0 [some (.ref 5), some (.int 1), some (.int (nI a)), some (.int 1), some (.int (nI b)), some (.int (nI q)), none, none] [] F _
  refine R2.B (ls2 := [some (.ref 5), some (.int 1), some (.int (nI a)), some (.int 1), some (.int (nI b)), some (.int (nI q)), none, none]) (st2 := [.int 1]) b_X10_copy_0_1 rfl (fun hd => ?_)
  refine R2.callS3 (M2 := mX10_isSheet) (As := [.int 1]) (rest := []) hd lk_10_153 okX10_isSheet (by decide) (ev_isSheet E L F 1) (by decide) rfl rfl (Nat.le_of_ble_eq_true rfl) ?_
  refine R2.B (ls2 := [some (.ref 5), some (.int 1), some (.int (nI a)), some (.int 1), some (.int (nI b)), some (.int (nI q)), none, none]) (st2 := [.int (b2i (0 ≤ 1 ∧ 1 < 4))]) b_X10_copy_4_4 rfl (fun hd => ?_)
  refine R2.if_eq 14 hd (by decide) (fun c4 => absurd c4 (b2i_nz.mpr (by decide))) (fun c4 => ?_)
  refine R2.B (ls2 := [some (.ref 5), some (.int 1), some (.int (nI a)), some (.int 1), some (.int (nI b)), some (.int (nI q)), none, none]) (st2 := [.int 1]) b_X10_copy_7_8 rfl (fun hd => ?_)
  refine R2.callS3 (M2 := mX10_isSheet) (As := [.int 1]) (rest := []) hd lk_10_153 okX10_isSheet (by decide) (ev_isSheet E L F 1) (by decide) rfl rfl (Nat.le_of_ble_eq_true rfl) ?_
  refine R2.B (ls2 := [some (.ref 5), some (.int 1), some (.int (nI a)), some (.int 1), some (.int (nI b)), some (.int (nI q)), none, none]) (st2 := [.int (b2i (0 ≤ 1 ∧ 1 < 4))]) b_X10_copy_11_11 rfl (fun hd => ?_)
  refine R2.if_ne 17 hd (by decide) (fun c11 => ?_) (fun c11 => absurd c11 (b2i_nz.mpr (by decide)))
  refine R2.B (ls2 := [some (.ref 5), some (.int 1), some (.int (nI a)), some (.int 1), some (.int (nI b)), some (.int (nI q)), none, none]) (st2 := [.int 1, .ref 39]) b_X10_copy_17_22 rfl (fun hd => ?_)
  refine R2.aald (k2 := 42) 1 rfl hd rfl (by decide) (by omega) rfl ?_
  refine R2.B (ls2 := [some (.ref 5), some (.int 1), some (.int (nI a)), some (.int 1), some (.int (nI b)), some (.int (nI q)), some (.ref 42), none]) (st2 := [.int 1, .ref 39]) b_X10_copy_23_30 rfl (fun hd => ?_)
  refine R2.aald (k2 := 42) 1 rfl hd rfl (by decide) (by omega) rfl ?_
  refine R2.B (ls2 := [some (.ref 5), some (.int 1), some (.int (nI a)), some (.int 1), some (.int (nI b)), some (.int (nI q)), some (.ref 42), some (.ref 42)]) (st2 := [.int (F 42 1)]) b_X10_copy_31_38 rfl (fun hd => ?_)
  refine R2.if_ne 49 hd (by decide) (fun c38 => absurd (h1) c38) (fun c38 => ?_)
  refine R2.B (ls2 := [some (.ref 5), some (.int 1), some (.int (nI a)), some (.int 1), some (.int (nI b)), some (.int (nI q)), some (.ref 42), some (.ref 42)]) (st2 := [.int (F 42 1)]) b_X10_copy_41_46 rfl (fun hd => ?_)
  refine R2.if_eq 55 hd (by decide) (fun c46 => ?_) (fun c46 => absurd (h2) c46)
  refine R2.B (ls2 := [some (.ref 5), some (.int 1), some (.int (nI a)), some (.int 1), some (.int (nI b)), some (.int (nI q)), some (.ref 42), some (.ref 42)]) (st2 := [.int (F 42 2), .int (F 42 2)]) b_X10_copy_55_65 rfl (fun hd => ?_)
  refine R2.icmp_eq 74 hd (by decide) (fun c65 => ?_) (fun c65 => absurd (h3) c65)
  refine R2.B (ls2 := [some (.ref 5), some (.int 1), some (.int (nI a)), some (.int 1), some (.int (nI b)), some (.int (nI q)), some (.ref 42), some (.ref 42)]) (st2 := [.int (nI q), .int (nI a), .ref 42]) b_X10_copy_74_79 rfl (fun hd => ?_)
  refine R2.callV3 (M2 := mX5_hasRange) (As := [.int (nI a), .int (nI q)]) (rest := []) hd lk_10_281 okX5_hasRange (by decide) rfl (ev_hasRange42 E L F (nI a) (nI q)) (by decide) rfl rfl (Nat.le_of_ble_eq_true rfl) ?_
  refine R2.B (ls2 := [some (.ref 5), some (.int 1), some (.int (nI a)), some (.int 1), some (.int (nI b)), some (.int (nI q)), some (.ref 42), some (.ref 42)]) (st2 := [.int (b2i (0 ≤ (nI a) ∧ 0 ≤ (nI q) ∧ (nI a) ≤ F 42 3 - (nI q)))]) b_X10_copy_82_82 rfl (fun hd => ?_)
  refine R2.if_eq 97 hd (by decide) (fun c82 => absurd c82 (b2i_nz.mpr hx)) (fun c82 => ?_)
  refine R2.B (ls2 := [some (.ref 5), some (.int 1), some (.int (nI a)), some (.int 1), some (.int (nI b)), some (.int (nI q)), some (.ref 42), some (.ref 42)]) (st2 := [.int (nI q), .int (nI b), .ref 42]) b_X10_copy_85_91 rfl (fun hd => ?_)
  refine R2.callV3 (M2 := mX5_hasRange) (As := [.int (nI b), .int (nI q)]) (rest := []) hd lk_10_281 okX5_hasRange (by decide) rfl (ev_hasRange42 E L F (nI b) (nI q)) (by decide) rfl rfl (Nat.le_of_ble_eq_true rfl) ?_
  refine R2.B (ls2 := [some (.ref 5), some (.int 1), some (.int (nI a)), some (.int 1), some (.int (nI b)), some (.int (nI q)), some (.ref 42), some (.ref 42)]) (st2 := [.int (b2i (0 ≤ (nI b) ∧ 0 ≤ (nI q) ∧ (nI b) ≤ F 42 3 - (nI q)))]) b_X10_copy_94_94 rfl (fun hd => ?_)
  refine R2.if_ne 103 hd (by decide) (fun c94 => ?_) (fun c94 => absurd c94 (b2i_nz.mpr hy))
  refine R2.B (ls2 := [some (.ref 5), some (.int 1), some (.int (nI a)), some (.int 1), some (.int (nI b)), some (.int (nI q)), some (.ref 42), some (.ref 42)]) (st2 := [.int (nI q), .int (nI b), .ref 43, .int (nI a), .ref 43]) b_X10_copy_103_118 rfl (fun hd => ?_)
  refine R2.acopy (sp := a) (dp := b) (n := q) rfl rfl rfl hd ac_10_284 (by decide) (by decide) rfl rfl (fun _ => rfl) (fun _ => rfl) (by decide) (by decide) (show a + q ≤ 60 by omega) (show b + q ≤ 60 by omega) (by decide) (Nat.le_of_ble_eq_true rfl) ?_
  refine R2.B (ls2 := [some (.ref 5), some (.int 1), some (.int (nI a)), some (.int 1), some (.int (nI b)), some (.int (nI q)), some (.ref 42), some (.ref 42)]) (st2 := [.int 1]) b_X10_copy_121_122 rfl (fun hd => ?_)
  exact R2.ret3 (r := some (.int 1)) hd trivial rfl rfl rfl
set_option maxRecDepth 20000 in
set_option maxHeartbeats 1000000 in
theorem x_copy_null12 (E : EE) (L : Nat) (F : FF) (x y n : Int32) (h : ¬ F 42 1 = 0 ∨ ¬ F 44 1 = 0) : Ev3 E L 16 mX10_copy [.ref 5, .int 1, .int x, .int 2, .int y, .int n] F (some (.int (-10 - 1))) (up2 F 5 11 1) := by
  refine Ev3.of okX10_copy.2.2.1 (Nat.le_of_ble_eq_true rfl) ?_
  show R2 E L mX10_copy 16 0 [some (.ref 5), some (.int 1), some (.int x), some (.int 2), some (.int y), some (.int n), none, none] [] F _
  refine R2.B (ls2 := [some (.ref 5), some (.int 1), some (.int x), some (.int 2), some (.int y), some (.int n), none, none]) (st2 := [.int 1]) b_X10_copy_0_1 rfl (fun hd => ?_)
  refine R2.callS3 (M2 := mX10_isSheet) (As := [.int 1]) (rest := []) hd lk_10_153 okX10_isSheet (by decide) (ev_isSheet E L F 1) (by decide) rfl rfl (Nat.le_of_ble_eq_true rfl) ?_
  refine R2.B (ls2 := [some (.ref 5), some (.int 1), some (.int x), some (.int 2), some (.int y), some (.int n), none, none]) (st2 := [.int (b2i (0 ≤ 1 ∧ 1 < 4))]) b_X10_copy_4_4 rfl (fun hd => ?_)
  refine R2.if_eq 14 hd (by decide) (fun c4 => absurd c4 (b2i_nz.mpr (by decide))) (fun c4 => ?_)
  refine R2.B (ls2 := [some (.ref 5), some (.int 1), some (.int x), some (.int 2), some (.int y), some (.int n), none, none]) (st2 := [.int 2]) b_X10_copy_7_8 rfl (fun hd => ?_)
  refine R2.callS3 (M2 := mX10_isSheet) (As := [.int 2]) (rest := []) hd lk_10_153 okX10_isSheet (by decide) (ev_isSheet E L F 2) (by decide) rfl rfl (Nat.le_of_ble_eq_true rfl) ?_
  refine R2.B (ls2 := [some (.ref 5), some (.int 1), some (.int x), some (.int 2), some (.int y), some (.int n), none, none]) (st2 := [.int (b2i (0 ≤ 2 ∧ 2 < 4))]) b_X10_copy_11_11 rfl (fun hd => ?_)
  refine R2.if_ne 17 hd (by decide) (fun c11 => ?_) (fun c11 => absurd c11 (b2i_nz.mpr (by decide)))
  refine R2.B (ls2 := [some (.ref 5), some (.int 1), some (.int x), some (.int 2), some (.int y), some (.int n), none, none]) (st2 := [.int 1, .ref 39]) b_X10_copy_17_22 rfl (fun hd => ?_)
  refine R2.aald (k2 := 42) 1 rfl hd rfl (by decide) (by omega) rfl ?_
  refine R2.B (ls2 := [some (.ref 5), some (.int 1), some (.int x), some (.int 2), some (.int y), some (.int n), some (.ref 42), none]) (st2 := [.int 2, .ref 39]) b_X10_copy_23_30 rfl (fun hd => ?_)
  refine R2.aald (k2 := 44) 2 rfl hd rfl (by decide) (by omega) rfl ?_
  refine R2.B (ls2 := [some (.ref 5), some (.int 1), some (.int x), some (.int 2), some (.int y), some (.int n), some (.ref 42), some (.ref 44)]) (st2 := [.int (F 42 1)]) b_X10_copy_31_38 rfl (fun hd => ?_)
  refine R2.if_ne 49 hd (by decide) (fun c38 => ?_) (fun c38 => ?_)
  · refine R2.B (ls2 := [some (.ref 5), some (.int 1), some (.int x), some (.int 2), some (.int y), some (.int n), some (.ref 42), some (.ref 44)]) (st2 := [.int 1, .ref 5]) b_X10_copy_49_51 rfl (fun hd => ?_)
    refine R2.callV3 (M2 := mX10_found) (As := [.int 1]) (rest := []) hd lk_10_160 okX10_found (by decide) rfl (ev_found E L F 1) (by decide) rfl rfl (Nat.le_of_ble_eq_true rfl) ?_
    refine R2.B (ls2 := [some (.ref 5), some (.int 1), some (.int x), some (.int 2), some (.int y), some (.int n), some (.ref 42), some (.ref 44)]) (st2 := [.int (-10 - 1)]) b_X10_copy_54_54 rfl (fun hd => ?_)
    exact R2.ret3 (r := some (.int (-10 - 1))) hd trivial rfl rfl rfl
  · refine R2.B (ls2 := [some (.ref 5), some (.int 1), some (.int x), some (.int 2), some (.int y), some (.int n), some (.ref 42), some (.ref 44)]) (st2 := [.int (F 44 1)]) b_X10_copy_41_46 rfl (fun hd => ?_)
    refine R2.if_eq 55 hd (by decide) (fun c46 => ?_) (fun c46 => ?_)
    · refine R2.B (ls2 := [some (.ref 5), some (.int 1), some (.int x), some (.int 2), some (.int y), some (.int n), some (.ref 42), some (.ref 44)]) (st2 := []) b_X10_copy_55_55 rfl (fun hd => ?_)
      exact False.elim (by clear hd; grind)
    · refine R2.B (ls2 := [some (.ref 5), some (.int 1), some (.int x), some (.int 2), some (.int y), some (.int n), some (.ref 42), some (.ref 44)]) (st2 := [.int 1, .ref 5]) b_X10_copy_49_51 rfl (fun hd => ?_)
      refine R2.callV3 (M2 := mX10_found) (As := [.int 1]) (rest := []) hd lk_10_160 okX10_found (by decide) rfl (ev_found E L F 1) (by decide) rfl rfl (Nat.le_of_ble_eq_true rfl) ?_
      refine R2.B (ls2 := [some (.ref 5), some (.int 1), some (.int x), some (.int 2), some (.int y), some (.int n), some (.ref 42), some (.ref 44)]) (st2 := [.int (-10 - 1)]) b_X10_copy_54_54 rfl (fun hd => ?_)
      exact R2.ret3 (r := some (.int (-10 - 1))) hd trivial rfl rfl rfl
set_option maxRecDepth 20000 in
set_option maxHeartbeats 1000000 in
theorem x_copy_store12 (E : EE) (L : Nat) (F : FF) (x y n : Int32) (h1 : F 42 1 = 0) (h2 : F 44 1 = 0) (h3 : ¬ F 42 2 = F 44 2) : Ev3 E L 16 mX10_copy [.ref 5, .int 1, .int x, .int 2, .int y, .int n] F (some (.int (-10 - 4))) (up2 F 5 11 4) := by
  refine Ev3.of okX10_copy.2.2.1 (Nat.le_of_ble_eq_true rfl) ?_
  show R2 E L mX10_copy 16 0 [some (.ref 5), some (.int 1), some (.int x), some (.int 2), some (.int y), some (.int n), none, none] [] F _
  refine R2.B (ls2 := [some (.ref 5), some (.int 1), some (.int x), some (.int 2), some (.int y), some (.int n), none, none]) (st2 := [.int 1]) b_X10_copy_0_1 rfl (fun hd => ?_)
  refine R2.callS3 (M2 := mX10_isSheet) (As := [.int 1]) (rest := []) hd lk_10_153 okX10_isSheet (by decide) (ev_isSheet E L F 1) (by decide) rfl rfl (Nat.le_of_ble_eq_true rfl) ?_
  refine R2.B (ls2 := [some (.ref 5), some (.int 1), some (.int x), some (.int 2), some (.int y), some (.int n), none, none]) (st2 := [.int (b2i (0 ≤ 1 ∧ 1 < 4))]) b_X10_copy_4_4 rfl (fun hd => ?_)
  refine R2.if_eq 14 hd (by decide) (fun c4 => absurd c4 (b2i_nz.mpr (by decide))) (fun c4 => ?_)
  refine R2.B (ls2 := [some (.ref 5), some (.int 1), some (.int x), some (.int 2), some (.int y), some (.int n), none, none]) (st2 := [.int 2]) b_X10_copy_7_8 rfl (fun hd => ?_)
  refine R2.callS3 (M2 := mX10_isSheet) (As := [.int 2]) (rest := []) hd lk_10_153 okX10_isSheet (by decide) (ev_isSheet E L F 2) (by decide) rfl rfl (Nat.le_of_ble_eq_true rfl) ?_
  refine R2.B (ls2 := [some (.ref 5), some (.int 1), some (.int x), some (.int 2), some (.int y), some (.int n), none, none]) (st2 := [.int (b2i (0 ≤ 2 ∧ 2 < 4))]) b_X10_copy_11_11 rfl (fun hd => ?_)
  refine R2.if_ne 17 hd (by decide) (fun c11 => ?_) (fun c11 => absurd c11 (b2i_nz.mpr (by decide)))
  refine R2.B (ls2 := [some (.ref 5), some (.int 1), some (.int x), some (.int 2), some (.int y), some (.int n), none, none]) (st2 := [.int 1, .ref 39]) b_X10_copy_17_22 rfl (fun hd => ?_)
  refine R2.aald (k2 := 42) 1 rfl hd rfl (by decide) (by omega) rfl ?_
  refine R2.B (ls2 := [some (.ref 5), some (.int 1), some (.int x), some (.int 2), some (.int y), some (.int n), some (.ref 42), none]) (st2 := [.int 2, .ref 39]) b_X10_copy_23_30 rfl (fun hd => ?_)
  refine R2.aald (k2 := 44) 2 rfl hd rfl (by decide) (by omega) rfl ?_
  refine R2.B (ls2 := [some (.ref 5), some (.int 1), some (.int x), some (.int 2), some (.int y), some (.int n), some (.ref 42), some (.ref 44)]) (st2 := [.int (F 42 1)]) b_X10_copy_31_38 rfl (fun hd => ?_)
  refine R2.if_ne 49 hd (by decide) (fun c38 => absurd (h1) c38) (fun c38 => ?_)
  refine R2.B (ls2 := [some (.ref 5), some (.int 1), some (.int x), some (.int 2), some (.int y), some (.int n), some (.ref 42), some (.ref 44)]) (st2 := [.int (F 44 1)]) b_X10_copy_41_46 rfl (fun hd => ?_)
  refine R2.if_eq 55 hd (by decide) (fun c46 => ?_) (fun c46 => absurd (h2) c46)
  refine R2.B (ls2 := [some (.ref 5), some (.int 1), some (.int x), some (.int 2), some (.int y), some (.int n), some (.ref 42), some (.ref 44)]) (st2 := [.int (F 44 2), .int (F 42 2)]) b_X10_copy_55_65 rfl (fun hd => ?_)
  refine R2.icmp_eq 74 hd (by decide) (fun c65 => absurd c65 (h3)) (fun c65 => ?_)
  refine R2.B (ls2 := [some (.ref 5), some (.int 1), some (.int x), some (.int 2), some (.int y), some (.int n), some (.ref 42), some (.ref 44)]) (st2 := [.int 4, .ref 5]) b_X10_copy_68_70 rfl (fun hd => ?_)
  refine R2.callV3 (M2 := mX10_found) (As := [.int 4]) (rest := []) hd lk_10_160 okX10_found (by decide) rfl (ev_found E L F 4) (by decide) rfl rfl (Nat.le_of_ble_eq_true rfl) ?_
  refine R2.B (ls2 := [some (.ref 5), some (.int 1), some (.int x), some (.int 2), some (.int y), some (.int n), some (.ref 42), some (.ref 44)]) (st2 := [.int (-10 - 4)]) b_X10_copy_73_73 rfl (fun hd => ?_)
  exact R2.ret3 (r := some (.int (-10 - 4))) hd trivial rfl rfl rfl
set_option maxRecDepth 20000 in
set_option maxHeartbeats 1000000 in
theorem x_copy_index12 (E : EE) (L : Nat) (F : FF) (x y n : Int32) (h1 : F 42 1 = 0) (h2 : F 44 1 = 0) (h3 : F 42 2 = F 44 2) (h : ¬ (0 ≤ x ∧ 0 ≤ n ∧ x ≤ F 42 3 - n) ∨ ¬ (0 ≤ y ∧ 0 ≤ n ∧ y ≤ F 44 3 - n)) : Ev3 E L 16 mX10_copy [.ref 5, .int 1, .int x, .int 2, .int y, .int n] F (some (.int (-10 - 2))) (up2 F 5 11 2) := by
  refine Ev3.of okX10_copy.2.2.1 (Nat.le_of_ble_eq_true rfl) ?_
  show R2 E L mX10_copy 16 0 [some (.ref 5), some (.int 1), some (.int x), some (.int 2), some (.int y), some (.int n), none, none] [] F _
  refine R2.B (ls2 := [some (.ref 5), some (.int 1), some (.int x), some (.int 2), some (.int y), some (.int n), none, none]) (st2 := [.int 1]) b_X10_copy_0_1 rfl (fun hd => ?_)
  refine R2.callS3 (M2 := mX10_isSheet) (As := [.int 1]) (rest := []) hd lk_10_153 okX10_isSheet (by decide) (ev_isSheet E L F 1) (by decide) rfl rfl (Nat.le_of_ble_eq_true rfl) ?_
  refine R2.B (ls2 := [some (.ref 5), some (.int 1), some (.int x), some (.int 2), some (.int y), some (.int n), none, none]) (st2 := [.int (b2i (0 ≤ 1 ∧ 1 < 4))]) b_X10_copy_4_4 rfl (fun hd => ?_)
  refine R2.if_eq 14 hd (by decide) (fun c4 => absurd c4 (b2i_nz.mpr (by decide))) (fun c4 => ?_)
  refine R2.B (ls2 := [some (.ref 5), some (.int 1), some (.int x), some (.int 2), some (.int y), some (.int n), none, none]) (st2 := [.int 2]) b_X10_copy_7_8 rfl (fun hd => ?_)
  refine R2.callS3 (M2 := mX10_isSheet) (As := [.int 2]) (rest := []) hd lk_10_153 okX10_isSheet (by decide) (ev_isSheet E L F 2) (by decide) rfl rfl (Nat.le_of_ble_eq_true rfl) ?_
  refine R2.B (ls2 := [some (.ref 5), some (.int 1), some (.int x), some (.int 2), some (.int y), some (.int n), none, none]) (st2 := [.int (b2i (0 ≤ 2 ∧ 2 < 4))]) b_X10_copy_11_11 rfl (fun hd => ?_)
  refine R2.if_ne 17 hd (by decide) (fun c11 => ?_) (fun c11 => absurd c11 (b2i_nz.mpr (by decide)))
  refine R2.B (ls2 := [some (.ref 5), some (.int 1), some (.int x), some (.int 2), some (.int y), some (.int n), none, none]) (st2 := [.int 1, .ref 39]) b_X10_copy_17_22 rfl (fun hd => ?_)
  refine R2.aald (k2 := 42) 1 rfl hd rfl (by decide) (by omega) rfl ?_
  refine R2.B (ls2 := [some (.ref 5), some (.int 1), some (.int x), some (.int 2), some (.int y), some (.int n), some (.ref 42), none]) (st2 := [.int 2, .ref 39]) b_X10_copy_23_30 rfl (fun hd => ?_)
  refine R2.aald (k2 := 44) 2 rfl hd rfl (by decide) (by omega) rfl ?_
  refine R2.B (ls2 := [some (.ref 5), some (.int 1), some (.int x), some (.int 2), some (.int y), some (.int n), some (.ref 42), some (.ref 44)]) (st2 := [.int (F 42 1)]) b_X10_copy_31_38 rfl (fun hd => ?_)
  refine R2.if_ne 49 hd (by decide) (fun c38 => absurd (h1) c38) (fun c38 => ?_)
  refine R2.B (ls2 := [some (.ref 5), some (.int 1), some (.int x), some (.int 2), some (.int y), some (.int n), some (.ref 42), some (.ref 44)]) (st2 := [.int (F 44 1)]) b_X10_copy_41_46 rfl (fun hd => ?_)
  refine R2.if_eq 55 hd (by decide) (fun c46 => ?_) (fun c46 => absurd (h2) c46)
  refine R2.B (ls2 := [some (.ref 5), some (.int 1), some (.int x), some (.int 2), some (.int y), some (.int n), some (.ref 42), some (.ref 44)]) (st2 := [.int (F 44 2), .int (F 42 2)]) b_X10_copy_55_65 rfl (fun hd => ?_)
  refine R2.icmp_eq 74 hd (by decide) (fun c65 => ?_) (fun c65 => absurd (h3) c65)
  refine R2.B (ls2 := [some (.ref 5), some (.int 1), some (.int x), some (.int 2), some (.int y), some (.int n), some (.ref 42), some (.ref 44)]) (st2 := [.int n, .int x, .ref 42]) b_X10_copy_74_79 rfl (fun hd => ?_)
  refine R2.callV3 (M2 := mX5_hasRange) (As := [.int x, .int n]) (rest := []) hd lk_10_281 okX5_hasRange (by decide) rfl (ev_hasRange42 E L F x n) (by decide) rfl rfl (Nat.le_of_ble_eq_true rfl) ?_
  refine R2.B (ls2 := [some (.ref 5), some (.int 1), some (.int x), some (.int 2), some (.int y), some (.int n), some (.ref 42), some (.ref 44)]) (st2 := [.int (b2i (0 ≤ x ∧ 0 ≤ n ∧ x ≤ F 42 3 - n))]) b_X10_copy_82_82 rfl (fun hd => ?_)
  refine R2.if_eq 97 hd (by decide) (fun c82 => ?_) (fun c82 => ?_)
  · have nc82 : ¬ (0 ≤ x ∧ 0 ≤ n ∧ x ≤ F 42 3 - n) := b2i_zero.mp c82
    refine R2.B (ls2 := [some (.ref 5), some (.int 1), some (.int x), some (.int 2), some (.int y), some (.int n), some (.ref 42), some (.ref 44)]) (st2 := [.int 2, .ref 5]) b_X10_copy_97_99 rfl (fun hd => ?_)
    refine R2.callV3 (M2 := mX10_found) (As := [.int 2]) (rest := []) hd lk_10_160 okX10_found (by decide) rfl (ev_found E L F 2) (by decide) rfl rfl (Nat.le_of_ble_eq_true rfl) ?_
    refine R2.B (ls2 := [some (.ref 5), some (.int 1), some (.int x), some (.int 2), some (.int y), some (.int n), some (.ref 42), some (.ref 44)]) (st2 := [.int (-10 - 2)]) b_X10_copy_102_102 rfl (fun hd => ?_)
    exact R2.ret3 (r := some (.int (-10 - 2))) hd trivial rfl rfl rfl
  · have nc82 : 0 ≤ x ∧ 0 ≤ n ∧ x ≤ F 42 3 - n := b2i_nz.mp c82
    refine R2.B (ls2 := [some (.ref 5), some (.int 1), some (.int x), some (.int 2), some (.int y), some (.int n), some (.ref 42), some (.ref 44)]) (st2 := [.int n, .int y, .ref 44]) b_X10_copy_85_91 rfl (fun hd => ?_)
    refine R2.callV3 (M2 := mX5_hasRange) (As := [.int y, .int n]) (rest := []) hd lk_10_281 okX5_hasRange (by decide) rfl (ev_hasRange44 E L F y n) (by decide) rfl rfl (Nat.le_of_ble_eq_true rfl) ?_
    refine R2.B (ls2 := [some (.ref 5), some (.int 1), some (.int x), some (.int 2), some (.int y), some (.int n), some (.ref 42), some (.ref 44)]) (st2 := [.int (b2i (0 ≤ y ∧ 0 ≤ n ∧ y ≤ F 44 3 - n))]) b_X10_copy_94_94 rfl (fun hd => ?_)
    refine R2.if_ne 103 hd (by decide) (fun c94 => ?_) (fun c94 => ?_)
    · have nc94 : 0 ≤ y ∧ 0 ≤ n ∧ y ≤ F 44 3 - n := b2i_nz.mp c94
      refine R2.B (ls2 := [some (.ref 5), some (.int 1), some (.int x), some (.int 2), some (.int y), some (.int n), some (.ref 42), some (.ref 44)]) (st2 := []) b_X10_copy_103_103 rfl (fun hd => ?_)
      exact False.elim (by clear hd; grind)
    · have nc94 : ¬ (0 ≤ y ∧ 0 ≤ n ∧ y ≤ F 44 3 - n) := b2i_zero.mp c94
      refine R2.B (ls2 := [some (.ref 5), some (.int 1), some (.int x), some (.int 2), some (.int y), some (.int n), some (.ref 42), some (.ref 44)]) (st2 := [.int 2, .ref 5]) b_X10_copy_97_99 rfl (fun hd => ?_)
      refine R2.callV3 (M2 := mX10_found) (As := [.int 2]) (rest := []) hd lk_10_160 okX10_found (by decide) rfl (ev_found E L F 2) (by decide) rfl rfl (Nat.le_of_ble_eq_true rfl) ?_
      refine R2.B (ls2 := [some (.ref 5), some (.int 1), some (.int x), some (.int 2), some (.int y), some (.int n), some (.ref 42), some (.ref 44)]) (st2 := [.int (-10 - 2)]) b_X10_copy_102_102 rfl (fun hd => ?_)
      exact R2.ret3 (r := some (.int (-10 - 2))) hd trivial rfl rfl rfl
set_option maxRecDepth 20000 in
set_option maxHeartbeats 1000000 in
theorem x_copy12 (E : EE) (L : Nat) (F : FF) (a b q : Nat) (h1 : F 42 1 = 0) (h2 : F 44 1 = 0) (h3 : F 42 2 = F 44 2) (hx : (0 ≤ nI a ∧ 0 ≤ nI q ∧ nI a ≤ F 42 3 - nI q)) (hy : (0 ≤ nI b ∧ 0 ≤ nI q ∧ nI b ≤ F 44 3 - nI q)) (ha : a + q ≤ 60) (hb : b + q ≤ 60) : Ev3 E L 16 mX10_copy [.ref 5, .int 1, .int (nI a), .int 2, .int (nI b), .int (nI q)] F (some (.int (1))) (cpyF F 43 45 a b q) := by
  refine Ev3.of okX10_copy.2.2.1 (Nat.le_of_ble_eq_true rfl) ?_
  show R2 E L mX10_copy 16 0 [some (.ref 5), some (.int 1), some (.int (nI a)), some (.int 2), some (.int (nI b)), some (.int (nI q)), none, none] [] F _
  refine R2.B (ls2 := [some (.ref 5), some (.int 1), some (.int (nI a)), some (.int 2), some (.int (nI b)), some (.int (nI q)), none, none]) (st2 := [.int 1]) b_X10_copy_0_1 rfl (fun hd => ?_)
  refine R2.callS3 (M2 := mX10_isSheet) (As := [.int 1]) (rest := []) hd lk_10_153 okX10_isSheet (by decide) (ev_isSheet E L F 1) (by decide) rfl rfl (Nat.le_of_ble_eq_true rfl) ?_
  refine R2.B (ls2 := [some (.ref 5), some (.int 1), some (.int (nI a)), some (.int 2), some (.int (nI b)), some (.int (nI q)), none, none]) (st2 := [.int (b2i (0 ≤ 1 ∧ 1 < 4))]) b_X10_copy_4_4 rfl (fun hd => ?_)
  refine R2.if_eq 14 hd (by decide) (fun c4 => absurd c4 (b2i_nz.mpr (by decide))) (fun c4 => ?_)
  refine R2.B (ls2 := [some (.ref 5), some (.int 1), some (.int (nI a)), some (.int 2), some (.int (nI b)), some (.int (nI q)), none, none]) (st2 := [.int 2]) b_X10_copy_7_8 rfl (fun hd => ?_)
  refine R2.callS3 (M2 := mX10_isSheet) (As := [.int 2]) (rest := []) hd lk_10_153 okX10_isSheet (by decide) (ev_isSheet E L F 2) (by decide) rfl rfl (Nat.le_of_ble_eq_true rfl) ?_
  refine R2.B (ls2 := [some (.ref 5), some (.int 1), some (.int (nI a)), some (.int 2), some (.int (nI b)), some (.int (nI q)), none, none]) (st2 := [.int (b2i (0 ≤ 2 ∧ 2 < 4))]) b_X10_copy_11_11 rfl (fun hd => ?_)
  refine R2.if_ne 17 hd (by decide) (fun c11 => ?_) (fun c11 => absurd c11 (b2i_nz.mpr (by decide)))
  refine R2.B (ls2 := [some (.ref 5), some (.int 1), some (.int (nI a)), some (.int 2), some (.int (nI b)), some (.int (nI q)), none, none]) (st2 := [.int 1, .ref 39]) b_X10_copy_17_22 rfl (fun hd => ?_)
  refine R2.aald (k2 := 42) 1 rfl hd rfl (by decide) (by omega) rfl ?_
  refine R2.B (ls2 := [some (.ref 5), some (.int 1), some (.int (nI a)), some (.int 2), some (.int (nI b)), some (.int (nI q)), some (.ref 42), none]) (st2 := [.int 2, .ref 39]) b_X10_copy_23_30 rfl (fun hd => ?_)
  refine R2.aald (k2 := 44) 2 rfl hd rfl (by decide) (by omega) rfl ?_
  refine R2.B (ls2 := [some (.ref 5), some (.int 1), some (.int (nI a)), some (.int 2), some (.int (nI b)), some (.int (nI q)), some (.ref 42), some (.ref 44)]) (st2 := [.int (F 42 1)]) b_X10_copy_31_38 rfl (fun hd => ?_)
  refine R2.if_ne 49 hd (by decide) (fun c38 => absurd (h1) c38) (fun c38 => ?_)
  refine R2.B (ls2 := [some (.ref 5), some (.int 1), some (.int (nI a)), some (.int 2), some (.int (nI b)), some (.int (nI q)), some (.ref 42), some (.ref 44)]) (st2 := [.int (F 44 1)]) b_X10_copy_41_46 rfl (fun hd => ?_)
  refine R2.if_eq 55 hd (by decide) (fun c46 => ?_) (fun c46 => absurd (h2) c46)
  refine R2.B (ls2 := [some (.ref 5), some (.int 1), some (.int (nI a)), some (.int 2), some (.int (nI b)), some (.int (nI q)), some (.ref 42), some (.ref 44)]) (st2 := [.int (F 44 2), .int (F 42 2)]) b_X10_copy_55_65 rfl (fun hd => ?_)
  refine R2.icmp_eq 74 hd (by decide) (fun c65 => ?_) (fun c65 => absurd (h3) c65)
  refine R2.B (ls2 := [some (.ref 5), some (.int 1), some (.int (nI a)), some (.int 2), some (.int (nI b)), some (.int (nI q)), some (.ref 42), some (.ref 44)]) (st2 := [.int (nI q), .int (nI a), .ref 42]) b_X10_copy_74_79 rfl (fun hd => ?_)
  refine R2.callV3 (M2 := mX5_hasRange) (As := [.int (nI a), .int (nI q)]) (rest := []) hd lk_10_281 okX5_hasRange (by decide) rfl (ev_hasRange42 E L F (nI a) (nI q)) (by decide) rfl rfl (Nat.le_of_ble_eq_true rfl) ?_
  refine R2.B (ls2 := [some (.ref 5), some (.int 1), some (.int (nI a)), some (.int 2), some (.int (nI b)), some (.int (nI q)), some (.ref 42), some (.ref 44)]) (st2 := [.int (b2i (0 ≤ (nI a) ∧ 0 ≤ (nI q) ∧ (nI a) ≤ F 42 3 - (nI q)))]) b_X10_copy_82_82 rfl (fun hd => ?_)
  refine R2.if_eq 97 hd (by decide) (fun c82 => absurd c82 (b2i_nz.mpr hx)) (fun c82 => ?_)
  refine R2.B (ls2 := [some (.ref 5), some (.int 1), some (.int (nI a)), some (.int 2), some (.int (nI b)), some (.int (nI q)), some (.ref 42), some (.ref 44)]) (st2 := [.int (nI q), .int (nI b), .ref 44]) b_X10_copy_85_91 rfl (fun hd => ?_)
  refine R2.callV3 (M2 := mX5_hasRange) (As := [.int (nI b), .int (nI q)]) (rest := []) hd lk_10_281 okX5_hasRange (by decide) rfl (ev_hasRange44 E L F (nI b) (nI q)) (by decide) rfl rfl (Nat.le_of_ble_eq_true rfl) ?_
  refine R2.B (ls2 := [some (.ref 5), some (.int 1), some (.int (nI a)), some (.int 2), some (.int (nI b)), some (.int (nI q)), some (.ref 42), some (.ref 44)]) (st2 := [.int (b2i (0 ≤ (nI b) ∧ 0 ≤ (nI q) ∧ (nI b) ≤ F 44 3 - (nI q)))]) b_X10_copy_94_94 rfl (fun hd => ?_)
  refine R2.if_ne 103 hd (by decide) (fun c94 => ?_) (fun c94 => absurd c94 (b2i_nz.mpr hy))
  refine R2.B (ls2 := [some (.ref 5), some (.int 1), some (.int (nI a)), some (.int 2), some (.int (nI b)), some (.int (nI q)), some (.ref 42), some (.ref 44)]) (st2 := [.int (nI q), .int (nI b), .ref 45, .int (nI a), .ref 43]) b_X10_copy_103_118 rfl (fun hd => ?_)
  refine R2.acopy (sp := a) (dp := b) (n := q) rfl rfl rfl hd ac_10_284 (by decide) (by decide) rfl rfl (fun _ => rfl) (fun _ => rfl) (by decide) (by decide) (show a + q ≤ 60 by omega) (show b + q ≤ 60 by omega) (by decide) (Nat.le_of_ble_eq_true rfl) ?_
  refine R2.B (ls2 := [some (.ref 5), some (.int 1), some (.int (nI a)), some (.int 2), some (.int (nI b)), some (.int (nI q)), some (.ref 42), some (.ref 44)]) (st2 := [.int 1]) b_X10_copy_121_122 rfl (fun hd => ?_)
  exact R2.ret3 (r := some (.int 1)) hd trivial rfl rfl rfl
set_option maxRecDepth 20000 in
set_option maxHeartbeats 1000000 in
theorem x_copy_null13 (E : EE) (L : Nat) (F : FF) (x y n : Int32) (h : ¬ F 42 1 = 0 ∨ ¬ F 46 1 = 0) : Ev3 E L 16 mX10_copy [.ref 5, .int 1, .int x, .int 3, .int y, .int n] F (some (.int (-10 - 1))) (up2 F 5 11 1) := by
  refine Ev3.of okX10_copy.2.2.1 (Nat.le_of_ble_eq_true rfl) ?_
  show R2 E L mX10_copy 16 0 [some (.ref 5), some (.int 1), some (.int x), some (.int 3), some (.int y), some (.int n), none, none] [] F _
  refine R2.B (ls2 := [some (.ref 5), some (.int 1), some (.int x), some (.int 3), some (.int y), some (.int n), none, none]) (st2 := [.int 1]) b_X10_copy_0_1 rfl (fun hd => ?_)
  refine R2.callS3 (M2 := mX10_isSheet) (As := [.int 1]) (rest := []) hd lk_10_153 okX10_isSheet (by decide) (ev_isSheet E L F 1) (by decide) rfl rfl (Nat.le_of_ble_eq_true rfl) ?_
  refine R2.B (ls2 := [some (.ref 5), some (.int 1), some (.int x), some (.int 3), some (.int y), some (.int n), none, none]) (st2 := [.int (b2i (0 ≤ 1 ∧ 1 < 4))]) b_X10_copy_4_4 rfl (fun hd => ?_)
  refine R2.if_eq 14 hd (by decide) (fun c4 => absurd c4 (b2i_nz.mpr (by decide))) (fun c4 => ?_)
  refine R2.B (ls2 := [some (.ref 5), some (.int 1), some (.int x), some (.int 3), some (.int y), some (.int n), none, none]) (st2 := [.int 3]) b_X10_copy_7_8 rfl (fun hd => ?_)
  refine R2.callS3 (M2 := mX10_isSheet) (As := [.int 3]) (rest := []) hd lk_10_153 okX10_isSheet (by decide) (ev_isSheet E L F 3) (by decide) rfl rfl (Nat.le_of_ble_eq_true rfl) ?_
  refine R2.B (ls2 := [some (.ref 5), some (.int 1), some (.int x), some (.int 3), some (.int y), some (.int n), none, none]) (st2 := [.int (b2i (0 ≤ 3 ∧ 3 < 4))]) b_X10_copy_11_11 rfl (fun hd => ?_)
  refine R2.if_ne 17 hd (by decide) (fun c11 => ?_) (fun c11 => absurd c11 (b2i_nz.mpr (by decide)))
  refine R2.B (ls2 := [some (.ref 5), some (.int 1), some (.int x), some (.int 3), some (.int y), some (.int n), none, none]) (st2 := [.int 1, .ref 39]) b_X10_copy_17_22 rfl (fun hd => ?_)
  refine R2.aald (k2 := 42) 1 rfl hd rfl (by decide) (by omega) rfl ?_
  refine R2.B (ls2 := [some (.ref 5), some (.int 1), some (.int x), some (.int 3), some (.int y), some (.int n), some (.ref 42), none]) (st2 := [.int 3, .ref 39]) b_X10_copy_23_30 rfl (fun hd => ?_)
  refine R2.aald (k2 := 46) 3 rfl hd rfl (by decide) (by omega) rfl ?_
  refine R2.B (ls2 := [some (.ref 5), some (.int 1), some (.int x), some (.int 3), some (.int y), some (.int n), some (.ref 42), some (.ref 46)]) (st2 := [.int (F 42 1)]) b_X10_copy_31_38 rfl (fun hd => ?_)
  refine R2.if_ne 49 hd (by decide) (fun c38 => ?_) (fun c38 => ?_)
  · refine R2.B (ls2 := [some (.ref 5), some (.int 1), some (.int x), some (.int 3), some (.int y), some (.int n), some (.ref 42), some (.ref 46)]) (st2 := [.int 1, .ref 5]) b_X10_copy_49_51 rfl (fun hd => ?_)
    refine R2.callV3 (M2 := mX10_found) (As := [.int 1]) (rest := []) hd lk_10_160 okX10_found (by decide) rfl (ev_found E L F 1) (by decide) rfl rfl (Nat.le_of_ble_eq_true rfl) ?_
    refine R2.B (ls2 := [some (.ref 5), some (.int 1), some (.int x), some (.int 3), some (.int y), some (.int n), some (.ref 42), some (.ref 46)]) (st2 := [.int (-10 - 1)]) b_X10_copy_54_54 rfl (fun hd => ?_)
    exact R2.ret3 (r := some (.int (-10 - 1))) hd trivial rfl rfl rfl
  · refine R2.B (ls2 := [some (.ref 5), some (.int 1), some (.int x), some (.int 3), some (.int y), some (.int n), some (.ref 42), some (.ref 46)]) (st2 := [.int (F 46 1)]) b_X10_copy_41_46 rfl (fun hd => ?_)
    refine R2.if_eq 55 hd (by decide) (fun c46 => ?_) (fun c46 => ?_)
    · refine R2.B (ls2 := [some (.ref 5), some (.int 1), some (.int x), some (.int 3), some (.int y), some (.int n), some (.ref 42), some (.ref 46)]) (st2 := []) b_X10_copy_55_55 rfl (fun hd => ?_)
      exact False.elim (by clear hd; grind)
    · refine R2.B (ls2 := [some (.ref 5), some (.int 1), some (.int x), some (.int 3), some (.int y), some (.int n), some (.ref 42), some (.ref 46)]) (st2 := [.int 1, .ref 5]) b_X10_copy_49_51 rfl (fun hd => ?_)
      refine R2.callV3 (M2 := mX10_found) (As := [.int 1]) (rest := []) hd lk_10_160 okX10_found (by decide) rfl (ev_found E L F 1) (by decide) rfl rfl (Nat.le_of_ble_eq_true rfl) ?_
      refine R2.B (ls2 := [some (.ref 5), some (.int 1), some (.int x), some (.int 3), some (.int y), some (.int n), some (.ref 42), some (.ref 46)]) (st2 := [.int (-10 - 1)]) b_X10_copy_54_54 rfl (fun hd => ?_)
      exact R2.ret3 (r := some (.int (-10 - 1))) hd trivial rfl rfl rfl
set_option maxRecDepth 20000 in
set_option maxHeartbeats 1000000 in
theorem x_copy_store13 (E : EE) (L : Nat) (F : FF) (x y n : Int32) (h1 : F 42 1 = 0) (h2 : F 46 1 = 0) (h3 : ¬ F 42 2 = F 46 2) : Ev3 E L 16 mX10_copy [.ref 5, .int 1, .int x, .int 3, .int y, .int n] F (some (.int (-10 - 4))) (up2 F 5 11 4) := by
  refine Ev3.of okX10_copy.2.2.1 (Nat.le_of_ble_eq_true rfl) ?_
  show R2 E L mX10_copy 16 0 [some (.ref 5), some (.int 1), some (.int x), some (.int 3), some (.int y), some (.int n), none, none] [] F _
  refine R2.B (ls2 := [some (.ref 5), some (.int 1), some (.int x), some (.int 3), some (.int y), some (.int n), none, none]) (st2 := [.int 1]) b_X10_copy_0_1 rfl (fun hd => ?_)
  refine R2.callS3 (M2 := mX10_isSheet) (As := [.int 1]) (rest := []) hd lk_10_153 okX10_isSheet (by decide) (ev_isSheet E L F 1) (by decide) rfl rfl (Nat.le_of_ble_eq_true rfl) ?_
  refine R2.B (ls2 := [some (.ref 5), some (.int 1), some (.int x), some (.int 3), some (.int y), some (.int n), none, none]) (st2 := [.int (b2i (0 ≤ 1 ∧ 1 < 4))]) b_X10_copy_4_4 rfl (fun hd => ?_)
  refine R2.if_eq 14 hd (by decide) (fun c4 => absurd c4 (b2i_nz.mpr (by decide))) (fun c4 => ?_)
  refine R2.B (ls2 := [some (.ref 5), some (.int 1), some (.int x), some (.int 3), some (.int y), some (.int n), none, none]) (st2 := [.int 3]) b_X10_copy_7_8 rfl (fun hd => ?_)
  refine R2.callS3 (M2 := mX10_isSheet) (As := [.int 3]) (rest := []) hd lk_10_153 okX10_isSheet (by decide) (ev_isSheet E L F 3) (by decide) rfl rfl (Nat.le_of_ble_eq_true rfl) ?_
  refine R2.B (ls2 := [some (.ref 5), some (.int 1), some (.int x), some (.int 3), some (.int y), some (.int n), none, none]) (st2 := [.int (b2i (0 ≤ 3 ∧ 3 < 4))]) b_X10_copy_11_11 rfl (fun hd => ?_)
  refine R2.if_ne 17 hd (by decide) (fun c11 => ?_) (fun c11 => absurd c11 (b2i_nz.mpr (by decide)))
  refine R2.B (ls2 := [some (.ref 5), some (.int 1), some (.int x), some (.int 3), some (.int y), some (.int n), none, none]) (st2 := [.int 1, .ref 39]) b_X10_copy_17_22 rfl (fun hd => ?_)
  refine R2.aald (k2 := 42) 1 rfl hd rfl (by decide) (by omega) rfl ?_
  refine R2.B (ls2 := [some (.ref 5), some (.int 1), some (.int x), some (.int 3), some (.int y), some (.int n), some (.ref 42), none]) (st2 := [.int 3, .ref 39]) b_X10_copy_23_30 rfl (fun hd => ?_)
  refine R2.aald (k2 := 46) 3 rfl hd rfl (by decide) (by omega) rfl ?_
  refine R2.B (ls2 := [some (.ref 5), some (.int 1), some (.int x), some (.int 3), some (.int y), some (.int n), some (.ref 42), some (.ref 46)]) (st2 := [.int (F 42 1)]) b_X10_copy_31_38 rfl (fun hd => ?_)
  refine R2.if_ne 49 hd (by decide) (fun c38 => absurd (h1) c38) (fun c38 => ?_)
  refine R2.B (ls2 := [some (.ref 5), some (.int 1), some (.int x), some (.int 3), some (.int y), some (.int n), some (.ref 42), some (.ref 46)]) (st2 := [.int (F 46 1)]) b_X10_copy_41_46 rfl (fun hd => ?_)
  refine R2.if_eq 55 hd (by decide) (fun c46 => ?_) (fun c46 => absurd (h2) c46)
  refine R2.B (ls2 := [some (.ref 5), some (.int 1), some (.int x), some (.int 3), some (.int y), some (.int n), some (.ref 42), some (.ref 46)]) (st2 := [.int (F 46 2), .int (F 42 2)]) b_X10_copy_55_65 rfl (fun hd => ?_)
  refine R2.icmp_eq 74 hd (by decide) (fun c65 => absurd c65 (h3)) (fun c65 => ?_)
  refine R2.B (ls2 := [some (.ref 5), some (.int 1), some (.int x), some (.int 3), some (.int y), some (.int n), some (.ref 42), some (.ref 46)]) (st2 := [.int 4, .ref 5]) b_X10_copy_68_70 rfl (fun hd => ?_)
  refine R2.callV3 (M2 := mX10_found) (As := [.int 4]) (rest := []) hd lk_10_160 okX10_found (by decide) rfl (ev_found E L F 4) (by decide) rfl rfl (Nat.le_of_ble_eq_true rfl) ?_
  refine R2.B (ls2 := [some (.ref 5), some (.int 1), some (.int x), some (.int 3), some (.int y), some (.int n), some (.ref 42), some (.ref 46)]) (st2 := [.int (-10 - 4)]) b_X10_copy_73_73 rfl (fun hd => ?_)
  exact R2.ret3 (r := some (.int (-10 - 4))) hd trivial rfl rfl rfl
set_option maxRecDepth 20000 in
set_option maxHeartbeats 1000000 in
theorem x_copy_index13 (E : EE) (L : Nat) (F : FF) (x y n : Int32) (h1 : F 42 1 = 0) (h2 : F 46 1 = 0) (h3 : F 42 2 = F 46 2) (h : ¬ (0 ≤ x ∧ 0 ≤ n ∧ x ≤ F 42 3 - n) ∨ ¬ (0 ≤ y ∧ 0 ≤ n ∧ y ≤ F 46 3 - n)) : Ev3 E L 16 mX10_copy [.ref 5, .int 1, .int x, .int 3, .int y, .int n] F (some (.int (-10 - 2))) (up2 F 5 11 2) := by
  refine Ev3.of okX10_copy.2.2.1 (Nat.le_of_ble_eq_true rfl) ?_
  show R2 E L mX10_copy 16 0 [some (.ref 5), some (.int 1), some (.int x), some (.int 3), some (.int y), some (.int n), none, none] [] F _
  refine R2.B (ls2 := [some (.ref 5), some (.int 1), some (.int x), some (.int 3), some (.int y), some (.int n), none, none]) (st2 := [.int 1]) b_X10_copy_0_1 rfl (fun hd => ?_)
  refine R2.callS3 (M2 := mX10_isSheet) (As := [.int 1]) (rest := []) hd lk_10_153 okX10_isSheet (by decide) (ev_isSheet E L F 1) (by decide) rfl rfl (Nat.le_of_ble_eq_true rfl) ?_
  refine R2.B (ls2 := [some (.ref 5), some (.int 1), some (.int x), some (.int 3), some (.int y), some (.int n), none, none]) (st2 := [.int (b2i (0 ≤ 1 ∧ 1 < 4))]) b_X10_copy_4_4 rfl (fun hd => ?_)
  refine R2.if_eq 14 hd (by decide) (fun c4 => absurd c4 (b2i_nz.mpr (by decide))) (fun c4 => ?_)
  refine R2.B (ls2 := [some (.ref 5), some (.int 1), some (.int x), some (.int 3), some (.int y), some (.int n), none, none]) (st2 := [.int 3]) b_X10_copy_7_8 rfl (fun hd => ?_)
  refine R2.callS3 (M2 := mX10_isSheet) (As := [.int 3]) (rest := []) hd lk_10_153 okX10_isSheet (by decide) (ev_isSheet E L F 3) (by decide) rfl rfl (Nat.le_of_ble_eq_true rfl) ?_
  refine R2.B (ls2 := [some (.ref 5), some (.int 1), some (.int x), some (.int 3), some (.int y), some (.int n), none, none]) (st2 := [.int (b2i (0 ≤ 3 ∧ 3 < 4))]) b_X10_copy_11_11 rfl (fun hd => ?_)
  refine R2.if_ne 17 hd (by decide) (fun c11 => ?_) (fun c11 => absurd c11 (b2i_nz.mpr (by decide)))
  refine R2.B (ls2 := [some (.ref 5), some (.int 1), some (.int x), some (.int 3), some (.int y), some (.int n), none, none]) (st2 := [.int 1, .ref 39]) b_X10_copy_17_22 rfl (fun hd => ?_)
  refine R2.aald (k2 := 42) 1 rfl hd rfl (by decide) (by omega) rfl ?_
  refine R2.B (ls2 := [some (.ref 5), some (.int 1), some (.int x), some (.int 3), some (.int y), some (.int n), some (.ref 42), none]) (st2 := [.int 3, .ref 39]) b_X10_copy_23_30 rfl (fun hd => ?_)
  refine R2.aald (k2 := 46) 3 rfl hd rfl (by decide) (by omega) rfl ?_
  refine R2.B (ls2 := [some (.ref 5), some (.int 1), some (.int x), some (.int 3), some (.int y), some (.int n), some (.ref 42), some (.ref 46)]) (st2 := [.int (F 42 1)]) b_X10_copy_31_38 rfl (fun hd => ?_)
  refine R2.if_ne 49 hd (by decide) (fun c38 => absurd (h1) c38) (fun c38 => ?_)
  refine R2.B (ls2 := [some (.ref 5), some (.int 1), some (.int x), some (.int 3), some (.int y), some (.int n), some (.ref 42), some (.ref 46)]) (st2 := [.int (F 46 1)]) b_X10_copy_41_46 rfl (fun hd => ?_)
  refine R2.if_eq 55 hd (by decide) (fun c46 => ?_) (fun c46 => absurd (h2) c46)
  refine R2.B (ls2 := [some (.ref 5), some (.int 1), some (.int x), some (.int 3), some (.int y), some (.int n), some (.ref 42), some (.ref 46)]) (st2 := [.int (F 46 2), .int (F 42 2)]) b_X10_copy_55_65 rfl (fun hd => ?_)
  refine R2.icmp_eq 74 hd (by decide) (fun c65 => ?_) (fun c65 => absurd (h3) c65)
  refine R2.B (ls2 := [some (.ref 5), some (.int 1), some (.int x), some (.int 3), some (.int y), some (.int n), some (.ref 42), some (.ref 46)]) (st2 := [.int n, .int x, .ref 42]) b_X10_copy_74_79 rfl (fun hd => ?_)
  refine R2.callV3 (M2 := mX5_hasRange) (As := [.int x, .int n]) (rest := []) hd lk_10_281 okX5_hasRange (by decide) rfl (ev_hasRange42 E L F x n) (by decide) rfl rfl (Nat.le_of_ble_eq_true rfl) ?_
  refine R2.B (ls2 := [some (.ref 5), some (.int 1), some (.int x), some (.int 3), some (.int y), some (.int n), some (.ref 42), some (.ref 46)]) (st2 := [.int (b2i (0 ≤ x ∧ 0 ≤ n ∧ x ≤ F 42 3 - n))]) b_X10_copy_82_82 rfl (fun hd => ?_)
  refine R2.if_eq 97 hd (by decide) (fun c82 => ?_) (fun c82 => ?_)
  · have nc82 : ¬ (0 ≤ x ∧ 0 ≤ n ∧ x ≤ F 42 3 - n) := b2i_zero.mp c82
    refine R2.B (ls2 := [some (.ref 5), some (.int 1), some (.int x), some (.int 3), some (.int y), some (.int n), some (.ref 42), some (.ref 46)]) (st2 := [.int 2, .ref 5]) b_X10_copy_97_99 rfl (fun hd => ?_)
    refine R2.callV3 (M2 := mX10_found) (As := [.int 2]) (rest := []) hd lk_10_160 okX10_found (by decide) rfl (ev_found E L F 2) (by decide) rfl rfl (Nat.le_of_ble_eq_true rfl) ?_
    refine R2.B (ls2 := [some (.ref 5), some (.int 1), some (.int x), some (.int 3), some (.int y), some (.int n), some (.ref 42), some (.ref 46)]) (st2 := [.int (-10 - 2)]) b_X10_copy_102_102 rfl (fun hd => ?_)
    exact R2.ret3 (r := some (.int (-10 - 2))) hd trivial rfl rfl rfl
  · have nc82 : 0 ≤ x ∧ 0 ≤ n ∧ x ≤ F 42 3 - n := b2i_nz.mp c82
    refine R2.B (ls2 := [some (.ref 5), some (.int 1), some (.int x), some (.int 3), some (.int y), some (.int n), some (.ref 42), some (.ref 46)]) (st2 := [.int n, .int y, .ref 46]) b_X10_copy_85_91 rfl (fun hd => ?_)
    refine R2.callV3 (M2 := mX5_hasRange) (As := [.int y, .int n]) (rest := []) hd lk_10_281 okX5_hasRange (by decide) rfl (ev_hasRange46 E L F y n) (by decide) rfl rfl (Nat.le_of_ble_eq_true rfl) ?_
    refine R2.B (ls2 := [some (.ref 5), some (.int 1), some (.int x), some (.int 3), some (.int y), some (.int n), some (.ref 42), some (.ref 46)]) (st2 := [.int (b2i (0 ≤ y ∧ 0 ≤ n ∧ y ≤ F 46 3 - n))]) b_X10_copy_94_94 rfl (fun hd => ?_)
    refine R2.if_ne 103 hd (by decide) (fun c94 => ?_) (fun c94 => ?_)
    · have nc94 : 0 ≤ y ∧ 0 ≤ n ∧ y ≤ F 46 3 - n := b2i_nz.mp c94
      refine R2.B (ls2 := [some (.ref 5), some (.int 1), some (.int x), some (.int 3), some (.int y), some (.int n), some (.ref 42), some (.ref 46)]) (st2 := []) b_X10_copy_103_103 rfl (fun hd => ?_)
      exact False.elim (by clear hd; grind)
    · have nc94 : ¬ (0 ≤ y ∧ 0 ≤ n ∧ y ≤ F 46 3 - n) := b2i_zero.mp c94
      refine R2.B (ls2 := [some (.ref 5), some (.int 1), some (.int x), some (.int 3), some (.int y), some (.int n), some (.ref 42), some (.ref 46)]) (st2 := [.int 2, .ref 5]) b_X10_copy_97_99 rfl (fun hd => ?_)
      refine R2.callV3 (M2 := mX10_found) (As := [.int 2]) (rest := []) hd lk_10_160 okX10_found (by decide) rfl (ev_found E L F 2) (by decide) rfl rfl (Nat.le_of_ble_eq_true rfl) ?_
      refine R2.B (ls2 := [some (.ref 5), some (.int 1), some (.int x), some (.int 3), some (.int y), some (.int n), some (.ref 42), some (.ref 46)]) (st2 := [.int (-10 - 2)]) b_X10_copy_102_102 rfl (fun hd => ?_)
      exact R2.ret3 (r := some (.int (-10 - 2))) hd trivial rfl rfl rfl
set_option maxRecDepth 20000 in
set_option maxHeartbeats 1000000 in
theorem x_copy13 (E : EE) (L : Nat) (F : FF) (a b q : Nat) (h1 : F 42 1 = 0) (h2 : F 46 1 = 0) (h3 : F 42 2 = F 46 2) (hx : (0 ≤ nI a ∧ 0 ≤ nI q ∧ nI a ≤ F 42 3 - nI q)) (hy : (0 ≤ nI b ∧ 0 ≤ nI q ∧ nI b ≤ F 46 3 - nI q)) (ha : a + q ≤ 60) (hb : b + q ≤ 60) : Ev3 E L 16 mX10_copy [.ref 5, .int 1, .int (nI a), .int 3, .int (nI b), .int (nI q)] F (some (.int (1))) (cpyF F 43 47 a b q) := by
  refine Ev3.of okX10_copy.2.2.1 (Nat.le_of_ble_eq_true rfl) ?_
  show R2 E L mX10_copy 16 0 [some (.ref 5), some (.int 1), some (.int (nI a)), some (.int 3), some (.int (nI b)), some (.int (nI q)), none, none] [] F _
  refine R2.B (ls2 := [some (.ref 5), some (.int 1), some (.int (nI a)), some (.int 3), some (.int (nI b)), some (.int (nI q)), none, none]) (st2 := [.int 1]) b_X10_copy_0_1 rfl (fun hd => ?_)
  refine R2.callS3 (M2 := mX10_isSheet) (As := [.int 1]) (rest := []) hd lk_10_153 okX10_isSheet (by decide) (ev_isSheet E L F 1) (by decide) rfl rfl (Nat.le_of_ble_eq_true rfl) ?_
  refine R2.B (ls2 := [some (.ref 5), some (.int 1), some (.int (nI a)), some (.int 3), some (.int (nI b)), some (.int (nI q)), none, none]) (st2 := [.int (b2i (0 ≤ 1 ∧ 1 < 4))]) b_X10_copy_4_4 rfl (fun hd => ?_)
  refine R2.if_eq 14 hd (by decide) (fun c4 => absurd c4 (b2i_nz.mpr (by decide))) (fun c4 => ?_)
  refine R2.B (ls2 := [some (.ref 5), some (.int 1), some (.int (nI a)), some (.int 3), some (.int (nI b)), some (.int (nI q)), none, none]) (st2 := [.int 3]) b_X10_copy_7_8 rfl (fun hd => ?_)
  refine R2.callS3 (M2 := mX10_isSheet) (As := [.int 3]) (rest := []) hd lk_10_153 okX10_isSheet (by decide) (ev_isSheet E L F 3) (by decide) rfl rfl (Nat.le_of_ble_eq_true rfl) ?_
  refine R2.B (ls2 := [some (.ref 5), some (.int 1), some (.int (nI a)), some (.int 3), some (.int (nI b)), some (.int (nI q)), none, none]) (st2 := [.int (b2i (0 ≤ 3 ∧ 3 < 4))]) b_X10_copy_11_11 rfl (fun hd => ?_)
  refine R2.if_ne 17 hd (by decide) (fun c11 => ?_) (fun c11 => absurd c11 (b2i_nz.mpr (by decide)))
  refine R2.B (ls2 := [some (.ref 5), some (.int 1), some (.int (nI a)), some (.int 3), some (.int (nI b)), some (.int (nI q)), none, none]) (st2 := [.int 1, .ref 39]) b_X10_copy_17_22 rfl (fun hd => ?_)
  refine R2.aald (k2 := 42) 1 rfl hd rfl (by decide) (by omega) rfl ?_
  refine R2.B (ls2 := [some (.ref 5), some (.int 1), some (.int (nI a)), some (.int 3), some (.int (nI b)), some (.int (nI q)), some (.ref 42), none]) (st2 := [.int 3, .ref 39]) b_X10_copy_23_30 rfl (fun hd => ?_)
  refine R2.aald (k2 := 46) 3 rfl hd rfl (by decide) (by omega) rfl ?_
  refine R2.B (ls2 := [some (.ref 5), some (.int 1), some (.int (nI a)), some (.int 3), some (.int (nI b)), some (.int (nI q)), some (.ref 42), some (.ref 46)]) (st2 := [.int (F 42 1)]) b_X10_copy_31_38 rfl (fun hd => ?_)
  refine R2.if_ne 49 hd (by decide) (fun c38 => absurd (h1) c38) (fun c38 => ?_)
  refine R2.B (ls2 := [some (.ref 5), some (.int 1), some (.int (nI a)), some (.int 3), some (.int (nI b)), some (.int (nI q)), some (.ref 42), some (.ref 46)]) (st2 := [.int (F 46 1)]) b_X10_copy_41_46 rfl (fun hd => ?_)
  refine R2.if_eq 55 hd (by decide) (fun c46 => ?_) (fun c46 => absurd (h2) c46)
  refine R2.B (ls2 := [some (.ref 5), some (.int 1), some (.int (nI a)), some (.int 3), some (.int (nI b)), some (.int (nI q)), some (.ref 42), some (.ref 46)]) (st2 := [.int (F 46 2), .int (F 42 2)]) b_X10_copy_55_65 rfl (fun hd => ?_)
  refine R2.icmp_eq 74 hd (by decide) (fun c65 => ?_) (fun c65 => absurd (h3) c65)
  refine R2.B (ls2 := [some (.ref 5), some (.int 1), some (.int (nI a)), some (.int 3), some (.int (nI b)), some (.int (nI q)), some (.ref 42), some (.ref 46)]) (st2 := [.int (nI q), .int (nI a), .ref 42]) b_X10_copy_74_79 rfl (fun hd => ?_)
  refine R2.callV3 (M2 := mX5_hasRange) (As := [.int (nI a), .int (nI q)]) (rest := []) hd lk_10_281 okX5_hasRange (by decide) rfl (ev_hasRange42 E L F (nI a) (nI q)) (by decide) rfl rfl (Nat.le_of_ble_eq_true rfl) ?_
  refine R2.B (ls2 := [some (.ref 5), some (.int 1), some (.int (nI a)), some (.int 3), some (.int (nI b)), some (.int (nI q)), some (.ref 42), some (.ref 46)]) (st2 := [.int (b2i (0 ≤ (nI a) ∧ 0 ≤ (nI q) ∧ (nI a) ≤ F 42 3 - (nI q)))]) b_X10_copy_82_82 rfl (fun hd => ?_)
  refine R2.if_eq 97 hd (by decide) (fun c82 => absurd c82 (b2i_nz.mpr hx)) (fun c82 => ?_)
  refine R2.B (ls2 := [some (.ref 5), some (.int 1), some (.int (nI a)), some (.int 3), some (.int (nI b)), some (.int (nI q)), some (.ref 42), some (.ref 46)]) (st2 := [.int (nI q), .int (nI b), .ref 46]) b_X10_copy_85_91 rfl (fun hd => ?_)
  refine R2.callV3 (M2 := mX5_hasRange) (As := [.int (nI b), .int (nI q)]) (rest := []) hd lk_10_281 okX5_hasRange (by decide) rfl (ev_hasRange46 E L F (nI b) (nI q)) (by decide) rfl rfl (Nat.le_of_ble_eq_true rfl) ?_
  refine R2.B (ls2 := [some (.ref 5), some (.int 1), some (.int (nI a)), some (.int 3), some (.int (nI b)), some (.int (nI q)), some (.ref 42), some (.ref 46)]) (st2 := [.int (b2i (0 ≤ (nI b) ∧ 0 ≤ (nI q) ∧ (nI b) ≤ F 46 3 - (nI q)))]) b_X10_copy_94_94 rfl (fun hd => ?_)
  refine R2.if_ne 103 hd (by decide) (fun c94 => ?_) (fun c94 => absurd c94 (b2i_nz.mpr hy))
  refine R2.B (ls2 := [some (.ref 5), some (.int 1), some (.int (nI a)), some (.int 3), some (.int (nI b)), some (.int (nI q)), some (.ref 42), some (.ref 46)]) (st2 := [.int (nI q), .int (nI b), .ref 47, .int (nI a), .ref 43]) b_X10_copy_103_118 rfl (fun hd => ?_)
  refine R2.acopy (sp := a) (dp := b) (n := q) rfl rfl rfl hd ac_10_284 (by decide) (by decide) rfl rfl (fun _ => rfl) (fun _ => rfl) (by decide) (by decide) (show a + q ≤ 60 by omega) (show b + q ≤ 60 by omega) (by decide) (Nat.le_of_ble_eq_true rfl) ?_
  refine R2.B (ls2 := [some (.ref 5), some (.int 1), some (.int (nI a)), some (.int 3), some (.int (nI b)), some (.int (nI q)), some (.ref 42), some (.ref 46)]) (st2 := [.int 1]) b_X10_copy_121_122 rfl (fun hd => ?_)
  exact R2.ret3 (r := some (.int 1)) hd trivial rfl rfl rfl
set_option maxRecDepth 20000 in
set_option maxHeartbeats 1000000 in
theorem x_copy_null20 (E : EE) (L : Nat) (F : FF) (x y n : Int32) (h : ¬ F 44 1 = 0 ∨ ¬ F 40 1 = 0) : Ev3 E L 16 mX10_copy [.ref 5, .int 2, .int x, .int 0, .int y, .int n] F (some (.int (-10 - 1))) (up2 F 5 11 1) := by
  refine Ev3.of okX10_copy.2.2.1 (Nat.le_of_ble_eq_true rfl) ?_
  show R2 E L mX10_copy 16 0 [some (.ref 5), some (.int 2), some (.int x), some (.int 0), some (.int y), some (.int n), none, none] [] F _
  refine R2.B (ls2 := [some (.ref 5), some (.int 2), some (.int x), some (.int 0), some (.int y), some (.int n), none, none]) (st2 := [.int 2]) b_X10_copy_0_1 rfl (fun hd => ?_)
  refine R2.callS3 (M2 := mX10_isSheet) (As := [.int 2]) (rest := []) hd lk_10_153 okX10_isSheet (by decide) (ev_isSheet E L F 2) (by decide) rfl rfl (Nat.le_of_ble_eq_true rfl) ?_
  refine R2.B (ls2 := [some (.ref 5), some (.int 2), some (.int x), some (.int 0), some (.int y), some (.int n), none, none]) (st2 := [.int (b2i (0 ≤ 2 ∧ 2 < 4))]) b_X10_copy_4_4 rfl (fun hd => ?_)
  refine R2.if_eq 14 hd (by decide) (fun c4 => absurd c4 (b2i_nz.mpr (by decide))) (fun c4 => ?_)
  refine R2.B (ls2 := [some (.ref 5), some (.int 2), some (.int x), some (.int 0), some (.int y), some (.int n), none, none]) (st2 := [.int 0]) b_X10_copy_7_8 rfl (fun hd => ?_)
  refine R2.callS3 (M2 := mX10_isSheet) (As := [.int 0]) (rest := []) hd lk_10_153 okX10_isSheet (by decide) (ev_isSheet E L F 0) (by decide) rfl rfl (Nat.le_of_ble_eq_true rfl) ?_
  refine R2.B (ls2 := [some (.ref 5), some (.int 2), some (.int x), some (.int 0), some (.int y), some (.int n), none, none]) (st2 := [.int (b2i (0 ≤ 0 ∧ 0 < 4))]) b_X10_copy_11_11 rfl (fun hd => ?_)
  refine R2.if_ne 17 hd (by decide) (fun c11 => ?_) (fun c11 => absurd c11 (b2i_nz.mpr (by decide)))
  refine R2.B (ls2 := [some (.ref 5), some (.int 2), some (.int x), some (.int 0), some (.int y), some (.int n), none, none]) (st2 := [.int 2, .ref 39]) b_X10_copy_17_22 rfl (fun hd => ?_)
  refine R2.aald (k2 := 44) 2 rfl hd rfl (by decide) (by omega) rfl ?_
  refine R2.B (ls2 := [some (.ref 5), some (.int 2), some (.int x), some (.int 0), some (.int y), some (.int n), some (.ref 44), none]) (st2 := [.int 0, .ref 39]) b_X10_copy_23_30 rfl (fun hd => ?_)
  refine R2.aald (k2 := 40) 0 rfl hd rfl (by decide) (by omega) rfl ?_
  refine R2.B (ls2 := [some (.ref 5), some (.int 2), some (.int x), some (.int 0), some (.int y), some (.int n), some (.ref 44), some (.ref 40)]) (st2 := [.int (F 44 1)]) b_X10_copy_31_38 rfl (fun hd => ?_)
  refine R2.if_ne 49 hd (by decide) (fun c38 => ?_) (fun c38 => ?_)
  · refine R2.B (ls2 := [some (.ref 5), some (.int 2), some (.int x), some (.int 0), some (.int y), some (.int n), some (.ref 44), some (.ref 40)]) (st2 := [.int 1, .ref 5]) b_X10_copy_49_51 rfl (fun hd => ?_)
    refine R2.callV3 (M2 := mX10_found) (As := [.int 1]) (rest := []) hd lk_10_160 okX10_found (by decide) rfl (ev_found E L F 1) (by decide) rfl rfl (Nat.le_of_ble_eq_true rfl) ?_
    refine R2.B (ls2 := [some (.ref 5), some (.int 2), some (.int x), some (.int 0), some (.int y), some (.int n), some (.ref 44), some (.ref 40)]) (st2 := [.int (-10 - 1)]) b_X10_copy_54_54 rfl (fun hd => ?_)
    exact R2.ret3 (r := some (.int (-10 - 1))) hd trivial rfl rfl rfl
  · refine R2.B (ls2 := [some (.ref 5), some (.int 2), some (.int x), some (.int 0), some (.int y), some (.int n), some (.ref 44), some (.ref 40)]) (st2 := [.int (F 40 1)]) b_X10_copy_41_46 rfl (fun hd => ?_)
    refine R2.if_eq 55 hd (by decide) (fun c46 => ?_) (fun c46 => ?_)
    · refine R2.B (ls2 := [some (.ref 5), some (.int 2), some (.int x), some (.int 0), some (.int y), some (.int n), some (.ref 44), some (.ref 40)]) (st2 := []) b_X10_copy_55_55 rfl (fun hd => ?_)
      exact False.elim (by clear hd; grind)
    · refine R2.B (ls2 := [some (.ref 5), some (.int 2), some (.int x), some (.int 0), some (.int y), some (.int n), some (.ref 44), some (.ref 40)]) (st2 := [.int 1, .ref 5]) b_X10_copy_49_51 rfl (fun hd => ?_)
      refine R2.callV3 (M2 := mX10_found) (As := [.int 1]) (rest := []) hd lk_10_160 okX10_found (by decide) rfl (ev_found E L F 1) (by decide) rfl rfl (Nat.le_of_ble_eq_true rfl) ?_
      refine R2.B (ls2 := [some (.ref 5), some (.int 2), some (.int x), some (.int 0), some (.int y), some (.int n), some (.ref 44), some (.ref 40)]) (st2 := [.int (-10 - 1)]) b_X10_copy_54_54 rfl (fun hd => ?_)
      exact R2.ret3 (r := some (.int (-10 - 1))) hd trivial rfl rfl rfl
set_option maxRecDepth 20000 in
set_option maxHeartbeats 1000000 in
theorem x_copy_store20 (E : EE) (L : Nat) (F : FF) (x y n : Int32) (h1 : F 44 1 = 0) (h2 : F 40 1 = 0) (h3 : ¬ F 44 2 = F 40 2) : Ev3 E L 16 mX10_copy [.ref 5, .int 2, .int x, .int 0, .int y, .int n] F (some (.int (-10 - 4))) (up2 F 5 11 4) := by
  refine Ev3.of okX10_copy.2.2.1 (Nat.le_of_ble_eq_true rfl) ?_
  show R2 E L mX10_copy 16 0 [some (.ref 5), some (.int 2), some (.int x), some (.int 0), some (.int y), some (.int n), none, none] [] F _
  refine R2.B (ls2 := [some (.ref 5), some (.int 2), some (.int x), some (.int 0), some (.int y), some (.int n), none, none]) (st2 := [.int 2]) b_X10_copy_0_1 rfl (fun hd => ?_)
  refine R2.callS3 (M2 := mX10_isSheet) (As := [.int 2]) (rest := []) hd lk_10_153 okX10_isSheet (by decide) (ev_isSheet E L F 2) (by decide) rfl rfl (Nat.le_of_ble_eq_true rfl) ?_
  refine R2.B (ls2 := [some (.ref 5), some (.int 2), some (.int x), some (.int 0), some (.int y), some (.int n), none, none]) (st2 := [.int (b2i (0 ≤ 2 ∧ 2 < 4))]) b_X10_copy_4_4 rfl (fun hd => ?_)
  refine R2.if_eq 14 hd (by decide) (fun c4 => absurd c4 (b2i_nz.mpr (by decide))) (fun c4 => ?_)
  refine R2.B (ls2 := [some (.ref 5), some (.int 2), some (.int x), some (.int 0), some (.int y), some (.int n), none, none]) (st2 := [.int 0]) b_X10_copy_7_8 rfl (fun hd => ?_)
  refine R2.callS3 (M2 := mX10_isSheet) (As := [.int 0]) (rest := []) hd lk_10_153 okX10_isSheet (by decide) (ev_isSheet E L F 0) (by decide) rfl rfl (Nat.le_of_ble_eq_true rfl) ?_
  refine R2.B (ls2 := [some (.ref 5), some (.int 2), some (.int x), some (.int 0), some (.int y), some (.int n), none, none]) (st2 := [.int (b2i (0 ≤ 0 ∧ 0 < 4))]) b_X10_copy_11_11 rfl (fun hd => ?_)
  refine R2.if_ne 17 hd (by decide) (fun c11 => ?_) (fun c11 => absurd c11 (b2i_nz.mpr (by decide)))
  refine R2.B (ls2 := [some (.ref 5), some (.int 2), some (.int x), some (.int 0), some (.int y), some (.int n), none, none]) (st2 := [.int 2, .ref 39]) b_X10_copy_17_22 rfl (fun hd => ?_)
  refine R2.aald (k2 := 44) 2 rfl hd rfl (by decide) (by omega) rfl ?_
  refine R2.B (ls2 := [some (.ref 5), some (.int 2), some (.int x), some (.int 0), some (.int y), some (.int n), some (.ref 44), none]) (st2 := [.int 0, .ref 39]) b_X10_copy_23_30 rfl (fun hd => ?_)
  refine R2.aald (k2 := 40) 0 rfl hd rfl (by decide) (by omega) rfl ?_
  refine R2.B (ls2 := [some (.ref 5), some (.int 2), some (.int x), some (.int 0), some (.int y), some (.int n), some (.ref 44), some (.ref 40)]) (st2 := [.int (F 44 1)]) b_X10_copy_31_38 rfl (fun hd => ?_)
  refine R2.if_ne 49 hd (by decide) (fun c38 => absurd (h1) c38) (fun c38 => ?_)
  refine R2.B (ls2 := [some (.ref 5), some (.int 2), some (.int x), some (.int 0), some (.int y), some (.int n), some (.ref 44), some (.ref 40)]) (st2 := [.int (F 40 1)]) b_X10_copy_41_46 rfl (fun hd => ?_)
  refine R2.if_eq 55 hd (by decide) (fun c46 => ?_) (fun c46 => absurd (h2) c46)
  refine R2.B (ls2 := [some (.ref 5), some (.int 2), some (.int x), some (.int 0), some (.int y), some (.int n), some (.ref 44), some (.ref 40)]) (st2 := [.int (F 40 2), .int (F 44 2)]) b_X10_copy_55_65 rfl (fun hd => ?_)
  refine R2.icmp_eq 74 hd (by decide) (fun c65 => absurd c65 (h3)) (fun c65 => ?_)
  refine R2.B (ls2 := [some (.ref 5), some (.int 2), some (.int x), some (.int 0), some (.int y), some (.int n), some (.ref 44), some (.ref 40)]) (st2 := [.int 4, .ref 5]) b_X10_copy_68_70 rfl (fun hd => ?_)
  refine R2.callV3 (M2 := mX10_found) (As := [.int 4]) (rest := []) hd lk_10_160 okX10_found (by decide) rfl (ev_found E L F 4) (by decide) rfl rfl (Nat.le_of_ble_eq_true rfl) ?_
  refine R2.B (ls2 := [some (.ref 5), some (.int 2), some (.int x), some (.int 0), some (.int y), some (.int n), some (.ref 44), some (.ref 40)]) (st2 := [.int (-10 - 4)]) b_X10_copy_73_73 rfl (fun hd => ?_)
  exact R2.ret3 (r := some (.int (-10 - 4))) hd trivial rfl rfl rfl
set_option maxRecDepth 20000 in
set_option maxHeartbeats 1000000 in
theorem x_copy_index20 (E : EE) (L : Nat) (F : FF) (x y n : Int32) (h1 : F 44 1 = 0) (h2 : F 40 1 = 0) (h3 : F 44 2 = F 40 2) (h : ¬ (0 ≤ x ∧ 0 ≤ n ∧ x ≤ F 44 3 - n) ∨ ¬ (0 ≤ y ∧ 0 ≤ n ∧ y ≤ F 40 3 - n)) : Ev3 E L 16 mX10_copy [.ref 5, .int 2, .int x, .int 0, .int y, .int n] F (some (.int (-10 - 2))) (up2 F 5 11 2) := by
  refine Ev3.of okX10_copy.2.2.1 (Nat.le_of_ble_eq_true rfl) ?_
  show R2 E L mX10_copy 16 0 [some (.ref 5), some (.int 2), some (.int x), some (.int 0), some (.int y), some (.int n), none, none] [] F _
  refine R2.B (ls2 := [some (.ref 5), some (.int 2), some (.int x), some (.int 0), some (.int y), some (.int n), none, none]) (st2 := [.int 2]) b_X10_copy_0_1 rfl (fun hd => ?_)
  refine R2.callS3 (M2 := mX10_isSheet) (As := [.int 2]) (rest := []) hd lk_10_153 okX10_isSheet (by decide) (ev_isSheet E L F 2) (by decide) rfl rfl (Nat.le_of_ble_eq_true rfl) ?_
  refine R2.B (ls2 := [some (.ref 5), some (.int 2), some (.int x), some (.int 0), some (.int y), some (.int n), none, none]) (st2 := [.int (b2i (0 ≤ 2 ∧ 2 < 4))]) b_X10_copy_4_4 rfl (fun hd => ?_)
  refine R2.if_eq 14 hd (by decide) (fun c4 => absurd c4 (b2i_nz.mpr (by decide))) (fun c4 => ?_)
  refine R2.B (ls2 := [some (.ref 5), some (.int 2), some (.int x), some (.int 0), some (.int y), some (.int n), none, none]) (st2 := [.int 0]) b_X10_copy_7_8 rfl (fun hd => ?_)
  refine R2.callS3 (M2 := mX10_isSheet) (As := [.int 0]) (rest := []) hd lk_10_153 okX10_isSheet (by decide) (ev_isSheet E L F 0) (by decide) rfl rfl (Nat.le_of_ble_eq_true rfl) ?_
  refine R2.B (ls2 := [some (.ref 5), some (.int 2), some (.int x), some (.int 0), some (.int y), some (.int n), none, none]) (st2 := [.int (b2i (0 ≤ 0 ∧ 0 < 4))]) b_X10_copy_11_11 rfl (fun hd => ?_)
  refine R2.if_ne 17 hd (by decide) (fun c11 => ?_) (fun c11 => absurd c11 (b2i_nz.mpr (by decide)))
  refine R2.B (ls2 := [some (.ref 5), some (.int 2), some (.int x), some (.int 0), some (.int y), some (.int n), none, none]) (st2 := [.int 2, .ref 39]) b_X10_copy_17_22 rfl (fun hd => ?_)
  refine R2.aald (k2 := 44) 2 rfl hd rfl (by decide) (by omega) rfl ?_
  refine R2.B (ls2 := [some (.ref 5), some (.int 2), some (.int x), some (.int 0), some (.int y), some (.int n), some (.ref 44), none]) (st2 := [.int 0, .ref 39]) b_X10_copy_23_30 rfl (fun hd => ?_)
  refine R2.aald (k2 := 40) 0 rfl hd rfl (by decide) (by omega) rfl ?_
  refine R2.B (ls2 := [some (.ref 5), some (.int 2), some (.int x), some (.int 0), some (.int y), some (.int n), some (.ref 44), some (.ref 40)]) (st2 := [.int (F 44 1)]) b_X10_copy_31_38 rfl (fun hd => ?_)
  refine R2.if_ne 49 hd (by decide) (fun c38 => absurd (h1) c38) (fun c38 => ?_)
  refine R2.B (ls2 := [some (.ref 5), some (.int 2), some (.int x), some (.int 0), some (.int y), some (.int n), some (.ref 44), some (.ref 40)]) (st2 := [.int (F 40 1)]) b_X10_copy_41_46 rfl (fun hd => ?_)
  refine R2.if_eq 55 hd (by decide) (fun c46 => ?_) (fun c46 => absurd (h2) c46)
  refine R2.B (ls2 := [some (.ref 5), some (.int 2), some (.int x), some (.int 0), some (.int y), some (.int n), some (.ref 44), some (.ref 40)]) (st2 := [.int (F 40 2), .int (F 44 2)]) b_X10_copy_55_65 rfl (fun hd => ?_)
  refine R2.icmp_eq 74 hd (by decide) (fun c65 => ?_) (fun c65 => absurd (h3) c65)
  refine R2.B (ls2 := [some (.ref 5), some (.int 2), some (.int x), some (.int 0), some (.int y), some (.int n), some (.ref 44), some (.ref 40)]) (st2 := [.int n, .int x, .ref 44]) b_X10_copy_74_79 rfl (fun hd => ?_)
  refine R2.callV3 (M2 := mX5_hasRange) (As := [.int x, .int n]) (rest := []) hd lk_10_281 okX5_hasRange (by decide) rfl (ev_hasRange44 E L F x n) (by decide) rfl rfl (Nat.le_of_ble_eq_true rfl) ?_
  refine R2.B (ls2 := [some (.ref 5), some (.int 2), some (.int x), some (.int 0), some (.int y), some (.int n), some (.ref 44), some (.ref 40)]) (st2 := [.int (b2i (0 ≤ x ∧ 0 ≤ n ∧ x ≤ F 44 3 - n))]) b_X10_copy_82_82 rfl (fun hd => ?_)
  refine R2.if_eq 97 hd (by decide) (fun c82 => ?_) (fun c82 => ?_)
  · have nc82 : ¬ (0 ≤ x ∧ 0 ≤ n ∧ x ≤ F 44 3 - n) := b2i_zero.mp c82
    refine R2.B (ls2 := [some (.ref 5), some (.int 2), some (.int x), some (.int 0), some (.int y), some (.int n), some (.ref 44), some (.ref 40)]) (st2 := [.int 2, .ref 5]) b_X10_copy_97_99 rfl (fun hd => ?_)
    refine R2.callV3 (M2 := mX10_found) (As := [.int 2]) (rest := []) hd lk_10_160 okX10_found (by decide) rfl (ev_found E L F 2) (by decide) rfl rfl (Nat.le_of_ble_eq_true rfl) ?_
    refine R2.B (ls2 := [some (.ref 5), some (.int 2), some (.int x), some (.int 0), some (.int y), some (.int n), some (.ref 44), some (.ref 40)]) (st2 := [.int (-10 - 2)]) b_X10_copy_102_102 rfl (fun hd => ?_)
    exact R2.ret3 (r := some (.int (-10 - 2))) hd trivial rfl rfl rfl
  · have nc82 : 0 ≤ x ∧ 0 ≤ n ∧ x ≤ F 44 3 - n := b2i_nz.mp c82
    refine R2.B (ls2 := [some (.ref 5), some (.int 2), some (.int x), some (.int 0), some (.int y), some (.int n), some (.ref 44), some (.ref 40)]) (st2 := [.int n, .int y, .ref 40]) b_X10_copy_85_91 rfl (fun hd => ?_)
    refine R2.callV3 (M2 := mX5_hasRange) (As := [.int y, .int n]) (rest := []) hd lk_10_281 okX5_hasRange (by decide) rfl (ev_hasRange40 E L F y n) (by decide) rfl rfl (Nat.le_of_ble_eq_true rfl) ?_
    refine R2.B (ls2 := [some (.ref 5), some (.int 2), some (.int x), some (.int 0), some (.int y), some (.int n), some (.ref 44), some (.ref 40)]) (st2 := [.int (b2i (0 ≤ y ∧ 0 ≤ n ∧ y ≤ F 40 3 - n))]) b_X10_copy_94_94 rfl (fun hd => ?_)
    refine R2.if_ne 103 hd (by decide) (fun c94 => ?_) (fun c94 => ?_)
    · have nc94 : 0 ≤ y ∧ 0 ≤ n ∧ y ≤ F 40 3 - n := b2i_nz.mp c94
      refine R2.B (ls2 := [some (.ref 5), some (.int 2), some (.int x), some (.int 0), some (.int y), some (.int n), some (.ref 44), some (.ref 40)]) (st2 := []) b_X10_copy_103_103 rfl (fun hd => ?_)
      exact False.elim (by clear hd; grind)
    · have nc94 : ¬ (0 ≤ y ∧ 0 ≤ n ∧ y ≤ F 40 3 - n) := b2i_zero.mp c94
      refine R2.B (ls2 := [some (.ref 5), some (.int 2), some (.int x), some (.int 0), some (.int y), some (.int n), some (.ref 44), some (.ref 40)]) (st2 := [.int 2, .ref 5]) b_X10_copy_97_99 rfl (fun hd => ?_)
      refine R2.callV3 (M2 := mX10_found) (As := [.int 2]) (rest := []) hd lk_10_160 okX10_found (by decide) rfl (ev_found E L F 2) (by decide) rfl rfl (Nat.le_of_ble_eq_true rfl) ?_
      refine R2.B (ls2 := [some (.ref 5), some (.int 2), some (.int x), some (.int 0), some (.int y), some (.int n), some (.ref 44), some (.ref 40)]) (st2 := [.int (-10 - 2)]) b_X10_copy_102_102 rfl (fun hd => ?_)
      exact R2.ret3 (r := some (.int (-10 - 2))) hd trivial rfl rfl rfl
set_option maxRecDepth 20000 in
set_option maxHeartbeats 1000000 in
theorem x_copy20 (E : EE) (L : Nat) (F : FF) (a b q : Nat) (h1 : F 44 1 = 0) (h2 : F 40 1 = 0) (h3 : F 44 2 = F 40 2) (hx : (0 ≤ nI a ∧ 0 ≤ nI q ∧ nI a ≤ F 44 3 - nI q)) (hy : (0 ≤ nI b ∧ 0 ≤ nI q ∧ nI b ≤ F 40 3 - nI q)) (ha : a + q ≤ 60) (hb : b + q ≤ 60) : Ev3 E L 16 mX10_copy [.ref 5, .int 2, .int (nI a), .int 0, .int (nI b), .int (nI q)] F (some (.int (1))) (cpyF F 45 41 a b q) := by
  refine Ev3.of okX10_copy.2.2.1 (Nat.le_of_ble_eq_true rfl) ?_
  show R2 E L mX10_copy 16 0 [some (.ref 5), some (.int 2), some (.int (nI a)), some (.int 0), some (.int (nI b)), some (.int (nI q)), none, none] [] F _
  refine R2.B (ls2 := [some (.ref 5), some (.int 2), some (.int (nI a)), some (.int 0), some (.int (nI b)), some (.int (nI q)), none, none]) (st2 := [.int 2]) b_X10_copy_0_1 rfl (fun hd => ?_)
  refine R2.callS3 (M2 := mX10_isSheet) (As := [.int 2]) (rest := []) hd lk_10_153 okX10_isSheet (by decide) (ev_isSheet E L F 2) (by decide) rfl rfl (Nat.le_of_ble_eq_true rfl) ?_
  refine R2.B (ls2 := [some (.ref 5), some (.int 2), some (.int (nI a)), some (.int 0), some (.int (nI b)), some (.int (nI q)), none, none]) (st2 := [.int (b2i (0 ≤ 2 ∧ 2 < 4))]) b_X10_copy_4_4 rfl (fun hd => ?_)
  refine R2.if_eq 14 hd (by decide) (fun c4 => absurd c4 (b2i_nz.mpr (by decide))) (fun c4 => ?_)
  refine R2.B (ls2 := [some (.ref 5), some (.int 2), some (.int (nI a)), some (.int 0), some (.int (nI b)), some (.int (nI q)), none, none]) (st2 := [.int 0]) b_X10_copy_7_8 rfl (fun hd => ?_)
  refine R2.callS3 (M2 := mX10_isSheet) (As := [.int 0]) (rest := []) hd lk_10_153 okX10_isSheet (by decide) (ev_isSheet E L F 0) (by decide) rfl rfl (Nat.le_of_ble_eq_true rfl) ?_
  refine R2.B (ls2 := [some (.ref 5), some (.int 2), some (.int (nI a)), some (.int 0), some (.int (nI b)), some (.int (nI q)), none, none]) (st2 := [.int (b2i (0 ≤ 0 ∧ 0 < 4))]) b_X10_copy_11_11 rfl (fun hd => ?_)
  refine R2.if_ne 17 hd (by decide) (fun c11 => ?_) (fun c11 => absurd c11 (b2i_nz.mpr (by decide)))
  refine R2.B (ls2 := [some (.ref 5), some (.int 2), some (.int (nI a)), some (.int 0), some (.int (nI b)), some (.int (nI q)), none, none]) (st2 := [.int 2, .ref 39]) b_X10_copy_17_22 rfl (fun hd => ?_)
  refine R2.aald (k2 := 44) 2 rfl hd rfl (by decide) (by omega) rfl ?_
  refine R2.B (ls2 := [some (.ref 5), some (.int 2), some (.int (nI a)), some (.int 0), some (.int (nI b)), some (.int (nI q)), some (.ref 44), none]) (st2 := [.int 0, .ref 39]) b_X10_copy_23_30 rfl (fun hd => ?_)
  refine R2.aald (k2 := 40) 0 rfl hd rfl (by decide) (by omega) rfl ?_
  refine R2.B (ls2 := [some (.ref 5), some (.int 2), some (.int (nI a)), some (.int 0), some (.int (nI b)), some (.int (nI q)), some (.ref 44), some (.ref 40)]) (st2 := [.int (F 44 1)]) b_X10_copy_31_38 rfl (fun hd => ?_)
  refine R2.if_ne 49 hd (by decide) (fun c38 => absurd (h1) c38) (fun c38 => ?_)
  refine R2.B (ls2 := [some (.ref 5), some (.int 2), some (.int (nI a)), some (.int 0), some (.int (nI b)), some (.int (nI q)), some (.ref 44), some (.ref 40)]) (st2 := [.int (F 40 1)]) b_X10_copy_41_46 rfl (fun hd => ?_)
  refine R2.if_eq 55 hd (by decide) (fun c46 => ?_) (fun c46 => absurd (h2) c46)
  refine R2.B (ls2 := [some (.ref 5), some (.int 2), some (.int (nI a)), some (.int 0), some (.int (nI b)), some (.int (nI q)), some (.ref 44), some (.ref 40)]) (st2 := [.int (F 40 2), .int (F 44 2)]) b_X10_copy_55_65 rfl (fun hd => ?_)
  refine R2.icmp_eq 74 hd (by decide) (fun c65 => ?_) (fun c65 => absurd (h3) c65)
  refine R2.B (ls2 := [some (.ref 5), some (.int 2), some (.int (nI a)), some (.int 0), some (.int (nI b)), some (.int (nI q)), some (.ref 44), some (.ref 40)]) (st2 := [.int (nI q), .int (nI a), .ref 44]) b_X10_copy_74_79 rfl (fun hd => ?_)
  refine R2.callV3 (M2 := mX5_hasRange) (As := [.int (nI a), .int (nI q)]) (rest := []) hd lk_10_281 okX5_hasRange (by decide) rfl (ev_hasRange44 E L F (nI a) (nI q)) (by decide) rfl rfl (Nat.le_of_ble_eq_true rfl) ?_
  refine R2.B (ls2 := [some (.ref 5), some (.int 2), some (.int (nI a)), some (.int 0), some (.int (nI b)), some (.int (nI q)), some (.ref 44), some (.ref 40)]) (st2 := [.int (b2i (0 ≤ (nI a) ∧ 0 ≤ (nI q) ∧ (nI a) ≤ F 44 3 - (nI q)))]) b_X10_copy_82_82 rfl (fun hd => ?_)
  refine R2.if_eq 97 hd (by decide) (fun c82 => absurd c82 (b2i_nz.mpr hx)) (fun c82 => ?_)
  refine R2.B (ls2 := [some (.ref 5), some (.int 2), some (.int (nI a)), some (.int 0), some (.int (nI b)), some (.int (nI q)), some (.ref 44), some (.ref 40)]) (st2 := [.int (nI q), .int (nI b), .ref 40]) b_X10_copy_85_91 rfl (fun hd => ?_)
  refine R2.callV3 (M2 := mX5_hasRange) (As := [.int (nI b), .int (nI q)]) (rest := []) hd lk_10_281 okX5_hasRange (by decide) rfl (ev_hasRange40 E L F (nI b) (nI q)) (by decide) rfl rfl (Nat.le_of_ble_eq_true rfl) ?_
  refine R2.B (ls2 := [some (.ref 5), some (.int 2), some (.int (nI a)), some (.int 0), some (.int (nI b)), some (.int (nI q)), some (.ref 44), some (.ref 40)]) (st2 := [.int (b2i (0 ≤ (nI b) ∧ 0 ≤ (nI q) ∧ (nI b) ≤ F 40 3 - (nI q)))]) b_X10_copy_94_94 rfl (fun hd => ?_)
  refine R2.if_ne 103 hd (by decide) (fun c94 => ?_) (fun c94 => absurd c94 (b2i_nz.mpr hy))
  refine R2.B (ls2 := [some (.ref 5), some (.int 2), some (.int (nI a)), some (.int 0), some (.int (nI b)), some (.int (nI q)), some (.ref 44), some (.ref 40)]) (st2 := [.int (nI q), .int (nI b), .ref 41, .int (nI a), .ref 45]) b_X10_copy_103_118 rfl (fun hd => ?_)
  refine R2.acopy (sp := a) (dp := b) (n := q) rfl rfl rfl hd ac_10_284 (by decide) (by decide) rfl rfl (fun _ => rfl) (fun _ => rfl) (by decide) (by decide) (show a + q ≤ 60 by omega) (show b + q ≤ 60 by omega) (by decide) (Nat.le_of_ble_eq_true rfl) ?_
  refine R2.B (ls2 := [some (.ref 5), some (.int 2), some (.int (nI a)), some (.int 0), some (.int (nI b)), some (.int (nI q)), some (.ref 44), some (.ref 40)]) (st2 := [.int 1]) b_X10_copy_121_122 rfl (fun hd => ?_)
  exact R2.ret3 (r := some (.int 1)) hd trivial rfl rfl rfl
set_option maxRecDepth 20000 in
set_option maxHeartbeats 1000000 in
theorem x_copy_null21 (E : EE) (L : Nat) (F : FF) (x y n : Int32) (h : ¬ F 44 1 = 0 ∨ ¬ F 42 1 = 0) : Ev3 E L 16 mX10_copy [.ref 5, .int 2, .int x, .int 1, .int y, .int n] F (some (.int (-10 - 1))) (up2 F 5 11 1) := by
  refine Ev3.of okX10_copy.2.2.1 (Nat.le_of_ble_eq_true rfl) ?_
  show R2 E L mX10_copy 16 0 [some (.ref 5), some (.int 2), some (.int x), some (.int 1), some (.int y), some (.int n), none, none] [] F _
  refine R2.B (ls2 := [some (.ref 5), some (.int 2), some (.int x), some (.int 1), some (.int y), some (.int n), none, none]) (st2 := [.int 2]) b_X10_copy_0_1 rfl (fun hd => ?_)
  refine R2.callS3 (M2 := mX10_isSheet) (As := [.int 2]) (rest := []) hd lk_10_153 okX10_isSheet (by decide) (ev_isSheet E L F 2) (by decide) rfl rfl (Nat.le_of_ble_eq_true rfl) ?_
  refine R2.B (ls2 := [some (.ref 5), some (.int 2), some (.int x), some (.int 1), some (.int y), some (.int n), none, none]) (st2 := [.int (b2i (0 ≤ 2 ∧ 2 < 4))]) b_X10_copy_4_4 rfl (fun hd => ?_)
  refine R2.if_eq 14 hd (by decide) (fun c4 => absurd c4 (b2i_nz.mpr (by decide))) (fun c4 => ?_)
  refine R2.B (ls2 := [some (.ref 5), some (.int 2), some (.int x), some (.int 1), some (.int y), some (.int n), none, none]) (st2 := [.int 1]) b_X10_copy_7_8 rfl (fun hd => ?_)
  refine R2.callS3 (M2 := mX10_isSheet) (As := [.int 1]) (rest := []) hd lk_10_153 okX10_isSheet (by decide) (ev_isSheet E L F 1) (by decide) rfl rfl (Nat.le_of_ble_eq_true rfl) ?_
  refine R2.B (ls2 := [some (.ref 5), some (.int 2), some (.int x), some (.int 1), some (.int y), some (.int n), none, none]) (st2 := [.int (b2i (0 ≤ 1 ∧ 1 < 4))]) b_X10_copy_11_11 rfl (fun hd => ?_)
  refine R2.if_ne 17 hd (by decide) (fun c11 => ?_) (fun c11 => absurd c11 (b2i_nz.mpr (by decide)))
  refine R2.B (ls2 := [some (.ref 5), some (.int 2), some (.int x), some (.int 1), some (.int y), some (.int n), none, none]) (st2 := [.int 2, .ref 39]) b_X10_copy_17_22 rfl (fun hd => ?_)
  refine R2.aald (k2 := 44) 2 rfl hd rfl (by decide) (by omega) rfl ?_
  refine R2.B (ls2 := [some (.ref 5), some (.int 2), some (.int x), some (.int 1), some (.int y), some (.int n), some (.ref 44), none]) (st2 := [.int 1, .ref 39]) b_X10_copy_23_30 rfl (fun hd => ?_)
  refine R2.aald (k2 := 42) 1 rfl hd rfl (by decide) (by omega) rfl ?_
  refine R2.B (ls2 := [some (.ref 5), some (.int 2), some (.int x), some (.int 1), some (.int y), some (.int n), some (.ref 44), some (.ref 42)]) (st2 := [.int (F 44 1)]) b_X10_copy_31_38 rfl (fun hd => ?_)
  refine R2.if_ne 49 hd (by decide) (fun c38 => ?_) (fun c38 => ?_)
  · refine R2.B (ls2 := [some (.ref 5), some (.int 2), some (.int x), some (.int 1), some (.int y), some (.int n), some (.ref 44), some (.ref 42)]) (st2 := [.int 1, .ref 5]) b_X10_copy_49_51 rfl (fun hd => ?_)
    refine R2.callV3 (M2 := mX10_found) (As := [.int 1]) (rest := []) hd lk_10_160 okX10_found (by decide) rfl (ev_found E L F 1) (by decide) rfl rfl (Nat.le_of_ble_eq_true rfl) ?_
    refine R2.B (ls2 := [some (.ref 5), some (.int 2), some (.int x), some (.int 1), some (.int y), some (.int n), some (.ref 44), some (.ref 42)]) (st2 := [.int (-10 - 1)]) b_X10_copy_54_54 rfl (fun hd => ?_)
    exact R2.ret3 (r := some (.int (-10 - 1))) hd trivial rfl rfl rfl
  · refine R2.B (ls2 := [some (.ref 5), some (.int 2), some (.int x), some (.int 1), some (.int y), some (.int n), some (.ref 44), some (.ref 42)]) (st2 := [.int (F 42 1)]) b_X10_copy_41_46 rfl (fun hd => ?_)
    refine R2.if_eq 55 hd (by decide) (fun c46 => ?_) (fun c46 => ?_)
    · refine R2.B (ls2 := [some (.ref 5), some (.int 2), some (.int x), some (.int 1), some (.int y), some (.int n), some (.ref 44), some (.ref 42)]) (st2 := []) b_X10_copy_55_55 rfl (fun hd => ?_)
      exact False.elim (by clear hd; grind)
    · refine R2.B (ls2 := [some (.ref 5), some (.int 2), some (.int x), some (.int 1), some (.int y), some (.int n), some (.ref 44), some (.ref 42)]) (st2 := [.int 1, .ref 5]) b_X10_copy_49_51 rfl (fun hd => ?_)
      refine R2.callV3 (M2 := mX10_found) (As := [.int 1]) (rest := []) hd lk_10_160 okX10_found (by decide) rfl (ev_found E L F 1) (by decide) rfl rfl (Nat.le_of_ble_eq_true rfl) ?_
      refine R2.B (ls2 := [some (.ref 5), some (.int 2), some (.int x), some (.int 1), some (.int y), some (.int n), some (.ref 44), some (.ref 42)]) (st2 := [.int (-10 - 1)]) b_X10_copy_54_54 rfl (fun hd => ?_)
      exact R2.ret3 (r := some (.int (-10 - 1))) hd trivial rfl rfl rfl
set_option maxRecDepth 20000 in
set_option maxHeartbeats 1000000 in
theorem x_copy_store21 (E : EE) (L : Nat) (F : FF) (x y n : Int32) (h1 : F 44 1 = 0) (h2 : F 42 1 = 0) (h3 : ¬ F 44 2 = F 42 2) : Ev3 E L 16 mX10_copy [.ref 5, .int 2, .int x, .int 1, .int y, .int n] F (some (.int (-10 - 4))) (up2 F 5 11 4) := by
  refine Ev3.of okX10_copy.2.2.1 (Nat.le_of_ble_eq_true rfl) ?_
  show R2 E L mX10_copy 16 0 [some (.ref 5), some (.int 2), some (.int x), some (.int 1), some (.int y), some (.int n), none, none] [] F _
  refine R2.B (ls2 := [some (.ref 5), some (.int 2), some (.int x), some (.int 1), some (.int y), some (.int n), none, none]) (st2 := [.int 2]) b_X10_copy_0_1 rfl (fun hd => ?_)
  refine R2.callS3 (M2 := mX10_isSheet) (As := [.int 2]) (rest := []) hd lk_10_153 okX10_isSheet (by decide) (ev_isSheet E L F 2) (by decide) rfl rfl (Nat.le_of_ble_eq_true rfl) ?_
  refine R2.B (ls2 := [some (.ref 5), some (.int 2), some (.int x), some (.int 1), some (.int y), some (.int n), none, none]) (st2 := [.int (b2i (0 ≤ 2 ∧ 2 < 4))]) b_X10_copy_4_4 rfl (fun hd => ?_)
  refine R2.if_eq 14 hd (by decide) (fun c4 => absurd c4 (b2i_nz.mpr (by decide))) (fun c4 => ?_)
  refine R2.B (ls2 := [some (.ref 5), some (.int 2), some (.int x), some (.int 1), some (.int y), some (.int n), none, none]) (st2 := [.int 1]) b_X10_copy_7_8 rfl (fun hd => ?_)
  refine R2.callS3 (M2 := mX10_isSheet) (As := [.int 1]) (rest := []) hd lk_10_153 okX10_isSheet (by decide) (ev_isSheet E L F 1) (by decide) rfl rfl (Nat.le_of_ble_eq_true rfl) ?_
  refine R2.B (ls2 := [some (.ref 5), some (.int 2), some (.int x), some (.int 1), some (.int y), some (.int n), none, none]) (st2 := [.int (b2i (0 ≤ 1 ∧ 1 < 4))]) b_X10_copy_11_11 rfl (fun hd => ?_)
  refine R2.if_ne 17 hd (by decide) (fun c11 => ?_) (fun c11 => absurd c11 (b2i_nz.mpr (by decide)))
  refine R2.B (ls2 := [some (.ref 5), some (.int 2), some (.int x), some (.int 1), some (.int y), some (.int n), none, none]) (st2 := [.int 2, .ref 39]) b_X10_copy_17_22 rfl (fun hd => ?_)
  refine R2.aald (k2 := 44) 2 rfl hd rfl (by decide) (by omega) rfl ?_
  refine R2.B (ls2 := [some (.ref 5), some (.int 2), some (.int x), some (.int 1), some (.int y), some (.int n), some (.ref 44), none]) (st2 := [.int 1, .ref 39]) b_X10_copy_23_30 rfl (fun hd => ?_)
  refine R2.aald (k2 := 42) 1 rfl hd rfl (by decide) (by omega) rfl ?_
  refine R2.B (ls2 := [some (.ref 5), some (.int 2), some (.int x), some (.int 1), some (.int y), some (.int n), some (.ref 44), some (.ref 42)]) (st2 := [.int (F 44 1)]) b_X10_copy_31_38 rfl (fun hd => ?_)
  refine R2.if_ne 49 hd (by decide) (fun c38 => absurd (h1) c38) (fun c38 => ?_)
  refine R2.B (ls2 := [some (.ref 5), some (.int 2), some (.int x), some (.int 1), some (.int y), some (.int n), some (.ref 44), some (.ref 42)]) (st2 := [.int (F 42 1)]) b_X10_copy_41_46 rfl (fun hd => ?_)
  refine R2.if_eq 55 hd (by decide) (fun c46 => ?_) (fun c46 => absurd (h2) c46)
  refine R2.B (ls2 := [some (.ref 5), some (.int 2), some (.int x), some (.int 1), some (.int y), some (.int n), some (.ref 44), some (.ref 42)]) (st2 := [.int (F 42 2), .int (F 44 2)]) b_X10_copy_55_65 rfl (fun hd => ?_)
  refine R2.icmp_eq 74 hd (by decide) (fun c65 => absurd c65 (h3)) (fun c65 => ?_)
  refine R2.B (ls2 := [some (.ref 5), some (.int 2), some (.int x), some (.int 1), some (.int y), some (.int n), some (.ref 44), some (.ref 42)]) (st2 := [.int 4, .ref 5]) b_X10_copy_68_70 rfl (fun hd => ?_)
  refine R2.callV3 (M2 := mX10_found) (As := [.int 4]) (rest := []) hd lk_10_160 okX10_found (by decide) rfl (ev_found E L F 4) (by decide) rfl rfl (Nat.le_of_ble_eq_true rfl) ?_
  refine R2.B (ls2 := [some (.ref 5), some (.int 2), some (.int x), some (.int 1), some (.int y), some (.int n), some (.ref 44), some (.ref 42)]) (st2 := [.int (-10 - 4)]) b_X10_copy_73_73 rfl (fun hd => ?_)
  exact R2.ret3 (r := some (.int (-10 - 4))) hd trivial rfl rfl rfl
set_option maxRecDepth 20000 in
set_option maxHeartbeats 1000000 in
theorem x_copy_index21 (E : EE) (L : Nat) (F : FF) (x y n : Int32) (h1 : F 44 1 = 0) (h2 : F 42 1 = 0) (h3 : F 44 2 = F 42 2) (h : ¬ (0 ≤ x ∧ 0 ≤ n ∧ x ≤ F 44 3 - n) ∨ ¬ (0 ≤ y ∧ 0 ≤ n ∧ y ≤ F 42 3 - n)) : Ev3 E L 16 mX10_copy [.ref 5, .int 2, .int x, .int 1, .int y, .int n] F (some (.int (-10 - 2))) (up2 F 5 11 2) := by
  refine Ev3.of okX10_copy.2.2.1 (Nat.le_of_ble_eq_true rfl) ?_
  show R2 E L mX10_copy 16 0 [some (.ref 5), some (.int 2), some (.int x), some (.int 1), some (.int y), some (.int n), none, none] [] F _
  refine R2.B (ls2 := [some (.ref 5), some (.int 2), some (.int x), some (.int 1), some (.int y), some (.int n), none, none]) (st2 := [.int 2]) b_X10_copy_0_1 rfl (fun hd => ?_)
  refine R2.callS3 (M2 := mX10_isSheet) (As := [.int 2]) (rest := []) hd lk_10_153 okX10_isSheet (by decide) (ev_isSheet E L F 2) (by decide) rfl rfl (Nat.le_of_ble_eq_true rfl) ?_
  refine R2.B (ls2 := [some (.ref 5), some (.int 2), some (.int x), some (.int 1), some (.int y), some (.int n), none, none]) (st2 := [.int (b2i (0 ≤ 2 ∧ 2 < 4))]) b_X10_copy_4_4 rfl (fun hd => ?_)
  refine R2.if_eq 14 hd (by decide) (fun c4 => absurd c4 (b2i_nz.mpr (by decide))) (fun c4 => ?_)
  refine R2.B (ls2 := [some (.ref 5), some (.int 2), some (.int x), some (.int 1), some (.int y), some (.int n), none, none]) (st2 := [.int 1]) b_X10_copy_7_8 rfl (fun hd => ?_)
  refine R2.callS3 (M2 := mX10_isSheet) (As := [.int 1]) (rest := []) hd lk_10_153 okX10_isSheet (by decide) (ev_isSheet E L F 1) (by decide) rfl rfl (Nat.le_of_ble_eq_true rfl) ?_
  refine R2.B (ls2 := [some (.ref 5), some (.int 2), some (.int x), some (.int 1), some (.int y), some (.int n), none, none]) (st2 := [.int (b2i (0 ≤ 1 ∧ 1 < 4))]) b_X10_copy_11_11 rfl (fun hd => ?_)
  refine R2.if_ne 17 hd (by decide) (fun c11 => ?_) (fun c11 => absurd c11 (b2i_nz.mpr (by decide)))
  refine R2.B (ls2 := [some (.ref 5), some (.int 2), some (.int x), some (.int 1), some (.int y), some (.int n), none, none]) (st2 := [.int 2, .ref 39]) b_X10_copy_17_22 rfl (fun hd => ?_)
  refine R2.aald (k2 := 44) 2 rfl hd rfl (by decide) (by omega) rfl ?_
  refine R2.B (ls2 := [some (.ref 5), some (.int 2), some (.int x), some (.int 1), some (.int y), some (.int n), some (.ref 44), none]) (st2 := [.int 1, .ref 39]) b_X10_copy_23_30 rfl (fun hd => ?_)
  refine R2.aald (k2 := 42) 1 rfl hd rfl (by decide) (by omega) rfl ?_
  refine R2.B (ls2 := [some (.ref 5), some (.int 2), some (.int x), some (.int 1), some (.int y), some (.int n), some (.ref 44), some (.ref 42)]) (st2 := [.int (F 44 1)]) b_X10_copy_31_38 rfl (fun hd => ?_)
  refine R2.if_ne 49 hd (by decide) (fun c38 => absurd (h1) c38) (fun c38 => ?_)
  refine R2.B (ls2 := [some (.ref 5), some (.int 2), some (.int x), some (.int 1), some (.int y), some (.int n), some (.ref 44), some (.ref 42)]) (st2 := [.int (F 42 1)]) b_X10_copy_41_46 rfl (fun hd => ?_)
  refine R2.if_eq 55 hd (by decide) (fun c46 => ?_) (fun c46 => absurd (h2) c46)
  refine R2.B (ls2 := [some (.ref 5), some (.int 2), some (.int x), some (.int 1), some (.int y), some (.int n), some (.ref 44), some (.ref 42)]) (st2 := [.int (F 42 2), .int (F 44 2)]) b_X10_copy_55_65 rfl (fun hd => ?_)
  refine R2.icmp_eq 74 hd (by decide) (fun c65 => ?_) (fun c65 => absurd (h3) c65)
  refine R2.B (ls2 := [some (.ref 5), some (.int 2), some (.int x), some (.int 1), some (.int y), some (.int n), some (.ref 44), some (.ref 42)]) (st2 := [.int n, .int x, .ref 44]) b_X10_copy_74_79 rfl (fun hd => ?_)
  refine R2.callV3 (M2 := mX5_hasRange) (As := [.int x, .int n]) (rest := []) hd lk_10_281 okX5_hasRange (by decide) rfl (ev_hasRange44 E L F x n) (by decide) rfl rfl (Nat.le_of_ble_eq_true rfl) ?_
  refine R2.B (ls2 := [some (.ref 5), some (.int 2), some (.int x), some (.int 1), some (.int y), some (.int n), some (.ref 44), some (.ref 42)]) (st2 := [.int (b2i (0 ≤ x ∧ 0 ≤ n ∧ x ≤ F 44 3 - n))]) b_X10_copy_82_82 rfl (fun hd => ?_)
  refine R2.if_eq 97 hd (by decide) (fun c82 => ?_) (fun c82 => ?_)
  · have nc82 : ¬ (0 ≤ x ∧ 0 ≤ n ∧ x ≤ F 44 3 - n) := b2i_zero.mp c82
    refine R2.B (ls2 := [some (.ref 5), some (.int 2), some (.int x), some (.int 1), some (.int y), some (.int n), some (.ref 44), some (.ref 42)]) (st2 := [.int 2, .ref 5]) b_X10_copy_97_99 rfl (fun hd => ?_)
    refine R2.callV3 (M2 := mX10_found) (As := [.int 2]) (rest := []) hd lk_10_160 okX10_found (by decide) rfl (ev_found E L F 2) (by decide) rfl rfl (Nat.le_of_ble_eq_true rfl) ?_
    refine R2.B (ls2 := [some (.ref 5), some (.int 2), some (.int x), some (.int 1), some (.int y), some (.int n), some (.ref 44), some (.ref 42)]) (st2 := [.int (-10 - 2)]) b_X10_copy_102_102 rfl (fun hd => ?_)
    exact R2.ret3 (r := some (.int (-10 - 2))) hd trivial rfl rfl rfl
  · have nc82 : 0 ≤ x ∧ 0 ≤ n ∧ x ≤ F 44 3 - n := b2i_nz.mp c82
    refine R2.B (ls2 := [some (.ref 5), some (.int 2), some (.int x), some (.int 1), some (.int y), some (.int n), some (.ref 44), some (.ref 42)]) (st2 := [.int n, .int y, .ref 42]) b_X10_copy_85_91 rfl (fun hd => ?_)
    refine R2.callV3 (M2 := mX5_hasRange) (As := [.int y, .int n]) (rest := []) hd lk_10_281 okX5_hasRange (by decide) rfl (ev_hasRange42 E L F y n) (by decide) rfl rfl (Nat.le_of_ble_eq_true rfl) ?_
    refine R2.B (ls2 := [some (.ref 5), some (.int 2), some (.int x), some (.int 1), some (.int y), some (.int n), some (.ref 44), some (.ref 42)]) (st2 := [.int (b2i (0 ≤ y ∧ 0 ≤ n ∧ y ≤ F 42 3 - n))]) b_X10_copy_94_94 rfl (fun hd => ?_)
    refine R2.if_ne 103 hd (by decide) (fun c94 => ?_) (fun c94 => ?_)
    · have nc94 : 0 ≤ y ∧ 0 ≤ n ∧ y ≤ F 42 3 - n := b2i_nz.mp c94
      refine R2.B (ls2 := [some (.ref 5), some (.int 2), some (.int x), some (.int 1), some (.int y), some (.int n), some (.ref 44), some (.ref 42)]) (st2 := []) b_X10_copy_103_103 rfl (fun hd => ?_)
      exact False.elim (by clear hd; grind)
    · have nc94 : ¬ (0 ≤ y ∧ 0 ≤ n ∧ y ≤ F 42 3 - n) := b2i_zero.mp c94
      refine R2.B (ls2 := [some (.ref 5), some (.int 2), some (.int x), some (.int 1), some (.int y), some (.int n), some (.ref 44), some (.ref 42)]) (st2 := [.int 2, .ref 5]) b_X10_copy_97_99 rfl (fun hd => ?_)
      refine R2.callV3 (M2 := mX10_found) (As := [.int 2]) (rest := []) hd lk_10_160 okX10_found (by decide) rfl (ev_found E L F 2) (by decide) rfl rfl (Nat.le_of_ble_eq_true rfl) ?_
      refine R2.B (ls2 := [some (.ref 5), some (.int 2), some (.int x), some (.int 1), some (.int y), some (.int n), some (.ref 44), some (.ref 42)]) (st2 := [.int (-10 - 2)]) b_X10_copy_102_102 rfl (fun hd => ?_)
      exact R2.ret3 (r := some (.int (-10 - 2))) hd trivial rfl rfl rfl
set_option maxRecDepth 20000 in
set_option maxHeartbeats 1000000 in
theorem x_copy21 (E : EE) (L : Nat) (F : FF) (a b q : Nat) (h1 : F 44 1 = 0) (h2 : F 42 1 = 0) (h3 : F 44 2 = F 42 2) (hx : (0 ≤ nI a ∧ 0 ≤ nI q ∧ nI a ≤ F 44 3 - nI q)) (hy : (0 ≤ nI b ∧ 0 ≤ nI q ∧ nI b ≤ F 42 3 - nI q)) (ha : a + q ≤ 60) (hb : b + q ≤ 60) : Ev3 E L 16 mX10_copy [.ref 5, .int 2, .int (nI a), .int 1, .int (nI b), .int (nI q)] F (some (.int (1))) (cpyF F 45 43 a b q) := by
  refine Ev3.of okX10_copy.2.2.1 (Nat.le_of_ble_eq_true rfl) ?_
  show R2 E L mX10_copy 16 0 [some (.ref 5), some (.int 2), some (.int (nI a)), some (.int 1), some (.int (nI b)), some (.int (nI q)), none, none] [] F _
  refine R2.B (ls2 := [some (.ref 5), some (.int 2), some (.int (nI a)), some (.int 1), some (.int (nI b)), some (.int (nI q)), none, none]) (st2 := [.int 2]) b_X10_copy_0_1 rfl (fun hd => ?_)
  refine R2.callS3 (M2 := mX10_isSheet) (As := [.int 2]) (rest := []) hd lk_10_153 okX10_isSheet (by decide) (ev_isSheet E L F 2) (by decide) rfl rfl (Nat.le_of_ble_eq_true rfl) ?_
  refine R2.B (ls2 := [some (.ref 5), some (.int 2), some (.int (nI a)), some (.int 1), some (.int (nI b)), some (.int (nI q)), none, none]) (st2 := [.int (b2i (0 ≤ 2 ∧ 2 < 4))]) b_X10_copy_4_4 rfl (fun hd => ?_)
  refine R2.if_eq 14 hd (by decide) (fun c4 => absurd c4 (b2i_nz.mpr (by decide))) (fun c4 => ?_)
  refine R2.B (ls2 := [some (.ref 5), some (.int 2), some (.int (nI a)), some (.int 1), some (.int (nI b)), some (.int (nI q)), none, none]) (st2 := [.int 1]) b_X10_copy_7_8 rfl (fun hd => ?_)
  refine R2.callS3 (M2 := mX10_isSheet) (As := [.int 1]) (rest := []) hd lk_10_153 okX10_isSheet (by decide) (ev_isSheet E L F 1) (by decide) rfl rfl (Nat.le_of_ble_eq_true rfl) ?_
  refine R2.B (ls2 := [some (.ref 5), some (.int 2), some (.int (nI a)), some (.int 1), some (.int (nI b)), some (.int (nI q)), none, none]) (st2 := [.int (b2i (0 ≤ 1 ∧ 1 < 4))]) b_X10_copy_11_11 rfl (fun hd => ?_)
  refine R2.if_ne 17 hd (by decide) (fun c11 => ?_) (fun c11 => absurd c11 (b2i_nz.mpr (by decide)))
  refine R2.B (ls2 := [some (.ref 5), some (.int 2), some (.int (nI a)), some (.int 1), some (.int (nI b)), some (.int (nI q)), none, none]) (st2 := [.int 2, .ref 39]) b_X10_copy_17_22 rfl (fun hd => ?_)
  refine R2.aald (k2 := 44) 2 rfl hd rfl (by decide) (by omega) rfl ?_
  refine R2.B (ls2 := [some (.ref 5), some (.int 2), some (.int (nI a)), some (.int 1), some (.int (nI b)), some (.int (nI q)), some (.ref 44), none]) (st2 := [.int 1, .ref 39]) b_X10_copy_23_30 rfl (fun hd => ?_)
  refine R2.aald (k2 := 42) 1 rfl hd rfl (by decide) (by omega) rfl ?_
  refine R2.B (ls2 := [some (.ref 5), some (.int 2), some (.int (nI a)), some (.int 1), some (.int (nI b)), some (.int (nI q)), some (.ref 44), some (.ref 42)]) (st2 := [.int (F 44 1)]) b_X10_copy_31_38 rfl (fun hd => ?_)
  refine R2.if_ne 49 hd (by decide) (fun c38 => absurd (h1) c38) (fun c38 => ?_)
  refine R2.B (ls2 := [some (.ref 5), some (.int 2), some (.int (nI a)), some (.int 1), some (.int (nI b)), some (.int (nI q)), some (.ref 44), some (.ref 42)]) (st2 := [.int (F 42 1)]) b_X10_copy_41_46 rfl (fun hd => ?_)
  refine R2.if_eq 55 hd (by decide) (fun c46 => ?_) (fun c46 => absurd (h2) c46)
  refine R2.B (ls2 := [some (.ref 5), some (.int 2), some (.int (nI a)), some (.int 1), some (.int (nI b)), some (.int (nI q)), some (.ref 44), some (.ref 42)]) (st2 := [.int (F 42 2), .int (F 44 2)]) b_X10_copy_55_65 rfl (fun hd => ?_)
  refine R2.icmp_eq 74 hd (by decide) (fun c65 => ?_) (fun c65 => absurd (h3) c65)
  refine R2.B (ls2 := [some (.ref 5), some (.int 2), some (.int (nI a)), some (.int 1), some (.int (nI b)), some (.int (nI q)), some (.ref 44), some (.ref 42)]) (st2 := [.int (nI q), .int (nI a), .ref 44]) b_X10_copy_74_79 rfl (fun hd => ?_)
  refine R2.callV3 (M2 := mX5_hasRange) (As := [.int (nI a), .int (nI q)]) (rest := []) hd lk_10_281 okX5_hasRange (by decide) rfl (ev_hasRange44 E L F (nI a) (nI q)) (by decide) rfl rfl (Nat.le_of_ble_eq_true rfl) ?_
  refine R2.B (ls2 := [some (.ref 5), some (.int 2), some (.int (nI a)), some (.int 1), some (.int (nI b)), some (.int (nI q)), some (.ref 44), some (.ref 42)]) (st2 := [.int (b2i (0 ≤ (nI a) ∧ 0 ≤ (nI q) ∧ (nI a) ≤ F 44 3 - (nI q)))]) b_X10_copy_82_82 rfl (fun hd => ?_)
  refine R2.if_eq 97 hd (by decide) (fun c82 => absurd c82 (b2i_nz.mpr hx)) (fun c82 => ?_)
  refine R2.B (ls2 := [some (.ref 5), some (.int 2), some (.int (nI a)), some (.int 1), some (.int (nI b)), some (.int (nI q)), some (.ref 44), some (.ref 42)]) (st2 := [.int (nI q), .int (nI b), .ref 42]) b_X10_copy_85_91 rfl (fun hd => ?_)
  refine R2.callV3 (M2 := mX5_hasRange) (As := [.int (nI b), .int (nI q)]) (rest := []) hd lk_10_281 okX5_hasRange (by decide) rfl (ev_hasRange42 E L F (nI b) (nI q)) (by decide) rfl rfl (Nat.le_of_ble_eq_true rfl) ?_
  refine R2.B (ls2 := [some (.ref 5), some (.int 2), some (.int (nI a)), some (.int 1), some (.int (nI b)), some (.int (nI q)), some (.ref 44), some (.ref 42)]) (st2 := [.int (b2i (0 ≤ (nI b) ∧ 0 ≤ (nI q) ∧ (nI b) ≤ F 42 3 - (nI q)))]) b_X10_copy_94_94 rfl (fun hd => ?_)
  refine R2.if_ne 103 hd (by decide) (fun c94 => ?_) (fun c94 => absurd c94 (b2i_nz.mpr hy))
  refine R2.B (ls2 := [some (.ref 5), some (.int 2), some (.int (nI a)), some (.int 1), some (.int (nI b)), some (.int (nI q)), some (.ref 44), some (.ref 42)]) (st2 := [.int (nI q), .int (nI b), .ref 43, .int (nI a), .ref 45]) b_X10_copy_103_118 rfl (fun hd => ?_)
  refine R2.acopy (sp := a) (dp := b) (n := q) rfl rfl rfl hd ac_10_284 (by decide) (by decide) rfl rfl (fun _ => rfl) (fun _ => rfl) (by decide) (by decide) (show a + q ≤ 60 by omega) (show b + q ≤ 60 by omega) (by decide) (Nat.le_of_ble_eq_true rfl) ?_
  refine R2.B (ls2 := [some (.ref 5), some (.int 2), some (.int (nI a)), some (.int 1), some (.int (nI b)), some (.int (nI q)), some (.ref 44), some (.ref 42)]) (st2 := [.int 1]) b_X10_copy_121_122 rfl (fun hd => ?_)
  exact R2.ret3 (r := some (.int 1)) hd trivial rfl rfl rfl
set_option maxRecDepth 20000 in
set_option maxHeartbeats 1000000 in
theorem x_copy_null22 (E : EE) (L : Nat) (F : FF) (x y n : Int32) (h : ¬ F 44 1 = 0 ∨ ¬ F 44 1 = 0) : Ev3 E L 16 mX10_copy [.ref 5, .int 2, .int x, .int 2, .int y, .int n] F (some (.int (-10 - 1))) (up2 F 5 11 1) := by
  refine Ev3.of okX10_copy.2.2.1 (Nat.le_of_ble_eq_true rfl) ?_
  show R2 E L mX10_copy 16 0 [some (.ref 5), some (.int 2), some (.int x), some (.int 2), some (.int y), some (.int n), none, none] [] F _
  refine R2.B (ls2 := [some (.ref 5), some (.int 2), some (.int x), some (.int 2), some (.int y), some (.int n), none, none]) (st2 := [.int 2]) b_X10_copy_0_1 rfl (fun hd => ?_)
  refine R2.callS3 (M2 := mX10_isSheet) (As := [.int 2]) (rest := []) hd lk_10_153 okX10_isSheet (by decide) (ev_isSheet E L F 2) (by decide) rfl rfl (Nat.le_of_ble_eq_true rfl) ?_
  refine R2.B (ls2 := [some (.ref 5), some (.int 2), some (.int x), some (.int 2), some (.int y), some (.int n), none, none]) (st2 := [.int (b2i (0 ≤ 2 ∧ 2 < 4))]) b_X10_copy_4_4 rfl (fun hd => ?_)
  refine R2.if_eq 14 hd (by decide) (fun c4 => absurd c4 (b2i_nz.mpr (by decide))) (fun c4 => ?_)
  refine R2.B (ls2 := [some (.ref 5), some (.int 2), some (.int x), some (.int 2), some (.int y), some (.int n), none, none]) (st2 := [.int 2]) b_X10_copy_7_8 rfl (fun hd => ?_)
  refine R2.callS3 (M2 := mX10_isSheet) (As := [.int 2]) (rest := []) hd lk_10_153 okX10_isSheet (by decide) (ev_isSheet E L F 2) (by decide) rfl rfl (Nat.le_of_ble_eq_true rfl) ?_
  refine R2.B (ls2 := [some (.ref 5), some (.int 2), some (.int x), some (.int 2), some (.int y), some (.int n), none, none]) (st2 := [.int (b2i (0 ≤ 2 ∧ 2 < 4))]) b_X10_copy_11_11 rfl (fun hd => ?_)
  refine R2.if_ne 17 hd (by decide) (fun c11 => ?_) (fun c11 => absurd c11 (b2i_nz.mpr (by decide)))
  refine R2.B (ls2 := [some (.ref 5), some (.int 2), some (.int x), some (.int 2), some (.int y), some (.int n), none, none]) (st2 := [.int 2, .ref 39]) b_X10_copy_17_22 rfl (fun hd => ?_)
  refine R2.aald (k2 := 44) 2 rfl hd rfl (by decide) (by omega) rfl ?_
  refine R2.B (ls2 := [some (.ref 5), some (.int 2), some (.int x), some (.int 2), some (.int y), some (.int n), some (.ref 44), none]) (st2 := [.int 2, .ref 39]) b_X10_copy_23_30 rfl (fun hd => ?_)
  refine R2.aald (k2 := 44) 2 rfl hd rfl (by decide) (by omega) rfl ?_
  refine R2.B (ls2 := [some (.ref 5), some (.int 2), some (.int x), some (.int 2), some (.int y), some (.int n), some (.ref 44), some (.ref 44)]) (st2 := [.int (F 44 1)]) b_X10_copy_31_38 rfl (fun hd => ?_)
  refine R2.if_ne 49 hd (by decide) (fun c38 => ?_) (fun c38 => ?_)
  · refine R2.B (ls2 := [some (.ref 5), some (.int 2), some (.int x), some (.int 2), some (.int y), some (.int n), some (.ref 44), some (.ref 44)]) (st2 := [.int 1, .ref 5]) b_X10_copy_49_51 rfl (fun hd => ?_)
    refine R2.callV3 (M2 := mX10_found) (As := [.int 1]) (rest := []) hd lk_10_160 okX10_found (by decide) rfl (ev_found E L F 1) (by decide) rfl rfl (Nat.le_of_ble_eq_true rfl) ?_
    refine R2.B (ls2 := [some (.ref 5), some (.int 2), some (.int x), some (.int 2), some (.int y), some (.int n), some (.ref 44), some (.ref 44)]) (st2 := [.int (-10 - 1)]) b_X10_copy_54_54 rfl (fun hd => ?_)
    exact R2.ret3 (r := some (.int (-10 - 1))) hd trivial rfl rfl rfl
  · refine R2.B (ls2 := [some (.ref 5), some (.int 2), some (.int x), some (.int 2), some (.int y), some (.int n), some (.ref 44), some (.ref 44)]) (st2 := [.int (F 44 1)]) b_X10_copy_41_46 rfl (fun hd => ?_)
    refine R2.if_eq 55 hd (by decide) (fun c46 => ?_) (fun c46 => ?_)
    · refine R2.B (ls2 := [some (.ref 5), some (.int 2), some (.int x), some (.int 2), some (.int y), some (.int n), some (.ref 44), some (.ref 44)]) (st2 := []) b_X10_copy_55_55 rfl (fun hd => ?_)
      exact False.elim (by clear hd; grind)
    · refine R2.B (ls2 := [some (.ref 5), some (.int 2), some (.int x), some (.int 2), some (.int y), some (.int n), some (.ref 44), some (.ref 44)]) (st2 := [.int 1, .ref 5]) b_X10_copy_49_51 rfl (fun hd => ?_)
      refine R2.callV3 (M2 := mX10_found) (As := [.int 1]) (rest := []) hd lk_10_160 okX10_found (by decide) rfl (ev_found E L F 1) (by decide) rfl rfl (Nat.le_of_ble_eq_true rfl) ?_
      refine R2.B (ls2 := [some (.ref 5), some (.int 2), some (.int x), some (.int 2), some (.int y), some (.int n), some (.ref 44), some (.ref 44)]) (st2 := [.int (-10 - 1)]) b_X10_copy_54_54 rfl (fun hd => ?_)
      exact R2.ret3 (r := some (.int (-10 - 1))) hd trivial rfl rfl rfl
set_option maxRecDepth 20000 in
set_option maxHeartbeats 1000000 in
theorem x_copy_index22 (E : EE) (L : Nat) (F : FF) (x y n : Int32) (h1 : F 44 1 = 0) (h2 : F 44 1 = 0) (h3 : F 44 2 = F 44 2) (h : ¬ (0 ≤ x ∧ 0 ≤ n ∧ x ≤ F 44 3 - n) ∨ ¬ (0 ≤ y ∧ 0 ≤ n ∧ y ≤ F 44 3 - n)) : Ev3 E L 16 mX10_copy [.ref 5, .int 2, .int x, .int 2, .int y, .int n] F (some (.int (-10 - 2))) (up2 F 5 11 2) := by
  refine Ev3.of okX10_copy.2.2.1 (Nat.le_of_ble_eq_true rfl) ?_
  show R2 E L mX10_copy 16 0 [some (.ref 5), some (.int 2), some (.int x), some (.int 2), some (.int y), some (.int n), none, none] [] F _
  refine R2.B (ls2 := [some (.ref 5), some (.int 2), some (.int x), some (.int 2), some (.int y), some (.int n), none, none]) (st2 := [.int 2]) b_X10_copy_0_1 rfl (fun hd => ?_)
  refine R2.callS3 (M2 := mX10_isSheet) (As := [.int 2]) (rest := []) hd lk_10_153 okX10_isSheet (by decide) (ev_isSheet E L F 2) (by decide) rfl rfl (Nat.le_of_ble_eq_true rfl) ?_
  refine R2.B (ls2 := [some (.ref 5), some (.int 2), some (.int x), some (.int 2), some (.int y), some (.int n), none, none]) (st2 := [.int (b2i (0 ≤ 2 ∧ 2 < 4))]) b_X10_copy_4_4 rfl (fun hd => ?_)
  refine R2.if_eq 14 hd (by decide) (fun c4 => absurd c4 (b2i_nz.mpr (by decide))) (fun c4 => ?_)
  refine R2.B (ls2 := [some (.ref 5), some (.int 2), some (.int x), some (.int 2), some (.int y), some (.int n), none, none]) (st2 := [.int 2]) b_X10_copy_7_8 rfl (fun hd => ?_)
  refine R2.callS3 (M2 := mX10_isSheet) (As := [.int 2]) (rest := []) hd lk_10_153 okX10_isSheet (by decide) (ev_isSheet E L F 2) (by decide) rfl rfl (Nat.le_of_ble_eq_true rfl) ?_
  refine R2.B (ls2 := [some (.ref 5), some (.int 2), some (.int x), some (.int 2), some (.int y), some (.int n), none, none]) (st2 := [.int (b2i (0 ≤ 2 ∧ 2 < 4))]) b_X10_copy_11_11 rfl (fun hd => ?_)
  refine R2.if_ne 17 hd (by decide) (fun c11 => ?_) (fun c11 => absurd c11 (b2i_nz.mpr (by decide)))
  refine R2.B (ls2 := [some (.ref 5), some (.int 2), some (.int x), some (.int 2), some (.int y), some (.int n), none, none]) (st2 := [.int 2, .ref 39]) b_X10_copy_17_22 rfl (fun hd => ?_)
  refine R2.aald (k2 := 44) 2 rfl hd rfl (by decide) (by omega) rfl ?_
  refine R2.B (ls2 := [some (.ref 5), some (.int 2), some (.int x), some (.int 2), some (.int y), some (.int n), some (.ref 44), none]) (st2 := [.int 2, .ref 39]) b_X10_copy_23_30 rfl (fun hd => ?_)
  refine R2.aald (k2 := 44) 2 rfl hd rfl (by decide) (by omega) rfl ?_
  refine R2.B (ls2 := [some (.ref 5), some (.int 2), some (.int x), some (.int 2), some (.int y), some (.int n), some (.ref 44), some (.ref 44)]) (st2 := [.int (F 44 1)]) b_X10_copy_31_38 rfl (fun hd => ?_)
  refine R2.if_ne 49 hd (by decide) (fun c38 => absurd (h1) c38) (fun c38 => ?_)
  refine R2.B (ls2 := [some (.ref 5), some (.int 2), some (.int x), some (.int 2), some (.int y), some (.int n), some (.ref 44), some (.ref 44)]) (st2 := [.int (F 44 1)]) b_X10_copy_41_46 rfl (fun hd => ?_)
  refine R2.if_eq 55 hd (by decide) (fun c46 => ?_) (fun c46 => absurd (h2) c46)
  refine R2.B (ls2 := [some (.ref 5), some (.int 2), some (.int x), some (.int 2), some (.int y), some (.int n), some (.ref 44), some (.ref 44)]) (st2 := [.int (F 44 2), .int (F 44 2)]) b_X10_copy_55_65 rfl (fun hd => ?_)
  refine R2.icmp_eq 74 hd (by decide) (fun c65 => ?_) (fun c65 => absurd (h3) c65)
  refine R2.B (ls2 := [some (.ref 5), some (.int 2), some (.int x), some (.int 2), some (.int y), some (.int n), some (.ref 44), some (.ref 44)]) (st2 := [.int n, .int x, .ref 44]) b_X10_copy_74_79 rfl (fun hd => ?_)
  refine R2.callV3 (M2 := mX5_hasRange) (As := [.int x, .int n]) (rest := []) hd lk_10_281 okX5_hasRange (by decide) rfl (ev_hasRange44 E L F x n) (by decide) rfl rfl (Nat.le_of_ble_eq_true rfl) ?_
  refine R2.B (ls2 := [some (.ref 5), some (.int 2), some (.int x), some (.int 2), some (.int y), some (.int n), some (.ref 44), some (.ref 44)]) (st2 := [.int (b2i (0 ≤ x ∧ 0 ≤ n ∧ x ≤ F 44 3 - n))]) b_X10_copy_82_82 rfl (fun hd => ?_)
  refine R2.if_eq 97 hd (by decide) (fun c82 => ?_) (fun c82 => ?_)
  · have nc82 : ¬ (0 ≤ x ∧ 0 ≤ n ∧ x ≤ F 44 3 - n) := b2i_zero.mp c82
    refine R2.B (ls2 := [some (.ref 5), some (.int 2), some (.int x), some (.int 2), some (.int y), some (.int n), some (.ref 44), some (.ref 44)]) (st2 := [.int 2, .ref 5]) b_X10_copy_97_99 rfl (fun hd => ?_)
    refine R2.callV3 (M2 := mX10_found) (As := [.int 2]) (rest := []) hd lk_10_160 okX10_found (by decide) rfl (ev_found E L F 2) (by decide) rfl rfl (Nat.le_of_ble_eq_true rfl) ?_
    refine R2.B (ls2 := [some (.ref 5), some (.int 2), some (.int x), some (.int 2), some (.int y), some (.int n), some (.ref 44), some (.ref 44)]) (st2 := [.int (-10 - 2)]) b_X10_copy_102_102 rfl (fun hd => ?_)
    exact R2.ret3 (r := some (.int (-10 - 2))) hd trivial rfl rfl rfl
  · have nc82 : 0 ≤ x ∧ 0 ≤ n ∧ x ≤ F 44 3 - n := b2i_nz.mp c82
    refine R2.B (ls2 := [some (.ref 5), some (.int 2), some (.int x), some (.int 2), some (.int y), some (.int n), some (.ref 44), some (.ref 44)]) (st2 := [.int n, .int y, .ref 44]) b_X10_copy_85_91 rfl (fun hd => ?_)
    refine R2.callV3 (M2 := mX5_hasRange) (As := [.int y, .int n]) (rest := []) hd lk_10_281 okX5_hasRange (by decide) rfl (ev_hasRange44 E L F y n) (by decide) rfl rfl (Nat.le_of_ble_eq_true rfl) ?_
    refine R2.B (ls2 := [some (.ref 5), some (.int 2), some (.int x), some (.int 2), some (.int y), some (.int n), some (.ref 44), some (.ref 44)]) (st2 := [.int (b2i (0 ≤ y ∧ 0 ≤ n ∧ y ≤ F 44 3 - n))]) b_X10_copy_94_94 rfl (fun hd => ?_)
    refine R2.if_ne 103 hd (by decide) (fun c94 => ?_) (fun c94 => ?_)
    · have nc94 : 0 ≤ y ∧ 0 ≤ n ∧ y ≤ F 44 3 - n := b2i_nz.mp c94
      refine R2.B (ls2 := [some (.ref 5), some (.int 2), some (.int x), some (.int 2), some (.int y), some (.int n), some (.ref 44), some (.ref 44)]) (st2 := []) b_X10_copy_103_103 rfl (fun hd => ?_)
      exact False.elim (by clear hd; grind)
    · have nc94 : ¬ (0 ≤ y ∧ 0 ≤ n ∧ y ≤ F 44 3 - n) := b2i_zero.mp c94
      refine R2.B (ls2 := [some (.ref 5), some (.int 2), some (.int x), some (.int 2), some (.int y), some (.int n), some (.ref 44), some (.ref 44)]) (st2 := [.int 2, .ref 5]) b_X10_copy_97_99 rfl (fun hd => ?_)
      refine R2.callV3 (M2 := mX10_found) (As := [.int 2]) (rest := []) hd lk_10_160 okX10_found (by decide) rfl (ev_found E L F 2) (by decide) rfl rfl (Nat.le_of_ble_eq_true rfl) ?_
      refine R2.B (ls2 := [some (.ref 5), some (.int 2), some (.int x), some (.int 2), some (.int y), some (.int n), some (.ref 44), some (.ref 44)]) (st2 := [.int (-10 - 2)]) b_X10_copy_102_102 rfl (fun hd => ?_)
      exact R2.ret3 (r := some (.int (-10 - 2))) hd trivial rfl rfl rfl
set_option maxRecDepth 20000 in
set_option maxHeartbeats 1000000 in
theorem x_copy22 (E : EE) (L : Nat) (F : FF) (a b q : Nat) (h1 : F 44 1 = 0) (h2 : F 44 1 = 0) (h3 : F 44 2 = F 44 2) (hx : (0 ≤ nI a ∧ 0 ≤ nI q ∧ nI a ≤ F 44 3 - nI q)) (hy : (0 ≤ nI b ∧ 0 ≤ nI q ∧ nI b ≤ F 44 3 - nI q)) (ha : a + q ≤ 60) (hb : b + q ≤ 60) : Ev3 E L 16 mX10_copy [.ref 5, .int 2, .int (nI a), .int 2, .int (nI b), .int (nI q)] F (some (.int (1))) (cpyF F 45 45 a b q) := by
  refine Ev3.of okX10_copy.2.2.1 (Nat.le_of_ble_eq_true rfl) ?_
  show R2 E L mX10_copy 16 0 [some (.ref 5), some (.int 2), some (.int (nI a)), some (.int 2), some (.int (nI b)), some (.int (nI q)), none, none] [] F _
  refine R2.B (ls2 := [some (.ref 5), some (.int 2), some (.int (nI a)), some (.int 2), some (.int (nI b)), some (.int (nI q)), none, none]) (st2 := [.int 2]) b_X10_copy_0_1 rfl (fun hd => ?_)
  refine R2.callS3 (M2 := mX10_isSheet) (As := [.int 2]) (rest := []) hd lk_10_153 okX10_isSheet (by decide) (ev_isSheet E L F 2) (by decide) rfl rfl (Nat.le_of_ble_eq_true rfl) ?_
  refine R2.B (ls2 := [some (.ref 5), some (.int 2), some (.int (nI a)), some (.int 2), some (.int (nI b)), some (.int (nI q)), none, none]) (st2 := [.int (b2i (0 ≤ 2 ∧ 2 < 4))]) b_X10_copy_4_4 rfl (fun hd => ?_)
  refine R2.if_eq 14 hd (by decide) (fun c4 => absurd c4 (b2i_nz.mpr (by decide))) (fun c4 => ?_)
  refine R2.B (ls2 := [some (.ref 5), some (.int 2), some (.int (nI a)), some (.int 2), some (.int (nI b)), some (.int (nI q)), none, none]) (st2 := [.int 2]) b_X10_copy_7_8 rfl (fun hd => ?_)
  refine R2.callS3 (M2 := mX10_isSheet) (As := [.int 2]) (rest := []) hd lk_10_153 okX10_isSheet (by decide) (ev_isSheet E L F 2) (by decide) rfl rfl (Nat.le_of_ble_eq_true rfl) ?_
  refine R2.B (ls2 := [some (.ref 5), some (.int 2), some (.int (nI a)), some (.int 2), some (.int (nI b)), some (.int (nI q)), none, none]) (st2 := [.int (b2i (0 ≤ 2 ∧ 2 < 4))]) b_X10_copy_11_11 rfl (fun hd => ?_)
  refine R2.if_ne 17 hd (by decide) (fun c11 => ?_) (fun c11 => absurd c11 (b2i_nz.mpr (by decide)))
  refine R2.B (ls2 := [some (.ref 5), some (.int 2), some (.int (nI a)), some (.int 2), some (.int (nI b)), some (.int (nI q)), none, none]) (st2 := [.int 2, .ref 39]) b_X10_copy_17_22 rfl (fun hd => ?_)
  refine R2.aald (k2 := 44) 2 rfl hd rfl (by decide) (by omega) rfl ?_
  refine R2.B (ls2 := [some (.ref 5), some (.int 2), some (.int (nI a)), some (.int 2), some (.int (nI b)), some (.int (nI q)), some (.ref 44), none]) (st2 := [.int 2, .ref 39]) b_X10_copy_23_30 rfl (fun hd => ?_)
  refine R2.aald (k2 := 44) 2 rfl hd rfl (by decide) (by omega) rfl ?_
  refine R2.B (ls2 := [some (.ref 5), some (.int 2), some (.int (nI a)), some (.int 2), some (.int (nI b)), some (.int (nI q)), some (.ref 44), some (.ref 44)]) (st2 := [.int (F 44 1)]) b_X10_copy_31_38 rfl (fun hd => ?_)
  refine R2.if_ne 49 hd (by decide) (fun c38 => absurd (h1) c38) (fun c38 => ?_)
  refine R2.B (ls2 := [some (.ref 5), some (.int 2), some (.int (nI a)), some (.int 2), some (.int (nI b)), some (.int (nI q)), some (.ref 44), some (.ref 44)]) (st2 := [.int (F 44 1)]) b_X10_copy_41_46 rfl (fun hd => ?_)
  refine R2.if_eq 55 hd (by decide) (fun c46 => ?_) (fun c46 => absurd (h2) c46)
  refine R2.B (ls2 := [some (.ref 5), some (.int 2), some (.int (nI a)), some (.int 2), some (.int (nI b)), some (.int (nI q)), some (.ref 44), some (.ref 44)]) (st2 := [.int (F 44 2), .int (F 44 2)]) b_X10_copy_55_65 rfl (fun hd => ?_)
  refine R2.icmp_eq 74 hd (by decide) (fun c65 => ?_) (fun c65 => absurd (h3) c65)
  refine R2.B (ls2 := [some (.ref 5), some (.int 2), some (.int (nI a)), some (.int 2), some (.int (nI b)), some (.int (nI q)), some (.ref 44), some (.ref 44)]) (st2 := [.int (nI q), .int (nI a), .ref 44]) b_X10_copy_74_79 rfl (fun hd => ?_)
  refine R2.callV3 (M2 := mX5_hasRange) (As := [.int (nI a), .int (nI q)]) (rest := []) hd lk_10_281 okX5_hasRange (by decide) rfl (ev_hasRange44 E L F (nI a) (nI q)) (by decide) rfl rfl (Nat.le_of_ble_eq_true rfl) ?_
  refine R2.B (ls2 := [some (.ref 5), some (.int 2), some (.int (nI a)), some (.int 2), some (.int (nI b)), some (.int (nI q)), some (.ref 44), some (.ref 44)]) (st2 := [.int (b2i (0 ≤ (nI a) ∧ 0 ≤ (nI q) ∧ (nI a) ≤ F 44 3 - (nI q)))]) b_X10_copy_82_82 rfl (fun hd => ?_)
  refine R2.if_eq 97 hd (by decide) (fun c82 => absurd c82 (b2i_nz.mpr hx)) (fun c82 => ?_)
  refine R2.B (ls2 := [some (.ref 5), some (.int 2), some (.int (nI a)), some (.int 2), some (.int (nI b)), some (.int (nI q)), some (.ref 44), some (.ref 44)]) (st2 := [.int (nI q), .int (nI b), .ref 44]) b_X10_copy_85_91 rfl (fun hd => ?_)
  refine R2.callV3 (M2 := mX5_hasRange) (As := [.int (nI b), .int (nI q)]) (rest := []) hd lk_10_281 okX5_hasRange (by decide) rfl (ev_hasRange44 E L F (nI b) (nI q)) (by decide) rfl rfl (Nat.le_of_ble_eq_true rfl) ?_
  refine R2.B (ls2 := [some (.ref 5), some (.int 2), some (.int (nI a)), some (.int 2), some (.int (nI b)), some (.int (nI q)), some (.ref 44), some (.ref 44)]) (st2 := [.int (b2i (0 ≤ (nI b) ∧ 0 ≤ (nI q) ∧ (nI b) ≤ F 44 3 - (nI q)))]) b_X10_copy_94_94 rfl (fun hd => ?_)
  refine R2.if_ne 103 hd (by decide) (fun c94 => ?_) (fun c94 => absurd c94 (b2i_nz.mpr hy))
  refine R2.B (ls2 := [some (.ref 5), some (.int 2), some (.int (nI a)), some (.int 2), some (.int (nI b)), some (.int (nI q)), some (.ref 44), some (.ref 44)]) (st2 := [.int (nI q), .int (nI b), .ref 45, .int (nI a), .ref 45]) b_X10_copy_103_118 rfl (fun hd => ?_)
  refine R2.acopy (sp := a) (dp := b) (n := q) rfl rfl rfl hd ac_10_284 (by decide) (by decide) rfl rfl (fun _ => rfl) (fun _ => rfl) (by decide) (by decide) (show a + q ≤ 60 by omega) (show b + q ≤ 60 by omega) (by decide) (Nat.le_of_ble_eq_true rfl) ?_
  refine R2.B (ls2 := [some (.ref 5), some (.int 2), some (.int (nI a)), some (.int 2), some (.int (nI b)), some (.int (nI q)), some (.ref 44), some (.ref 44)]) (st2 := [.int 1]) b_X10_copy_121_122 rfl (fun hd => ?_)
  exact R2.ret3 (r := some (.int 1)) hd trivial rfl rfl rfl
set_option maxRecDepth 20000 in
set_option maxHeartbeats 1000000 in
theorem x_copy_null23 (E : EE) (L : Nat) (F : FF) (x y n : Int32) (h : ¬ F 44 1 = 0 ∨ ¬ F 46 1 = 0) : Ev3 E L 16 mX10_copy [.ref 5, .int 2, .int x, .int 3, .int y, .int n] F (some (.int (-10 - 1))) (up2 F 5 11 1) := by
  refine Ev3.of okX10_copy.2.2.1 (Nat.le_of_ble_eq_true rfl) ?_
  show R2 E L mX10_copy 16 0 [some (.ref 5), some (.int 2), some (.int x), some (.int 3), some (.int y), some (.int n), none, none] [] F _
  refine R2.B (ls2 := [some (.ref 5), some (.int 2), some (.int x), some (.int 3), some (.int y), some (.int n), none, none]) (st2 := [.int 2]) b_X10_copy_0_1 rfl (fun hd => ?_)
  refine R2.callS3 (M2 := mX10_isSheet) (As := [.int 2]) (rest := []) hd lk_10_153 okX10_isSheet (by decide) (ev_isSheet E L F 2) (by decide) rfl rfl (Nat.le_of_ble_eq_true rfl) ?_
  refine R2.B (ls2 := [some (.ref 5), some (.int 2), some (.int x), some (.int 3), some (.int y), some (.int n), none, none]) (st2 := [.int (b2i (0 ≤ 2 ∧ 2 < 4))]) b_X10_copy_4_4 rfl (fun hd => ?_)
  refine R2.if_eq 14 hd (by decide) (fun c4 => absurd c4 (b2i_nz.mpr (by decide))) (fun c4 => ?_)
  refine R2.B (ls2 := [some (.ref 5), some (.int 2), some (.int x), some (.int 3), some (.int y), some (.int n), none, none]) (st2 := [.int 3]) b_X10_copy_7_8 rfl (fun hd => ?_)
  refine R2.callS3 (M2 := mX10_isSheet) (As := [.int 3]) (rest := []) hd lk_10_153 okX10_isSheet (by decide) (ev_isSheet E L F 3) (by decide) rfl rfl (Nat.le_of_ble_eq_true rfl) ?_
  refine R2.B (ls2 := [some (.ref 5), some (.int 2), some (.int x), some (.int 3), some (.int y), some (.int n), none, none]) (st2 := [.int (b2i (0 ≤ 3 ∧ 3 < 4))]) b_X10_copy_11_11 rfl (fun hd => ?_)
  refine R2.if_ne 17 hd (by decide) (fun c11 => ?_) (fun c11 => absurd c11 (b2i_nz.mpr (by decide)))
  refine R2.B (ls2 := [some (.ref 5), some (.int 2), some (.int x), some (.int 3), some (.int y), some (.int n), none, none]) (st2 := [.int 2, .ref 39]) b_X10_copy_17_22 rfl (fun hd => ?_)
  refine R2.aald (k2 := 44) 2 rfl hd rfl (by decide) (by omega) rfl ?_
  refine R2.B (ls2 := [some (.ref 5), some (.int 2), some (.int x), some (.int 3), some (.int y), some (.int n), some (.ref 44), none]) (st2 := [.int 3, .ref 39]) b_X10_copy_23_30 rfl (fun hd => ?_)
  refine R2.aald (k2 := 46) 3 rfl hd rfl (by decide) (by omega) rfl ?_
  refine R2.B (ls2 := [some (.ref 5), some (.int 2), some (.int x), some (.int 3), some (.int y), some (.int n), some (.ref 44), some (.ref 46)]) (st2 := [.int (F 44 1)]) b_X10_copy_31_38 rfl (fun hd => ?_)
  refine R2.if_ne 49 hd (by decide) (fun c38 => ?_) (fun c38 => ?_)
  · refine R2.B (ls2 := [some (.ref 5), some (.int 2), some (.int x), some (.int 3), some (.int y), some (.int n), some (.ref 44), some (.ref 46)]) (st2 := [.int 1, .ref 5]) b_X10_copy_49_51 rfl (fun hd => ?_)
    refine R2.callV3 (M2 := mX10_found) (As := [.int 1]) (rest := []) hd lk_10_160 okX10_found (by decide) rfl (ev_found E L F 1) (by decide) rfl rfl (Nat.le_of_ble_eq_true rfl) ?_
    refine R2.B (ls2 := [some (.ref 5), some (.int 2), some (.int x), some (.int 3), some (.int y), some (.int n), some (.ref 44), some (.ref 46)]) (st2 := [.int (-10 - 1)]) b_X10_copy_54_54 rfl (fun hd => ?_)
    exact R2.ret3 (r := some (.int (-10 - 1))) hd trivial rfl rfl rfl
  · refine R2.B (ls2 := [some (.ref 5), some (.int 2), some (.int x), some (.int 3), some (.int y), some (.int n), some (.ref 44), some (.ref 46)]) (st2 := [.int (F 46 1)]) b_X10_copy_41_46 rfl (fun hd => ?_)
    refine R2.if_eq 55 hd (by decide) (fun c46 => ?_) (fun c46 => ?_)
    · refine R2.B (ls2 := [some (.ref 5), some (.int 2), some (.int x), some (.int 3), some (.int y), some (.int n), some (.ref 44), some (.ref 46)]) (st2 := []) b_X10_copy_55_55 rfl (fun hd => ?_)
      exact False.elim (by clear hd; grind)
    · refine R2.B (ls2 := [some (.ref 5), some (.int 2), some (.int x), some (.int 3), some (.int y), some (.int n), some (.ref 44), some (.ref 46)]) (st2 := [.int 1, .ref 5]) b_X10_copy_49_51 rfl (fun hd => ?_)
      refine R2.callV3 (M2 := mX10_found) (As := [.int 1]) (rest := []) hd lk_10_160 okX10_found (by decide) rfl (ev_found E L F 1) (by decide) rfl rfl (Nat.le_of_ble_eq_true rfl) ?_
      refine R2.B (ls2 := [some (.ref 5), some (.int 2), some (.int x), some (.int 3), some (.int y), some (.int n), some (.ref 44), some (.ref 46)]) (st2 := [.int (-10 - 1)]) b_X10_copy_54_54 rfl (fun hd => ?_)
      exact R2.ret3 (r := some (.int (-10 - 1))) hd trivial rfl rfl rfl
set_option maxRecDepth 20000 in
set_option maxHeartbeats 1000000 in
theorem x_copy_store23 (E : EE) (L : Nat) (F : FF) (x y n : Int32) (h1 : F 44 1 = 0) (h2 : F 46 1 = 0) (h3 : ¬ F 44 2 = F 46 2) : Ev3 E L 16 mX10_copy [.ref 5, .int 2, .int x, .int 3, .int y, .int n] F (some (.int (-10 - 4))) (up2 F 5 11 4) := by
  refine Ev3.of okX10_copy.2.2.1 (Nat.le_of_ble_eq_true rfl) ?_
  show R2 E L mX10_copy 16 0 [some (.ref 5), some (.int 2), some (.int x), some (.int 3), some (.int y), some (.int n), none, none] [] F _
  refine R2.B (ls2 := [some (.ref 5), some (.int 2), some (.int x), some (.int 3), some (.int y), some (.int n), none, none]) (st2 := [.int 2]) b_X10_copy_0_1 rfl (fun hd => ?_)
  refine R2.callS3 (M2 := mX10_isSheet) (As := [.int 2]) (rest := []) hd lk_10_153 okX10_isSheet (by decide) (ev_isSheet E L F 2) (by decide) rfl rfl (Nat.le_of_ble_eq_true rfl) ?_
  refine R2.B (ls2 := [some (.ref 5), some (.int 2), some (.int x), some (.int 3), some (.int y), some (.int n), none, none]) (st2 := [.int (b2i (0 ≤ 2 ∧ 2 < 4))]) b_X10_copy_4_4 rfl (fun hd => ?_)
  refine R2.if_eq 14 hd (by decide) (fun c4 => absurd c4 (b2i_nz.mpr (by decide))) (fun c4 => ?_)
  refine R2.B (ls2 := [some (.ref 5), some (.int 2), some (.int x), some (.int 3), some (.int y), some (.int n), none, none]) (st2 := [.int 3]) b_X10_copy_7_8 rfl (fun hd => ?_)
  refine R2.callS3 (M2 := mX10_isSheet) (As := [.int 3]) (rest := []) hd lk_10_153 okX10_isSheet (by decide) (ev_isSheet E L F 3) (by decide) rfl rfl (Nat.le_of_ble_eq_true rfl) ?_
  refine R2.B (ls2 := [some (.ref 5), some (.int 2), some (.int x), some (.int 3), some (.int y), some (.int n), none, none]) (st2 := [.int (b2i (0 ≤ 3 ∧ 3 < 4))]) b_X10_copy_11_11 rfl (fun hd => ?_)
  refine R2.if_ne 17 hd (by decide) (fun c11 => ?_) (fun c11 => absurd c11 (b2i_nz.mpr (by decide)))
  refine R2.B (ls2 := [some (.ref 5), some (.int 2), some (.int x), some (.int 3), some (.int y), some (.int n), none, none]) (st2 := [.int 2, .ref 39]) b_X10_copy_17_22 rfl (fun hd => ?_)
  refine R2.aald (k2 := 44) 2 rfl hd rfl (by decide) (by omega) rfl ?_
  refine R2.B (ls2 := [some (.ref 5), some (.int 2), some (.int x), some (.int 3), some (.int y), some (.int n), some (.ref 44), none]) (st2 := [.int 3, .ref 39]) b_X10_copy_23_30 rfl (fun hd => ?_)
  refine R2.aald (k2 := 46) 3 rfl hd rfl (by decide) (by omega) rfl ?_
  refine R2.B (ls2 := [some (.ref 5), some (.int 2), some (.int x), some (.int 3), some (.int y), some (.int n), some (.ref 44), some (.ref 46)]) (st2 := [.int (F 44 1)]) b_X10_copy_31_38 rfl (fun hd => ?_)
  refine R2.if_ne 49 hd (by decide) (fun c38 => absurd (h1) c38) (fun c38 => ?_)
  refine R2.B (ls2 := [some (.ref 5), some (.int 2), some (.int x), some (.int 3), some (.int y), some (.int n), some (.ref 44), some (.ref 46)]) (st2 := [.int (F 46 1)]) b_X10_copy_41_46 rfl (fun hd => ?_)
  refine R2.if_eq 55 hd (by decide) (fun c46 => ?_) (fun c46 => absurd (h2) c46)
  refine R2.B (ls2 := [some (.ref 5), some (.int 2), some (.int x), some (.int 3), some (.int y), some (.int n), some (.ref 44), some (.ref 46)]) (st2 := [.int (F 46 2), .int (F 44 2)]) b_X10_copy_55_65 rfl (fun hd => ?_)
  refine R2.icmp_eq 74 hd (by decide) (fun c65 => absurd c65 (h3)) (fun c65 => ?_)
  refine R2.B (ls2 := [some (.ref 5), some (.int 2), some (.int x), some (.int 3), some (.int y), some (.int n), some (.ref 44), some (.ref 46)]) (st2 := [.int 4, .ref 5]) b_X10_copy_68_70 rfl (fun hd => ?_)
  refine R2.callV3 (M2 := mX10_found) (As := [.int 4]) (rest := []) hd lk_10_160 okX10_found (by decide) rfl (ev_found E L F 4) (by decide) rfl rfl (Nat.le_of_ble_eq_true rfl) ?_
  refine R2.B (ls2 := [some (.ref 5), some (.int 2), some (.int x), some (.int 3), some (.int y), some (.int n), some (.ref 44), some (.ref 46)]) (st2 := [.int (-10 - 4)]) b_X10_copy_73_73 rfl (fun hd => ?_)
  exact R2.ret3 (r := some (.int (-10 - 4))) hd trivial rfl rfl rfl
set_option maxRecDepth 20000 in
set_option maxHeartbeats 1000000 in
theorem x_copy_index23 (E : EE) (L : Nat) (F : FF) (x y n : Int32) (h1 : F 44 1 = 0) (h2 : F 46 1 = 0) (h3 : F 44 2 = F 46 2) (h : ¬ (0 ≤ x ∧ 0 ≤ n ∧ x ≤ F 44 3 - n) ∨ ¬ (0 ≤ y ∧ 0 ≤ n ∧ y ≤ F 46 3 - n)) : Ev3 E L 16 mX10_copy [.ref 5, .int 2, .int x, .int 3, .int y, .int n] F (some (.int (-10 - 2))) (up2 F 5 11 2) := by
  refine Ev3.of okX10_copy.2.2.1 (Nat.le_of_ble_eq_true rfl) ?_
  show R2 E L mX10_copy 16 0 [some (.ref 5), some (.int 2), some (.int x), some (.int 3), some (.int y), some (.int n), none, none] [] F _
  refine R2.B (ls2 := [some (.ref 5), some (.int 2), some (.int x), some (.int 3), some (.int y), some (.int n), none, none]) (st2 := [.int 2]) b_X10_copy_0_1 rfl (fun hd => ?_)
  refine R2.callS3 (M2 := mX10_isSheet) (As := [.int 2]) (rest := []) hd lk_10_153 okX10_isSheet (by decide) (ev_isSheet E L F 2) (by decide) rfl rfl (Nat.le_of_ble_eq_true rfl) ?_
  refine R2.B (ls2 := [some (.ref 5), some (.int 2), some (.int x), some (.int 3), some (.int y), some (.int n), none, none]) (st2 := [.int (b2i (0 ≤ 2 ∧ 2 < 4))]) b_X10_copy_4_4 rfl (fun hd => ?_)
  refine R2.if_eq 14 hd (by decide) (fun c4 => absurd c4 (b2i_nz.mpr (by decide))) (fun c4 => ?_)
  refine R2.B (ls2 := [some (.ref 5), some (.int 2), some (.int x), some (.int 3), some (.int y), some (.int n), none, none]) (st2 := [.int 3]) b_X10_copy_7_8 rfl (fun hd => ?_)
  refine R2.callS3 (M2 := mX10_isSheet) (As := [.int 3]) (rest := []) hd lk_10_153 okX10_isSheet (by decide) (ev_isSheet E L F 3) (by decide) rfl rfl (Nat.le_of_ble_eq_true rfl) ?_
  refine R2.B (ls2 := [some (.ref 5), some (.int 2), some (.int x), some (.int 3), some (.int y), some (.int n), none, none]) (st2 := [.int (b2i (0 ≤ 3 ∧ 3 < 4))]) b_X10_copy_11_11 rfl (fun hd => ?_)
  refine R2.if_ne 17 hd (by decide) (fun c11 => ?_) (fun c11 => absurd c11 (b2i_nz.mpr (by decide)))
  refine R2.B (ls2 := [some (.ref 5), some (.int 2), some (.int x), some (.int 3), some (.int y), some (.int n), none, none]) (st2 := [.int 2, .ref 39]) b_X10_copy_17_22 rfl (fun hd => ?_)
  refine R2.aald (k2 := 44) 2 rfl hd rfl (by decide) (by omega) rfl ?_
  refine R2.B (ls2 := [some (.ref 5), some (.int 2), some (.int x), some (.int 3), some (.int y), some (.int n), some (.ref 44), none]) (st2 := [.int 3, .ref 39]) b_X10_copy_23_30 rfl (fun hd => ?_)
  refine R2.aald (k2 := 46) 3 rfl hd rfl (by decide) (by omega) rfl ?_
  refine R2.B (ls2 := [some (.ref 5), some (.int 2), some (.int x), some (.int 3), some (.int y), some (.int n), some (.ref 44), some (.ref 46)]) (st2 := [.int (F 44 1)]) b_X10_copy_31_38 rfl (fun hd => ?_)
  refine R2.if_ne 49 hd (by decide) (fun c38 => absurd (h1) c38) (fun c38 => ?_)
  refine R2.B (ls2 := [some (.ref 5), some (.int 2), some (.int x), some (.int 3), some (.int y), some (.int n), some (.ref 44), some (.ref 46)]) (st2 := [.int (F 46 1)]) b_X10_copy_41_46 rfl (fun hd => ?_)
  refine R2.if_eq 55 hd (by decide) (fun c46 => ?_) (fun c46 => absurd (h2) c46)
  refine R2.B (ls2 := [some (.ref 5), some (.int 2), some (.int x), some (.int 3), some (.int y), some (.int n), some (.ref 44), some (.ref 46)]) (st2 := [.int (F 46 2), .int (F 44 2)]) b_X10_copy_55_65 rfl (fun hd => ?_)
  refine R2.icmp_eq 74 hd (by decide) (fun c65 => ?_) (fun c65 => absurd (h3) c65)
  refine R2.B (ls2 := [some (.ref 5), some (.int 2), some (.int x), some (.int 3), some (.int y), some (.int n), some (.ref 44), some (.ref 46)]) (st2 := [.int n, .int x, .ref 44]) b_X10_copy_74_79 rfl (fun hd => ?_)
  refine R2.callV3 (M2 := mX5_hasRange) (As := [.int x, .int n]) (rest := []) hd lk_10_281 okX5_hasRange (by decide) rfl (ev_hasRange44 E L F x n) (by decide) rfl rfl (Nat.le_of_ble_eq_true rfl) ?_
  refine R2.B (ls2 := [some (.ref 5), some (.int 2), some (.int x), some (.int 3), some (.int y), some (.int n), some (.ref 44), some (.ref 46)]) (st2 := [.int (b2i (0 ≤ x ∧ 0 ≤ n ∧ x ≤ F 44 3 - n))]) b_X10_copy_82_82 rfl (fun hd => ?_)
  refine R2.if_eq 97 hd (by decide) (fun c82 => ?_) (fun c82 => ?_)
  · have nc82 : ¬ (0 ≤ x ∧ 0 ≤ n ∧ x ≤ F 44 3 - n) := b2i_zero.mp c82
    refine R2.B (ls2 := [some (.ref 5), some (.int 2), some (.int x), some (.int 3), some (.int y), some (.int n), some (.ref 44), some (.ref 46)]) (st2 := [.int 2, .ref 5]) b_X10_copy_97_99 rfl (fun hd => ?_)
    refine R2.callV3 (M2 := mX10_found) (As := [.int 2]) (rest := []) hd lk_10_160 okX10_found (by decide) rfl (ev_found E L F 2) (by decide) rfl rfl (Nat.le_of_ble_eq_true rfl) ?_
    refine R2.B (ls2 := [some (.ref 5), some (.int 2), some (.int x), some (.int 3), some (.int y), some (.int n), some (.ref 44), some (.ref 46)]) (st2 := [.int (-10 - 2)]) b_X10_copy_102_102 rfl (fun hd => ?_)
    exact R2.ret3 (r := some (.int (-10 - 2))) hd trivial rfl rfl rfl
  · have nc82 : 0 ≤ x ∧ 0 ≤ n ∧ x ≤ F 44 3 - n := b2i_nz.mp c82
    refine R2.B (ls2 := [some (.ref 5), some (.int 2), some (.int x), some (.int 3), some (.int y), some (.int n), some (.ref 44), some (.ref 46)]) (st2 := [.int n, .int y, .ref 46]) b_X10_copy_85_91 rfl (fun hd => ?_)
    refine R2.callV3 (M2 := mX5_hasRange) (As := [.int y, .int n]) (rest := []) hd lk_10_281 okX5_hasRange (by decide) rfl (ev_hasRange46 E L F y n) (by decide) rfl rfl (Nat.le_of_ble_eq_true rfl) ?_
    refine R2.B (ls2 := [some (.ref 5), some (.int 2), some (.int x), some (.int 3), some (.int y), some (.int n), some (.ref 44), some (.ref 46)]) (st2 := [.int (b2i (0 ≤ y ∧ 0 ≤ n ∧ y ≤ F 46 3 - n))]) b_X10_copy_94_94 rfl (fun hd => ?_)
    refine R2.if_ne 103 hd (by decide) (fun c94 => ?_) (fun c94 => ?_)
    · have nc94 : 0 ≤ y ∧ 0 ≤ n ∧ y ≤ F 46 3 - n := b2i_nz.mp c94
      refine R2.B (ls2 := [some (.ref 5), some (.int 2), some (.int x), some (.int 3), some (.int y), some (.int n), some (.ref 44), some (.ref 46)]) (st2 := []) b_X10_copy_103_103 rfl (fun hd => ?_)
      exact False.elim (by clear hd; grind)
    · have nc94 : ¬ (0 ≤ y ∧ 0 ≤ n ∧ y ≤ F 46 3 - n) := b2i_zero.mp c94
      refine R2.B (ls2 := [some (.ref 5), some (.int 2), some (.int x), some (.int 3), some (.int y), some (.int n), some (.ref 44), some (.ref 46)]) (st2 := [.int 2, .ref 5]) b_X10_copy_97_99 rfl (fun hd => ?_)
      refine R2.callV3 (M2 := mX10_found) (As := [.int 2]) (rest := []) hd lk_10_160 okX10_found (by decide) rfl (ev_found E L F 2) (by decide) rfl rfl (Nat.le_of_ble_eq_true rfl) ?_
      refine R2.B (ls2 := [some (.ref 5), some (.int 2), some (.int x), some (.int 3), some (.int y), some (.int n), some (.ref 44), some (.ref 46)]) (st2 := [.int (-10 - 2)]) b_X10_copy_102_102 rfl (fun hd => ?_)
      exact R2.ret3 (r := some (.int (-10 - 2))) hd trivial rfl rfl rfl
set_option maxRecDepth 20000 in
set_option maxHeartbeats 1000000 in
theorem x_copy23 (E : EE) (L : Nat) (F : FF) (a b q : Nat) (h1 : F 44 1 = 0) (h2 : F 46 1 = 0) (h3 : F 44 2 = F 46 2) (hx : (0 ≤ nI a ∧ 0 ≤ nI q ∧ nI a ≤ F 44 3 - nI q)) (hy : (0 ≤ nI b ∧ 0 ≤ nI q ∧ nI b ≤ F 46 3 - nI q)) (ha : a + q ≤ 60) (hb : b + q ≤ 60) : Ev3 E L 16 mX10_copy [.ref 5, .int 2, .int (nI a), .int 3, .int (nI b), .int (nI q)] F (some (.int (1))) (cpyF F 45 47 a b q) := by
  refine Ev3.of okX10_copy.2.2.1 (Nat.le_of_ble_eq_true rfl) ?_
  show R2 E L mX10_copy 16 0 [some (.ref 5), some (.int 2), some (.int (nI a)), some (.int 3), some (.int (nI b)), some (.int (nI q)), none, none] [] F _
  refine R2.B (ls2 := [some (.ref 5), some (.int 2), some (.int (nI a)), some (.int 3), some (.int (nI b)), some (.int (nI q)), none, none]) (st2 := [.int 2]) b_X10_copy_0_1 rfl (fun hd => ?_)
  refine R2.callS3 (M2 := mX10_isSheet) (As := [.int 2]) (rest := []) hd lk_10_153 okX10_isSheet (by decide) (ev_isSheet E L F 2) (by decide) rfl rfl (Nat.le_of_ble_eq_true rfl) ?_
  refine R2.B (ls2 := [some (.ref 5), some (.int 2), some (.int (nI a)), some (.int 3), some (.int (nI b)), some (.int (nI q)), none, none]) (st2 := [.int (b2i (0 ≤ 2 ∧ 2 < 4))]) b_X10_copy_4_4 rfl (fun hd => ?_)
  refine R2.if_eq 14 hd (by decide) (fun c4 => absurd c4 (b2i_nz.mpr (by decide))) (fun c4 => ?_)
  refine R2.B (ls2 := [some (.ref 5), some (.int 2), some (.int (nI a)), some (.int 3), some (.int (nI b)), some (.int (nI q)), none, none]) (st2 := [.int 3]) b_X10_copy_7_8 rfl (fun hd => ?_)
  refine R2.callS3 (M2 := mX10_isSheet) (As := [.int 3]) (rest := []) hd lk_10_153 okX10_isSheet (by decide) (ev_isSheet E L F 3) (by decide) rfl rfl (Nat.le_of_ble_eq_true rfl) ?_
  refine R2.B (ls2 := [some (.ref 5), some (.int 2), some (.int (nI a)), some (.int 3), some (.int (nI b)), some (.int (nI q)), none, none]) (st2 := [.int (b2i (0 ≤ 3 ∧ 3 < 4))]) b_X10_copy_11_11 rfl (fun hd => ?_)
  refine R2.if_ne 17 hd (by decide) (fun c11 => ?_) (fun c11 => absurd c11 (b2i_nz.mpr (by decide)))
  refine R2.B (ls2 := [some (.ref 5), some (.int 2), some (.int (nI a)), some (.int 3), some (.int (nI b)), some (.int (nI q)), none, none]) (st2 := [.int 2, .ref 39]) b_X10_copy_17_22 rfl (fun hd => ?_)
  refine R2.aald (k2 := 44) 2 rfl hd rfl (by decide) (by omega) rfl ?_
  refine R2.B (ls2 := [some (.ref 5), some (.int 2), some (.int (nI a)), some (.int 3), some (.int (nI b)), some (.int (nI q)), some (.ref 44), none]) (st2 := [.int 3, .ref 39]) b_X10_copy_23_30 rfl (fun hd => ?_)
  refine R2.aald (k2 := 46) 3 rfl hd rfl (by decide) (by omega) rfl ?_
  refine R2.B (ls2 := [some (.ref 5), some (.int 2), some (.int (nI a)), some (.int 3), some (.int (nI b)), some (.int (nI q)), some (.ref 44), some (.ref 46)]) (st2 := [.int (F 44 1)]) b_X10_copy_31_38 rfl (fun hd => ?_)
  refine R2.if_ne 49 hd (by decide) (fun c38 => absurd (h1) c38) (fun c38 => ?_)
  refine R2.B (ls2 := [some (.ref 5), some (.int 2), some (.int (nI a)), some (.int 3), some (.int (nI b)), some (.int (nI q)), some (.ref 44), some (.ref 46)]) (st2 := [.int (F 46 1)]) b_X10_copy_41_46 rfl (fun hd => ?_)
  refine R2.if_eq 55 hd (by decide) (fun c46 => ?_) (fun c46 => absurd (h2) c46)
  refine R2.B (ls2 := [some (.ref 5), some (.int 2), some (.int (nI a)), some (.int 3), some (.int (nI b)), some (.int (nI q)), some (.ref 44), some (.ref 46)]) (st2 := [.int (F 46 2), .int (F 44 2)]) b_X10_copy_55_65 rfl (fun hd => ?_)
  refine R2.icmp_eq 74 hd (by decide) (fun c65 => ?_) (fun c65 => absurd (h3) c65)
  refine R2.B (ls2 := [some (.ref 5), some (.int 2), some (.int (nI a)), some (.int 3), some (.int (nI b)), some (.int (nI q)), some (.ref 44), some (.ref 46)]) (st2 := [.int (nI q), .int (nI a), .ref 44]) b_X10_copy_74_79 rfl (fun hd => ?_)
  refine R2.callV3 (M2 := mX5_hasRange) (As := [.int (nI a), .int (nI q)]) (rest := []) hd lk_10_281 okX5_hasRange (by decide) rfl (ev_hasRange44 E L F (nI a) (nI q)) (by decide) rfl rfl (Nat.le_of_ble_eq_true rfl) ?_
  refine R2.B (ls2 := [some (.ref 5), some (.int 2), some (.int (nI a)), some (.int 3), some (.int (nI b)), some (.int (nI q)), some (.ref 44), some (.ref 46)]) (st2 := [.int (b2i (0 ≤ (nI a) ∧ 0 ≤ (nI q) ∧ (nI a) ≤ F 44 3 - (nI q)))]) b_X10_copy_82_82 rfl (fun hd => ?_)
  refine R2.if_eq 97 hd (by decide) (fun c82 => absurd c82 (b2i_nz.mpr hx)) (fun c82 => ?_)
  refine R2.B (ls2 := [some (.ref 5), some (.int 2), some (.int (nI a)), some (.int 3), some (.int (nI b)), some (.int (nI q)), some (.ref 44), some (.ref 46)]) (st2 := [.int (nI q), .int (nI b), .ref 46]) b_X10_copy_85_91 rfl (fun hd => ?_)
  refine R2.callV3 (M2 := mX5_hasRange) (As := [.int (nI b), .int (nI q)]) (rest := []) hd lk_10_281 okX5_hasRange (by decide) rfl (ev_hasRange46 E L F (nI b) (nI q)) (by decide) rfl rfl (Nat.le_of_ble_eq_true rfl) ?_
  refine R2.B (ls2 := [some (.ref 5), some (.int 2), some (.int (nI a)), some (.int 3), some (.int (nI b)), some (.int (nI q)), some (.ref 44), some (.ref 46)]) (st2 := [.int (b2i (0 ≤ (nI b) ∧ 0 ≤ (nI q) ∧ (nI b) ≤ F 46 3 - (nI q)))]) b_X10_copy_94_94 rfl (fun hd => ?_)
  refine R2.if_ne 103 hd (by decide) (fun c94 => ?_) (fun c94 => absurd c94 (b2i_nz.mpr hy))
  refine R2.B (ls2 := [some (.ref 5), some (.int 2), some (.int (nI a)), some (.int 3), some (.int (nI b)), some (.int (nI q)), some (.ref 44), some (.ref 46)]) (st2 := [.int (nI q), .int (nI b), .ref 47, .int (nI a), .ref 45]) b_X10_copy_103_118 rfl (fun hd => ?_)
  refine R2.acopy (sp := a) (dp := b) (n := q) rfl rfl rfl hd ac_10_284 (by decide) (by decide) rfl rfl (fun _ => rfl) (fun _ => rfl) (by decide) (by decide) (show a + q ≤ 60 by omega) (show b + q ≤ 60 by omega) (by decide) (Nat.le_of_ble_eq_true rfl) ?_
  refine R2.B (ls2 := [some (.ref 5), some (.int 2), some (.int (nI a)), some (.int 3), some (.int (nI b)), some (.int (nI q)), some (.ref 44), some (.ref 46)]) (st2 := [.int 1]) b_X10_copy_121_122 rfl (fun hd => ?_)
  exact R2.ret3 (r := some (.int 1)) hd trivial rfl rfl rfl
set_option maxRecDepth 20000 in
set_option maxHeartbeats 1000000 in
theorem x_copy_null30 (E : EE) (L : Nat) (F : FF) (x y n : Int32) (h : ¬ F 46 1 = 0 ∨ ¬ F 40 1 = 0) : Ev3 E L 16 mX10_copy [.ref 5, .int 3, .int x, .int 0, .int y, .int n] F (some (.int (-10 - 1))) (up2 F 5 11 1) := by
  refine Ev3.of okX10_copy.2.2.1 (Nat.le_of_ble_eq_true rfl) ?_
  show R2 E L mX10_copy 16 0 [some (.ref 5), some (.int 3), some (.int x), some (.int 0), some (.int y), some (.int n), none, none] [] F _
  refine R2.B (ls2 := [some (.ref 5), some (.int 3), some (.int x), some (.int 0), some (.int y), some (.int n), none, none]) (st2 := [.int 3]) b_X10_copy_0_1 rfl (fun hd => ?_)
  refine R2.callS3 (M2 := mX10_isSheet) (As := [.int 3]) (rest := []) hd lk_10_153 okX10_isSheet (by decide) (ev_isSheet E L F 3) (by decide) rfl rfl (Nat.le_of_ble_eq_true rfl) ?_
  refine R2.B (ls2 := [some (.ref 5), some (.int 3), some (.int x), some (.int 0), some (.int y), some (.int n), none, none]) (st2 := [.int (b2i (0 ≤ 3 ∧ 3 < 4))]) b_X10_copy_4_4 rfl (fun hd => ?_)
  refine R2.if_eq 14 hd (by decide) (fun c4 => absurd c4 (b2i_nz.mpr (by decide))) (fun c4 => ?_)
  refine R2.B (ls2 := [some (.ref 5), some (.int 3), some (.int x), some (.int 0), some (.int y), some (.int n), none, none]) (st2 := [.int 0]) b_X10_copy_7_8 rfl (fun hd => ?_)
  refine R2.callS3 (M2 := mX10_isSheet) (As := [.int 0]) (rest := []) hd lk_10_153 okX10_isSheet (by decide) (ev_isSheet E L F 0) (by decide) rfl rfl (Nat.le_of_ble_eq_true rfl) ?_
  refine R2.B (ls2 := [some (.ref 5), some (.int 3), some (.int x), some (.int 0), some (.int y), some (.int n), none, none]) (st2 := [.int (b2i (0 ≤ 0 ∧ 0 < 4))]) b_X10_copy_11_11 rfl (fun hd => ?_)
  refine R2.if_ne 17 hd (by decide) (fun c11 => ?_) (fun c11 => absurd c11 (b2i_nz.mpr (by decide)))
  refine R2.B (ls2 := [some (.ref 5), some (.int 3), some (.int x), some (.int 0), some (.int y), some (.int n), none, none]) (st2 := [.int 3, .ref 39]) b_X10_copy_17_22 rfl (fun hd => ?_)
  refine R2.aald (k2 := 46) 3 rfl hd rfl (by decide) (by omega) rfl ?_
  refine R2.B (ls2 := [some (.ref 5), some (.int 3), some (.int x), some (.int 0), some (.int y), some (.int n), some (.ref 46), none]) (st2 := [.int 0, .ref 39]) b_X10_copy_23_30 rfl (fun hd => ?_)
  refine R2.aald (k2 := 40) 0 rfl hd rfl (by decide) (by omega) rfl ?_
  refine R2.B (ls2 := [some (.ref 5), some (.int 3), some (.int x), some (.int 0), some (.int y), some (.int n), some (.ref 46), some (.ref 40)]) (st2 := [.int (F 46 1)]) b_X10_copy_31_38 rfl (fun hd => ?_)
  refine R2.if_ne 49 hd (by decide) (fun c38 => ?_) (fun c38 => ?_)
  · refine R2.B (ls2 := [some (.ref 5), some (.int 3), some (.int x), some (.int 0), some (.int y), some (.int n), some (.ref 46), some (.ref 40)]) (st2 := [.int 1, .ref 5]) b_X10_copy_49_51 rfl (fun hd => ?_)
    refine R2.callV3 (M2 := mX10_found) (As := [.int 1]) (rest := []) hd lk_10_160 okX10_found (by decide) rfl (ev_found E L F 1) (by decide) rfl rfl (Nat.le_of_ble_eq_true rfl) ?_
    refine R2.B (ls2 := [some (.ref 5), some (.int 3), some (.int x), some (.int 0), some (.int y), some (.int n), some (.ref 46), some (.ref 40)]) (st2 := [.int (-10 - 1)]) b_X10_copy_54_54 rfl (fun hd => ?_)
    exact R2.ret3 (r := some (.int (-10 - 1))) hd trivial rfl rfl rfl
  · refine R2.B (ls2 := [some (.ref 5), some (.int 3), some (.int x), some (.int 0), some (.int y), some (.int n), some (.ref 46), some (.ref 40)]) (st2 := [.int (F 40 1)]) b_X10_copy_41_46 rfl (fun hd => ?_)
    refine R2.if_eq 55 hd (by decide) (fun c46 => ?_) (fun c46 => ?_)
    · refine R2.B (ls2 := [some (.ref 5), some (.int 3), some (.int x), some (.int 0), some (.int y), some (.int n), some (.ref 46), some (.ref 40)]) (st2 := []) b_X10_copy_55_55 rfl (fun hd => ?_)
      exact False.elim (by clear hd; grind)
    · refine R2.B (ls2 := [some (.ref 5), some (.int 3), some (.int x), some (.int 0), some (.int y), some (.int n), some (.ref 46), some (.ref 40)]) (st2 := [.int 1, .ref 5]) b_X10_copy_49_51 rfl (fun hd => ?_)
      refine R2.callV3 (M2 := mX10_found) (As := [.int 1]) (rest := []) hd lk_10_160 okX10_found (by decide) rfl (ev_found E L F 1) (by decide) rfl rfl (Nat.le_of_ble_eq_true rfl) ?_
      refine R2.B (ls2 := [some (.ref 5), some (.int 3), some (.int x), some (.int 0), some (.int y), some (.int n), some (.ref 46), some (.ref 40)]) (st2 := [.int (-10 - 1)]) b_X10_copy_54_54 rfl (fun hd => ?_)
      exact R2.ret3 (r := some (.int (-10 - 1))) hd trivial rfl rfl rfl
set_option maxRecDepth 20000 in
set_option maxHeartbeats 1000000 in
theorem x_copy_store30 (E : EE) (L : Nat) (F : FF) (x y n : Int32) (h1 : F 46 1 = 0) (h2 : F 40 1 = 0) (h3 : ¬ F 46 2 = F 40 2) : Ev3 E L 16 mX10_copy [.ref 5, .int 3, .int x, .int 0, .int y, .int n] F (some (.int (-10 - 4))) (up2 F 5 11 4) := by
  refine Ev3.of okX10_copy.2.2.1 (Nat.le_of_ble_eq_true rfl) ?_
  show R2 E L mX10_copy 16 0 [some (.ref 5), some (.int 3), some (.int x), some (.int 0), some (.int y), some (.int n), none, none] [] F _
  refine R2.B (ls2 := [some (.ref 5), some (.int 3), some (.int x), some (.int 0), some (.int y), some (.int n), none, none]) (st2 := [.int 3]) b_X10_copy_0_1 rfl (fun hd => ?_)
  refine R2.callS3 (M2 := mX10_isSheet) (As := [.int 3]) (rest := []) hd lk_10_153 okX10_isSheet (by decide) (ev_isSheet E L F 3) (by decide) rfl rfl (Nat.le_of_ble_eq_true rfl) ?_
  refine R2.B (ls2 := [some (.ref 5), some (.int 3), some (.int x), some (.int 0), some (.int y), some (.int n), none, none]) (st2 := [.int (b2i (0 ≤ 3 ∧ 3 < 4))]) b_X10_copy_4_4 rfl (fun hd => ?_)
  refine R2.if_eq 14 hd (by decide) (fun c4 => absurd c4 (b2i_nz.mpr (by decide))) (fun c4 => ?_)
  refine R2.B (ls2 := [some (.ref 5), some (.int 3), some (.int x), some (.int 0), some (.int y), some (.int n), none, none]) (st2 := [.int 0]) b_X10_copy_7_8 rfl (fun hd => ?_)
  refine R2.callS3 (M2 := mX10_isSheet) (As := [.int 0]) (rest := []) hd lk_10_153 okX10_isSheet (by decide) (ev_isSheet E L F 0) (by decide) rfl rfl (Nat.le_of_ble_eq_true rfl) ?_
  refine R2.B (ls2 := [some (.ref 5), some (.int 3), some (.int x), some (.int 0), some (.int y), some (.int n), none, none]) (st2 := [.int (b2i (0 ≤ 0 ∧ 0 < 4))]) b_X10_copy_11_11 rfl (fun hd => ?_)
  refine R2.if_ne 17 hd (by decide) (fun c11 => ?_) (fun c11 => absurd c11 (b2i_nz.mpr (by decide)))
  refine R2.B (ls2 := [some (.ref 5), some (.int 3), some (.int x), some (.int 0), some (.int y), some (.int n), none, none]) (st2 := [.int 3, .ref 39]) b_X10_copy_17_22 rfl (fun hd => ?_)
  refine R2.aald (k2 := 46) 3 rfl hd rfl (by decide) (by omega) rfl ?_
  refine R2.B (ls2 := [some (.ref 5), some (.int 3), some (.int x), some (.int 0), some (.int y), some (.int n), some (.ref 46), none]) (st2 := [.int 0, .ref 39]) b_X10_copy_23_30 rfl (fun hd => ?_)
  refine R2.aald (k2 := 40) 0 rfl hd rfl (by decide) (by omega) rfl ?_
  refine R2.B (ls2 := [some (.ref 5), some (.int 3), some (.int x), some (.int 0), some (.int y), some (.int n), some (.ref 46), some (.ref 40)]) (st2 := [.int (F 46 1)]) b_X10_copy_31_38 rfl (fun hd => ?_)
  refine R2.if_ne 49 hd (by decide) (fun c38 => absurd (h1) c38) (fun c38 => ?_)
  refine R2.B (ls2 := [some (.ref 5), some (.int 3), some (.int x), some (.int 0), some (.int y), some (.int n), some (.ref 46), some (.ref 40)]) (st2 := [.int (F 40 1)]) b_X10_copy_41_46 rfl (fun hd => ?_)
  refine R2.if_eq 55 hd (by decide) (fun c46 => ?_) (fun c46 => absurd (h2) c46)
  refine R2.B (ls2 := [some (.ref 5), some (.int 3), some (.int x), some (.int 0), some (.int y), some (.int n), some (.ref 46), some (.ref 40)]) (st2 := [.int (F 40 2), .int (F 46 2)]) b_X10_copy_55_65 rfl (fun hd => ?_)
  refine R2.icmp_eq 74 hd (by decide) (fun c65 => absurd c65 (h3)) (fun c65 => ?_)
  refine R2.B (ls2 := [some (.ref 5), some (.int 3), some (.int x), some (.int 0), some (.int y), some (.int n), some (.ref 46), some (.ref 40)]) (st2 := [.int 4, .ref 5]) b_X10_copy_68_70 rfl (fun hd => ?_)
  refine R2.callV3 (M2 := mX10_found) (As := [.int 4]) (rest := []) hd lk_10_160 okX10_found (by decide) rfl (ev_found E L F 4) (by decide) rfl rfl (Nat.le_of_ble_eq_true rfl) ?_
  refine R2.B (ls2 := [some (.ref 5), some (.int 3), some (.int x), some (.int 0), some (.int y), some (.int n), some (.ref 46), some (.ref 40)]) (st2 := [.int (-10 - 4)]) b_X10_copy_73_73 rfl (fun hd => ?_)
  exact R2.ret3 (r := some (.int (-10 - 4))) hd trivial rfl rfl rfl
set_option maxRecDepth 20000 in
set_option maxHeartbeats 1000000 in
theorem x_copy_index30 (E : EE) (L : Nat) (F : FF) (x y n : Int32) (h1 : F 46 1 = 0) (h2 : F 40 1 = 0) (h3 : F 46 2 = F 40 2) (h : ¬ (0 ≤ x ∧ 0 ≤ n ∧ x ≤ F 46 3 - n) ∨ ¬ (0 ≤ y ∧ 0 ≤ n ∧ y ≤ F 40 3 - n)) : Ev3 E L 16 mX10_copy [.ref 5, .int 3, .int x, .int 0, .int y, .int n] F (some (.int (-10 - 2))) (up2 F 5 11 2) := by
  refine Ev3.of okX10_copy.2.2.1 (Nat.le_of_ble_eq_true rfl) ?_
  show R2 E L mX10_copy 16 0 [some (.ref 5), some (.int 3), some (.int x), some (.int 0), some (.int y), some (.int n), none, none] [] F _
  refine R2.B (ls2 := [some (.ref 5), some (.int 3), some (.int x), some (.int 0), some (.int y), some (.int n), none, none]) (st2 := [.int 3]) b_X10_copy_0_1 rfl (fun hd => ?_)
  refine R2.callS3 (M2 := mX10_isSheet) (As := [.int 3]) (rest := []) hd lk_10_153 okX10_isSheet (by decide) (ev_isSheet E L F 3) (by decide) rfl rfl (Nat.le_of_ble_eq_true rfl) ?_
  refine R2.B (ls2 := [some (.ref 5), some (.int 3), some (.int x), some (.int 0), some (.int y), some (.int n), none, none]) (st2 := [.int (b2i (0 ≤ 3 ∧ 3 < 4))]) b_X10_copy_4_4 rfl (fun hd => ?_)
  refine R2.if_eq 14 hd (by decide) (fun c4 => absurd c4 (b2i_nz.mpr (by decide))) (fun c4 => ?_)
  refine R2.B (ls2 := [some (.ref 5), some (.int 3), some (.int x), some (.int 0), some (.int y), some (.int n), none, none]) (st2 := [.int 0]) b_X10_copy_7_8 rfl (fun hd => ?_)
  refine R2.callS3 (M2 := mX10_isSheet) (As := [.int 0]) (rest := []) hd lk_10_153 okX10_isSheet (by decide) (ev_isSheet E L F 0) (by decide) rfl rfl (Nat.le_of_ble_eq_true rfl) ?_
  refine R2.B (ls2 := [some (.ref 5), some (.int 3), some (.int x), some (.int 0), some (.int y), some (.int n), none, none]) (st2 := [.int (b2i (0 ≤ 0 ∧ 0 < 4))]) b_X10_copy_11_11 rfl (fun hd => ?_)
  refine R2.if_ne 17 hd (by decide) (fun c11 => ?_) (fun c11 => absurd c11 (b2i_nz.mpr (by decide)))
  refine R2.B (ls2 := [some (.ref 5), some (.int 3), some (.int x), some (.int 0), some (.int y), some (.int n), none, none]) (st2 := [.int 3, .ref 39]) b_X10_copy_17_22 rfl (fun hd => ?_)
  refine R2.aald (k2 := 46) 3 rfl hd rfl (by decide) (by omega) rfl ?_
  refine R2.B (ls2 := [some (.ref 5), some (.int 3), some (.int x), some (.int 0), some (.int y), some (.int n), some (.ref 46), none]) (st2 := [.int 0, .ref 39]) b_X10_copy_23_30 rfl (fun hd => ?_)
  refine R2.aald (k2 := 40) 0 rfl hd rfl (by decide) (by omega) rfl ?_
  refine R2.B (ls2 := [some (.ref 5), some (.int 3), some (.int x), some (.int 0), some (.int y), some (.int n), some (.ref 46), some (.ref 40)]) (st2 := [.int (F 46 1)]) b_X10_copy_31_38 rfl (fun hd => ?_)
  refine R2.if_ne 49 hd (by decide) (fun c38 => absurd (h1) c38) (fun c38 => ?_)
  refine R2.B (ls2 := [some (.ref 5), some (.int 3), some (.int x), some (.int 0), some (.int y), some (.int n), some (.ref 46), some (.ref 40)]) (st2 := [.int (F 40 1)]) b_X10_copy_41_46 rfl (fun hd => ?_)
  refine R2.if_eq 55 hd (by decide) (fun c46 => ?_) (fun c46 => absurd (h2) c46)
  refine R2.B (ls2 := [some (.ref 5), some (.int 3), some (.int x), some (.int 0), some (.int y), some (.int n), some (.ref 46), some (.ref 40)]) (st2 := [.int (F 40 2), .int (F 46 2)]) b_X10_copy_55_65 rfl (fun hd => ?_)
  refine R2.icmp_eq 74 hd (by decide) (fun c65 => ?_) (fun c65 => absurd (h3) c65)
  refine R2.B (ls2 := [some (.ref 5), some (.int 3), some (.int x), some (.int 0), some (.int y), some (.int n), some (.ref 46), some (.ref 40)]) (st2 := [.int n, .int x, .ref 46]) b_X10_copy_74_79 rfl (fun hd => ?_)
  refine R2.callV3 (M2 := mX5_hasRange) (As := [.int x, .int n]) (rest := []) hd lk_10_281 okX5_hasRange (by decide) rfl (ev_hasRange46 E L F x n) (by decide) rfl rfl (Nat.le_of_ble_eq_true rfl) ?_
  refine R2.B (ls2 := [some (.ref 5), some (.int 3), some (.int x), some (.int 0), some (.int y), some (.int n), some (.ref 46), some (.ref 40)]) (st2 := [.int (b2i (0 ≤ x ∧ 0 ≤ n ∧ x ≤ F 46 3 - n))]) b_X10_copy_82_82 rfl (fun hd => ?_)
  refine R2.if_eq 97 hd (by decide) (fun c82 => ?_) (fun c82 => ?_)
  · have nc82 : ¬ (0 ≤ x ∧ 0 ≤ n ∧ x ≤ F 46 3 - n) := b2i_zero.mp c82
    refine R2.B (ls2 := [some (.ref 5), some (.int 3), some (.int x), some (.int 0), some (.int y), some (.int n), some (.ref 46), some (.ref 40)]) (st2 := [.int 2, .ref 5]) b_X10_copy_97_99 rfl (fun hd => ?_)
    refine R2.callV3 (M2 := mX10_found) (As := [.int 2]) (rest := []) hd lk_10_160 okX10_found (by decide) rfl (ev_found E L F 2) (by decide) rfl rfl (Nat.le_of_ble_eq_true rfl) ?_
    refine R2.B (ls2 := [some (.ref 5), some (.int 3), some (.int x), some (.int 0), some (.int y), some (.int n), some (.ref 46), some (.ref 40)]) (st2 := [.int (-10 - 2)]) b_X10_copy_102_102 rfl (fun hd => ?_)
    exact R2.ret3 (r := some (.int (-10 - 2))) hd trivial rfl rfl rfl
  · have nc82 : 0 ≤ x ∧ 0 ≤ n ∧ x ≤ F 46 3 - n := b2i_nz.mp c82
    refine R2.B (ls2 := [some (.ref 5), some (.int 3), some (.int x), some (.int 0), some (.int y), some (.int n), some (.ref 46), some (.ref 40)]) (st2 := [.int n, .int y, .ref 40]) b_X10_copy_85_91 rfl (fun hd => ?_)
    refine R2.callV3 (M2 := mX5_hasRange) (As := [.int y, .int n]) (rest := []) hd lk_10_281 okX5_hasRange (by decide) rfl (ev_hasRange40 E L F y n) (by decide) rfl rfl (Nat.le_of_ble_eq_true rfl) ?_
    refine R2.B (ls2 := [some (.ref 5), some (.int 3), some (.int x), some (.int 0), some (.int y), some (.int n), some (.ref 46), some (.ref 40)]) (st2 := [.int (b2i (0 ≤ y ∧ 0 ≤ n ∧ y ≤ F 40 3 - n))]) b_X10_copy_94_94 rfl (fun hd => ?_)
    refine R2.if_ne 103 hd (by decide) (fun c94 => ?_) (fun c94 => ?_)
    · have nc94 : 0 ≤ y ∧ 0 ≤ n ∧ y ≤ F 40 3 - n := b2i_nz.mp c94
      refine R2.B (ls2 := [some (.ref 5), some (.int 3), some (.int x), some (.int 0), some (.int y), some (.int n), some (.ref 46), some (.ref 40)]) (st2 := []) b_X10_copy_103_103 rfl (fun hd => ?_)
      exact False.elim (by clear hd; grind)
    · have nc94 : ¬ (0 ≤ y ∧ 0 ≤ n ∧ y ≤ F 40 3 - n) := b2i_zero.mp c94
      refine R2.B (ls2 := [some (.ref 5), some (.int 3), some (.int x), some (.int 0), some (.int y), some (.int n), some (.ref 46), some (.ref 40)]) (st2 := [.int 2, .ref 5]) b_X10_copy_97_99 rfl (fun hd => ?_)
      refine R2.callV3 (M2 := mX10_found) (As := [.int 2]) (rest := []) hd lk_10_160 okX10_found (by decide) rfl (ev_found E L F 2) (by decide) rfl rfl (Nat.le_of_ble_eq_true rfl) ?_
      refine R2.B (ls2 := [some (.ref 5), some (.int 3), some (.int x), some (.int 0), some (.int y), some (.int n), some (.ref 46), some (.ref 40)]) (st2 := [.int (-10 - 2)]) b_X10_copy_102_102 rfl (fun hd => ?_)
      exact R2.ret3 (r := some (.int (-10 - 2))) hd trivial rfl rfl rfl
set_option maxRecDepth 20000 in
set_option maxHeartbeats 1000000 in
theorem x_copy30 (E : EE) (L : Nat) (F : FF) (a b q : Nat) (h1 : F 46 1 = 0) (h2 : F 40 1 = 0) (h3 : F 46 2 = F 40 2) (hx : (0 ≤ nI a ∧ 0 ≤ nI q ∧ nI a ≤ F 46 3 - nI q)) (hy : (0 ≤ nI b ∧ 0 ≤ nI q ∧ nI b ≤ F 40 3 - nI q)) (ha : a + q ≤ 60) (hb : b + q ≤ 60) : Ev3 E L 16 mX10_copy [.ref 5, .int 3, .int (nI a), .int 0, .int (nI b), .int (nI q)] F (some (.int (1))) (cpyF F 47 41 a b q) := by
  refine Ev3.of okX10_copy.2.2.1 (Nat.le_of_ble_eq_true rfl) ?_
  show R2 E L mX10_copy 16 0 [some (.ref 5), some (.int 3), some (.int (nI a)), some (.int 0), some (.int (nI b)), some (.int (nI q)), none, none] [] F _
  refine R2.B (ls2 := [some (.ref 5), some (.int 3), some (.int (nI a)), some (.int 0), some (.int (nI b)), some (.int (nI q)), none, none]) (st2 := [.int 3]) b_X10_copy_0_1 rfl (fun hd => ?_)
  refine R2.callS3 (M2 := mX10_isSheet) (As := [.int 3]) (rest := []) hd lk_10_153 okX10_isSheet (by decide) (ev_isSheet E L F 3) (by decide) rfl rfl (Nat.le_of_ble_eq_true rfl) ?_
  refine R2.B (ls2 := [some (.ref 5), some (.int 3), some (.int (nI a)), some (.int 0), some (.int (nI b)), some (.int (nI q)), none, none]) (st2 := [.int (b2i (0 ≤ 3 ∧ 3 < 4))]) b_X10_copy_4_4 rfl (fun hd => ?_)
  refine R2.if_eq 14 hd (by decide) (fun c4 => absurd c4 (b2i_nz.mpr (by decide))) (fun c4 => ?_)
  refine R2.B (ls2 := [some (.ref 5), some (.int 3), some (.int (nI a)), some (.int 0), some (.int (nI b)), some (.int (nI q)), none, none]) (st2 := [.int 0]) b_X10_copy_7_8 rfl (fun hd => ?_)
  refine R2.callS3 (M2 := mX10_isSheet) (As := [.int 0]) (rest := []) hd lk_10_153 okX10_isSheet (by decide) (ev_isSheet E L F 0) (by decide) rfl rfl (Nat.le_of_ble_eq_true rfl) ?_
  refine R2.B (ls2 := [some (.ref 5), some (.int 3), some (.int (nI a)), some (.int 0), some (.int (nI b)), some (.int (nI q)), none, none]) (st2 := [.int (b2i (0 ≤ 0 ∧ 0 < 4))]) b_X10_copy_11_11 rfl (fun hd => ?_)
  refine R2.if_ne 17 hd (by decide) (fun c11 => ?_) (fun c11 => absurd c11 (b2i_nz.mpr (by decide)))
  refine R2.B (ls2 := [some (.ref 5), some (.int 3), some (.int (nI a)), some (.int 0), some (.int (nI b)), some (.int (nI q)), none, none]) (st2 := [.int 3, .ref 39]) b_X10_copy_17_22 rfl (fun hd => ?_)
  refine R2.aald (k2 := 46) 3 rfl hd rfl (by decide) (by omega) rfl ?_
  refine R2.B (ls2 := [some (.ref 5), some (.int 3), some (.int (nI a)), some (.int 0), some (.int (nI b)), some (.int (nI q)), some (.ref 46), none]) (st2 := [.int 0, .ref 39]) b_X10_copy_23_30 rfl (fun hd => ?_)
  refine R2.aald (k2 := 40) 0 rfl hd rfl (by decide) (by omega) rfl ?_
  refine R2.B (ls2 := [some (.ref 5), some (.int 3), some (.int (nI a)), some (.int 0), some (.int (nI b)), some (.int (nI q)), some (.ref 46), some (.ref 40)]) (st2 := [.int (F 46 1)]) b_X10_copy_31_38 rfl (fun hd => ?_)
  refine R2.if_ne 49 hd (by decide) (fun c38 => absurd (h1) c38) (fun c38 => ?_)
  refine R2.B (ls2 := [some (.ref 5), some (.int 3), some (.int (nI a)), some (.int 0), some (.int (nI b)), some (.int (nI q)), some (.ref 46), some (.ref 40)]) (st2 := [.int (F 40 1)]) b_X10_copy_41_46 rfl (fun hd => ?_)
  refine R2.if_eq 55 hd (by decide) (fun c46 => ?_) (fun c46 => absurd (h2) c46)
  refine R2.B (ls2 := [some (.ref 5), some (.int 3), some (.int (nI a)), some (.int 0), some (.int (nI b)), some (.int (nI q)), some (.ref 46), some (.ref 40)]) (st2 := [.int (F 40 2), .int (F 46 2)]) b_X10_copy_55_65 rfl (fun hd => ?_)
  refine R2.icmp_eq 74 hd (by decide) (fun c65 => ?_) (fun c65 => absurd (h3) c65)
  refine R2.B (ls2 := [some (.ref 5), some (.int 3), some (.int (nI a)), some (.int 0), some (.int (nI b)), some (.int (nI q)), some (.ref 46), some (.ref 40)]) (st2 := [.int (nI q), .int (nI a), .ref 46]) b_X10_copy_74_79 rfl (fun hd => ?_)
  refine R2.callV3 (M2 := mX5_hasRange) (As := [.int (nI a), .int (nI q)]) (rest := []) hd lk_10_281 okX5_hasRange (by decide) rfl (ev_hasRange46 E L F (nI a) (nI q)) (by decide) rfl rfl (Nat.le_of_ble_eq_true rfl) ?_
  refine R2.B (ls2 := [some (.ref 5), some (.int 3), some (.int (nI a)), some (.int 0), some (.int (nI b)), some (.int (nI q)), some (.ref 46), some (.ref 40)]) (st2 := [.int (b2i (0 ≤ (nI a) ∧ 0 ≤ (nI q) ∧ (nI a) ≤ F 46 3 - (nI q)))]) b_X10_copy_82_82 rfl (fun hd => ?_)
  refine R2.if_eq 97 hd (by decide) (fun c82 => absurd c82 (b2i_nz.mpr hx)) (fun c82 => ?_)
  refine R2.B (ls2 := [some (.ref 5), some (.int 3), some (.int (nI a)), some (.int 0), some (.int (nI b)), some (.int (nI q)), some (.ref 46), some (.ref 40)]) (st2 := [.int (nI q), .int (nI b), .ref 40]) b_X10_copy_85_91 rfl (fun hd => ?_)
  refine R2.callV3 (M2 := mX5_hasRange) (As := [.int (nI b), .int (nI q)]) (rest := []) hd lk_10_281 okX5_hasRange (by decide) rfl (ev_hasRange40 E L F (nI b) (nI q)) (by decide) rfl rfl (Nat.le_of_ble_eq_true rfl) ?_
  refine R2.B (ls2 := [some (.ref 5), some (.int 3), some (.int (nI a)), some (.int 0), some (.int (nI b)), some (.int (nI q)), some (.ref 46), some (.ref 40)]) (st2 := [.int (b2i (0 ≤ (nI b) ∧ 0 ≤ (nI q) ∧ (nI b) ≤ F 40 3 - (nI q)))]) b_X10_copy_94_94 rfl (fun hd => ?_)
  refine R2.if_ne 103 hd (by decide) (fun c94 => ?_) (fun c94 => absurd c94 (b2i_nz.mpr hy))
  refine R2.B (ls2 := [some (.ref 5), some (.int 3), some (.int (nI a)), some (.int 0), some (.int (nI b)), some (.int (nI q)), some (.ref 46), some (.ref 40)]) (st2 := [.int (nI q), .int (nI b), .ref 41, .int (nI a), .ref 47]) b_X10_copy_103_118 rfl (fun hd => ?_)
  refine R2.acopy (sp := a) (dp := b) (n := q) rfl rfl rfl hd ac_10_284 (by decide) (by decide) rfl rfl (fun _ => rfl) (fun _ => rfl) (by decide) (by decide) (show a + q ≤ 60 by omega) (show b + q ≤ 60 by omega) (by decide) (Nat.le_of_ble_eq_true rfl) ?_
  refine R2.B (ls2 := [some (.ref 5), some (.int 3), some (.int (nI a)), some (.int 0), some (.int (nI b)), some (.int (nI q)), some (.ref 46), some (.ref 40)]) (st2 := [.int 1]) b_X10_copy_121_122 rfl (fun hd => ?_)
  exact R2.ret3 (r := some (.int 1)) hd trivial rfl rfl rfl
set_option maxRecDepth 20000 in
set_option maxHeartbeats 1000000 in
theorem x_copy_null31 (E : EE) (L : Nat) (F : FF) (x y n : Int32) (h : ¬ F 46 1 = 0 ∨ ¬ F 42 1 = 0) : Ev3 E L 16 mX10_copy [.ref 5, .int 3, .int x, .int 1, .int y, .int n] F (some (.int (-10 - 1))) (up2 F 5 11 1) := by
  refine Ev3.of okX10_copy.2.2.1 (Nat.le_of_ble_eq_true rfl) ?_
  show R2 E L mX10_copy 16 0 [some (.ref 5), some (.int 3), some (.int x), some (.int 1), some (.int y), some (.int n), none, none] [] F _
  refine R2.B (ls2 := [some (.ref 5), some (.int 3), some (.int x), some (.int 1), some (.int y), some (.int n), none, none]) (st2 := [.int 3]) b_X10_copy_0_1 rfl (fun hd => ?_)
  refine R2.callS3 (M2 := mX10_isSheet) (As := [.int 3]) (rest := []) hd lk_10_153 okX10_isSheet (by decide) (ev_isSheet E L F 3) (by decide) rfl rfl (Nat.le_of_ble_eq_true rfl) ?_
  refine R2.B (ls2 := [some (.ref 5), some (.int 3), some (.int x), some (.int 1), some (.int y), some (.int n), none, none]) (st2 := [.int (b2i (0 ≤ 3 ∧ 3 < 4))]) b_X10_copy_4_4 rfl (fun hd => ?_)
  refine R2.if_eq 14 hd (by decide) (fun c4 => absurd c4 (b2i_nz.mpr (by decide))) (fun c4 => ?_)
  refine R2.B (ls2 := [some (.ref 5), some (.int 3), some (.int x), some (.int 1), some (.int y), some (.int n), none, none]) (st2 := [.int 1]) b_X10_copy_7_8 rfl (fun hd => ?_)
  refine R2.callS3 (M2 := mX10_isSheet) (As := [.int 1]) (rest := []) hd lk_10_153 okX10_isSheet (by decide) (ev_isSheet E L F 1) (by decide) rfl rfl (Nat.le_of_ble_eq_true rfl) ?_
  refine R2.B (ls2 := [some (.ref 5), some (.int 3), some (.int x), some (.int 1), some (.int y), some (.int n), none, none]) (st2 := [.int (b2i (0 ≤ 1 ∧ 1 < 4))]) b_X10_copy_11_11 rfl (fun hd => ?_)
  refine R2.if_ne 17 hd (by decide) (fun c11 => ?_) (fun c11 => absurd c11 (b2i_nz.mpr (by decide)))
  refine R2.B (ls2 := [some (.ref 5), some (.int 3), some (.int x), some (.int 1), some (.int y), some (.int n), none, none]) (st2 := [.int 3, .ref 39]) b_X10_copy_17_22 rfl (fun hd => ?_)
  refine R2.aald (k2 := 46) 3 rfl hd rfl (by decide) (by omega) rfl ?_
  refine R2.B (ls2 := [some (.ref 5), some (.int 3), some (.int x), some (.int 1), some (.int y), some (.int n), some (.ref 46), none]) (st2 := [.int 1, .ref 39]) b_X10_copy_23_30 rfl (fun hd => ?_)
  refine R2.aald (k2 := 42) 1 rfl hd rfl (by decide) (by omega) rfl ?_
  refine R2.B (ls2 := [some (.ref 5), some (.int 3), some (.int x), some (.int 1), some (.int y), some (.int n), some (.ref 46), some (.ref 42)]) (st2 := [.int (F 46 1)]) b_X10_copy_31_38 rfl (fun hd => ?_)
  refine R2.if_ne 49 hd (by decide) (fun c38 => ?_) (fun c38 => ?_)
  · refine R2.B (ls2 := [some (.ref 5), some (.int 3), some (.int x), some (.int 1), some (.int y), some (.int n), some (.ref 46), some (.ref 42)]) (st2 := [.int 1, .ref 5]) b_X10_copy_49_51 rfl (fun hd => ?_)
    refine R2.callV3 (M2 := mX10_found) (As := [.int 1]) (rest := []) hd lk_10_160 okX10_found (by decide) rfl (ev_found E L F 1) (by decide) rfl rfl (Nat.le_of_ble_eq_true rfl) ?_
    refine R2.B (ls2 := [some (.ref 5), some (.int 3), some (.int x), some (.int 1), some (.int y), some (.int n), some (.ref 46), some (.ref 42)]) (st2 := [.int (-10 - 1)]) b_X10_copy_54_54 rfl (fun hd => ?_)
    exact R2.ret3 (r := some (.int (-10 - 1))) hd trivial rfl rfl rfl
  · refine R2.B (ls2 := [some (.ref 5), some (.int 3), some (.int x), some (.int 1), some (.int y), some (.int n), some (.ref 46), some (.ref 42)]) (st2 := [.int (F 42 1)]) b_X10_copy_41_46 rfl (fun hd => ?_)
    refine R2.if_eq 55 hd (by decide) (fun c46 => ?_) (fun c46 => ?_)
    · refine R2.B (ls2 := [some (.ref 5), some (.int 3), some (.int x), some (.int 1), some (.int y), some (.int n), some (.ref 46), some (.ref 42)]) (st2 := []) b_X10_copy_55_55 rfl (fun hd => ?_)
      exact False.elim (by clear hd; grind)
    · refine R2.B (ls2 := [some (.ref 5), some (.int 3), some (.int x), some (.int 1), some (.int y), some (.int n), some (.ref 46), some (.ref 42)]) (st2 := [.int 1, .ref 5]) b_X10_copy_49_51 rfl (fun hd => ?_)
      refine R2.callV3 (M2 := mX10_found) (As := [.int 1]) (rest := []) hd lk_10_160 okX10_found (by decide) rfl (ev_found E L F 1) (by decide) rfl rfl (Nat.le_of_ble_eq_true rfl) ?_
      refine R2.B (ls2 := [some (.ref 5), some (.int 3), some (.int x), some (.int 1), some (.int y), some (.int n), some (.ref 46), some (.ref 42)]) (st2 := [.int (-10 - 1)]) b_X10_copy_54_54 rfl (fun hd => ?_)
      exact R2.ret3 (r := some (.int (-10 - 1))) hd trivial rfl rfl rfl
set_option maxRecDepth 20000 in
set_option maxHeartbeats 1000000 in
theorem x_copy_store31 (E : EE) (L : Nat) (F : FF) (x y n : Int32) (h1 : F 46 1 = 0) (h2 : F 42 1 = 0) (h3 : ¬ F 46 2 = F 42 2) : Ev3 E L 16 mX10_copy [.ref 5, .int 3, .int x, .int 1, .int y, .int n] F (some (.int (-10 - 4))) (up2 F 5 11 4) := by
  refine Ev3.of okX10_copy.2.2.1 (Nat.le_of_ble_eq_true rfl) ?_
  show R2 E L mX10_copy 16 0 [some (.ref 5), some (.int 3), some (.int x), some (.int 1), some (.int y), some (.int n), none, none] [] F _
  refine R2.B (ls2 := [some (.ref 5), some (.int 3), some (.int x), some (.int 1), some (.int y), some (.int n), none, none]) (st2 := [.int 3]) b_X10_copy_0_1 rfl (fun hd => ?_)
  refine R2.callS3 (M2 := mX10_isSheet) (As := [.int 3]) (rest := []) hd lk_10_153 okX10_isSheet (by decide) (ev_isSheet E L F 3) (by decide) rfl rfl (Nat.le_of_ble_eq_true rfl) ?_
  refine R2.B (ls2 := [some (.ref 5), some (.int 3), some (.int x), some (.int 1), some (.int y), some (.int n), none, none]) (st2 := [.int (b2i (0 ≤ 3 ∧ 3 < 4))]) b_X10_copy_4_4 rfl (fun hd => ?_)
  refine R2.if_eq 14 hd (by decide) (fun c4 => absurd c4 (b2i_nz.mpr (by decide))) (fun c4 => ?_)
  refine R2.B (ls2 := [some (.ref 5), some (.int 3), some (.int x), some (.int 1), some (.int y), some (.int n), none, none]) (st2 := [.int 1]) b_X10_copy_7_8 rfl (fun hd => ?_)
  refine R2.callS3 (M2 := mX10_isSheet) (As := [.int 1]) (rest := []) hd lk_10_153 okX10_isSheet (by decide) (ev_isSheet E L F 1) (by decide) rfl rfl (Nat.le_of_ble_eq_true rfl) ?_
  refine R2.B (ls2 := [some (.ref 5), some (.int 3), some (.int x), some (.int 1), some (.int y), some (.int n), none, none]) (st2 := [.int (b2i (0 ≤ 1 ∧ 1 < 4))]) b_X10_copy_11_11 rfl (fun hd => ?_)
  refine R2.if_ne 17 hd (by decide) (fun c11 => ?_) (fun c11 => absurd c11 (b2i_nz.mpr (by decide)))
  refine R2.B (ls2 := [some (.ref 5), some (.int 3), some (.int x), some (.int 1), some (.int y), some (.int n), none, none]) (st2 := [.int 3, .ref 39]) b_X10_copy_17_22 rfl (fun hd => ?_)
  refine R2.aald (k2 := 46) 3 rfl hd rfl (by decide) (by omega) rfl ?_
  refine R2.B (ls2 := [some (.ref 5), some (.int 3), some (.int x), some (.int 1), some (.int y), some (.int n), some (.ref 46), none]) (st2 := [.int 1, .ref 39]) b_X10_copy_23_30 rfl (fun hd => ?_)
  refine R2.aald (k2 := 42) 1 rfl hd rfl (by decide) (by omega) rfl ?_
  refine R2.B (ls2 := [some (.ref 5), some (.int 3), some (.int x), some (.int 1), some (.int y), some (.int n), some (.ref 46), some (.ref 42)]) (st2 := [.int (F 46 1)]) b_X10_copy_31_38 rfl (fun hd => ?_)
  refine R2.if_ne 49 hd (by decide) (fun c38 => absurd (h1) c38) (fun c38 => ?_)
  refine R2.B (ls2 := [some (.ref 5), some (.int 3), some (.int x), some (.int 1), some (.int y), some (.int n), some (.ref 46), some (.ref 42)]) (st2 := [.int (F 42 1)]) b_X10_copy_41_46 rfl (fun hd => ?_)
  refine R2.if_eq 55 hd (by decide) (fun c46 => ?_) (fun c46 => absurd (h2) c46)
  refine R2.B (ls2 := [some (.ref 5), some (.int 3), some (.int x), some (.int 1), some (.int y), some (.int n), some (.ref 46), some (.ref 42)]) (st2 := [.int (F 42 2), .int (F 46 2)]) b_X10_copy_55_65 rfl (fun hd => ?_)
  refine R2.icmp_eq 74 hd (by decide) (fun c65 => absurd c65 (h3)) (fun c65 => ?_)
  refine R2.B (ls2 := [some (.ref 5), some (.int 3), some (.int x), some (.int 1), some (.int y), some (.int n), some (.ref 46), some (.ref 42)]) (st2 := [.int 4, .ref 5]) b_X10_copy_68_70 rfl (fun hd => ?_)
  refine R2.callV3 (M2 := mX10_found) (As := [.int 4]) (rest := []) hd lk_10_160 okX10_found (by decide) rfl (ev_found E L F 4) (by decide) rfl rfl (Nat.le_of_ble_eq_true rfl) ?_
  refine R2.B (ls2 := [some (.ref 5), some (.int 3), some (.int x), some (.int 1), some (.int y), some (.int n), some (.ref 46), some (.ref 42)]) (st2 := [.int (-10 - 4)]) b_X10_copy_73_73 rfl (fun hd => ?_)
  exact R2.ret3 (r := some (.int (-10 - 4))) hd trivial rfl rfl rfl
set_option maxRecDepth 20000 in
set_option maxHeartbeats 1000000 in
theorem x_copy_index31 (E : EE) (L : Nat) (F : FF) (x y n : Int32) (h1 : F 46 1 = 0) (h2 : F 42 1 = 0) (h3 : F 46 2 = F 42 2) (h : ¬ (0 ≤ x ∧ 0 ≤ n ∧ x ≤ F 46 3 - n) ∨ ¬ (0 ≤ y ∧ 0 ≤ n ∧ y ≤ F 42 3 - n)) : Ev3 E L 16 mX10_copy [.ref 5, .int 3, .int x, .int 1, .int y, .int n] F (some (.int (-10 - 2))) (up2 F 5 11 2) := by
  refine Ev3.of okX10_copy.2.2.1 (Nat.le_of_ble_eq_true rfl) ?_
  show R2 E L mX10_copy 16 0 [some (.ref 5), some (.int 3), some (.int x), some (.int 1), some (.int y), some (.int n), none, none] [] F _
  refine R2.B (ls2 := [some (.ref 5), some (.int 3), some (.int x), some (.int 1), some (.int y), some (.int n), none, none]) (st2 := [.int 3]) b_X10_copy_0_1 rfl (fun hd => ?_)
  refine R2.callS3 (M2 := mX10_isSheet) (As := [.int 3]) (rest := []) hd lk_10_153 okX10_isSheet (by decide) (ev_isSheet E L F 3) (by decide) rfl rfl (Nat.le_of_ble_eq_true rfl) ?_
  refine R2.B (ls2 := [some (.ref 5), some (.int 3), some (.int x), some (.int 1), some (.int y), some (.int n), none, none]) (st2 := [.int (b2i (0 ≤ 3 ∧ 3 < 4))]) b_X10_copy_4_4 rfl (fun hd => ?_)
  refine R2.if_eq 14 hd (by decide) (fun c4 => absurd c4 (b2i_nz.mpr (by decide))) (fun c4 => ?_)
  refine R2.B (ls2 := [some (.ref 5), some (.int 3), some (.int x), some (.int 1), some (.int y), some (.int n), none, none]) (st2 := [.int 1]) b_X10_copy_7_8 rfl (fun hd => ?_)
  refine R2.callS3 (M2 := mX10_isSheet) (As := [.int 1]) (rest := []) hd lk_10_153 okX10_isSheet (by decide) (ev_isSheet E L F 1) (by decide) rfl rfl (Nat.le_of_ble_eq_true rfl) ?_
  refine R2.B (ls2 := [some (.ref 5), some (.int 3), some (.int x), some (.int 1), some (.int y), some (.int n), none, none]) (st2 := [.int (b2i (0 ≤ 1 ∧ 1 < 4))]) b_X10_copy_11_11 rfl (fun hd => ?_)
  refine R2.if_ne 17 hd (by decide) (fun c11 => ?_) (fun c11 => absurd c11 (b2i_nz.mpr (by decide)))
  refine R2.B (ls2 := [some (.ref 5), some (.int 3), some (.int x), some (.int 1), some (.int y), some (.int n), none, none]) (st2 := [.int 3, .ref 39]) b_X10_copy_17_22 rfl (fun hd => ?_)
  refine R2.aald (k2 := 46) 3 rfl hd rfl (by decide) (by omega) rfl ?_
  refine R2.B (ls2 := [some (.ref 5), some (.int 3), some (.int x), some (.int 1), some (.int y), some (.int n), some (.ref 46), none]) (st2 := [.int 1, .ref 39]) b_X10_copy_23_30 rfl (fun hd => ?_)
  refine R2.aald (k2 := 42) 1 rfl hd rfl (by decide) (by omega) rfl ?_
  refine R2.B (ls2 := [some (.ref 5), some (.int 3), some (.int x), some (.int 1), some (.int y), some (.int n), some (.ref 46), some (.ref 42)]) (st2 := [.int (F 46 1)]) b_X10_copy_31_38 rfl (fun hd => ?_)
  refine R2.if_ne 49 hd (by decide) (fun c38 => absurd (h1) c38) (fun c38 => ?_)
  refine R2.B (ls2 := [some (.ref 5), some (.int 3), some (.int x), some (.int 1), some (.int y), some (.int n), some (.ref 46), some (.ref 42)]) (st2 := [.int (F 42 1)]) b_X10_copy_41_46 rfl (fun hd => ?_)
  refine R2.if_eq 55 hd (by decide) (fun c46 => ?_) (fun c46 => absurd (h2) c46)
  refine R2.B (ls2 := [some (.ref 5), some (.int 3), some (.int x), some (.int 1), some (.int y), some (.int n), some (.ref 46), some (.ref 42)]) (st2 := [.int (F 42 2), .int (F 46 2)]) b_X10_copy_55_65 rfl (fun hd => ?_)
  refine R2.icmp_eq 74 hd (by decide) (fun c65 => ?_) (fun c65 => absurd (h3) c65)
  refine R2.B (ls2 := [some (.ref 5), some (.int 3), some (.int x), some (.int 1), some (.int y), some (.int n), some (.ref 46), some (.ref 42)]) (st2 := [.int n, .int x, .ref 46]) b_X10_copy_74_79 rfl (fun hd => ?_)
  refine R2.callV3 (M2 := mX5_hasRange) (As := [.int x, .int n]) (rest := []) hd lk_10_281 okX5_hasRange (by decide) rfl (ev_hasRange46 E L F x n) (by decide) rfl rfl (Nat.le_of_ble_eq_true rfl) ?_
  refine R2.B (ls2 := [some (.ref 5), some (.int 3), some (.int x), some (.int 1), some (.int y), some (.int n), some (.ref 46), some (.ref 42)]) (st2 := [.int (b2i (0 ≤ x ∧ 0 ≤ n ∧ x ≤ F 46 3 - n))]) b_X10_copy_82_82 rfl (fun hd => ?_)
  refine R2.if_eq 97 hd (by decide) (fun c82 => ?_) (fun c82 => ?_)
  · have nc82 : ¬ (0 ≤ x ∧ 0 ≤ n ∧ x ≤ F 46 3 - n) := b2i_zero.mp c82
    refine R2.B (ls2 := [some (.ref 5), some (.int 3), some (.int x), some (.int 1), some (.int y), some (.int n), some (.ref 46), some (.ref 42)]) (st2 := [.int 2, .ref 5]) b_X10_copy_97_99 rfl (fun hd => ?_)
    refine R2.callV3 (M2 := mX10_found) (As := [.int 2]) (rest := []) hd lk_10_160 okX10_found (by decide) rfl (ev_found E L F 2) (by decide) rfl rfl (Nat.le_of_ble_eq_true rfl) ?_
    refine R2.B (ls2 := [some (.ref 5), some (.int 3), some (.int x), some (.int 1), some (.int y), some (.int n), some (.ref 46), some (.ref 42)]) (st2 := [.int (-10 - 2)]) b_X10_copy_102_102 rfl (fun hd => ?_)
    exact R2.ret3 (r := some (.int (-10 - 2))) hd trivial rfl rfl rfl
  · have nc82 : 0 ≤ x ∧ 0 ≤ n ∧ x ≤ F 46 3 - n := b2i_nz.mp c82
    refine R2.B (ls2 := [some (.ref 5), some (.int 3), some (.int x), some (.int 1), some (.int y), some (.int n), some (.ref 46), some (.ref 42)]) (st2 := [.int n, .int y, .ref 42]) b_X10_copy_85_91 rfl (fun hd => ?_)
    refine R2.callV3 (M2 := mX5_hasRange) (As := [.int y, .int n]) (rest := []) hd lk_10_281 okX5_hasRange (by decide) rfl (ev_hasRange42 E L F y n) (by decide) rfl rfl (Nat.le_of_ble_eq_true rfl) ?_
    refine R2.B (ls2 := [some (.ref 5), some (.int 3), some (.int x), some (.int 1), some (.int y), some (.int n), some (.ref 46), some (.ref 42)]) (st2 := [.int (b2i (0 ≤ y ∧ 0 ≤ n ∧ y ≤ F 42 3 - n))]) b_X10_copy_94_94 rfl (fun hd => ?_)
    refine R2.if_ne 103 hd (by decide) (fun c94 => ?_) (fun c94 => ?_)
    · have nc94 : 0 ≤ y ∧ 0 ≤ n ∧ y ≤ F 42 3 - n := b2i_nz.mp c94
      refine R2.B (ls2 := [some (.ref 5), some (.int 3), some (.int x), some (.int 1), some (.int y), some (.int n), some (.ref 46), some (.ref 42)]) (st2 := []) b_X10_copy_103_103 rfl (fun hd => ?_)
      exact False.elim (by clear hd; grind)
    · have nc94 : ¬ (0 ≤ y ∧ 0 ≤ n ∧ y ≤ F 42 3 - n) := b2i_zero.mp c94
      refine R2.B (ls2 := [some (.ref 5), some (.int 3), some (.int x), some (.int 1), some (.int y), some (.int n), some (.ref 46), some (.ref 42)]) (st2 := [.int 2, .ref 5]) b_X10_copy_97_99 rfl (fun hd => ?_)
      refine R2.callV3 (M2 := mX10_found) (As := [.int 2]) (rest := []) hd lk_10_160 okX10_found (by decide) rfl (ev_found E L F 2) (by decide) rfl rfl (Nat.le_of_ble_eq_true rfl) ?_
      refine R2.B (ls2 := [some (.ref 5), some (.int 3), some (.int x), some (.int 1), some (.int y), some (.int n), some (.ref 46), some (.ref 42)]) (st2 := [.int (-10 - 2)]) b_X10_copy_102_102 rfl (fun hd => ?_)
      exact R2.ret3 (r := some (.int (-10 - 2))) hd trivial rfl rfl rfl
set_option maxRecDepth 20000 in
set_option maxHeartbeats 1000000 in
theorem x_copy31 (E : EE) (L : Nat) (F : FF) (a b q : Nat) (h1 : F 46 1 = 0) (h2 : F 42 1 = 0) (h3 : F 46 2 = F 42 2) (hx : (0 ≤ nI a ∧ 0 ≤ nI q ∧ nI a ≤ F 46 3 - nI q)) (hy : (0 ≤ nI b ∧ 0 ≤ nI q ∧ nI b ≤ F 42 3 - nI q)) (ha : a + q ≤ 60) (hb : b + q ≤ 60) : Ev3 E L 16 mX10_copy [.ref 5, .int 3, .int (nI a), .int 1, .int (nI b), .int (nI q)] F (some (.int (1))) (cpyF F 47 43 a b q) := by
  refine Ev3.of okX10_copy.2.2.1 (Nat.le_of_ble_eq_true rfl) ?_
  show R2 E L mX10_copy 16 0 [some (.ref 5), some (.int 3), some (.int (nI a)), some (.int 1), some (.int (nI b)), some (.int (nI q)), none, none] [] F _
  refine R2.B (ls2 := [some (.ref 5), some (.int 3), some (.int (nI a)), some (.int 1), some (.int (nI b)), some (.int (nI q)), none, none]) (st2 := [.int 3]) b_X10_copy_0_1 rfl (fun hd => ?_)
  refine R2.callS3 (M2 := mX10_isSheet) (As := [.int 3]) (rest := []) hd lk_10_153 okX10_isSheet (by decide) (ev_isSheet E L F 3) (by decide) rfl rfl (Nat.le_of_ble_eq_true rfl) ?_
  refine R2.B (ls2 := [some (.ref 5), some (.int 3), some (.int (nI a)), some (.int 1), some (.int (nI b)), some (.int (nI q)), none, none]) (st2 := [.int (b2i (0 ≤ 3 ∧ 3 < 4))]) b_X10_copy_4_4 rfl (fun hd => ?_)
  refine R2.if_eq 14 hd (by decide) (fun c4 => absurd c4 (b2i_nz.mpr (by decide))) (fun c4 => ?_)
  refine R2.B (ls2 := [some (.ref 5), some (.int 3), some (.int (nI a)), some (.int 1), some (.int (nI b)), some (.int (nI q)), none, none]) (st2 := [.int 1]) b_X10_copy_7_8 rfl (fun hd => ?_)
  refine R2.callS3 (M2 := mX10_isSheet) (As := [.int 1]) (rest := []) hd lk_10_153 okX10_isSheet (by decide) (ev_isSheet E L F 1) (by decide) rfl rfl (Nat.le_of_ble_eq_true rfl) ?_
  refine R2.B (ls2 := [some (.ref 5), some (.int 3), some (.int (nI a)), some (.int 1), some (.int (nI b)), some (.int (nI q)), none, none]) (st2 := [.int (b2i (0 ≤ 1 ∧ 1 < 4))]) b_X10_copy_11_11 rfl (fun hd => ?_)
  refine R2.if_ne 17 hd (by decide) (fun c11 => ?_) (fun c11 => absurd c11 (b2i_nz.mpr (by decide)))
  refine R2.B (ls2 := [some (.ref 5), some (.int 3), some (.int (nI a)), some (.int 1), some (.int (nI b)), some (.int (nI q)), none, none]) (st2 := [.int 3, .ref 39]) b_X10_copy_17_22 rfl (fun hd => ?_)
  refine R2.aald (k2 := 46) 3 rfl hd rfl (by decide) (by omega) rfl ?_
  refine R2.B (ls2 := [some (.ref 5), some (.int 3), some (.int (nI a)), some (.int 1), some (.int (nI b)), some (.int (nI q)), some (.ref 46), none]) (st2 := [.int 1, .ref 39]) b_X10_copy_23_30 rfl (fun hd => ?_)
  refine R2.aald (k2 := 42) 1 rfl hd rfl (by decide) (by omega) rfl ?_
  refine R2.B (ls2 := [some (.ref 5), some (.int 3), some (.int (nI a)), some (.int 1), some (.int (nI b)), some (.int (nI q)), some (.ref 46), some (.ref 42)]) (st2 := [.int (F 46 1)]) b_X10_copy_31_38 rfl (fun hd => ?_)
  refine R2.if_ne 49 hd (by decide) (fun c38 => absurd (h1) c38) (fun c38 => ?_)
  refine R2.B (ls2 := [some (.ref 5), some (.int 3), some (.int (nI a)), some (.int 1), some (.int (nI b)), some (.int (nI q)), some (.ref 46), some (.ref 42)]) (st2 := [.int (F 42 1)]) b_X10_copy_41_46 rfl (fun hd => ?_)
  refine R2.if_eq 55 hd (by decide) (fun c46 => ?_) (fun c46 => absurd (h2) c46)
  refine R2.B (ls2 := [some (.ref 5), some (.int 3), some (.int (nI a)), some (.int 1), some (.int (nI b)), some (.int (nI q)), some (.ref 46), some (.ref 42)]) (st2 := [.int (F 42 2), .int (F 46 2)]) b_X10_copy_55_65 rfl (fun hd => ?_)
  refine R2.icmp_eq 74 hd (by decide) (fun c65 => ?_) (fun c65 => absurd (h3) c65)
  refine R2.B (ls2 := [some (.ref 5), some (.int 3), some (.int (nI a)), some (.int 1), some (.int (nI b)), some (.int (nI q)), some (.ref 46), some (.ref 42)]) (st2 := [.int (nI q), .int (nI a), .ref 46]) b_X10_copy_74_79 rfl (fun hd => ?_)
  refine R2.callV3 (M2 := mX5_hasRange) (As := [.int (nI a), .int (nI q)]) (rest := []) hd lk_10_281 okX5_hasRange (by decide) rfl (ev_hasRange46 E L F (nI a) (nI q)) (by decide) rfl rfl (Nat.le_of_ble_eq_true rfl) ?_
  refine R2.B (ls2 := [some (.ref 5), some (.int 3), some (.int (nI a)), some (.int 1), some (.int (nI b)), some (.int (nI q)), some (.ref 46), some (.ref 42)]) (st2 := [.int (b2i (0 ≤ (nI a) ∧ 0 ≤ (nI q) ∧ (nI a) ≤ F 46 3 - (nI q)))]) b_X10_copy_82_82 rfl (fun hd => ?_)
  refine R2.if_eq 97 hd (by decide) (fun c82 => absurd c82 (b2i_nz.mpr hx)) (fun c82 => ?_)
  refine R2.B (ls2 := [some (.ref 5), some (.int 3), some (.int (nI a)), some (.int 1), some (.int (nI b)), some (.int (nI q)), some (.ref 46), some (.ref 42)]) (st2 := [.int (nI q), .int (nI b), .ref 42]) b_X10_copy_85_91 rfl (fun hd => ?_)
  refine R2.callV3 (M2 := mX5_hasRange) (As := [.int (nI b), .int (nI q)]) (rest := []) hd lk_10_281 okX5_hasRange (by decide) rfl (ev_hasRange42 E L F (nI b) (nI q)) (by decide) rfl rfl (Nat.le_of_ble_eq_true rfl) ?_
  refine R2.B (ls2 := [some (.ref 5), some (.int 3), some (.int (nI a)), some (.int 1), some (.int (nI b)), some (.int (nI q)), some (.ref 46), some (.ref 42)]) (st2 := [.int (b2i (0 ≤ (nI b) ∧ 0 ≤ (nI q) ∧ (nI b) ≤ F 42 3 - (nI q)))]) b_X10_copy_94_94 rfl (fun hd => ?_)
  refine R2.if_ne 103 hd (by decide) (fun c94 => ?_) (fun c94 => absurd c94 (b2i_nz.mpr hy))
  refine R2.B (ls2 := [some (.ref 5), some (.int 3), some (.int (nI a)), some (.int 1), some (.int (nI b)), some (.int (nI q)), some (.ref 46), some (.ref 42)]) (st2 := [.int (nI q), .int (nI b), .ref 43, .int (nI a), .ref 47]) b_X10_copy_103_118 rfl (fun hd => ?_)
  refine R2.acopy (sp := a) (dp := b) (n := q) rfl rfl rfl hd ac_10_284 (by decide) (by decide) rfl rfl (fun _ => rfl) (fun _ => rfl) (by decide) (by decide) (show a + q ≤ 60 by omega) (show b + q ≤ 60 by omega) (by decide) (Nat.le_of_ble_eq_true rfl) ?_
  refine R2.B (ls2 := [some (.ref 5), some (.int 3), some (.int (nI a)), some (.int 1), some (.int (nI b)), some (.int (nI q)), some (.ref 46), some (.ref 42)]) (st2 := [.int 1]) b_X10_copy_121_122 rfl (fun hd => ?_)
  exact R2.ret3 (r := some (.int 1)) hd trivial rfl rfl rfl
set_option maxRecDepth 20000 in
set_option maxHeartbeats 1000000 in
theorem x_copy_null32 (E : EE) (L : Nat) (F : FF) (x y n : Int32) (h : ¬ F 46 1 = 0 ∨ ¬ F 44 1 = 0) : Ev3 E L 16 mX10_copy [.ref 5, .int 3, .int x, .int 2, .int y, .int n] F (some (.int (-10 - 1))) (up2 F 5 11 1) := by
  refine Ev3.of okX10_copy.2.2.1 (Nat.le_of_ble_eq_true rfl) ?_
  show R2 E L mX10_copy 16 0 [some (.ref 5), some (.int 3), some (.int x), some (.int 2), some (.int y), some (.int n), none, none] [] F _
  refine R2.B (ls2 := [some (.ref 5), some (.int 3), some (.int x), some (.int 2), some (.int y), some (.int n), none, none]) (st2 := [.int 3]) b_X10_copy_0_1 rfl (fun hd => ?_)
  refine R2.callS3 (M2 := mX10_isSheet) (As := [.int 3]) (rest := []) hd lk_10_153 okX10_isSheet (by decide) (ev_isSheet E L F 3) (by decide) rfl rfl (Nat.le_of_ble_eq_true rfl) ?_
  refine R2.B (ls2 := [some (.ref 5), some (.int 3), some (.int x), some (.int 2), some (.int y), some (.int n), none, none]) (st2 := [.int (b2i (0 ≤ 3 ∧ 3 < 4))]) b_X10_copy_4_4 rfl (fun hd => ?_)
  refine R2.if_eq 14 hd (by decide) (fun c4 => absurd c4 (b2i_nz.mpr (by decide))) (fun c4 => ?_)
  refine R2.B (ls2 := [some (.ref 5), some (.int 3), some (.int x), some (.int 2), some (.int y), some (.int n), none, none]) (st2 := [.int 2]) b_X10_copy_7_8 rfl (fun hd => ?_)
  refine R2.callS3 (M2 := mX10_isSheet) (As := [.int 2]) (rest := []) hd lk_10_153 okX10_isSheet (by decide) (ev_isSheet E L F 2) (by decide) rfl rfl (Nat.le_of_ble_eq_true rfl) ?_
  refine R2.B (ls2 := [some (.ref 5), some (.int 3), some (.int x), some (.int 2), some (.int y), some (.int n), none, none]) (st2 := [.int (b2i (0 ≤ 2 ∧ 2 < 4))]) b_X10_copy_11_11 rfl (fun hd => ?_)
  refine R2.if_ne 17 hd (by decide) (fun c11 => ?_) (fun c11 => absurd c11 (b2i_nz.mpr (by decide)))
  refine R2.B (ls2 := [some (.ref 5), some (.int 3), some (.int x), some (.int 2), some (.int y), some (.int n), none, none]) (st2 := [.int 3, .ref 39]) b_X10_copy_17_22 rfl (fun hd => ?_)
  refine R2.aald (k2 := 46) 3 rfl hd rfl (by decide) (by omega) rfl ?_
  refine R2.B (ls2 := [some (.ref 5), some (.int 3), some (.int x), some (.int 2), some (.int y), some (.int n), some (.ref 46), none]) (st2 := [.int 2, .ref 39]) b_X10_copy_23_30 rfl (fun hd => ?_)
  refine R2.aald (k2 := 44) 2 rfl hd rfl (by decide) (by omega) rfl ?_
  refine R2.B (ls2 := [some (.ref 5), some (.int 3), some (.int x), some (.int 2), some (.int y), some (.int n), some (.ref 46), some (.ref 44)]) (st2 := [.int (F 46 1)]) b_X10_copy_31_38 rfl (fun hd => ?_)
  refine R2.if_ne 49 hd (by decide) (fun c38 => ?_) (fun c38 => ?_)
  · refine R2.B (ls2 := [some (.ref 5), some (.int 3), some (.int x), some (.int 2), some (.int y), some (.int n), some (.ref 46), some (.ref 44)]) (st2 := [.int 1, .ref 5]) b_X10_copy_49_51 rfl (fun hd => ?_)
    refine R2.callV3 (M2 := mX10_found) (As := [.int 1]) (rest := []) hd lk_10_160 okX10_found (by decide) rfl (ev_found E L F 1) (by decide) rfl rfl (Nat.le_of_ble_eq_true rfl) ?_
    refine R2.B (ls2 := [some (.ref 5), some (.int 3), some (.int x), some (.int 2), some (.int y), some (.int n), some (.ref 46), some (.ref 44)]) (st2 := [.int (-10 - 1)]) b_X10_copy_54_54 rfl (fun hd => ?_)
    exact R2.ret3 (r := some (.int (-10 - 1))) hd trivial rfl rfl rfl
  · refine R2.B (ls2 := [some (.ref 5), some (.int 3), some (.int x), some (.int 2), some (.int y), some (.int n), some (.ref 46), some (.ref 44)]) (st2 := [.int (F 44 1)]) b_X10_copy_41_46 rfl (fun hd => ?_)
    refine R2.if_eq 55 hd (by decide) (fun c46 => ?_) (fun c46 => ?_)
    · refine R2.B (ls2 := [some (.ref 5), some (.int 3), some (.int x), some (.int 2), some (.int y), some (.int n), some (.ref 46), some (.ref 44)]) (st2 := []) b_X10_copy_55_55 rfl (fun hd => ?_)
      exact False.elim (by clear hd; grind)
    · refine R2.B (ls2 := [some (.ref 5), some (.int 3), some (.int x), some (.int 2), some (.int y), some (.int n), some (.ref 46), some (.ref 44)]) (st2 := [.int 1, .ref 5]) b_X10_copy_49_51 rfl (fun hd => ?_)
      refine R2.callV3 (M2 := mX10_found) (As := [.int 1]) (rest := []) hd lk_10_160 okX10_found (by decide) rfl (ev_found E L F 1) (by decide) rfl rfl (Nat.le_of_ble_eq_true rfl) ?_
      refine R2.B (ls2 := [some (.ref 5), some (.int 3), some (.int x), some (.int 2), some (.int y), some (.int n), some (.ref 46), some (.ref 44)]) (st2 := [.int (-10 - 1)]) b_X10_copy_54_54 rfl (fun hd => ?_)
      exact R2.ret3 (r := some (.int (-10 - 1))) hd trivial rfl rfl rfl
set_option maxRecDepth 20000 in
set_option maxHeartbeats 1000000 in
theorem x_copy_store32 (E : EE) (L : Nat) (F : FF) (x y n : Int32) (h1 : F 46 1 = 0) (h2 : F 44 1 = 0) (h3 : ¬ F 46 2 = F 44 2) : Ev3 E L 16 mX10_copy [.ref 5, .int 3, .int x, .int 2, .int y, .int n] F (some (.int (-10 - 4))) (up2 F 5 11 4) := by
  refine Ev3.of okX10_copy.2.2.1 (Nat.le_of_ble_eq_true rfl) ?_
  show R2 E L mX10_copy 16 0 [some (.ref 5), some (.int 3), some (.int x), some (.int 2), some (.int y), some (.int n), none, none] [] F _
  refine R2.B (ls2 := [some (.ref 5), some (.int 3), some (.int x), some (.int 2), some (.int y), some (.int n), none, none]) (st2 := [.int 3]) b_X10_copy_0_1 rfl (fun hd => ?_)
  refine R2.callS3 (M2 := mX10_isSheet) (As := [.int 3]) (rest := []) hd lk_10_153 okX10_isSheet (by decide) (ev_isSheet E L F 3) (by decide) rfl rfl (Nat.le_of_ble_eq_true rfl) ?_
  refine R2.B (ls2 := [some (.ref 5), some (.int 3), some (.int x), some (.int 2), some (.int y), some (.int n), none, none]) (st2 := [.int (b2i (0 ≤ 3 ∧ 3 < 4))]) b_X10_copy_4_4 rfl (fun hd => ?_)
  refine R2.if_eq 14 hd (by decide) (fun c4 => absurd c4 (b2i_nz.mpr (by decide))) (fun c4 => ?_)
  refine R2.B (ls2 := [some (.ref 5), some (.int 3), some (.int x), some (.int 2), some (.int y), some (.int n), none, none]) (st2 := [.int 2]) b_X10_copy_7_8 rfl (fun hd => ?_)
  refine R2.callS3 (M2 := mX10_isSheet) (As := [.int 2]) (rest := []) hd lk_10_153 okX10_isSheet (by decide) (ev_isSheet E L F 2) (by decide) rfl rfl (Nat.le_of_ble_eq_true rfl) ?_
  refine R2.B (ls2 := [some (.ref 5), some (.int 3), some (.int x), some (.int 2), some (.int y), some (.int n), none, none]) (st2 := [.int (b2i (0 ≤ 2 ∧ 2 < 4))]) b_X10_copy_11_11 rfl (fun hd => ?_)
  refine R2.if_ne 17 hd (by decide) (fun c11 => ?_) (fun c11 => absurd c11 (b2i_nz.mpr (by decide)))
  refine R2.B (ls2 := [some (.ref 5), some (.int 3), some (.int x), some (.int 2), some (.int y), some (.int n), none, none]) (st2 := [.int 3, .ref 39]) b_X10_copy_17_22 rfl (fun hd => ?_)
  refine R2.aald (k2 := 46) 3 rfl hd rfl (by decide) (by omega) rfl ?_
  refine R2.B (ls2 := [some (.ref 5), some (.int 3), some (.int x), some (.int 2), some (.int y), some (.int n), some (.ref 46), none]) (st2 := [.int 2, .ref 39]) b_X10_copy_23_30 rfl (fun hd => ?_)
  refine R2.aald (k2 := 44) 2 rfl hd rfl (by decide) (by omega) rfl ?_
  refine R2.B (ls2 := [some (.ref 5), some (.int 3), some (.int x), some (.int 2), some (.int y), some (.int n), some (.ref 46), some (.ref 44)]) (st2 := [.int (F 46 1)]) b_X10_copy_31_38 rfl (fun hd => ?_)
  refine R2.if_ne 49 hd (by decide) (fun c38 => absurd (h1) c38) (fun c38 => ?_)
  refine R2.B (ls2 := [some (.ref 5), some (.int 3), some (.int x), some (.int 2), some (.int y), some (.int n), some (.ref 46), some (.ref 44)]) (st2 := [.int (F 44 1)]) b_X10_copy_41_46 rfl (fun hd => ?_)
  refine R2.if_eq 55 hd (by decide) (fun c46 => ?_) (fun c46 => absurd (h2) c46)
  refine R2.B (ls2 := [some (.ref 5), some (.int 3), some (.int x), some (.int 2), some (.int y), some (.int n), some (.ref 46), some (.ref 44)]) (st2 := [.int (F 44 2), .int (F 46 2)]) b_X10_copy_55_65 rfl (fun hd => ?_)
  refine R2.icmp_eq 74 hd (by decide) (fun c65 => absurd c65 (h3)) (fun c65 => ?_)
  refine R2.B (ls2 := [some (.ref 5), some (.int 3), some (.int x), some (.int 2), some (.int y), some (.int n), some (.ref 46), some (.ref 44)]) (st2 := [.int 4, .ref 5]) b_X10_copy_68_70 rfl (fun hd => ?_)
  refine R2.callV3 (M2 := mX10_found) (As := [.int 4]) (rest := []) hd lk_10_160 okX10_found (by decide) rfl (ev_found E L F 4) (by decide) rfl rfl (Nat.le_of_ble_eq_true rfl) ?_
  refine R2.B (ls2 := [some (.ref 5), some (.int 3), some (.int x), some (.int 2), some (.int y), some (.int n), some (.ref 46), some (.ref 44)]) (st2 := [.int (-10 - 4)]) b_X10_copy_73_73 rfl (fun hd => ?_)
  exact R2.ret3 (r := some (.int (-10 - 4))) hd trivial rfl rfl rfl
set_option maxRecDepth 20000 in
set_option maxHeartbeats 1000000 in
theorem x_copy_index32 (E : EE) (L : Nat) (F : FF) (x y n : Int32) (h1 : F 46 1 = 0) (h2 : F 44 1 = 0) (h3 : F 46 2 = F 44 2) (h : ¬ (0 ≤ x ∧ 0 ≤ n ∧ x ≤ F 46 3 - n) ∨ ¬ (0 ≤ y ∧ 0 ≤ n ∧ y ≤ F 44 3 - n)) : Ev3 E L 16 mX10_copy [.ref 5, .int 3, .int x, .int 2, .int y, .int n] F (some (.int (-10 - 2))) (up2 F 5 11 2) := by
  refine Ev3.of okX10_copy.2.2.1 (Nat.le_of_ble_eq_true rfl) ?_
  show R2 E L mX10_copy 16 0 [some (.ref 5), some (.int 3), some (.int x), some (.int 2), some (.int y), some (.int n), none, none] [] F _
  refine R2.B (ls2 := [some (.ref 5), some (.int 3), some (.int x), some (.int 2), some (.int y), some (.int n), none, none]) (st2 := [.int 3]) b_X10_copy_0_1 rfl (fun hd => ?_)
  refine R2.callS3 (M2 := mX10_isSheet) (As := [.int 3]) (rest := []) hd lk_10_153 okX10_isSheet (by decide) (ev_isSheet E L F 3) (by decide) rfl rfl (Nat.le_of_ble_eq_true rfl) ?_
  refine R2.B (ls2 := [some (.ref 5), some (.int 3), some (.int x), some (.int 2), some (.int y), some (.int n), none, none]) (st2 := [.int (b2i (0 ≤ 3 ∧ 3 < 4))]) b_X10_copy_4_4 rfl (fun hd => ?_)
  refine R2.if_eq 14 hd (by decide) (fun c4 => absurd c4 (b2i_nz.mpr (by decide))) (fun c4 => ?_)
  refine R2.B (ls2 := [some (.ref 5), some (.int 3), some (.int x), some (.int 2), some (.int y), some (.int n), none, none]) (st2 := [.int 2]) b_X10_copy_7_8 rfl (fun hd => ?_)
  refine R2.callS3 (M2 := mX10_isSheet) (As := [.int 2]) (rest := []) hd lk_10_153 okX10_isSheet (by decide) (ev_isSheet E L F 2) (by decide) rfl rfl (Nat.le_of_ble_eq_true rfl) ?_
  refine R2.B (ls2 := [some (.ref 5), some (.int 3), some (.int x), some (.int 2), some (.int y), some (.int n), none, none]) (st2 := [.int (b2i (0 ≤ 2 ∧ 2 < 4))]) b_X10_copy_11_11 rfl (fun hd => ?_)
  refine R2.if_ne 17 hd (by decide) (fun c11 => ?_) (fun c11 => absurd c11 (b2i_nz.mpr (by decide)))
  refine R2.B (ls2 := [some (.ref 5), some (.int 3), some (.int x), some (.int 2), some (.int y), some (.int n), none, none]) (st2 := [.int 3, .ref 39]) b_X10_copy_17_22 rfl (fun hd => ?_)
  refine R2.aald (k2 := 46) 3 rfl hd rfl (by decide) (by omega) rfl ?_
  refine R2.B (ls2 := [some (.ref 5), some (.int 3), some (.int x), some (.int 2), some (.int y), some (.int n), some (.ref 46), none]) (st2 := [.int 2, .ref 39]) b_X10_copy_23_30 rfl (fun hd => ?_)
  refine R2.aald (k2 := 44) 2 rfl hd rfl (by decide) (by omega) rfl ?_
  refine R2.B (ls2 := [some (.ref 5), some (.int 3), some (.int x), some (.int 2), some (.int y), some (.int n), some (.ref 46), some (.ref 44)]) (st2 := [.int (F 46 1)]) b_X10_copy_31_38 rfl (fun hd => ?_)
  refine R2.if_ne 49 hd (by decide) (fun c38 => absurd (h1) c38) (fun c38 => ?_)
  refine R2.B (ls2 := [some (.ref 5), some (.int 3), some (.int x), some (.int 2), some (.int y), some (.int n), some (.ref 46), some (.ref 44)]) (st2 := [.int (F 44 1)]) b_X10_copy_41_46 rfl (fun hd => ?_)
  refine R2.if_eq 55 hd (by decide) (fun c46 => ?_) (fun c46 => absurd (h2) c46)
  refine R2.B (ls2 := [some (.ref 5), some (.int 3), some (.int x), some (.int 2), some (.int y), some (.int n), some (.ref 46), some (.ref 44)]) (st2 := [.int (F 44 2), .int (F 46 2)]) b_X10_copy_55_65 rfl (fun hd => ?_)
  refine R2.icmp_eq 74 hd (by decide) (fun c65 => ?_) (fun c65 => absurd (h3) c65)
  refine R2.B (ls2 := [some (.ref 5), some (.int 3), some (.int x), some (.int 2), some (.int y), some (.int n), some (.ref 46), some (.ref 44)]) (st2 := [.int n, .int x, .ref 46]) b_X10_copy_74_79 rfl (fun hd => ?_)
  refine R2.callV3 (M2 := mX5_hasRange) (As := [.int x, .int n]) (rest := []) hd lk_10_281 okX5_hasRange (by decide) rfl (ev_hasRange46 E L F x n) (by decide) rfl rfl (Nat.le_of_ble_eq_true rfl) ?_
  refine R2.B (ls2 := [some (.ref 5), some (.int 3), some (.int x), some (.int 2), some (.int y), some (.int n), some (.ref 46), some (.ref 44)]) (st2 := [.int (b2i (0 ≤ x ∧ 0 ≤ n ∧ x ≤ F 46 3 - n))]) b_X10_copy_82_82 rfl (fun hd => ?_)
  refine R2.if_eq 97 hd (by decide) (fun c82 => ?_) (fun c82 => ?_)
  · have nc82 : ¬ (0 ≤ x ∧ 0 ≤ n ∧ x ≤ F 46 3 - n) := b2i_zero.mp c82
    refine R2.B (ls2 := [some (.ref 5), some (.int 3), some (.int x), some (.int 2), some (.int y), some (.int n), some (.ref 46), some (.ref 44)]) (st2 := [.int 2, .ref 5]) b_X10_copy_97_99 rfl (fun hd => ?_)
    refine R2.callV3 (M2 := mX10_found) (As := [.int 2]) (rest := []) hd lk_10_160 okX10_found (by decide) rfl (ev_found E L F 2) (by decide) rfl rfl (Nat.le_of_ble_eq_true rfl) ?_
    refine R2.B (ls2 := [some (.ref 5), some (.int 3), some (.int x), some (.int 2), some (.int y), some (.int n), some (.ref 46), some (.ref 44)]) (st2 := [.int (-10 - 2)]) b_X10_copy_102_102 rfl (fun hd => ?_)
    exact R2.ret3 (r := some (.int (-10 - 2))) hd trivial rfl rfl rfl
  · have nc82 : 0 ≤ x ∧ 0 ≤ n ∧ x ≤ F 46 3 - n := b2i_nz.mp c82
    refine R2.B (ls2 := [some (.ref 5), some (.int 3), some (.int x), some (.int 2), some (.int y), some (.int n), some (.ref 46), some (.ref 44)]) (st2 := [.int n, .int y, .ref 44]) b_X10_copy_85_91 rfl (fun hd => ?_)
    refine R2.callV3 (M2 := mX5_hasRange) (As := [.int y, .int n]) (rest := []) hd lk_10_281 okX5_hasRange (by decide) rfl (ev_hasRange44 E L F y n) (by decide) rfl rfl (Nat.le_of_ble_eq_true rfl) ?_
    refine R2.B (ls2 := [some (.ref 5), some (.int 3), some (.int x), some (.int 2), some (.int y), some (.int n), some (.ref 46), some (.ref 44)]) (st2 := [.int (b2i (0 ≤ y ∧ 0 ≤ n ∧ y ≤ F 44 3 - n))]) b_X10_copy_94_94 rfl (fun hd => ?_)
    refine R2.if_ne 103 hd (by decide) (fun c94 => ?_) (fun c94 => ?_)
    · have nc94 : 0 ≤ y ∧ 0 ≤ n ∧ y ≤ F 44 3 - n := b2i_nz.mp c94
      refine R2.B (ls2 := [some (.ref 5), some (.int 3), some (.int x), some (.int 2), some (.int y), some (.int n), some (.ref 46), some (.ref 44)]) (st2 := []) b_X10_copy_103_103 rfl (fun hd => ?_)
      exact False.elim (by clear hd; grind)
    · have nc94 : ¬ (0 ≤ y ∧ 0 ≤ n ∧ y ≤ F 44 3 - n) := b2i_zero.mp c94
      refine R2.B (ls2 := [some (.ref 5), some (.int 3), some (.int x), some (.int 2), some (.int y), some (.int n), some (.ref 46), some (.ref 44)]) (st2 := [.int 2, .ref 5]) b_X10_copy_97_99 rfl (fun hd => ?_)
      refine R2.callV3 (M2 := mX10_found) (As := [.int 2]) (rest := []) hd lk_10_160 okX10_found (by decide) rfl (ev_found E L F 2) (by decide) rfl rfl (Nat.le_of_ble_eq_true rfl) ?_
      refine R2.B (ls2 := [some (.ref 5), some (.int 3), some (.int x), some (.int 2), some (.int y), some (.int n), some (.ref 46), some (.ref 44)]) (st2 := [.int (-10 - 2)]) b_X10_copy_102_102 rfl (fun hd => ?_)
      exact R2.ret3 (r := some (.int (-10 - 2))) hd trivial rfl rfl rfl
set_option maxRecDepth 20000 in
set_option maxHeartbeats 1000000 in
theorem x_copy32 (E : EE) (L : Nat) (F : FF) (a b q : Nat) (h1 : F 46 1 = 0) (h2 : F 44 1 = 0) (h3 : F 46 2 = F 44 2) (hx : (0 ≤ nI a ∧ 0 ≤ nI q ∧ nI a ≤ F 46 3 - nI q)) (hy : (0 ≤ nI b ∧ 0 ≤ nI q ∧ nI b ≤ F 44 3 - nI q)) (ha : a + q ≤ 60) (hb : b + q ≤ 60) : Ev3 E L 16 mX10_copy [.ref 5, .int 3, .int (nI a), .int 2, .int (nI b), .int (nI q)] F (some (.int (1))) (cpyF F 47 45 a b q) := by
  refine Ev3.of okX10_copy.2.2.1 (Nat.le_of_ble_eq_true rfl) ?_
  show R2 E L mX10_copy 16 0 [some (.ref 5), some (.int 3), some (.int (nI a)), some (.int 2), some (.int (nI b)), some (.int (nI q)), none, none] [] F _
  refine R2.B (ls2 := [some (.ref 5), some (.int 3), some (.int (nI a)), some (.int 2), some (.int (nI b)), some (.int (nI q)), none, none]) (st2 := [.int 3]) b_X10_copy_0_1 rfl (fun hd => ?_)
  refine R2.callS3 (M2 := mX10_isSheet) (As := [.int 3]) (rest := []) hd lk_10_153 okX10_isSheet (by decide) (ev_isSheet E L F 3) (by decide) rfl rfl (Nat.le_of_ble_eq_true rfl) ?_
  refine R2.B (ls2 := [some (.ref 5), some (.int 3), some (.int (nI a)), some (.int 2), some (.int (nI b)), some (.int (nI q)), none, none]) (st2 := [.int (b2i (0 ≤ 3 ∧ 3 < 4))]) b_X10_copy_4_4 rfl (fun hd => ?_)
  refine R2.if_eq 14 hd (by decide) (fun c4 => absurd c4 (b2i_nz.mpr (by decide))) (fun c4 => ?_)
  refine R2.B (ls2 := [some (.ref 5), some (.int 3), some (.int (nI a)), some (.int 2), some (.int (nI b)), some (.int (nI q)), none, none]) (st2 := [.int 2]) b_X10_copy_7_8 rfl (fun hd => ?_)
  refine R2.callS3 (M2 := mX10_isSheet) (As := [.int 2]) (rest := []) hd lk_10_153 okX10_isSheet (by decide) (ev_isSheet E L F 2) (by decide) rfl rfl (Nat.le_of_ble_eq_true rfl) ?_
  refine R2.B (ls2 := [some (.ref 5), some (.int 3), some (.int (nI a)), some (.int 2), some (.int (nI b)), some (.int (nI q)), none, none]) (st2 := [.int (b2i (0 ≤ 2 ∧ 2 < 4))]) b_X10_copy_11_11 rfl (fun hd => ?_)
  refine R2.if_ne 17 hd (by decide) (fun c11 => ?_) (fun c11 => absurd c11 (b2i_nz.mpr (by decide)))
  refine R2.B (ls2 := [some (.ref 5), some (.int 3), some (.int (nI a)), some (.int 2), some (.int (nI b)), some (.int (nI q)), none, none]) (st2 := [.int 3, .ref 39]) b_X10_copy_17_22 rfl (fun hd => ?_)
  refine R2.aald (k2 := 46) 3 rfl hd rfl (by decide) (by omega) rfl ?_
  refine R2.B (ls2 := [some (.ref 5), some (.int 3), some (.int (nI a)), some (.int 2), some (.int (nI b)), some (.int (nI q)), some (.ref 46), none]) (st2 := [.int 2, .ref 39]) b_X10_copy_23_30 rfl (fun hd => ?_)
  refine R2.aald (k2 := 44) 2 rfl hd rfl (by decide) (by omega) rfl ?_
  refine R2.B (ls2 := [some (.ref 5), some (.int 3), some (.int (nI a)), some (.int 2), some (.int (nI b)), some (.int (nI q)), some (.ref 46), some (.ref 44)]) (st2 := [.int (F 46 1)]) b_X10_copy_31_38 rfl (fun hd => ?_)
  refine R2.if_ne 49 hd (by decide) (fun c38 => absurd (h1) c38) (fun c38 => ?_)
  refine R2.B (ls2 := [some (.ref 5), some (.int 3), some (.int (nI a)), some (.int 2), some (.int (nI b)), some (.int (nI q)), some (.ref 46), some (.ref 44)]) (st2 := [.int (F 44 1)]) b_X10_copy_41_46 rfl (fun hd => ?_)
  refine R2.if_eq 55 hd (by decide) (fun c46 => ?_) (fun c46 => absurd (h2) c46)
  refine R2.B (ls2 := [some (.ref 5), some (.int 3), some (.int (nI a)), some (.int 2), some (.int (nI b)), some (.int (nI q)), some (.ref 46), some (.ref 44)]) (st2 := [.int (F 44 2), .int (F 46 2)]) b_X10_copy_55_65 rfl (fun hd => ?_)
  refine R2.icmp_eq 74 hd (by decide) (fun c65 => ?_) (fun c65 => absurd (h3) c65)
  refine R2.B (ls2 := [some (.ref 5), some (.int 3), some (.int (nI a)), some (.int 2), some (.int (nI b)), some (.int (nI q)), some (.ref 46), some (.ref 44)]) (st2 := [.int (nI q), .int (nI a), .ref 46]) b_X10_copy_74_79 rfl (fun hd => ?_)
  refine R2.callV3 (M2 := mX5_hasRange) (As := [.int (nI a), .int (nI q)]) (rest := []) hd lk_10_281 okX5_hasRange (by decide) rfl (ev_hasRange46 E L F (nI a) (nI q)) (by decide) rfl rfl (Nat.le_of_ble_eq_true rfl) ?_
  refine R2.B (ls2 := [some (.ref 5), some (.int 3), some (.int (nI a)), some (.int 2), some (.int (nI b)), some (.int (nI q)), some (.ref 46), some (.ref 44)]) (st2 := [.int (b2i (0 ≤ (nI a) ∧ 0 ≤ (nI q) ∧ (nI a) ≤ F 46 3 - (nI q)))]) b_X10_copy_82_82 rfl (fun hd => ?_)
  refine R2.if_eq 97 hd (by decide) (fun c82 => absurd c82 (b2i_nz.mpr hx)) (fun c82 => ?_)
  refine R2.B (ls2 := [some (.ref 5), some (.int 3), some (.int (nI a)), some (.int 2), some (.int (nI b)), some (.int (nI q)), some (.ref 46), some (.ref 44)]) (st2 := [.int (nI q), .int (nI b), .ref 44]) b_X10_copy_85_91 rfl (fun hd => ?_)
  refine R2.callV3 (M2 := mX5_hasRange) (As := [.int (nI b), .int (nI q)]) (rest := []) hd lk_10_281 okX5_hasRange (by decide) rfl (ev_hasRange44 E L F (nI b) (nI q)) (by decide) rfl rfl (Nat.le_of_ble_eq_true rfl) ?_
  refine R2.B (ls2 := [some (.ref 5), some (.int 3), some (.int (nI a)), some (.int 2), some (.int (nI b)), some (.int (nI q)), some (.ref 46), some (.ref 44)]) (st2 := [.int (b2i (0 ≤ (nI b) ∧ 0 ≤ (nI q) ∧ (nI b) ≤ F 44 3 - (nI q)))]) b_X10_copy_94_94 rfl (fun hd => ?_)
  refine R2.if_ne 103 hd (by decide) (fun c94 => ?_) (fun c94 => absurd c94 (b2i_nz.mpr hy))
  refine R2.B (ls2 := [some (.ref 5), some (.int 3), some (.int (nI a)), some (.int 2), some (.int (nI b)), some (.int (nI q)), some (.ref 46), some (.ref 44)]) (st2 := [.int (nI q), .int (nI b), .ref 45, .int (nI a), .ref 47]) b_X10_copy_103_118 rfl (fun hd => ?_)
  refine R2.acopy (sp := a) (dp := b) (n := q) rfl rfl rfl hd ac_10_284 (by decide) (by decide) rfl rfl (fun _ => rfl) (fun _ => rfl) (by decide) (by decide) (show a + q ≤ 60 by omega) (show b + q ≤ 60 by omega) (by decide) (Nat.le_of_ble_eq_true rfl) ?_
  refine R2.B (ls2 := [some (.ref 5), some (.int 3), some (.int (nI a)), some (.int 2), some (.int (nI b)), some (.int (nI q)), some (.ref 46), some (.ref 44)]) (st2 := [.int 1]) b_X10_copy_121_122 rfl (fun hd => ?_)
  exact R2.ret3 (r := some (.int 1)) hd trivial rfl rfl rfl
set_option maxRecDepth 20000 in
set_option maxHeartbeats 1000000 in
theorem x_copy_null33 (E : EE) (L : Nat) (F : FF) (x y n : Int32) (h : ¬ F 46 1 = 0 ∨ ¬ F 46 1 = 0) : Ev3 E L 16 mX10_copy [.ref 5, .int 3, .int x, .int 3, .int y, .int n] F (some (.int (-10 - 1))) (up2 F 5 11 1) := by
  refine Ev3.of okX10_copy.2.2.1 (Nat.le_of_ble_eq_true rfl) ?_
  show R2 E L mX10_copy 16 0 [some (.ref 5), some (.int 3), some (.int x), some (.int 3), some (.int y), some (.int n), none, none] [] F _
  refine R2.B (ls2 := [some (.ref 5), some (.int 3), some (.int x), some (.int 3), some (.int y), some (.int n), none, none]) (st2 := [.int 3]) b_X10_copy_0_1 rfl (fun hd => ?_)
  refine R2.callS3 (M2 := mX10_isSheet) (As := [.int 3]) (rest := []) hd lk_10_153 okX10_isSheet (by decide) (ev_isSheet E L F 3) (by decide) rfl rfl (Nat.le_of_ble_eq_true rfl) ?_
  refine R2.B (ls2 := [some (.ref 5), some (.int 3), some (.int x), some (.int 3), some (.int y), some (.int n), none, none]) (st2 := [.int (b2i (0 ≤ 3 ∧ 3 < 4))]) b_X10_copy_4_4 rfl (fun hd => ?_)
  refine R2.if_eq 14 hd (by decide) (fun c4 => absurd c4 (b2i_nz.mpr (by decide))) (fun c4 => ?_)
  refine R2.B (ls2 := [some (.ref 5), some (.int 3), some (.int x), some (.int 3), some (.int y), some (.int n), none, none]) (st2 := [.int 3]) b_X10_copy_7_8 rfl (fun hd => ?_)
  refine R2.callS3 (M2 := mX10_isSheet) (As := [.int 3]) (rest := []) hd lk_10_153 okX10_isSheet (by decide) (ev_isSheet E L F 3) (by decide) rfl rfl (Nat.le_of_ble_eq_true rfl) ?_
  refine R2.B (ls2 := [some (.ref 5), some (.int 3), some (.int x), some (.int 3), some (.int y), some (.int n), none, none]) (st2 := [.int (b2i (0 ≤ 3 ∧ 3 < 4))]) b_X10_copy_11_11 rfl (fun hd => ?_)
  refine R2.if_ne 17 hd (by decide) (fun c11 => ?_) (fun c11 => absurd c11 (b2i_nz.mpr (by decide)))
  refine R2.B (ls2 := [some (.ref 5), some (.int 3), some (.int x), some (.int 3), some (.int y), some (.int n), none, none]) (st2 := [.int 3, .ref 39]) b_X10_copy_17_22 rfl (fun hd => ?_)
  refine R2.aald (k2 := 46) 3 rfl hd rfl (by decide) (by omega) rfl ?_
  refine R2.B (ls2 := [some (.ref 5), some (.int 3), some (.int x), some (.int 3), some (.int y), some (.int n), some (.ref 46), none]) (st2 := [.int 3, .ref 39]) b_X10_copy_23_30 rfl (fun hd => ?_)
  refine R2.aald (k2 := 46) 3 rfl hd rfl (by decide) (by omega) rfl ?_
  refine R2.B (ls2 := [some (.ref 5), some (.int 3), some (.int x), some (.int 3), some (.int y), some (.int n), some (.ref 46), some (.ref 46)]) (st2 := [.int (F 46 1)]) b_X10_copy_31_38 rfl (fun hd => ?_)
  refine R2.if_ne 49 hd (by decide) (fun c38 => ?_) (fun c38 => ?_)
  · refine R2.B (ls2 := [some (.ref 5), some (.int 3), some (.int x), some (.int 3), some (.int y), some (.int n), some (.ref 46), some (.ref 46)]) (st2 := [.int 1, .ref 5]) b_X10_copy_49_51 rfl (fun hd => ?_)
    refine R2.callV3 (M2 := mX10_found) (As := [.int 1]) (rest := []) hd lk_10_160 okX10_found (by decide) rfl (ev_found E L F 1) (by decide) rfl rfl (Nat.le_of_ble_eq_true rfl) ?_
    refine R2.B (ls2 := [some (.ref 5), some (.int 3), some (.int x), some (.int 3), some (.int y), some (.int n), some (.ref 46), some (.ref 46)]) (st2 := [.int (-10 - 1)]) b_X10_copy_54_54 rfl (fun hd => ?_)
    exact R2.ret3 (r := some (.int (-10 - 1))) hd trivial rfl rfl rfl
  · refine R2.B (ls2 := [some (.ref 5), some (.int 3), some (.int x), some (.int 3), some (.int y), some (.int n), some (.ref 46), some (.ref 46)]) (st2 := [.int (F 46 1)]) b_X10_copy_41_46 rfl (fun hd => ?_)
    refine R2.if_eq 55 hd (by decide) (fun c46 => ?_) (fun c46 => ?_)
    · refine R2.B (ls2 := [some (.ref 5), some (.int 3), some (.int x), some (.int 3), some (.int y), some (.int n), some (.ref 46), some (.ref 46)]) (st2 := []) b_X10_copy_55_55 rfl (fun hd => ?_)
      exact False.elim (by clear hd; grind)
    · refine R2.B (ls2 := [some (.ref 5), some (.int 3), some (.int x), some (.int 3), some (.int y), some (.int n), some (.ref 46), some (.ref 46)]) (st2 := [.int 1, .ref 5]) b_X10_copy_49_51 rfl (fun hd => ?_)
      refine R2.callV3 (M2 := mX10_found) (As := [.int 1]) (rest := []) hd lk_10_160 okX10_found (by decide) rfl (ev_found E L F 1) (by decide) rfl rfl (Nat.le_of_ble_eq_true rfl) ?_
      refine R2.B (ls2 := [some (.ref 5), some (.int 3), some (.int x), some (.int 3), some (.int y), some (.int n), some (.ref 46), some (.ref 46)]) (st2 := [.int (-10 - 1)]) b_X10_copy_54_54 rfl (fun hd => ?_)
      exact R2.ret3 (r := some (.int (-10 - 1))) hd trivial rfl rfl rfl
set_option maxRecDepth 20000 in
set_option maxHeartbeats 1000000 in
theorem x_copy_index33 (E : EE) (L : Nat) (F : FF) (x y n : Int32) (h1 : F 46 1 = 0) (h2 : F 46 1 = 0) (h3 : F 46 2 = F 46 2) (h : ¬ (0 ≤ x ∧ 0 ≤ n ∧ x ≤ F 46 3 - n) ∨ ¬ (0 ≤ y ∧ 0 ≤ n ∧ y ≤ F 46 3 - n)) : Ev3 E L 16 mX10_copy [.ref 5, .int 3, .int x, .int 3, .int y, .int n] F (some (.int (-10 - 2))) (up2 F 5 11 2) := by
  refine Ev3.of okX10_copy.2.2.1 (Nat.le_of_ble_eq_true rfl) ?_
  show R2 E L mX10_copy 16 0 [some (.ref 5), some (.int 3), some (.int x), some (.int 3), some (.int y), some (.int n), none, none] [] F _
  refine R2.B (ls2 := [some (.ref 5), some (.int 3), some (.int x), some (.int 3), some (.int y), some (.int n), none, none]) (st2 := [.int 3]) b_X10_copy_0_1 rfl (fun hd => ?_)
  refine R2.callS3 (M2 := mX10_isSheet) (As := [.int 3]) (rest := []) hd lk_10_153 okX10_isSheet (by decide) (ev_isSheet E L F 3) (by decide) rfl rfl (Nat.le_of_ble_eq_true rfl) ?_
  refine R2.B (ls2 := [some (.ref 5), some (.int 3), some (.int x), some (.int 3), some (.int y), some (.int n), none, none]) (st2 := [.int (b2i (0 ≤ 3 ∧ 3 < 4))]) b_X10_copy_4_4 rfl (fun hd => ?_)
  refine R2.if_eq 14 hd (by decide) (fun c4 => absurd c4 (b2i_nz.mpr (by decide))) (fun c4 => ?_)
  refine R2.B (ls2 := [some (.ref 5), some (.int 3), some (.int x), some (.int 3), some (.int y), some (.int n), none, none]) (st2 := [.int 3]) b_X10_copy_7_8 rfl (fun hd => ?_)
  refine R2.callS3 (M2 := mX10_isSheet) (As := [.int 3]) (rest := []) hd lk_10_153 okX10_isSheet (by decide) (ev_isSheet E L F 3) (by decide) rfl rfl (Nat.le_of_ble_eq_true rfl) ?_
  refine R2.B (ls2 := [some (.ref 5), some (.int 3), some (.int x), some (.int 3), some (.int y), some (.int n), none, none]) (st2 := [.int (b2i (0 ≤ 3 ∧ 3 < 4))]) b_X10_copy_11_11 rfl (fun hd => ?_)
  refine R2.if_ne 17 hd (by decide) (fun c11 => ?_) (fun c11 => absurd c11 (b2i_nz.mpr (by decide)))
  refine R2.B (ls2 := [some (.ref 5), some (.int 3), some (.int x), some (.int 3), some (.int y), some (.int n), none, none]) (st2 := [.int 3, .ref 39]) b_X10_copy_17_22 rfl (fun hd => ?_)
  refine R2.aald (k2 := 46) 3 rfl hd rfl (by decide) (by omega) rfl ?_
  refine R2.B (ls2 := [some (.ref 5), some (.int 3), some (.int x), some (.int 3), some (.int y), some (.int n), some (.ref 46), none]) (st2 := [.int 3, .ref 39]) b_X10_copy_23_30 rfl (fun hd => ?_)
  refine R2.aald (k2 := 46) 3 rfl hd rfl (by decide) (by omega) rfl ?_
  refine R2.B (ls2 := [some (.ref 5), some (.int 3), some (.int x), some (.int 3), some (.int y), some (.int n), some (.ref 46), some (.ref 46)]) (st2 := [.int (F 46 1)]) b_X10_copy_31_38 rfl (fun hd => ?_)
  refine R2.if_ne 49 hd (by decide) (fun c38 => absurd (h1) c38) (fun c38 => ?_)
  refine R2.B (ls2 := [some (.ref 5), some (.int 3), some (.int x), some (.int 3), some (.int y), some (.int n), some (.ref 46), some (.ref 46)]) (st2 := [.int (F 46 1)]) b_X10_copy_41_46 rfl (fun hd => ?_)
  refine R2.if_eq 55 hd (by decide) (fun c46 => ?_) (fun c46 => absurd (h2) c46)
  refine R2.B (ls2 := [some (.ref 5), some (.int 3), some (.int x), some (.int 3), some (.int y), some (.int n), some (.ref 46), some (.ref 46)]) (st2 := [.int (F 46 2), .int (F 46 2)]) b_X10_copy_55_65 rfl (fun hd => ?_)
  refine R2.icmp_eq 74 hd (by decide) (fun c65 => ?_) (fun c65 => absurd (h3) c65)
  refine R2.B (ls2 := [some (.ref 5), some (.int 3), some (.int x), some (.int 3), some (.int y), some (.int n), some (.ref 46), some (.ref 46)]) (st2 := [.int n, .int x, .ref 46]) b_X10_copy_74_79 rfl (fun hd => ?_)
  refine R2.callV3 (M2 := mX5_hasRange) (As := [.int x, .int n]) (rest := []) hd lk_10_281 okX5_hasRange (by decide) rfl (ev_hasRange46 E L F x n) (by decide) rfl rfl (Nat.le_of_ble_eq_true rfl) ?_
  refine R2.B (ls2 := [some (.ref 5), some (.int 3), some (.int x), some (.int 3), some (.int y), some (.int n), some (.ref 46), some (.ref 46)]) (st2 := [.int (b2i (0 ≤ x ∧ 0 ≤ n ∧ x ≤ F 46 3 - n))]) b_X10_copy_82_82 rfl (fun hd => ?_)
  refine R2.if_eq 97 hd (by decide) (fun c82 => ?_) (fun c82 => ?_)
  · have nc82 : ¬ (0 ≤ x ∧ 0 ≤ n ∧ x ≤ F 46 3 - n) := b2i_zero.mp c82
    refine R2.B (ls2 := [some (.ref 5), some (.int 3), some (.int x), some (.int 3), some (.int y), some (.int n), some (.ref 46), some (.ref 46)]) (st2 := [.int 2, .ref 5]) b_X10_copy_97_99 rfl (fun hd => ?_)
    refine R2.callV3 (M2 := mX10_found) (As := [.int 2]) (rest := []) hd lk_10_160 okX10_found (by decide) rfl (ev_found E L F 2) (by decide) rfl rfl (Nat.le_of_ble_eq_true rfl) ?_
    refine R2.B (ls2 := [some (.ref 5), some (.int 3), some (.int x), some (.int 3), some (.int y), some (.int n), some (.ref 46), some (.ref 46)]) (st2 := [.int (-10 - 2)]) b_X10_copy_102_102 rfl (fun hd => ?_)
    exact R2.ret3 (r := some (.int (-10 - 2))) hd trivial rfl rfl rfl
  · have nc82 : 0 ≤ x ∧ 0 ≤ n ∧ x ≤ F 46 3 - n := b2i_nz.mp c82
    refine R2.B (ls2 := [some (.ref 5), some (.int 3), some (.int x), some (.int 3), some (.int y), some (.int n), some (.ref 46), some (.ref 46)]) (st2 := [.int n, .int y, .ref 46]) b_X10_copy_85_91 rfl (fun hd => ?_)
    refine R2.callV3 (M2 := mX5_hasRange) (As := [.int y, .int n]) (rest := []) hd lk_10_281 okX5_hasRange (by decide) rfl (ev_hasRange46 E L F y n) (by decide) rfl rfl (Nat.le_of_ble_eq_true rfl) ?_
    refine R2.B (ls2 := [some (.ref 5), some (.int 3), some (.int x), some (.int 3), some (.int y), some (.int n), some (.ref 46), some (.ref 46)]) (st2 := [.int (b2i (0 ≤ y ∧ 0 ≤ n ∧ y ≤ F 46 3 - n))]) b_X10_copy_94_94 rfl (fun hd => ?_)
    refine R2.if_ne 103 hd (by decide) (fun c94 => ?_) (fun c94 => ?_)
    · have nc94 : 0 ≤ y ∧ 0 ≤ n ∧ y ≤ F 46 3 - n := b2i_nz.mp c94
      refine R2.B (ls2 := [some (.ref 5), some (.int 3), some (.int x), some (.int 3), some (.int y), some (.int n), some (.ref 46), some (.ref 46)]) (st2 := []) b_X10_copy_103_103 rfl (fun hd => ?_)
      exact False.elim (by clear hd; grind)
    · have nc94 : ¬ (0 ≤ y ∧ 0 ≤ n ∧ y ≤ F 46 3 - n) := b2i_zero.mp c94
      refine R2.B (ls2 := [some (.ref 5), some (.int 3), some (.int x), some (.int 3), some (.int y), some (.int n), some (.ref 46), some (.ref 46)]) (st2 := [.int 2, .ref 5]) b_X10_copy_97_99 rfl (fun hd => ?_)
      refine R2.callV3 (M2 := mX10_found) (As := [.int 2]) (rest := []) hd lk_10_160 okX10_found (by decide) rfl (ev_found E L F 2) (by decide) rfl rfl (Nat.le_of_ble_eq_true rfl) ?_
      refine R2.B (ls2 := [some (.ref 5), some (.int 3), some (.int x), some (.int 3), some (.int y), some (.int n), some (.ref 46), some (.ref 46)]) (st2 := [.int (-10 - 2)]) b_X10_copy_102_102 rfl (fun hd => ?_)
      exact R2.ret3 (r := some (.int (-10 - 2))) hd trivial rfl rfl rfl
set_option maxRecDepth 20000 in
set_option maxHeartbeats 1000000 in
theorem x_copy33 (E : EE) (L : Nat) (F : FF) (a b q : Nat) (h1 : F 46 1 = 0) (h2 : F 46 1 = 0) (h3 : F 46 2 = F 46 2) (hx : (0 ≤ nI a ∧ 0 ≤ nI q ∧ nI a ≤ F 46 3 - nI q)) (hy : (0 ≤ nI b ∧ 0 ≤ nI q ∧ nI b ≤ F 46 3 - nI q)) (ha : a + q ≤ 60) (hb : b + q ≤ 60) : Ev3 E L 16 mX10_copy [.ref 5, .int 3, .int (nI a), .int 3, .int (nI b), .int (nI q)] F (some (.int (1))) (cpyF F 47 47 a b q) := by
  refine Ev3.of okX10_copy.2.2.1 (Nat.le_of_ble_eq_true rfl) ?_
  show R2 E L mX10_copy 16 0 [some (.ref 5), some (.int 3), some (.int (nI a)), some (.int 3), some (.int (nI b)), some (.int (nI q)), none, none] [] F _
  refine R2.B (ls2 := [some (.ref 5), some (.int 3), some (.int (nI a)), some (.int 3), some (.int (nI b)), some (.int (nI q)), none, none]) (st2 := [.int 3]) b_X10_copy_0_1 rfl (fun hd => ?_)
  refine R2.callS3 (M2 := mX10_isSheet) (As := [.int 3]) (rest := []) hd lk_10_153 okX10_isSheet (by decide) (ev_isSheet E L F 3) (by decide) rfl rfl (Nat.le_of_ble_eq_true rfl) ?_
  refine R2.B (ls2 := [some (.ref 5), some (.int 3), some (.int (nI a)), some (.int 3), some (.int (nI b)), some (.int (nI q)), none, none]) (st2 := [.int (b2i (0 ≤ 3 ∧ 3 < 4))]) b_X10_copy_4_4 rfl (fun hd => ?_)
  refine R2.if_eq 14 hd (by decide) (fun c4 => absurd c4 (b2i_nz.mpr (by decide))) (fun c4 => ?_)
  refine R2.B (ls2 := [some (.ref 5), some (.int 3), some (.int (nI a)), some (.int 3), some (.int (nI b)), some (.int (nI q)), none, none]) (st2 := [.int 3]) b_X10_copy_7_8 rfl (fun hd => ?_)
  refine R2.callS3 (M2 := mX10_isSheet) (As := [.int 3]) (rest := []) hd lk_10_153 okX10_isSheet (by decide) (ev_isSheet E L F 3) (by decide) rfl rfl (Nat.le_of_ble_eq_true rfl) ?_
  refine R2.B (ls2 := [some (.ref 5), some (.int 3), some (.int (nI a)), some (.int 3), some (.int (nI b)), some (.int (nI q)), none, none]) (st2 := [.int (b2i (0 ≤ 3 ∧ 3 < 4))]) b_X10_copy_11_11 rfl (fun hd => ?_)
  refine R2.if_ne 17 hd (by decide) (fun c11 => ?_) (fun c11 => absurd c11 (b2i_nz.mpr (by decide)))
  refine R2.B (ls2 := [some (.ref 5), some (.int 3), some (.int (nI a)), some (.int 3), some (.int (nI b)), some (.int (nI q)), none, none]) (st2 := [.int 3, .ref 39]) b_X10_copy_17_22 rfl (fun hd => ?_)
  refine R2.aald (k2 := 46) 3 rfl hd rfl (by decide) (by omega) rfl ?_
  refine R2.B (ls2 := [some (.ref 5), some (.int 3), some (.int (nI a)), some (.int 3), some (.int (nI b)), some (.int (nI q)), some (.ref 46), none]) (st2 := [.int 3, .ref 39]) b_X10_copy_23_30 rfl (fun hd => ?_)
  refine R2.aald (k2 := 46) 3 rfl hd rfl (by decide) (by omega) rfl ?_
  refine R2.B (ls2 := [some (.ref 5), some (.int 3), some (.int (nI a)), some (.int 3), some (.int (nI b)), some (.int (nI q)), some (.ref 46), some (.ref 46)]) (st2 := [.int (F 46 1)]) b_X10_copy_31_38 rfl (fun hd => ?_)
  refine R2.if_ne 49 hd (by decide) (fun c38 => absurd (h1) c38) (fun c38 => ?_)
  refine R2.B (ls2 := [some (.ref 5), some (.int 3), some (.int (nI a)), some (.int 3), some (.int (nI b)), some (.int (nI q)), some (.ref 46), some (.ref 46)]) (st2 := [.int (F 46 1)]) b_X10_copy_41_46 rfl (fun hd => ?_)
  refine R2.if_eq 55 hd (by decide) (fun c46 => ?_) (fun c46 => absurd (h2) c46)
  refine R2.B (ls2 := [some (.ref 5), some (.int 3), some (.int (nI a)), some (.int 3), some (.int (nI b)), some (.int (nI q)), some (.ref 46), some (.ref 46)]) (st2 := [.int (F 46 2), .int (F 46 2)]) b_X10_copy_55_65 rfl (fun hd => ?_)
  refine R2.icmp_eq 74 hd (by decide) (fun c65 => ?_) (fun c65 => absurd (h3) c65)
  refine R2.B (ls2 := [some (.ref 5), some (.int 3), some (.int (nI a)), some (.int 3), some (.int (nI b)), some (.int (nI q)), some (.ref 46), some (.ref 46)]) (st2 := [.int (nI q), .int (nI a), .ref 46]) b_X10_copy_74_79 rfl (fun hd => ?_)
  refine R2.callV3 (M2 := mX5_hasRange) (As := [.int (nI a), .int (nI q)]) (rest := []) hd lk_10_281 okX5_hasRange (by decide) rfl (ev_hasRange46 E L F (nI a) (nI q)) (by decide) rfl rfl (Nat.le_of_ble_eq_true rfl) ?_
  refine R2.B (ls2 := [some (.ref 5), some (.int 3), some (.int (nI a)), some (.int 3), some (.int (nI b)), some (.int (nI q)), some (.ref 46), some (.ref 46)]) (st2 := [.int (b2i (0 ≤ (nI a) ∧ 0 ≤ (nI q) ∧ (nI a) ≤ F 46 3 - (nI q)))]) b_X10_copy_82_82 rfl (fun hd => ?_)
  refine R2.if_eq 97 hd (by decide) (fun c82 => absurd c82 (b2i_nz.mpr hx)) (fun c82 => ?_)
  refine R2.B (ls2 := [some (.ref 5), some (.int 3), some (.int (nI a)), some (.int 3), some (.int (nI b)), some (.int (nI q)), some (.ref 46), some (.ref 46)]) (st2 := [.int (nI q), .int (nI b), .ref 46]) b_X10_copy_85_91 rfl (fun hd => ?_)
  refine R2.callV3 (M2 := mX5_hasRange) (As := [.int (nI b), .int (nI q)]) (rest := []) hd lk_10_281 okX5_hasRange (by decide) rfl (ev_hasRange46 E L F (nI b) (nI q)) (by decide) rfl rfl (Nat.le_of_ble_eq_true rfl) ?_
  refine R2.B (ls2 := [some (.ref 5), some (.int 3), some (.int (nI a)), some (.int 3), some (.int (nI b)), some (.int (nI q)), some (.ref 46), some (.ref 46)]) (st2 := [.int (b2i (0 ≤ (nI b) ∧ 0 ≤ (nI q) ∧ (nI b) ≤ F 46 3 - (nI q)))]) b_X10_copy_94_94 rfl (fun hd => ?_)
  refine R2.if_ne 103 hd (by decide) (fun c94 => ?_) (fun c94 => absurd c94 (b2i_nz.mpr hy))
  refine R2.B (ls2 := [some (.ref 5), some (.int 3), some (.int (nI a)), some (.int 3), some (.int (nI b)), some (.int (nI q)), some (.ref 46), some (.ref 46)]) (st2 := [.int (nI q), .int (nI b), .ref 47, .int (nI a), .ref 47]) b_X10_copy_103_118 rfl (fun hd => ?_)
  refine R2.acopy (sp := a) (dp := b) (n := q) rfl rfl rfl hd ac_10_284 (by decide) (by decide) rfl rfl (fun _ => rfl) (fun _ => rfl) (by decide) (by decide) (show a + q ≤ 60 by omega) (show b + q ≤ 60 by omega) (by decide) (Nat.le_of_ble_eq_true rfl) ?_
  refine R2.B (ls2 := [some (.ref 5), some (.int 3), some (.int (nI a)), some (.int 3), some (.int (nI b)), some (.int (nI q)), some (.ref 46), some (.ref 46)]) (st2 := [.int 1]) b_X10_copy_121_122 rfl (fun hd => ?_)
  exact R2.ret3 (r := some (.int 1)) hd trivial rfl rfl rfl
theorem b_X10_count_0_1 : bl2 mX10_count 0 [(.iload_n 1, 1, 1, 0, .null)] 1 (.tableswitch 126 0 8 #[51, 59, 67, 75, 83, 91, 101, 111, 121]) 51 = true := by decide +kernel
theorem b_X10_count_52_59 : bl2 mX10_count 52 [(.aload_n 0, 1, 0, 0, .null), (.getfield 24, 3, 10, 2, .null), (.getfield 290, 3, 0, 5, .null)] 59 (.ireturn) 1 = true := by decide +kernel
set_option maxRecDepth 20000 in
set_option maxHeartbeats 1000000 in
theorem x_count0 (E : EE) (L : Nat) (F : FF) : Ev3 E L 2 mX10_count [.ref 5, .int 0] F (some (.int (F 10 5))) F := by
  refine Ev3.of okX10_count.2.2.1 (Nat.le_of_ble_eq_true rfl) ?_
  show R2 E L mX10_count 2 0 [some (.ref 5), some (.int 0)] [] F _
  refine R2.B (ls2 := [some (.ref 5), some (.int 0)]) (st2 := [.int 0]) b_X10_count_0_1 rfl (fun hd => ?_)
  refine R2.tblIn (off := 51) 52 hd (by decide) (by decide) rfl (by decide) ?_
  refine R2.B (ls2 := [some (.ref 5), some (.int 0)]) (st2 := [.int (F 10 5)]) b_X10_count_52_59 rfl (fun hd => ?_)
  exact R2.ret3 (r := some (.int (F 10 5))) hd trivial rfl rfl rfl
theorem b_X10_count_60_64 : bl2 mX10_count 60 [(.aload_n 0, 1, 0, 0, .null), (.getfield 14, 3, 10, 0, .null)] 64 (.invokevirtual 110) 3 = true := by decide +kernel
theorem b_X10_count_67_67 : bl2 mX10_count 67 [] 67 (.ireturn) 1 = true := by decide +kernel
set_option maxRecDepth 20000 in
set_option maxHeartbeats 1000000 in
theorem x_count1 (E : EE) (L : Nat) (F : FF) : Ev3 E L 2 mX10_count [.ref 5, .int 1] F (some (.int (F 6 1))) F := by
  refine Ev3.of okX10_count.2.2.1 (Nat.le_of_ble_eq_true rfl) ?_
  show R2 E L mX10_count 2 0 [some (.ref 5), some (.int 1)] [] F _
  refine R2.B (ls2 := [some (.ref 5), some (.int 1)]) (st2 := [.int 1]) b_X10_count_0_1 rfl (fun hd => ?_)
  refine R2.tblIn (off := 59) 60 hd (by decide) (by decide) rfl (by decide) ?_
  refine R2.B (ls2 := [some (.ref 5), some (.int 1)]) (st2 := [.ref 6]) b_X10_count_60_64 rfl (fun hd => ?_)
  refine R2.callV3 (M2 := mX7_length) (As := []) (rest := []) hd lk_10_110 okX7_length (by decide) rfl (ev_length6 E L _) (by decide) rfl rfl (Nat.le_of_ble_eq_true rfl) ?_
  refine R2.B (ls2 := [some (.ref 5), some (.int 1)]) (st2 := [.int (F 6 1)]) b_X10_count_67_67 rfl (fun hd => ?_)
  exact R2.ret3 (r := some (.int (F 6 1))) hd trivial rfl rfl rfl
theorem b_X10_count_68_72 : bl2 mX10_count 68 [(.aload_n 0, 1, 0, 0, .null), (.getfield 18, 3, 10, 1, .null)] 72 (.invokevirtual 110) 3 = true := by decide +kernel
theorem b_X10_count_75_75 : bl2 mX10_count 75 [] 75 (.ireturn) 1 = true := by decide +kernel
set_option maxRecDepth 20000 in
set_option maxHeartbeats 1000000 in
theorem x_count2 (E : EE) (L : Nat) (F : FF) : Ev3 E L 2 mX10_count [.ref 5, .int 2] F (some (.int (F 8 1))) F := by
  refine Ev3.of okX10_count.2.2.1 (Nat.le_of_ble_eq_true rfl) ?_
  show R2 E L mX10_count 2 0 [some (.ref 5), some (.int 2)] [] F _
  refine R2.B (ls2 := [some (.ref 5), some (.int 2)]) (st2 := [.int 2]) b_X10_count_0_1 rfl (fun hd => ?_)
  refine R2.tblIn (off := 67) 68 hd (by decide) (by decide) rfl (by decide) ?_
  refine R2.B (ls2 := [some (.ref 5), some (.int 2)]) (st2 := [.ref 8]) b_X10_count_68_72 rfl (fun hd => ?_)
  refine R2.callV3 (M2 := mX7_length) (As := []) (rest := []) hd lk_10_110 okX7_length (by decide) rfl (ev_length8 E L _) (by decide) rfl rfl (Nat.le_of_ble_eq_true rfl) ?_
  refine R2.B (ls2 := [some (.ref 5), some (.int 2)]) (st2 := [.int (F 8 1)]) b_X10_count_75_75 rfl (fun hd => ?_)
  exact R2.ret3 (r := some (.int (F 8 1))) hd trivial rfl rfl rfl
theorem b_X10_count_76_83 : bl2 mX10_count 76 [(.aload_n 0, 1, 0, 0, .null), (.getfield 40, 3, 10, 4, .null), (.getfield 296, 3, 1, 3, .null)] 83 (.ireturn) 1 = true := by decide +kernel
set_option maxRecDepth 20000 in
set_option maxHeartbeats 1000000 in
theorem x_count3 (E : EE) (L : Nat) (F : FF) : Ev3 E L 2 mX10_count [.ref 5, .int 3] F (some (.int (F 18 3))) F := by
  refine Ev3.of okX10_count.2.2.1 (Nat.le_of_ble_eq_true rfl) ?_
  show R2 E L mX10_count 2 0 [some (.ref 5), some (.int 3)] [] F _
  refine R2.B (ls2 := [some (.ref 5), some (.int 3)]) (st2 := [.int 3]) b_X10_count_0_1 rfl (fun hd => ?_)
  refine R2.tblIn (off := 75) 76 hd (by decide) (by decide) rfl (by decide) ?_
  refine R2.B (ls2 := [some (.ref 5), some (.int 3)]) (st2 := [.int (F 18 3)]) b_X10_count_76_83 rfl (fun hd => ?_)
  exact R2.ret3 (r := some (.int (F 18 3))) hd trivial rfl rfl rfl
theorem b_X10_count_84_91 : bl2 mX10_count 84 [(.aload_n 0, 1, 0, 0, .null), (.getfield 70, 3, 10, 8, .null), (.getfield 297, 3, 4, 1, .null)] 91 (.ireturn) 1 = true := by decide +kernel
set_option maxRecDepth 20000 in
set_option maxHeartbeats 1000000 in
theorem x_count4 (E : EE) (L : Nat) (F : FF) : Ev3 E L 2 mX10_count [.ref 5, .int 4] F (some (.int (F 33 1))) F := by
  refine Ev3.of okX10_count.2.2.1 (Nat.le_of_ble_eq_true rfl) ?_
  show R2 E L mX10_count 2 0 [some (.ref 5), some (.int 4)] [] F _
  refine R2.B (ls2 := [some (.ref 5), some (.int 4)]) (st2 := [.int 4]) b_X10_count_0_1 rfl (fun hd => ?_)
  refine R2.tblIn (off := 83) 84 hd (by decide) (by decide) rfl (by decide) ?_
  refine R2.B (ls2 := [some (.ref 5), some (.int 4)]) (st2 := [.int (F 33 1)]) b_X10_count_84_91 rfl (fun hd => ?_)
  exact R2.ret3 (r := some (.int (F 33 1))) hd trivial rfl rfl rfl
theorem b_X10_count_92_100 : bl2 mX10_count 92 [(.aload_n 0, 1, 0, 0, .null), (.getfield 33, 3, 10, 3, .null), (.getfield 128, 3, 2, 1, .null), (.iconst 0, 1, 0, 0, .int 0)] 100 (.iaload) 1 = true := by decide +kernel
theorem b_X10_count_101_101 : bl2 mX10_count 101 [] 101 (.ireturn) 1 = true := by decide +kernel
set_option maxRecDepth 20000 in
set_option maxHeartbeats 1000000 in
theorem x_count5 (E : EE) (L : Nat) (F : FF) : Ev3 E L 2 mX10_count [.ref 5, .int 5] F (some (.int (F 17 0))) F := by
  refine Ev3.of okX10_count.2.2.1 (Nat.le_of_ble_eq_true rfl) ?_
  show R2 E L mX10_count 2 0 [some (.ref 5), some (.int 5)] [] F _
  refine R2.B (ls2 := [some (.ref 5), some (.int 5)]) (st2 := [.int 5]) b_X10_count_0_1 rfl (fun hd => ?_)
  refine R2.tblIn (off := 91) 92 hd (by decide) (by decide) rfl (by decide) ?_
  refine R2.B (ls2 := [some (.ref 5), some (.int 5)]) (st2 := [.int 0, .ref 17]) b_X10_count_92_100 rfl (fun hd => ?_)
  refine R2.iald 0 rfl hd rfl (fun _ => rfl) (by decide) (by omega) ?_
  refine R2.B (ls2 := [some (.ref 5), some (.int 5)]) (st2 := [.int (F 17 0)]) b_X10_count_101_101 rfl (fun hd => ?_)
  exact R2.ret3 (r := some (.int (F 17 0))) hd trivial rfl rfl rfl
theorem b_X10_count_102_110 : bl2 mX10_count 102 [(.aload_n 0, 1, 0, 0, .null), (.getfield 33, 3, 10, 3, .null), (.getfield 128, 3, 2, 1, .null), (.iconst 1, 1, 0, 0, .int 1)] 110 (.iaload) 1 = true := by decide +kernel
theorem b_X10_count_111_111 : bl2 mX10_count 111 [] 111 (.ireturn) 1 = true := by decide +kernel
set_option maxRecDepth 20000 in
set_option maxHeartbeats 1000000 in
theorem x_count6 (E : EE) (L : Nat) (F : FF) : Ev3 E L 2 mX10_count [.ref 5, .int 6] F (some (.int (F 17 1))) F := by
  refine Ev3.of okX10_count.2.2.1 (Nat.le_of_ble_eq_true rfl) ?_
  show R2 E L mX10_count 2 0 [some (.ref 5), some (.int 6)] [] F _
  refine R2.B (ls2 := [some (.ref 5), some (.int 6)]) (st2 := [.int 6]) b_X10_count_0_1 rfl (fun hd => ?_)
  refine R2.tblIn (off := 101) 102 hd (by decide) (by decide) rfl (by decide) ?_
  refine R2.B (ls2 := [some (.ref 5), some (.int 6)]) (st2 := [.int 1, .ref 17]) b_X10_count_102_110 rfl (fun hd => ?_)
  refine R2.iald 1 rfl hd rfl (fun _ => rfl) (by decide) (by omega) ?_
  refine R2.B (ls2 := [some (.ref 5), some (.int 6)]) (st2 := [.int (F 17 1)]) b_X10_count_111_111 rfl (fun hd => ?_)
  exact R2.ret3 (r := some (.int (F 17 1))) hd trivial rfl rfl rfl
theorem b_X10_count_112_120 : bl2 mX10_count 112 [(.aload_n 0, 1, 0, 0, .null), (.getfield 33, 3, 10, 3, .null), (.getfield 128, 3, 2, 1, .null), (.iconst 2, 1, 0, 0, .int 2)] 120 (.iaload) 1 = true := by decide +kernel
theorem b_X10_count_121_121 : bl2 mX10_count 121 [] 121 (.ireturn) 1 = true := by decide +kernel
set_option maxRecDepth 20000 in
set_option maxHeartbeats 1000000 in
theorem x_count7 (E : EE) (L : Nat) (F : FF) : Ev3 E L 2 mX10_count [.ref 5, .int 7] F (some (.int (F 17 2))) F := by
  refine Ev3.of okX10_count.2.2.1 (Nat.le_of_ble_eq_true rfl) ?_
  show R2 E L mX10_count 2 0 [some (.ref 5), some (.int 7)] [] F _
  refine R2.B (ls2 := [some (.ref 5), some (.int 7)]) (st2 := [.int 7]) b_X10_count_0_1 rfl (fun hd => ?_)
  refine R2.tblIn (off := 111) 112 hd (by decide) (by decide) rfl (by decide) ?_
  refine R2.B (ls2 := [some (.ref 5), some (.int 7)]) (st2 := [.int 2, .ref 17]) b_X10_count_112_120 rfl (fun hd => ?_)
  refine R2.iald 2 rfl hd rfl (fun _ => rfl) (by decide) (by omega) ?_
  refine R2.B (ls2 := [some (.ref 5), some (.int 7)]) (st2 := [.int (F 17 2)]) b_X10_count_121_121 rfl (fun hd => ?_)
  exact R2.ret3 (r := some (.int (F 17 2))) hd trivial rfl rfl rfl
theorem b_X10_count_122_126 : bl2 mX10_count 122 [(.aload_n 0, 1, 0, 0, .null), (.getfield 88, 3, 10, 11, .null)] 126 (.ireturn) 1 = true := by decide +kernel
set_option maxRecDepth 20000 in
set_option maxHeartbeats 1000000 in
theorem x_count8 (E : EE) (L : Nat) (F : FF) : Ev3 E L 2 mX10_count [.ref 5, .int 8] F (some (.int (F 5 11))) F := by
  refine Ev3.of okX10_count.2.2.1 (Nat.le_of_ble_eq_true rfl) ?_
  show R2 E L mX10_count 2 0 [some (.ref 5), some (.int 8)] [] F _
  refine R2.B (ls2 := [some (.ref 5), some (.int 8)]) (st2 := [.int 8]) b_X10_count_0_1 rfl (fun hd => ?_)
  refine R2.tblIn (off := 121) 122 hd (by decide) (by decide) rfl (by decide) ?_
  refine R2.B (ls2 := [some (.ref 5), some (.int 8)]) (st2 := [.int (F 5 11)]) b_X10_count_122_126 rfl (fun hd => ?_)
  exact R2.ret3 (r := some (.int (F 5 11))) hd trivial rfl rfl rfl
theorem b_X10_count_127_129 : bl2 mX10_count 127 [(.bipush (-2), 2, 0, 0, .int (-2))] 129 (.ireturn) 1 = true := by decide +kernel
set_option maxRecDepth 20000 in
set_option maxHeartbeats 1000000 in
theorem x_count_bad (E : EE) (L : Nat) (F : FF) (w : Int32) (h : w.toInt < 0 ∨ 8 < w.toInt) : Ev3 E L 2 mX10_count [.ref 5, .int w] F (some (.int (-2))) F := by
  refine Ev3.of okX10_count.2.2.1 (Nat.le_of_ble_eq_true rfl) ?_
  show R2 E L mX10_count 2 0 [some (.ref 5), some (.int w)] [] F _
  refine R2.B (ls2 := [some (.ref 5), some (.int w)]) (st2 := [.int w]) b_X10_count_0_1 rfl (fun hd => ?_)
  refine R2.tblOut 127 hd (h) (by decide) ?_
  refine R2.B (ls2 := [some (.ref 5), some (.int w)]) (st2 := [.int (-2)]) b_X10_count_127_129 rfl (fun hd => ?_)
  exact R2.ret3 (r := some (.int (-2))) hd trivial rfl rfl rfl
