/-! The reference: copy, count. Printed by wip/whole/gen/spec26.py. -/
theorem b_X11_copy_0_1 : bl2 mX11_copy 0 [(.iload_n 1, 1, 1, 0, .null)] 1 (.invokestatic 153) 3 = true := by decide +kernel
theorem b_X11_copy_4_4 : bl2 mX11_copy 4 [] 4 (.ifCond .eq 10) 3 = true := by decide +kernel
theorem b_X11_copy_14_16 : bl2 mX11_copy 14 [(.bipush (-2), 2, 0, 0, .int (-2))] 16 (.ireturn) 1 = true := by decide +kernel
theorem b_X11_copy_7_8 : bl2 mX11_copy 7 [(.iload_n 3, 1, 3, 0, .null)] 8 (.invokestatic 153) 3 = true := by decide +kernel
theorem b_X11_copy_11_11 : bl2 mX11_copy 11 [] 11 (.ifCond .ne 6) 3 = true := by decide +kernel
theorem b_X11_copy_17_17 : bl2 mX11_copy 17 [] 17 (.aload_n 0) 1 = true := by decide +kernel
set_option maxRecDepth 20000 in
set_option maxHeartbeats 1000000 in
theorem y_copy_bad (E : EE) (L : Nat) (F : FF) (s x t y n : Int32) (h : ¬ (0 ≤ s ∧ s < 4) ∨ ¬ (0 ≤ t ∧ t < 4)) : Ev3 E L 16 mX11_copy [.ref 48, .int s, .int x, .int t, .int y, .int n] F (some (.int (-2))) F := by
  refine Ev3.of okX11_copy.2.2.1 (Nat.le_of_ble_eq_true rfl) ?_
  show R2 E L mX11_copy 16 0 [some (.ref 48), some (.int s), some (.int x), some (.int t), some (.int y), some (.int n), none] [] F _
  refine R2.B (ls2 := [some (.ref 48), some (.int s), some (.int x), some (.int t), some (.int y), some (.int n), none]) (st2 := [.int s]) b_X11_copy_0_1 rfl (fun hd => ?_)
  refine R2.callS3 (M2 := mX11_isSheet) (As := [.int s]) (rest := []) hd lk_11_153 okX11_isSheet (by decide) (me_isSheet E L F s) (by decide) rfl rfl (Nat.le_of_ble_eq_true rfl) ?_
  refine R2.B (ls2 := [some (.ref 48), some (.int s), some (.int x), some (.int t), some (.int y), some (.int n), none]) (st2 := [.int (b2i (0 ≤ s ∧ s ≤ 3))]) b_X11_copy_4_4 rfl (fun hd => ?_)
  refine R2.if_eq 14 hd (by decide) (fun c4 => ?_) (fun c4 => ?_)
  · have nc4 : ¬ (0 ≤ s ∧ s ≤ 3) := b2i_zero.mp c4
    refine R2.B (ls2 := [some (.ref 48), some (.int s), some (.int x), some (.int t), some (.int y), some (.int n), none]) (st2 := [.int (-2)]) b_X11_copy_14_16 rfl (fun hd => ?_)
    exact R2.ret3 (r := some (.int (-2))) hd trivial rfl rfl rfl
  · have nc4 : 0 ≤ s ∧ s ≤ 3 := b2i_nz.mp c4
    refine R2.B (ls2 := [some (.ref 48), some (.int s), some (.int x), some (.int t), some (.int y), some (.int n), none]) (st2 := [.int t]) b_X11_copy_7_8 rfl (fun hd => ?_)
    refine R2.callS3 (M2 := mX11_isSheet) (As := [.int t]) (rest := []) hd lk_11_153 okX11_isSheet (by decide) (me_isSheet E L F t) (by decide) rfl rfl (Nat.le_of_ble_eq_true rfl) ?_
    refine R2.B (ls2 := [some (.ref 48), some (.int s), some (.int x), some (.int t), some (.int y), some (.int n), none]) (st2 := [.int (b2i (0 ≤ t ∧ t ≤ 3))]) b_X11_copy_11_11 rfl (fun hd => ?_)
    refine R2.if_ne 17 hd (by decide) (fun c11 => ?_) (fun c11 => ?_)
    · have nc11 : 0 ≤ t ∧ t ≤ 3 := b2i_nz.mp c11
      refine R2.B (ls2 := [some (.ref 48), some (.int s), some (.int x), some (.int t), some (.int y), some (.int n), none]) (st2 := []) b_X11_copy_17_17 rfl (fun hd => ?_)
      exact False.elim (by clear hd; grind)
    · have nc11 : ¬ (0 ≤ t ∧ t ≤ 3) := b2i_zero.mp c11
      refine R2.B (ls2 := [some (.ref 48), some (.int s), some (.int x), some (.int t), some (.int y), some (.int n), none]) (st2 := [.int (-2)]) b_X11_copy_14_16 rfl (fun hd => ?_)
      exact R2.ret3 (r := some (.int (-2))) hd trivial rfl rfl rfl
theorem b_X11_copy_17_22 : bl2 mX11_copy 17 [(.aload_n 0, 1, 0, 0, .null), (.getfield 70, 3, 11, 26, .null), (.iload_n 1, 1, 1, 0, .null)] 22 (.baload) 1 = true := by decide +kernel
theorem b_X11_copy_23_23 : bl2 mX11_copy 23 [] 23 (.ifCond .eq 12) 3 = true := by decide +kernel
theorem b_X11_copy_35_37 : bl2 mX11_copy 35 [(.aload_n 0, 1, 0, 0, .null), (.iconst 1, 1, 0, 0, .int 1)] 37 (.invokevirtual 156) 3 = true := by decide +kernel
theorem b_X11_copy_40_40 : bl2 mX11_copy 40 [] 40 (.ireturn) 1 = true := by decide +kernel
theorem b_X11_copy_26_31 : bl2 mX11_copy 26 [(.aload_n 0, 1, 0, 0, .null), (.getfield 70, 3, 11, 26, .null), (.iload_n 3, 1, 3, 0, .null)] 31 (.baload) 1 = true := by decide +kernel
theorem b_X11_copy_32_32 : bl2 mX11_copy 32 [] 32 (.ifCond .ne 9) 3 = true := by decide +kernel
theorem b_X11_copy_41_41 : bl2 mX11_copy 41 [] 41 (.aload_n 0) 1 = true := by decide +kernel
set_option maxRecDepth 20000 in
set_option maxHeartbeats 1000000 in
theorem y_copy_null (E : EE) (L : Nat) (F : FF) (s : Nat) (hs4 : s < 4) (t : Nat) (ht4 : t < 4) (x y n : Int32) (h : F 69 s = 0 ∨ F 69 t = 0) : Ev3 E L 16 mX11_copy [.ref 48, .int (nI s), .int x, .int (nI t), .int y, .int n] F (some (.int (-10 - 1))) (up2 F 48 31 1) := by
  refine Ev3.of okX11_copy.2.2.1 (Nat.le_of_ble_eq_true rfl) ?_
  show R2 E L mX11_copy 16 0 [some (.ref 48), some (.int (nI s)), some (.int x), some (.int (nI t)), some (.int y), some (.int n), none] [] F _
  refine R2.B (ls2 := [some (.ref 48), some (.int (nI s)), some (.int x), some (.int (nI t)), some (.int y), some (.int n), none]) (st2 := [.int (nI s)]) b_X11_copy_0_1 rfl (fun hd => ?_)
  refine R2.callS3 (M2 := mX11_isSheet) (As := [.int (nI s)]) (rest := []) hd lk_11_153 okX11_isSheet (by decide) (me_isSheet E L F (nI s)) (by decide) rfl rfl (Nat.le_of_ble_eq_true rfl) ?_
  refine R2.B (ls2 := [some (.ref 48), some (.int (nI s)), some (.int x), some (.int (nI t)), some (.int y), some (.int n), none]) (st2 := [.int (b2i (0 ≤ (nI s) ∧ (nI s) ≤ 3))]) b_X11_copy_4_4 rfl (fun hd => ?_)
  refine R2.if_eq 14 hd (by decide) (fun c4 => absurd c4 (b2i_nz.mpr ⟨nI_pos' (by omega), (nI_leI (b := 3) (by omega) (by omega)).mpr (by omega)⟩)) (fun c4 => ?_)
  refine R2.B (ls2 := [some (.ref 48), some (.int (nI s)), some (.int x), some (.int (nI t)), some (.int y), some (.int n), none]) (st2 := [.int (nI t)]) b_X11_copy_7_8 rfl (fun hd => ?_)
  refine R2.callS3 (M2 := mX11_isSheet) (As := [.int (nI t)]) (rest := []) hd lk_11_153 okX11_isSheet (by decide) (me_isSheet E L F (nI t)) (by decide) rfl rfl (Nat.le_of_ble_eq_true rfl) ?_
  refine R2.B (ls2 := [some (.ref 48), some (.int (nI s)), some (.int x), some (.int (nI t)), some (.int y), some (.int n), none]) (st2 := [.int (b2i (0 ≤ (nI t) ∧ (nI t) ≤ 3))]) b_X11_copy_11_11 rfl (fun hd => ?_)
  refine R2.if_ne 17 hd (by decide) (fun c11 => ?_) (fun c11 => absurd c11 (b2i_nz.mpr ⟨nI_pos' (by omega), (nI_leI (b := 3) (by omega) (by omega)).mpr (by omega)⟩))
  refine R2.B (ls2 := [some (.ref 48), some (.int (nI s)), some (.int x), some (.int (nI t)), some (.int y), some (.int n), none]) (st2 := [.int (nI s), .ref 69]) b_X11_copy_17_22 rfl (fun hd => ?_)
  refine R2.zald s rfl hd rfl (fun _ => rfl) (by decide) (by omega) ?_
  refine R2.B (ls2 := [some (.ref 48), some (.int (nI s)), some (.int x), some (.int (nI t)), some (.int y), some (.int n), none]) (st2 := [.int (F 69 s)]) b_X11_copy_23_23 rfl (fun hd => ?_)
  refine R2.if_eq 35 hd (by decide) (fun c23 => ?_) (fun c23 => ?_)
  · refine R2.B (ls2 := [some (.ref 48), some (.int (nI s)), some (.int x), some (.int (nI t)), some (.int y), some (.int n), none]) (st2 := [.int 1, .ref 48]) b_X11_copy_35_37 rfl (fun hd => ?_)
    refine R2.callV3 (M2 := mX11_meets) (As := [.int 1]) (rest := []) hd lk_11_156 okX11_meets (by decide) rfl (me_meets E L F 1) (by decide) rfl rfl (Nat.le_of_ble_eq_true rfl) ?_
    refine R2.B (ls2 := [some (.ref 48), some (.int (nI s)), some (.int x), some (.int (nI t)), some (.int y), some (.int n), none]) (st2 := [.int (-10 - 1)]) b_X11_copy_40_40 rfl (fun hd => ?_)
    exact R2.ret3 (r := some (.int (-10 - 1))) hd trivial rfl rfl rfl
  · refine R2.B (ls2 := [some (.ref 48), some (.int (nI s)), some (.int x), some (.int (nI t)), some (.int y), some (.int n), none]) (st2 := [.int (nI t), .ref 69]) b_X11_copy_26_31 rfl (fun hd => ?_)
    refine R2.zald t rfl hd rfl (fun _ => rfl) (by decide) (by omega) ?_
    refine R2.B (ls2 := [some (.ref 48), some (.int (nI s)), some (.int x), some (.int (nI t)), some (.int y), some (.int n), none]) (st2 := [.int (F 69 t)]) b_X11_copy_32_32 rfl (fun hd => ?_)
    refine R2.if_ne 41 hd (by decide) (fun c32 => ?_) (fun c32 => ?_)
    · refine R2.B (ls2 := [some (.ref 48), some (.int (nI s)), some (.int x), some (.int (nI t)), some (.int y), some (.int n), none]) (st2 := []) b_X11_copy_41_41 rfl (fun hd => ?_)
      exact False.elim (by clear hd; grind)
    · refine R2.B (ls2 := [some (.ref 48), some (.int (nI s)), some (.int x), some (.int (nI t)), some (.int y), some (.int n), none]) (st2 := [.int 1, .ref 48]) b_X11_copy_35_37 rfl (fun hd => ?_)
      refine R2.callV3 (M2 := mX11_meets) (As := [.int 1]) (rest := []) hd lk_11_156 okX11_meets (by decide) rfl (me_meets E L F 1) (by decide) rfl rfl (Nat.le_of_ble_eq_true rfl) ?_
      refine R2.B (ls2 := [some (.ref 48), some (.int (nI s)), some (.int x), some (.int (nI t)), some (.int y), some (.int n), none]) (st2 := [.int (-10 - 1)]) b_X11_copy_40_40 rfl (fun hd => ?_)
      exact R2.ret3 (r := some (.int (-10 - 1))) hd trivial rfl rfl rfl
theorem b_X11_copy_41_46 : bl2 mX11_copy 41 [(.aload_n 0, 1, 0, 0, .null), (.getfield 74, 3, 11, 27, .null), (.iload_n 1, 1, 1, 0, .null)] 46 (.iaload) 1 = true := by decide +kernel
theorem b_X11_copy_47_52 : bl2 mX11_copy 47 [(.aload_n 0, 1, 0, 0, .null), (.getfield 74, 3, 11, 27, .null), (.iload_n 3, 1, 3, 0, .null)] 52 (.iaload) 1 = true := by decide +kernel
theorem b_X11_copy_53_53 : bl2 mX11_copy 53 [] 53 (.if_icmp .eq 9) 3 = true := by decide +kernel
theorem b_X11_copy_56_58 : bl2 mX11_copy 56 [(.aload_n 0, 1, 0, 0, .null), (.iconst 4, 1, 0, 0, .int 4)] 58 (.invokevirtual 156) 3 = true := by decide +kernel
theorem b_X11_copy_61_61 : bl2 mX11_copy 61 [] 61 (.ireturn) 1 = true := by decide +kernel
set_option maxRecDepth 20000 in
set_option maxHeartbeats 1000000 in
theorem y_copy_store (E : EE) (L : Nat) (F : FF) (s : Nat) (hs4 : s < 4) (t : Nat) (ht4 : t < 4) (x y n : Int32) (h1 : ¬ F 69 s = 0) (h2 : ¬ F 69 t = 0) (h3 : ¬ F 70 s = F 70 t) : Ev3 E L 16 mX11_copy [.ref 48, .int (nI s), .int x, .int (nI t), .int y, .int n] F (some (.int (-10 - 4))) (up2 F 48 31 4) := by
  refine Ev3.of okX11_copy.2.2.1 (Nat.le_of_ble_eq_true rfl) ?_
  show R2 E L mX11_copy 16 0 [some (.ref 48), some (.int (nI s)), some (.int x), some (.int (nI t)), some (.int y), some (.int n), none] [] F _
  refine R2.B (ls2 := [some (.ref 48), some (.int (nI s)), some (.int x), some (.int (nI t)), some (.int y), some (.int n), none]) (st2 := [.int (nI s)]) b_X11_copy_0_1 rfl (fun hd => ?_)
  refine R2.callS3 (M2 := mX11_isSheet) (As := [.int (nI s)]) (rest := []) hd lk_11_153 okX11_isSheet (by decide) (me_isSheet E L F (nI s)) (by decide) rfl rfl (Nat.le_of_ble_eq_true rfl) ?_
  refine R2.B (ls2 := [some (.ref 48), some (.int (nI s)), some (.int x), some (.int (nI t)), some (.int y), some (.int n), none]) (st2 := [.int (b2i (0 ≤ (nI s) ∧ (nI s) ≤ 3))]) b_X11_copy_4_4 rfl (fun hd => ?_)
  refine R2.if_eq 14 hd (by decide) (fun c4 => absurd c4 (b2i_nz.mpr ⟨nI_pos' (by omega), (nI_leI (b := 3) (by omega) (by omega)).mpr (by omega)⟩)) (fun c4 => ?_)
  refine R2.B (ls2 := [some (.ref 48), some (.int (nI s)), some (.int x), some (.int (nI t)), some (.int y), some (.int n), none]) (st2 := [.int (nI t)]) b_X11_copy_7_8 rfl (fun hd => ?_)
  refine R2.callS3 (M2 := mX11_isSheet) (As := [.int (nI t)]) (rest := []) hd lk_11_153 okX11_isSheet (by decide) (me_isSheet E L F (nI t)) (by decide) rfl rfl (Nat.le_of_ble_eq_true rfl) ?_
  refine R2.B (ls2 := [some (.ref 48), some (.int (nI s)), some (.int x), some (.int (nI t)), some (.int y), some (.int n), none]) (st2 := [.int (b2i (0 ≤ (nI t) ∧ (nI t) ≤ 3))]) b_X11_copy_11_11 rfl (fun hd => ?_)
  refine R2.if_ne 17 hd (by decide) (fun c11 => ?_) (fun c11 => absurd c11 (b2i_nz.mpr ⟨nI_pos' (by omega), (nI_leI (b := 3) (by omega) (by omega)).mpr (by omega)⟩))
  refine R2.B (ls2 := [some (.ref 48), some (.int (nI s)), some (.int x), some (.int (nI t)), some (.int y), some (.int n), none]) (st2 := [.int (nI s), .ref 69]) b_X11_copy_17_22 rfl (fun hd => ?_)
  refine R2.zald s rfl hd rfl (fun _ => rfl) (by decide) (by omega) ?_
  refine R2.B (ls2 := [some (.ref 48), some (.int (nI s)), some (.int x), some (.int (nI t)), some (.int y), some (.int n), none]) (st2 := [.int (F 69 s)]) b_X11_copy_23_23 rfl (fun hd => ?_)
  refine R2.if_eq 35 hd (by decide) (fun c23 => absurd c23 (h1)) (fun c23 => ?_)
  refine R2.B (ls2 := [some (.ref 48), some (.int (nI s)), some (.int x), some (.int (nI t)), some (.int y), some (.int n), none]) (st2 := [.int (nI t), .ref 69]) b_X11_copy_26_31 rfl (fun hd => ?_)
  refine R2.zald t rfl hd rfl (fun _ => rfl) (by decide) (by omega) ?_
  refine R2.B (ls2 := [some (.ref 48), some (.int (nI s)), some (.int x), some (.int (nI t)), some (.int y), some (.int n), none]) (st2 := [.int (F 69 t)]) b_X11_copy_32_32 rfl (fun hd => ?_)
  refine R2.if_ne 41 hd (by decide) (fun c32 => ?_) (fun c32 => absurd c32 (h2))
  refine R2.B (ls2 := [some (.ref 48), some (.int (nI s)), some (.int x), some (.int (nI t)), some (.int y), some (.int n), none]) (st2 := [.int (nI s), .ref 70]) b_X11_copy_41_46 rfl (fun hd => ?_)
  refine R2.iald s rfl hd rfl (fun _ => rfl) (by decide) (by omega) ?_
  refine R2.B (ls2 := [some (.ref 48), some (.int (nI s)), some (.int x), some (.int (nI t)), some (.int y), some (.int n), none]) (st2 := [.int (nI t), .ref 70, .int (F 70 s)]) b_X11_copy_47_52 rfl (fun hd => ?_)
  refine R2.iald t rfl hd rfl (fun _ => rfl) (by decide) (by omega) ?_
  refine R2.B (ls2 := [some (.ref 48), some (.int (nI s)), some (.int x), some (.int (nI t)), some (.int y), some (.int n), none]) (st2 := [.int (F 70 t), .int (F 70 s)]) b_X11_copy_53_53 rfl (fun hd => ?_)
  refine R2.icmp_eq 62 hd (by decide) (fun c53 => absurd c53 (h3)) (fun c53 => ?_)
  refine R2.B (ls2 := [some (.ref 48), some (.int (nI s)), some (.int x), some (.int (nI t)), some (.int y), some (.int n), none]) (st2 := [.int 4, .ref 48]) b_X11_copy_56_58 rfl (fun hd => ?_)
  refine R2.callV3 (M2 := mX11_meets) (As := [.int 4]) (rest := []) hd lk_11_156 okX11_meets (by decide) rfl (me_meets E L F 4) (by decide) rfl rfl (Nat.le_of_ble_eq_true rfl) ?_
  refine R2.B (ls2 := [some (.ref 48), some (.int (nI s)), some (.int x), some (.int (nI t)), some (.int y), some (.int n), none]) (st2 := [.int (-10 - 4)]) b_X11_copy_61_61 rfl (fun hd => ?_)
  exact R2.ret3 (r := some (.int (-10 - 4))) hd trivial rfl rfl rfl
theorem b_X11_copy_62_63 : bl2 mX11_copy 62 [(.iload_n 2, 1, 2, 0, .null)] 63 (.ifCond .lt 48) 3 = true := by decide +kernel
theorem b_X11_copy_111_113 : bl2 mX11_copy 111 [(.aload_n 0, 1, 0, 0, .null), (.iconst 2, 1, 0, 0, .int 2)] 113 (.invokevirtual 156) 3 = true := by decide +kernel
theorem b_X11_copy_116_116 : bl2 mX11_copy 116 [] 116 (.ireturn) 1 = true := by decide +kernel
theorem b_X11_copy_66_68 : bl2 mX11_copy 66 [(.iload 4, 2, 4, 0, .null)] 68 (.ifCond .lt 43) 3 = true := by decide +kernel
theorem b_X11_copy_71_73 : bl2 mX11_copy 71 [(.iload 5, 2, 5, 0, .null)] 73 (.ifCond .lt 38) 3 = true := by decide +kernel
theorem b_X11_copy_76_87 : bl2 mX11_copy 76 [(.iload_n 2, 1, 2, 0, .null), (.i2l, 1, 0, 0, .null), (.iload 5, 2, 5, 0, .null), (.i2l, 1, 0, 0, .null), (.ladd, 1, 0, 0, .null), (.aload_n 0, 1, 0, 0, .null), (.getfield 77, 3, 11, 28, .null), (.iload_n 1, 1, 1, 0, .null)] 87 (.iaload) 1 = true := by decide +kernel
theorem b_X11_copy_88_90 : bl2 mX11_copy 88 [(.i2l, 1, 0, 0, .null), (.lcmp, 1, 0, 0, .null)] 90 (.ifCond .gt 21) 3 = true := by decide +kernel
theorem b_X11_copy_93_105 : bl2 mX11_copy 93 [(.iload 4, 2, 4, 0, .null), (.i2l, 1, 0, 0, .null), (.iload 5, 2, 5, 0, .null), (.i2l, 1, 0, 0, .null), (.ladd, 1, 0, 0, .null), (.aload_n 0, 1, 0, 0, .null), (.getfield 77, 3, 11, 28, .null), (.iload_n 3, 1, 3, 0, .null)] 105 (.iaload) 1 = true := by decide +kernel
theorem b_X11_copy_106_108 : bl2 mX11_copy 106 [(.i2l, 1, 0, 0, .null), (.lcmp, 1, 0, 0, .null)] 108 (.ifCond .le 9) 3 = true := by decide +kernel
theorem b_X11_copy_117_117 : bl2 mX11_copy 117 [] 117 (.iconst 0) 1 = true := by decide +kernel
set_option maxRecDepth 20000 in
set_option maxHeartbeats 1000000 in
theorem y_copy_index (E : EE) (L : Nat) (F : FF) (s : Nat) (hs4 : s < 4) (t : Nat) (ht4 : t < 4) (x y n : Int32) (h1 : ¬ F 69 s = 0) (h2 : ¬ F 69 t = 0) (h3 : F 70 s = F 70 t) (z : Nat) (hz : F 71 s = nI z) (hz60 : z ≤ 60) (u : Nat) (hu : F 71 t = nI u) (hu60 : u ≤ 60) (h : ¬ (0 ≤ x ∧ 0 ≤ n ∧ x ≤ F 71 s - n) ∨ ¬ (0 ≤ y ∧ 0 ≤ n ∧ y ≤ F 71 t - n)) : Ev3 E L 16 mX11_copy [.ref 48, .int (nI s), .int x, .int (nI t), .int y, .int n] F (some (.int (-10 - 2))) (up2 F 48 31 2) := by
  refine Ev3.of okX11_copy.2.2.1 (Nat.le_of_ble_eq_true rfl) ?_
  show R2 E L mX11_copy 16 0 [some (.ref 48), some (.int (nI s)), some (.int x), some (.int (nI t)), some (.int y), some (.int n), none] [] F _
  refine R2.B (ls2 := [some (.ref 48), some (.int (nI s)), some (.int x), some (.int (nI t)), some (.int y), some (.int n), none]) (st2 := [.int (nI s)]) b_X11_copy_0_1 rfl (fun hd => ?_)
  refine R2.callS3 (M2 := mX11_isSheet) (As := [.int (nI s)]) (rest := []) hd lk_11_153 okX11_isSheet (by decide) (me_isSheet E L F (nI s)) (by decide) rfl rfl (Nat.le_of_ble_eq_true rfl) ?_
  refine R2.B (ls2 := [some (.ref 48), some (.int (nI s)), some (.int x), some (.int (nI t)), some (.int y), some (.int n), none]) (st2 := [.int (b2i (0 ≤ (nI s) ∧ (nI s) ≤ 3))]) b_X11_copy_4_4 rfl (fun hd => ?_)
  refine R2.if_eq 14 hd (by decide) (fun c4 => absurd c4 (b2i_nz.mpr ⟨nI_pos' (by omega), (nI_leI (b := 3) (by omega) (by omega)).mpr (by omega)⟩)) (fun c4 => ?_)
  refine R2.B (ls2 := [some (.ref 48), some (.int (nI s)), some (.int x), some (.int (nI t)), some (.int y), some (.int n), none]) (st2 := [.int (nI t)]) b_X11_copy_7_8 rfl (fun hd => ?_)
  refine R2.callS3 (M2 := mX11_isSheet) (As := [.int (nI t)]) (rest := []) hd lk_11_153 okX11_isSheet (by decide) (me_isSheet E L F (nI t)) (by decide) rfl rfl (Nat.le_of_ble_eq_true rfl) ?_
  refine R2.B (ls2 := [some (.ref 48), some (.int (nI s)), some (.int x), some (.int (nI t)), some (.int y), some (.int n), none]) (st2 := [.int (b2i (0 ≤ (nI t) ∧ (nI t) ≤ 3))]) b_X11_copy_11_11 rfl (fun hd => ?_)
  refine R2.if_ne 17 hd (by decide) (fun c11 => ?_) (fun c11 => absurd c11 (b2i_nz.mpr ⟨nI_pos' (by omega), (nI_leI (b := 3) (by omega) (by omega)).mpr (by omega)⟩))
  refine R2.B (ls2 := [some (.ref 48), some (.int (nI s)), some (.int x), some (.int (nI t)), some (.int y), some (.int n), none]) (st2 := [.int (nI s), .ref 69]) b_X11_copy_17_22 rfl (fun hd => ?_)
  refine R2.zald s rfl hd rfl (fun _ => rfl) (by decide) (by omega) ?_
  refine R2.B (ls2 := [some (.ref 48), some (.int (nI s)), some (.int x), some (.int (nI t)), some (.int y), some (.int n), none]) (st2 := [.int (F 69 s)]) b_X11_copy_23_23 rfl (fun hd => ?_)
  refine R2.if_eq 35 hd (by decide) (fun c23 => absurd c23 (h1)) (fun c23 => ?_)
  refine R2.B (ls2 := [some (.ref 48), some (.int (nI s)), some (.int x), some (.int (nI t)), some (.int y), some (.int n), none]) (st2 := [.int (nI t), .ref 69]) b_X11_copy_26_31 rfl (fun hd => ?_)
  refine R2.zald t rfl hd rfl (fun _ => rfl) (by decide) (by omega) ?_
  refine R2.B (ls2 := [some (.ref 48), some (.int (nI s)), some (.int x), some (.int (nI t)), some (.int y), some (.int n), none]) (st2 := [.int (F 69 t)]) b_X11_copy_32_32 rfl (fun hd => ?_)
  refine R2.if_ne 41 hd (by decide) (fun c32 => ?_) (fun c32 => absurd c32 (h2))
  refine R2.B (ls2 := [some (.ref 48), some (.int (nI s)), some (.int x), some (.int (nI t)), some (.int y), some (.int n), none]) (st2 := [.int (nI s), .ref 70]) b_X11_copy_41_46 rfl (fun hd => ?_)
  refine R2.iald s rfl hd rfl (fun _ => rfl) (by decide) (by omega) ?_
  refine R2.B (ls2 := [some (.ref 48), some (.int (nI s)), some (.int x), some (.int (nI t)), some (.int y), some (.int n), none]) (st2 := [.int (nI t), .ref 70, .int (F 70 s)]) b_X11_copy_47_52 rfl (fun hd => ?_)
  refine R2.iald t rfl hd rfl (fun _ => rfl) (by decide) (by omega) ?_
  refine R2.B (ls2 := [some (.ref 48), some (.int (nI s)), some (.int x), some (.int (nI t)), some (.int y), some (.int n), none]) (st2 := [.int (F 70 t), .int (F 70 s)]) b_X11_copy_53_53 rfl (fun hd => ?_)
  refine R2.icmp_eq 62 hd (by decide) (fun c53 => ?_) (fun c53 => absurd (h3) c53)
  refine R2.B (ls2 := [some (.ref 48), some (.int (nI s)), some (.int x), some (.int (nI t)), some (.int y), some (.int n), none]) (st2 := [.int x]) b_X11_copy_62_63 rfl (fun hd => ?_)
  refine R2.if_lt 111 hd (by decide) (fun c63 => ?_) (fun c63 => ?_)
  · refine R2.B (ls2 := [some (.ref 48), some (.int (nI s)), some (.int x), some (.int (nI t)), some (.int y), some (.int n), none]) (st2 := [.int 2, .ref 48]) b_X11_copy_111_113 rfl (fun hd => ?_)
    refine R2.callV3 (M2 := mX11_meets) (As := [.int 2]) (rest := []) hd lk_11_156 okX11_meets (by decide) rfl (me_meets E L F 2) (by decide) rfl rfl (Nat.le_of_ble_eq_true rfl) ?_
    refine R2.B (ls2 := [some (.ref 48), some (.int (nI s)), some (.int x), some (.int (nI t)), some (.int y), some (.int n), none]) (st2 := [.int (-10 - 2)]) b_X11_copy_116_116 rfl (fun hd => ?_)
    exact R2.ret3 (r := some (.int (-10 - 2))) hd trivial rfl rfl rfl
  · refine R2.B (ls2 := [some (.ref 48), some (.int (nI s)), some (.int x), some (.int (nI t)), some (.int y), some (.int n), none]) (st2 := [.int y]) b_X11_copy_66_68 rfl (fun hd => ?_)
    refine R2.if_lt 111 hd (by decide) (fun c68 => ?_) (fun c68 => ?_)
    · refine R2.B (ls2 := [some (.ref 48), some (.int (nI s)), some (.int x), some (.int (nI t)), some (.int y), some (.int n), none]) (st2 := [.int 2, .ref 48]) b_X11_copy_111_113 rfl (fun hd => ?_)
      refine R2.callV3 (M2 := mX11_meets) (As := [.int 2]) (rest := []) hd lk_11_156 okX11_meets (by decide) rfl (me_meets E L F 2) (by decide) rfl rfl (Nat.le_of_ble_eq_true rfl) ?_
      refine R2.B (ls2 := [some (.ref 48), some (.int (nI s)), some (.int x), some (.int (nI t)), some (.int y), some (.int n), none]) (st2 := [.int (-10 - 2)]) b_X11_copy_116_116 rfl (fun hd => ?_)
      exact R2.ret3 (r := some (.int (-10 - 2))) hd trivial rfl rfl rfl
    · refine R2.B (ls2 := [some (.ref 48), some (.int (nI s)), some (.int x), some (.int (nI t)), some (.int y), some (.int n), none]) (st2 := [.int n]) b_X11_copy_71_73 rfl (fun hd => ?_)
      refine R2.if_lt 111 hd (by decide) (fun c73 => ?_) (fun c73 => ?_)
      · refine R2.B (ls2 := [some (.ref 48), some (.int (nI s)), some (.int x), some (.int (nI t)), some (.int y), some (.int n), none]) (st2 := [.int 2, .ref 48]) b_X11_copy_111_113 rfl (fun hd => ?_)
        refine R2.callV3 (M2 := mX11_meets) (As := [.int 2]) (rest := []) hd lk_11_156 okX11_meets (by decide) rfl (me_meets E L F 2) (by decide) rfl rfl (Nat.le_of_ble_eq_true rfl) ?_
        refine R2.B (ls2 := [some (.ref 48), some (.int (nI s)), some (.int x), some (.int (nI t)), some (.int y), some (.int n), none]) (st2 := [.int (-10 - 2)]) b_X11_copy_116_116 rfl (fun hd => ?_)
        exact R2.ret3 (r := some (.int (-10 - 2))) hd trivial rfl rfl rfl
      · refine R2.B (ls2 := [some (.ref 48), some (.int (nI s)), some (.int x), some (.int (nI t)), some (.int y), some (.int n), none]) (st2 := [.int (nI s), .ref 71, .long ((Int32.toInt64 x) + (Int32.toInt64 n))]) b_X11_copy_76_87 rfl (fun hd => ?_)
        refine R2.iald s rfl hd rfl (fun _ => rfl) (by decide) (by omega) ?_
        refine R2.B (ls2 := [some (.ref 48), some (.int (nI s)), some (.int x), some (.int (nI t)), some (.int y), some (.int n), none]) (st2 := [.int (lg_cmp ((Int32.toInt64 x) + (Int32.toInt64 n)) (Int32.toInt64 (F 71 s)))]) b_X11_copy_88_90 rfl (fun hd => ?_)
        refine R2.if_gt 111 hd (by decide) (fun c90 => ?_) (fun c90 => ?_)
        · refine R2.B (ls2 := [some (.ref 48), some (.int (nI s)), some (.int x), some (.int (nI t)), some (.int y), some (.int n), none]) (st2 := [.int 2, .ref 48]) b_X11_copy_111_113 rfl (fun hd => ?_)
          refine R2.callV3 (M2 := mX11_meets) (As := [.int 2]) (rest := []) hd lk_11_156 okX11_meets (by decide) rfl (me_meets E L F 2) (by decide) rfl rfl (Nat.le_of_ble_eq_true rfl) ?_
          refine R2.B (ls2 := [some (.ref 48), some (.int (nI s)), some (.int x), some (.int (nI t)), some (.int y), some (.int n), none]) (st2 := [.int (-10 - 2)]) b_X11_copy_116_116 rfl (fun hd => ?_)
          exact R2.ret3 (r := some (.int (-10 - 2))) hd trivial rfl rfl rfl
        · refine R2.B (ls2 := [some (.ref 48), some (.int (nI s)), some (.int x), some (.int (nI t)), some (.int y), some (.int n), none]) (st2 := [.int (nI t), .ref 71, .long ((Int32.toInt64 y) + (Int32.toInt64 n))]) b_X11_copy_93_105 rfl (fun hd => ?_)
          refine R2.iald t rfl hd rfl (fun _ => rfl) (by decide) (by omega) ?_
          refine R2.B (ls2 := [some (.ref 48), some (.int (nI s)), some (.int x), some (.int (nI t)), some (.int y), some (.int n), none]) (st2 := [.int (lg_cmp ((Int32.toInt64 y) + (Int32.toInt64 n)) (Int32.toInt64 (F 71 t)))]) b_X11_copy_106_108 rfl (fun hd => ?_)
          refine R2.if_le 117 hd (by decide) (fun c108 => ?_) (fun c108 => ?_)
          · refine R2.B (ls2 := [some (.ref 48), some (.int (nI s)), some (.int x), some (.int (nI t)), some (.int y), some (.int n), none]) (st2 := []) b_X11_copy_117_117 rfl (fun hd => ?_)
            exact (h.elim (fun z9 => z9 ⟨Int32.not_lt.mp c63, Int32.not_lt.mp c73, (cmp_of hz hz60 c63 c73).mp (Int64.not_lt.mp (fun q9 => c90 ((lg_cmp_gt _ _).mpr q9)))⟩) (fun z9 => z9 ⟨Int32.not_lt.mp c68, Int32.not_lt.mp c73, (cmp_of hu hu60 c68 c73).mp ((lg_cmp_le _ _).mp c108)⟩)).elim
          · refine R2.B (ls2 := [some (.ref 48), some (.int (nI s)), some (.int x), some (.int (nI t)), some (.int y), some (.int n), none]) (st2 := [.int 2, .ref 48]) b_X11_copy_111_113 rfl (fun hd => ?_)
            refine R2.callV3 (M2 := mX11_meets) (As := [.int 2]) (rest := []) hd lk_11_156 okX11_meets (by decide) rfl (me_meets E L F 2) (by decide) rfl rfl (Nat.le_of_ble_eq_true rfl) ?_
            refine R2.B (ls2 := [some (.ref 48), some (.int (nI s)), some (.int x), some (.int (nI t)), some (.int y), some (.int n), none]) (st2 := [.int (-10 - 2)]) b_X11_copy_116_116 rfl (fun hd => ?_)
            exact R2.ret3 (r := some (.int (-10 - 2))) hd trivial rfl rfl rfl
theorem b_X11_copy_120_124 : bl2 mX11_copy 120 [(.iload 6, 2, 6, 0, .null), (.iload 5, 2, 5, 0, .null)] 124 (.if_icmp .ge 30) 3 = true := by decide +kernel
theorem b_X11_copy_154_154 : bl2 mX11_copy 154 [] 154 (.iconst 0) 1 = true := by decide +kernel
theorem b_X11_copy_127_146 : bl2 mX11_copy 127 [(.aload_n 0, 1, 0, 0, .null), (.getfield 83, 3, 11, 30, .null), (.iload 6, 2, 6, 0, .null), (.aload_n 0, 1, 0, 0, .null), (.getfield 80, 3, 11, 29, .null), (.bipush 60, 2, 0, 0, .int 60), (.iload_n 1, 1, 1, 0, .null), (.imul, 1, 0, 0, .null), (.iload_n 2, 1, 2, 0, .null), (.iadd, 1, 0, 0, .null), (.iload 6, 2, 6, 0, .null), (.iadd, 1, 0, 0, .null)] 146 (.iaload) 1 = true := by decide +kernel
theorem b_X11_copy_147_147 : bl2 mX11_copy 147 [] 147 (.iastore) 1 = true := by decide +kernel
theorem b_X11_copy_148_120 : bl2 mX11_copy 148 [(.iinc 6 1, 3, 6, 0, .int 1), (.goto (-31), 3, 120, 0, .null)] 120 (.iload 6) 2 = true := by decide +kernel
set_option maxRecDepth 20000 in
set_option maxHeartbeats 2000000 in
theorem ml_mv1 (E : EE) (L : Nat) (s : Nat) (hs4 : s < 4) (a t b q : Nat) (ha : a + q ≤ 60) (hb : b + q ≤ 60) (Q : Q2) : ∀ (k : Nat) (j : Nat) (F : FF), j + k = q → R2 E L mX11_copy 16 154 [some (.ref 48), some (.int (nI s)), some (.int (nI a)), some (.int (nI t)), some (.int (nI b)), some (.int (nI q)), none] [] (mv1 s a k j F) Q → R2 E L mX11_copy 16 120 [some (.ref 48), some (.int (nI s)), some (.int (nI a)), some (.int (nI t)), some (.int (nI b)), some (.int (nI q)), some (.int (nI j))] [] F Q := by
  intro k
  induction k with
  | zero =>
    intro j F hi ex
    refine R2.B (ls2 := [some (.ref 48), some (.int (nI s)), some (.int (nI a)), some (.int (nI t)), some (.int (nI b)), some (.int (nI q)), some (.int (nI j))]) (st2 := [.int (nI q), .int (nI j)]) b_X11_copy_120_124 rfl (fun hd => ?_)
    refine R2.icmp_ge 154 hd (by decide) (fun c124 => ?_) (fun c124 => absurd (nI_le (by omega) (by omega)) c124)
    refine R2.B (ls2 := [some (.ref 48), some (.int (nI s)), some (.int (nI a)), some (.int (nI t)), some (.int (nI b)), some (.int (nI q)), some (.int (nI j))]) (st2 := []) b_X11_copy_154_154 rfl (fun hd => ?_)
    refine R2.forget (ls2 := [some (.ref 48), some (.int (nI s)), some (.int (nI a)), some (.int (nI t)), some (.int (nI b)), some (.int (nI q)), none]) ⟨rfl, ⟨rfl, ⟨rfl, ⟨rfl, ⟨rfl, ⟨rfl, trivial⟩⟩⟩⟩⟩⟩ ?_
    exact ex
  | succ k ih =>
    intro j F hi ex
    refine R2.B (ls2 := [some (.ref 48), some (.int (nI s)), some (.int (nI a)), some (.int (nI t)), some (.int (nI b)), some (.int (nI q)), some (.int (nI j))]) (st2 := [.int (nI q), .int (nI j)]) b_X11_copy_120_124 rfl (fun hd => ?_)
    refine R2.icmp_ge 154 hd (by decide) (fun c124 => absurd c124 (nI_ge (by omega) (by omega))) (fun c124 => ?_)
    refine R2.B (ls2 := [some (.ref 48), some (.int (nI s)), some (.int (nI a)), some (.int (nI t)), some (.int (nI b)), some (.int (nI q)), some (.int (nI j))]) (st2 := [.int (((60 * (nI s)) + (nI a)) + (nI j)), .ref 72, .int (nI j), .ref 73]) b_X11_copy_127_146 rfl (fun hd => ?_)
    refine R2.iald (60 * s + a + j) (ix60b s a j) hd rfl (fun _ => rfl) (by decide) (by omega) ?_
    refine R2.B (ls2 := [some (.ref 48), some (.int (nI s)), some (.int (nI a)), some (.int (nI t)), some (.int (nI b)), some (.int (nI q)), some (.int (nI j))]) (st2 := [.int (F 72 (60 * s + a + j)), .int (nI j), .ref 73]) b_X11_copy_147_147 rfl (fun hd => ?_)
    refine R2.iast j rfl hd (by decide) rfl (fun _ => rfl) (by decide) (by omega) ?_
    refine R2.B (ls2 := [some (.ref 48), some (.int (nI s)), some (.int (nI a)), some (.int (nI t)), some (.int (nI b)), some (.int (nI q)), some (.int ((nI j) + 1))]) (st2 := []) b_X11_copy_148_120 rfl (fun hd => ?_)
    rw [show ((nI j) + 1 : Int32) = nI (j + 1) from nI_add j 1]
    exact ih (j + 1) _ (by omega) ex
theorem b_X11_copy_157_161 : bl2 mX11_copy 157 [(.iload 6, 2, 6, 0, .null), (.iload 5, 2, 5, 0, .null)] 161 (.if_icmp .ge 31) 3 = true := by decide +kernel
theorem b_X11_copy_192_193 : bl2 mX11_copy 192 [(.iconst 1, 1, 0, 0, .int 1)] 193 (.ireturn) 1 = true := by decide +kernel
theorem b_X11_copy_164_184 : bl2 mX11_copy 164 [(.aload_n 0, 1, 0, 0, .null), (.getfield 80, 3, 11, 29, .null), (.bipush 60, 2, 0, 0, .int 60), (.iload_n 3, 1, 3, 0, .null), (.imul, 1, 0, 0, .null), (.iload 4, 2, 4, 0, .null), (.iadd, 1, 0, 0, .null), (.iload 6, 2, 6, 0, .null), (.iadd, 1, 0, 0, .null), (.aload_n 0, 1, 0, 0, .null), (.getfield 83, 3, 11, 30, .null), (.iload 6, 2, 6, 0, .null)] 184 (.iaload) 1 = true := by decide +kernel
theorem b_X11_copy_185_185 : bl2 mX11_copy 185 [] 185 (.iastore) 1 = true := by decide +kernel
theorem b_X11_copy_186_157 : bl2 mX11_copy 186 [(.iinc 6 1, 3, 6, 0, .int 1), (.goto (-32), 3, 157, 0, .null)] 157 (.iload 6) 2 = true := by decide +kernel
set_option maxRecDepth 20000 in
set_option maxHeartbeats 2000000 in
theorem ml_mv2 (E : EE) (L : Nat) (s : Nat) (t : Nat) (ht4 : t < 4) (a b q : Nat) (ha : a + q ≤ 60) (hb : b + q ≤ 60) : ∀ (k : Nat) (j : Nat) (F : FF), j + k = q → R2 E L mX11_copy 16 157 [some (.ref 48), some (.int (nI s)), some (.int (nI a)), some (.int (nI t)), some (.int (nI b)), some (.int (nI q)), some (.int (nI j))] [] F (fun r' F' => r' = some (.int 1) ∧ F' = mv2 t b k j F) := by
  intro k
  induction k with
  | zero =>
    intro j F hi
    refine R2.B (ls2 := [some (.ref 48), some (.int (nI s)), some (.int (nI a)), some (.int (nI t)), some (.int (nI b)), some (.int (nI q)), some (.int (nI j))]) (st2 := [.int (nI q), .int (nI j)]) b_X11_copy_157_161 rfl (fun hd => ?_)
    refine R2.icmp_ge 192 hd (by decide) (fun c161 => ?_) (fun c161 => absurd (nI_le (by omega) (by omega)) c161)
    refine R2.B (ls2 := [some (.ref 48), some (.int (nI s)), some (.int (nI a)), some (.int (nI t)), some (.int (nI b)), some (.int (nI q)), some (.int (nI j))]) (st2 := [.int 1]) b_X11_copy_192_193 rfl (fun hd => ?_)
    exact R2.ret3 (r := some (.int 1)) hd trivial rfl rfl rfl
  | succ k ih =>
    intro j F hi
    refine R2.B (ls2 := [some (.ref 48), some (.int (nI s)), some (.int (nI a)), some (.int (nI t)), some (.int (nI b)), some (.int (nI q)), some (.int (nI j))]) (st2 := [.int (nI q), .int (nI j)]) b_X11_copy_157_161 rfl (fun hd => ?_)
    refine R2.icmp_ge 192 hd (by decide) (fun c161 => absurd c161 (nI_ge (by omega) (by omega))) (fun c161 => ?_)
    refine R2.B (ls2 := [some (.ref 48), some (.int (nI s)), some (.int (nI a)), some (.int (nI t)), some (.int (nI b)), some (.int (nI q)), some (.int (nI j))]) (st2 := [.int (nI j), .ref 73, .int (((60 * (nI t)) + (nI b)) + (nI j)), .ref 72]) b_X11_copy_164_184 rfl (fun hd => ?_)
    refine R2.iald j rfl hd rfl (fun _ => rfl) (by decide) (by omega) ?_
    refine R2.B (ls2 := [some (.ref 48), some (.int (nI s)), some (.int (nI a)), some (.int (nI t)), some (.int (nI b)), some (.int (nI q)), some (.int (nI j))]) (st2 := [.int (F 73 j), .int (((60 * (nI t)) + (nI b)) + (nI j)), .ref 72]) b_X11_copy_185_185 rfl (fun hd => ?_)
    refine R2.iast (60 * t + b + j) (ix60b t b j) hd (by decide) rfl (fun _ => rfl) (by decide) (by omega) ?_
    refine R2.B (ls2 := [some (.ref 48), some (.int (nI s)), some (.int (nI a)), some (.int (nI t)), some (.int (nI b)), some (.int (nI q)), some (.int ((nI j) + 1))]) (st2 := []) b_X11_copy_186_157 rfl (fun hd => ?_)
    rw [show ((nI j) + 1 : Int32) = nI (j + 1) from nI_add j 1]
    exact ih (j + 1) _ (by omega)
theorem b_X11_copy_117_120 : bl2 mX11_copy 117 [(.iconst 0, 1, 0, 0, .int 0), (.istore 6, 2, 6, 0, .null)] 120 (.iload 6) 2 = true := by decide +kernel
theorem b_X11_copy_154_157 : bl2 mX11_copy 154 [(.iconst 0, 1, 0, 0, .int 0), (.istore 6, 2, 6, 0, .null)] 157 (.iload 6) 2 = true := by decide +kernel
set_option maxRecDepth 20000 in
set_option maxHeartbeats 1000000 in
theorem y_copy (E : EE) (L : Nat) (F : FF) (s : Nat) (hs4 : s < 4) (t : Nat) (ht4 : t < 4) (a b q : Nat) (h1 : ¬ F 69 s = 0) (h2 : ¬ F 69 t = 0) (h3 : F 70 s = F 70 t) (z : Nat) (hz : F 71 s = nI z) (hz60 : z ≤ 60) (u : Nat) (hu : F 71 t = nI u) (hu60 : u ≤ 60) (ha : a + q ≤ z) (hb : b + q ≤ u) : Ev3 E L 16 mX11_copy [.ref 48, .int (nI s), .int (nI a), .int (nI t), .int (nI b), .int (nI q)] F (some (.int (1))) (mv2 t b q 0 (mv1 s a q 0 F)) := by
  refine Ev3.of okX11_copy.2.2.1 (Nat.le_of_ble_eq_true rfl) ?_
  show R2 E L mX11_copy 16 0 [some (.ref 48), some (.int (nI s)), some (.int (nI a)), some (.int (nI t)), some (.int (nI b)), some (.int (nI q)), none] [] F _
  refine R2.B (ls2 := [some (.ref 48), some (.int (nI s)), some (.int (nI a)), some (.int (nI t)), some (.int (nI b)), some (.int (nI q)), none]) (st2 := [.int (nI s)]) b_X11_copy_0_1 rfl (fun hd => ?_)
  refine R2.callS3 (M2 := mX11_isSheet) (As := [.int (nI s)]) (rest := []) hd lk_11_153 okX11_isSheet (by decide) (me_isSheet E L F (nI s)) (by decide) rfl rfl (Nat.le_of_ble_eq_true rfl) ?_
  refine R2.B (ls2 := [some (.ref 48), some (.int (nI s)), some (.int (nI a)), some (.int (nI t)), some (.int (nI b)), some (.int (nI q)), none]) (st2 := [.int (b2i (0 ≤ (nI s) ∧ (nI s) ≤ 3))]) b_X11_copy_4_4 rfl (fun hd => ?_)
  refine R2.if_eq 14 hd (by decide) (fun c4 => absurd c4 (b2i_nz.mpr ⟨nI_pos' (by omega), (nI_leI (b := 3) (by omega) (by omega)).mpr (by omega)⟩)) (fun c4 => ?_)
  refine R2.B (ls2 := [some (.ref 48), some (.int (nI s)), some (.int (nI a)), some (.int (nI t)), some (.int (nI b)), some (.int (nI q)), none]) (st2 := [.int (nI t)]) b_X11_copy_7_8 rfl (fun hd => ?_)
  refine R2.callS3 (M2 := mX11_isSheet) (As := [.int (nI t)]) (rest := []) hd lk_11_153 okX11_isSheet (by decide) (me_isSheet E L F (nI t)) (by decide) rfl rfl (Nat.le_of_ble_eq_true rfl) ?_
  refine R2.B (ls2 := [some (.ref 48), some (.int (nI s)), some (.int (nI a)), some (.int (nI t)), some (.int (nI b)), some (.int (nI q)), none]) (st2 := [.int (b2i (0 ≤ (nI t) ∧ (nI t) ≤ 3))]) b_X11_copy_11_11 rfl (fun hd => ?_)
  refine R2.if_ne 17 hd (by decide) (fun c11 => ?_) (fun c11 => absurd c11 (b2i_nz.mpr ⟨nI_pos' (by omega), (nI_leI (b := 3) (by omega) (by omega)).mpr (by omega)⟩))
  refine R2.B (ls2 := [some (.ref 48), some (.int (nI s)), some (.int (nI a)), some (.int (nI t)), some (.int (nI b)), some (.int (nI q)), none]) (st2 := [.int (nI s), .ref 69]) b_X11_copy_17_22 rfl (fun hd => ?_)
  refine R2.zald s rfl hd rfl (fun _ => rfl) (by decide) (by omega) ?_
  refine R2.B (ls2 := [some (.ref 48), some (.int (nI s)), some (.int (nI a)), some (.int (nI t)), some (.int (nI b)), some (.int (nI q)), none]) (st2 := [.int (F 69 s)]) b_X11_copy_23_23 rfl (fun hd => ?_)
  refine R2.if_eq 35 hd (by decide) (fun c23 => absurd c23 (h1)) (fun c23 => ?_)
  refine R2.B (ls2 := [some (.ref 48), some (.int (nI s)), some (.int (nI a)), some (.int (nI t)), some (.int (nI b)), some (.int (nI q)), none]) (st2 := [.int (nI t), .ref 69]) b_X11_copy_26_31 rfl (fun hd => ?_)
  refine R2.zald t rfl hd rfl (fun _ => rfl) (by decide) (by omega) ?_
  refine R2.B (ls2 := [some (.ref 48), some (.int (nI s)), some (.int (nI a)), some (.int (nI t)), some (.int (nI b)), some (.int (nI q)), none]) (st2 := [.int (F 69 t)]) b_X11_copy_32_32 rfl (fun hd => ?_)
  refine R2.if_ne 41 hd (by decide) (fun c32 => ?_) (fun c32 => absurd c32 (h2))
  refine R2.B (ls2 := [some (.ref 48), some (.int (nI s)), some (.int (nI a)), some (.int (nI t)), some (.int (nI b)), some (.int (nI q)), none]) (st2 := [.int (nI s), .ref 70]) b_X11_copy_41_46 rfl (fun hd => ?_)
  refine R2.iald s rfl hd rfl (fun _ => rfl) (by decide) (by omega) ?_
  refine R2.B (ls2 := [some (.ref 48), some (.int (nI s)), some (.int (nI a)), some (.int (nI t)), some (.int (nI b)), some (.int (nI q)), none]) (st2 := [.int (nI t), .ref 70, .int (F 70 s)]) b_X11_copy_47_52 rfl (fun hd => ?_)
  refine R2.iald t rfl hd rfl (fun _ => rfl) (by decide) (by omega) ?_
  refine R2.B (ls2 := [some (.ref 48), some (.int (nI s)), some (.int (nI a)), some (.int (nI t)), some (.int (nI b)), some (.int (nI q)), none]) (st2 := [.int (F 70 t), .int (F 70 s)]) b_X11_copy_53_53 rfl (fun hd => ?_)
  refine R2.icmp_eq 62 hd (by decide) (fun c53 => ?_) (fun c53 => absurd (h3) c53)
  refine R2.B (ls2 := [some (.ref 48), some (.int (nI s)), some (.int (nI a)), some (.int (nI t)), some (.int (nI b)), some (.int (nI q)), none]) (st2 := [.int (nI a)]) b_X11_copy_62_63 rfl (fun hd => ?_)
  refine R2.if_lt 111 hd (by decide) (fun c63 => absurd c63 (nI_pos (by omega))) (fun c63 => ?_)
  refine R2.B (ls2 := [some (.ref 48), some (.int (nI s)), some (.int (nI a)), some (.int (nI t)), some (.int (nI b)), some (.int (nI q)), none]) (st2 := [.int (nI b)]) b_X11_copy_66_68 rfl (fun hd => ?_)
  refine R2.if_lt 111 hd (by decide) (fun c68 => absurd c68 (nI_pos (by omega))) (fun c68 => ?_)
  refine R2.B (ls2 := [some (.ref 48), some (.int (nI s)), some (.int (nI a)), some (.int (nI t)), some (.int (nI b)), some (.int (nI q)), none]) (st2 := [.int (nI q)]) b_X11_copy_71_73 rfl (fun hd => ?_)
  refine R2.if_lt 111 hd (by decide) (fun c73 => absurd c73 (nI_pos (by omega))) (fun c73 => ?_)
  refine R2.B (ls2 := [some (.ref 48), some (.int (nI s)), some (.int (nI a)), some (.int (nI t)), some (.int (nI b)), some (.int (nI q)), none]) (st2 := [.int (nI s), .ref 71, .long ((Int32.toInt64 (nI a)) + (Int32.toInt64 (nI q)))]) b_X11_copy_76_87 rfl (fun hd => ?_)
  refine R2.iald s rfl hd rfl (fun _ => rfl) (by decide) (by omega) ?_
  refine R2.B (ls2 := [some (.ref 48), some (.int (nI s)), some (.int (nI a)), some (.int (nI t)), some (.int (nI b)), some (.int (nI q)), none]) (st2 := [.int (lg_cmp ((Int32.toInt64 (nI a)) + (Int32.toInt64 (nI q))) (Int32.toInt64 (F 71 s)))]) b_X11_copy_88_90 rfl (fun hd => ?_)
  refine R2.if_gt 111 hd (by decide) (fun c90 => absurd c90 ((fun z9 => Int64.not_lt.mpr (by rw [hz]; exact (cmp_rg (by omega) (by omega) hz60).mpr ha) ((lg_cmp_gt _ _).mp z9)))) (fun c90 => ?_)
  refine R2.B (ls2 := [some (.ref 48), some (.int (nI s)), some (.int (nI a)), some (.int (nI t)), some (.int (nI b)), some (.int (nI q)), none]) (st2 := [.int (nI t), .ref 71, .long ((Int32.toInt64 (nI b)) + (Int32.toInt64 (nI q)))]) b_X11_copy_93_105 rfl (fun hd => ?_)
  refine R2.iald t rfl hd rfl (fun _ => rfl) (by decide) (by omega) ?_
  refine R2.B (ls2 := [some (.ref 48), some (.int (nI s)), some (.int (nI a)), some (.int (nI t)), some (.int (nI b)), some (.int (nI q)), none]) (st2 := [.int (lg_cmp ((Int32.toInt64 (nI b)) + (Int32.toInt64 (nI q))) (Int32.toInt64 (F 71 t)))]) b_X11_copy_106_108 rfl (fun hd => ?_)
  refine R2.if_le 117 hd (by decide) (fun c108 => ?_) (fun c108 => absurd ((lg_cmp_le _ _).mpr (by rw [hu]; exact (cmp_rg (by omega) (by omega) hu60).mpr hb)) c108)
  refine R2.B (ls2 := [some (.ref 48), some (.int (nI s)), some (.int (nI a)), some (.int (nI t)), some (.int (nI b)), some (.int (nI q)), some (.int 0)]) (st2 := []) b_X11_copy_117_120 rfl (fun hd => ?_)
  refine ml_mv1 E L s hs4 a t b q (by omega) (by omega) _ q 0 F (by omega) ?_
  refine R2.B (ls2 := [some (.ref 48), some (.int (nI s)), some (.int (nI a)), some (.int (nI t)), some (.int (nI b)), some (.int (nI q)), some (.int 0)]) (st2 := []) b_X11_copy_154_157 rfl (fun hd => ?_)
  exact ml_mv2 E L s t ht4 a b q (by omega) (by omega) q 0 _ (by omega)
theorem b_X11_count_0_1 : bl2 mX11_count 0 [(.iload_n 1, 1, 1, 0, .null)] 1 (.tableswitch 89 0 8 #[51, 56, 56, 65, 70, 75, 75, 75, 84]) 51 = true := by decide +kernel
theorem b_X11_count_52_53 : bl2 mX11_count 52 [(.aload_n 0, 1, 0, 0, .null)] 53 (.invokevirtual 119) 3 = true := by decide +kernel
theorem b_X11_count_56_56 : bl2 mX11_count 56 [] 56 (.ireturn) 1 = true := by decide +kernel
set_option maxRecDepth 20000 in
set_option maxHeartbeats 1000000 in
theorem y_count0 (E : EE) (L : Nat) (F : FF) (l n : Nat) (hm : MR F l n) : Ev3 E L 8 mX11_count [.ref 48, .int 0] F (some (.int (nI n))) F := by
  refine Ev3.of okX11_count.2.2.1 (Nat.le_of_ble_eq_true rfl) ?_
  show R2 E L mX11_count 8 0 [some (.ref 48), some (.int 0)] [] F _
  refine R2.B (ls2 := [some (.ref 48), some (.int 0)]) (st2 := [.int 0]) b_X11_count_0_1 rfl (fun hd => ?_)
  refine R2.tblIn (off := 51) 52 hd (by decide) (by decide) rfl (by decide) ?_
  refine R2.B (ls2 := [some (.ref 48), some (.int 0)]) (st2 := [.ref 48]) b_X11_count_52_53 rfl (fun hd => ?_)
  refine R2.callV3 (M2 := mX11_peopleNow) (As := []) (rest := []) hd lk_11_119 okX11_peopleNow (by decide) rfl (me_peopleNow E L F l n hm) (by decide) rfl rfl (Nat.le_of_ble_eq_true rfl) ?_
  refine R2.B (ls2 := [some (.ref 48), some (.int 0)]) (st2 := [.int (nI n)]) b_X11_count_56_56 rfl (fun hd => ?_)
  exact R2.ret3 (r := some (.int (nI n))) hd trivial rfl rfl rfl
theorem b_X11_count_66_67 : bl2 mX11_count 66 [(.aload_n 0, 1, 0, 0, .null)] 67 (.invokevirtual 258) 3 = true := by decide +kernel
theorem b_X11_count_70_70 : bl2 mX11_count 70 [] 70 (.ireturn) 1 = true := by decide +kernel
set_option maxRecDepth 20000 in
set_option maxHeartbeats 1000000 in
theorem y_count3 (E : EE) (L : Nat) (F : FF) (l n : Nat) (hm : MR F l n) (l1 : Nat) (hl1 : l1 ≤ 60) (h1 : F 49 1 = nI l1) : Ev3 E L 8 mX11_count [.ref 48, .int 3] F (some (.int ((fds F l1 n).2 48 10))) (fds F l1 n).2 := by
  refine Ev3.of okX11_count.2.2.1 (Nat.le_of_ble_eq_true rfl) ?_
  show R2 E L mX11_count 8 0 [some (.ref 48), some (.int 3)] [] F _
  refine R2.B (ls2 := [some (.ref 48), some (.int 3)]) (st2 := [.int 3]) b_X11_count_0_1 rfl (fun hd => ?_)
  refine R2.tblIn (off := 65) 66 hd (by decide) (by decide) rfl (by decide) ?_
  refine R2.B (ls2 := [some (.ref 48), some (.int 3)]) (st2 := [.ref 48]) b_X11_count_66_67 rfl (fun hd => ?_)
  refine R2.callV3 (M2 := mX11_partsNow) (As := []) (rest := []) hd lk_11_258 okX11_partsNow (by decide) rfl (me_partsNow E L F l n hm l1 hl1 h1) (by decide) rfl rfl (Nat.le_of_ble_eq_true rfl) ?_
  refine R2.B (ls2 := [some (.ref 48), some (.int 3)]) (st2 := [.int ((fds F l1 n).2 48 10)]) b_X11_count_70_70 rfl (fun hd => ?_)
  exact R2.ret3 (r := some (.int ((fds F l1 n).2 48 10))) hd trivial rfl rfl rfl
theorem b_X11_count_57_64 : bl2 mX11_count 57 [(.aload_n 0, 1, 0, 0, .null), (.getfield 7, 3, 11, 0, .null), (.iload_n 1, 1, 1, 0, .null), (.iconst 1, 1, 0, 0, .int 1), (.isub, 1, 0, 0, .null)] 64 (.iaload) 1 = true := by decide +kernel
theorem b_X11_count_65_65 : bl2 mX11_count 65 [] 65 (.ireturn) 1 = true := by decide +kernel
set_option maxRecDepth 20000 in
set_option maxHeartbeats 1000000 in
theorem y_count1 (E : EE) (L : Nat) (F : FF) : Ev3 E L 8 mX11_count [.ref 48, .int 1] F (some (.int (F 49 0))) F := by
  refine Ev3.of okX11_count.2.2.1 (Nat.le_of_ble_eq_true rfl) ?_
  show R2 E L mX11_count 8 0 [some (.ref 48), some (.int 1)] [] F _
  refine R2.B (ls2 := [some (.ref 48), some (.int 1)]) (st2 := [.int 1]) b_X11_count_0_1 rfl (fun hd => ?_)
  refine R2.tblIn (off := 56) 57 hd (by decide) (by decide) rfl (by decide) ?_
  refine R2.B (ls2 := [some (.ref 48), some (.int 1)]) (st2 := [.int (1 - 1), .ref 49]) b_X11_count_57_64 rfl (fun hd => ?_)
  refine R2.iald 0 (by decide) hd rfl (fun _ => rfl) (by decide) (by omega) ?_
  refine R2.B (ls2 := [some (.ref 48), some (.int 1)]) (st2 := [.int (F 49 0)]) b_X11_count_65_65 rfl (fun hd => ?_)
  exact R2.ret3 (r := some (.int (F 49 0))) hd trivial rfl rfl rfl
set_option maxRecDepth 20000 in
set_option maxHeartbeats 1000000 in
theorem y_count2 (E : EE) (L : Nat) (F : FF) : Ev3 E L 8 mX11_count [.ref 48, .int 2] F (some (.int (F 49 1))) F := by
  refine Ev3.of okX11_count.2.2.1 (Nat.le_of_ble_eq_true rfl) ?_
  show R2 E L mX11_count 8 0 [some (.ref 48), some (.int 2)] [] F _
  refine R2.B (ls2 := [some (.ref 48), some (.int 2)]) (st2 := [.int 2]) b_X11_count_0_1 rfl (fun hd => ?_)
  refine R2.tblIn (off := 56) 57 hd (by decide) (by decide) rfl (by decide) ?_
  refine R2.B (ls2 := [some (.ref 48), some (.int 2)]) (st2 := [.int (2 - 1), .ref 49]) b_X11_count_57_64 rfl (fun hd => ?_)
  refine R2.iald 1 (by decide) hd rfl (fun _ => rfl) (by decide) (by omega) ?_
  refine R2.B (ls2 := [some (.ref 48), some (.int 2)]) (st2 := [.int (F 49 1)]) b_X11_count_65_65 rfl (fun hd => ?_)
  exact R2.ret3 (r := some (.int (F 49 1))) hd trivial rfl rfl rfl
theorem b_X11_count_71_75 : bl2 mX11_count 71 [(.aload_n 0, 1, 0, 0, .null), (.getfield 226, 3, 11, 21, .null)] 75 (.ireturn) 1 = true := by decide +kernel
set_option maxRecDepth 20000 in
set_option maxHeartbeats 1000000 in
theorem y_count4 (E : EE) (L : Nat) (F : FF) : Ev3 E L 8 mX11_count [.ref 48, .int 4] F (some (.int (F 48 21))) F := by
  refine Ev3.of okX11_count.2.2.1 (Nat.le_of_ble_eq_true rfl) ?_
  show R2 E L mX11_count 8 0 [some (.ref 48), some (.int 4)] [] F _
  refine R2.B (ls2 := [some (.ref 48), some (.int 4)]) (st2 := [.int 4]) b_X11_count_0_1 rfl (fun hd => ?_)
  refine R2.tblIn (off := 70) 71 hd (by decide) (by decide) rfl (by decide) ?_
  refine R2.B (ls2 := [some (.ref 48), some (.int 4)]) (st2 := [.int (F 48 21)]) b_X11_count_71_75 rfl (fun hd => ?_)
  exact R2.ret3 (r := some (.int (F 48 21))) hd trivial rfl rfl rfl
theorem b_X11_count_76_83 : bl2 mX11_count 76 [(.aload_n 0, 1, 0, 0, .null), (.getfield 16, 3, 11, 2, .null), (.iload_n 1, 1, 1, 0, .null), (.iconst 5, 1, 0, 0, .int 5), (.isub, 1, 0, 0, .null)] 83 (.iaload) 1 = true := by decide +kernel
theorem b_X11_count_84_84 : bl2 mX11_count 84 [] 84 (.ireturn) 1 = true := by decide +kernel
set_option maxRecDepth 20000 in
set_option maxHeartbeats 1000000 in
theorem y_count5 (E : EE) (L : Nat) (F : FF) : Ev3 E L 8 mX11_count [.ref 48, .int 5] F (some (.int (F 51 0))) F := by
  refine Ev3.of okX11_count.2.2.1 (Nat.le_of_ble_eq_true rfl) ?_
  show R2 E L mX11_count 8 0 [some (.ref 48), some (.int 5)] [] F _
  refine R2.B (ls2 := [some (.ref 48), some (.int 5)]) (st2 := [.int 5]) b_X11_count_0_1 rfl (fun hd => ?_)
  refine R2.tblIn (off := 75) 76 hd (by decide) (by decide) rfl (by decide) ?_
  refine R2.B (ls2 := [some (.ref 48), some (.int 5)]) (st2 := [.int (5 - 5), .ref 51]) b_X11_count_76_83 rfl (fun hd => ?_)
  refine R2.iald 0 (by decide) hd rfl (fun _ => rfl) (by decide) (by omega) ?_
  refine R2.B (ls2 := [some (.ref 48), some (.int 5)]) (st2 := [.int (F 51 0)]) b_X11_count_84_84 rfl (fun hd => ?_)
  exact R2.ret3 (r := some (.int (F 51 0))) hd trivial rfl rfl rfl
set_option maxRecDepth 20000 in
set_option maxHeartbeats 1000000 in
theorem y_count6 (E : EE) (L : Nat) (F : FF) : Ev3 E L 8 mX11_count [.ref 48, .int 6] F (some (.int (F 51 1))) F := by
  refine Ev3.of okX11_count.2.2.1 (Nat.le_of_ble_eq_true rfl) ?_
  show R2 E L mX11_count 8 0 [some (.ref 48), some (.int 6)] [] F _
  refine R2.B (ls2 := [some (.ref 48), some (.int 6)]) (st2 := [.int 6]) b_X11_count_0_1 rfl (fun hd => ?_)
  refine R2.tblIn (off := 75) 76 hd (by decide) (by decide) rfl (by decide) ?_
  refine R2.B (ls2 := [some (.ref 48), some (.int 6)]) (st2 := [.int (6 - 5), .ref 51]) b_X11_count_76_83 rfl (fun hd => ?_)
  refine R2.iald 1 (by decide) hd rfl (fun _ => rfl) (by decide) (by omega) ?_
  refine R2.B (ls2 := [some (.ref 48), some (.int 6)]) (st2 := [.int (F 51 1)]) b_X11_count_84_84 rfl (fun hd => ?_)
  exact R2.ret3 (r := some (.int (F 51 1))) hd trivial rfl rfl rfl
set_option maxRecDepth 20000 in
set_option maxHeartbeats 1000000 in
theorem y_count7 (E : EE) (L : Nat) (F : FF) : Ev3 E L 8 mX11_count [.ref 48, .int 7] F (some (.int (F 51 2))) F := by
  refine Ev3.of okX11_count.2.2.1 (Nat.le_of_ble_eq_true rfl) ?_
  show R2 E L mX11_count 8 0 [some (.ref 48), some (.int 7)] [] F _
  refine R2.B (ls2 := [some (.ref 48), some (.int 7)]) (st2 := [.int 7]) b_X11_count_0_1 rfl (fun hd => ?_)
  refine R2.tblIn (off := 75) 76 hd (by decide) (by decide) rfl (by decide) ?_
  refine R2.B (ls2 := [some (.ref 48), some (.int 7)]) (st2 := [.int (7 - 5), .ref 51]) b_X11_count_76_83 rfl (fun hd => ?_)
  refine R2.iald 2 (by decide) hd rfl (fun _ => rfl) (by decide) (by omega) ?_
  refine R2.B (ls2 := [some (.ref 48), some (.int 7)]) (st2 := [.int (F 51 2)]) b_X11_count_84_84 rfl (fun hd => ?_)
  exact R2.ret3 (r := some (.int (F 51 2))) hd trivial rfl rfl rfl
theorem b_X11_count_85_89 : bl2 mX11_count 85 [(.aload_n 0, 1, 0, 0, .null), (.getfield 247, 3, 11, 31, .null)] 89 (.ireturn) 1 = true := by decide +kernel
set_option maxRecDepth 20000 in
set_option maxHeartbeats 1000000 in
theorem y_count8 (E : EE) (L : Nat) (F : FF) : Ev3 E L 8 mX11_count [.ref 48, .int 8] F (some (.int (F 48 31))) F := by
  refine Ev3.of okX11_count.2.2.1 (Nat.le_of_ble_eq_true rfl) ?_
  show R2 E L mX11_count 8 0 [some (.ref 48), some (.int 8)] [] F _
  refine R2.B (ls2 := [some (.ref 48), some (.int 8)]) (st2 := [.int 8]) b_X11_count_0_1 rfl (fun hd => ?_)
  refine R2.tblIn (off := 84) 85 hd (by decide) (by decide) rfl (by decide) ?_
  refine R2.B (ls2 := [some (.ref 48), some (.int 8)]) (st2 := [.int (F 48 31)]) b_X11_count_85_89 rfl (fun hd => ?_)
  exact R2.ret3 (r := some (.int (F 48 31))) hd trivial rfl rfl rfl
theorem b_X11_count_90_92 : bl2 mX11_count 90 [(.bipush (-2), 2, 0, 0, .int (-2))] 92 (.ireturn) 1 = true := by decide +kernel
set_option maxRecDepth 20000 in
set_option maxHeartbeats 1000000 in
theorem y_count_bad (E : EE) (L : Nat) (F : FF) (w : Int32) (h : w.toInt < 0 ∨ 8 < w.toInt) : Ev3 E L 8 mX11_count [.ref 48, .int w] F (some (.int (-2))) F := by
  refine Ev3.of okX11_count.2.2.1 (Nat.le_of_ble_eq_true rfl) ?_
  show R2 E L mX11_count 8 0 [some (.ref 48), some (.int w)] [] F _
  refine R2.B (ls2 := [some (.ref 48), some (.int w)]) (st2 := [.int w]) b_X11_count_0_1 rfl (fun hd => ?_)
  refine R2.tblOut 90 hd (h) (by decide) ?_
  refine R2.B (ls2 := [some (.ref 48), some (.int w)]) (st2 := [.int (-2)]) b_X11_count_90_92 rfl (fun hd => ?_)
  exact R2.ret3 (r := some (.int (-2))) hd trivial rfl rfl rfl
