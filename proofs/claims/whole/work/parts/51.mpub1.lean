/-! The reference: public methods. Printed by wip/whole/gen/spec25.py. -/
theorem perM {n a : Nat} (hn10 : n ≤ 10) (ha : a < n) : 0 ≤ nI a ∧ nI a < nI n := ⟨nI_pos' (by omega), nI_lt ha (by omega)⟩
theorem twoM {n a b : Nat} (hn10 : n ≤ 10) (ha : a < n) (hb : b < n) (hab : ¬ a = b) : (0 ≤ nI a ∧ nI a < nI n) ∧ (0 ≤ nI b ∧ nI b < nI n) ∧ ¬ nI a = nI b :=
  ⟨perM hn10 ha, perM hn10 hb, fun z => hab ((nI_eq (by omega) (by omega)).mp z)⟩
theorem rds_row {F : FF} {l a : Nat} (h : a < 52 ∨ 55 < a) (h0 : a ≠ 48) : (rds F l).2 a = F a := by unfold rds; rw [mrd_row l 11 0 0 _ a h h0, up2_row h0]
theorem ix60 (s j : Nat) : (60 * nI s + nI j : Int32) = nI (60 * s + j) := by rw [show (60 : Int32) = nI 60 from rfl, pk_mul, nI_add]
theorem ix60b (s x j : Nat) : (60 * nI s + nI x + nI j : Int32) = nI (60 * s + x + j) := by rw [ix60, nI_add]
theorem b_X11_type_0_3 : bl2 mX11_type 0 [(.iload_n 1, 1, 1, 0, .null), (.iconst 0, 1, 0, 0, .int 0), (.iconst 1, 1, 0, 0, .int 1)] 3 (.invokestatic 86) 3 = true := by decide +kernel
theorem b_X11_type_6_6 : bl2 mX11_type 6 [] 6 (.ifCond .eq 14) 3 = true := by decide +kernel
theorem b_X11_type_20_22 : bl2 mX11_type 20 [(.bipush (-2), 2, 0, 0, .int (-2))] 22 (.ireturn) 1 = true := by decide +kernel
theorem b_X11_type_9_14 : bl2 mX11_type 9 [(.iload_n 2, 1, 2, 0, .null), (.iconst 0, 1, 0, 0, .int 0), (.sipush 255, 3, 0, 0, .int 255)] 14 (.invokestatic 86) 3 = true := by decide +kernel
theorem b_X11_type_17_17 : bl2 mX11_type 17 [] 17 (.ifCond .ne 6) 3 = true := by decide +kernel
theorem b_X11_type_23_23 : bl2 mX11_type 23 [] 23 (.aload_n 0) 1 = true := by decide +kernel
set_option maxRecDepth 20000 in
set_option maxHeartbeats 1000000 in
theorem y_type_bad (E : EE) (L : Nat) (F : FF) (t b : Int32) (h : ¬ (t = 0 ∨ t = 1) ∨ b < 0 ∨ 255 < b) : Ev3 E L 16 mX11_type [.ref 48, .int t, .int b] F (some (.int (-2))) F := by
  refine Ev3.of okX11_type.2.2.1 (Nat.le_of_ble_eq_true rfl) ?_
  show R2 E L mX11_type 16 0 [some (.ref 48), some (.int t), some (.int b)] [] F _
  refine R2.B (ls2 := [some (.ref 48), some (.int t), some (.int b)]) (st2 := [.int 1, .int 0, .int t]) b_X11_type_0_3 rfl (fun hd => ?_)
  refine R2.callS3 (M2 := mX11_in) (As := [.int t, .int 0, .int 1]) (rest := []) hd lk_11_86 okX11_in (by decide) (ev_in E L F t 0 1) (by decide) rfl rfl (Nat.le_of_ble_eq_true rfl) ?_
  refine R2.B (ls2 := [some (.ref 48), some (.int t), some (.int b)]) (st2 := [.int (b2i (0 ≤ t ∧ t ≤ 1))]) b_X11_type_6_6 rfl (fun hd => ?_)
  refine R2.if_eq 20 hd (by decide) (fun c6 => ?_) (fun c6 => ?_)
  · have nc6 : ¬ (0 ≤ t ∧ t ≤ 1) := b2i_zero.mp c6
    refine R2.B (ls2 := [some (.ref 48), some (.int t), some (.int b)]) (st2 := [.int (-2)]) b_X11_type_20_22 rfl (fun hd => ?_)
    exact R2.ret3 (r := some (.int (-2))) hd trivial rfl rfl rfl
  · have nc6 : 0 ≤ t ∧ t ≤ 1 := b2i_nz.mp c6
    refine R2.B (ls2 := [some (.ref 48), some (.int t), some (.int b)]) (st2 := [.int 255, .int 0, .int b]) b_X11_type_9_14 rfl (fun hd => ?_)
    refine R2.callS3 (M2 := mX11_in) (As := [.int b, .int 0, .int 255]) (rest := []) hd lk_11_86 okX11_in (by decide) (ev_in E L F b 0 255) (by decide) rfl rfl (Nat.le_of_ble_eq_true rfl) ?_
    refine R2.B (ls2 := [some (.ref 48), some (.int t), some (.int b)]) (st2 := [.int (b2i (0 ≤ b ∧ b ≤ 255))]) b_X11_type_17_17 rfl (fun hd => ?_)
    refine R2.if_ne 23 hd (by decide) (fun c17 => ?_) (fun c17 => ?_)
    · have nc17 : 0 ≤ b ∧ b ≤ 255 := b2i_nz.mp c17
      refine R2.B (ls2 := [some (.ref 48), some (.int t), some (.int b)]) (st2 := []) b_X11_type_23_23 rfl (fun hd => ?_)
      exact False.elim (by clear hd; grind)
    · have nc17 : ¬ (0 ≤ b ∧ b ≤ 255) := b2i_zero.mp c17
      refine R2.B (ls2 := [some (.ref 48), some (.int t), some (.int b)]) (st2 := [.int (-2)]) b_X11_type_20_22 rfl (fun hd => ?_)
      exact R2.ret3 (r := some (.int (-2))) hd trivial rfl rfl rfl
theorem b_X11_type_23_28 : bl2 mX11_type 23 [(.aload_n 0, 1, 0, 0, .null), (.getfield 7, 3, 11, 0, .null), (.iload_n 1, 1, 1, 0, .null)] 28 (.iaload) 1 = true := by decide +kernel
theorem b_X11_type_29_30 : bl2 mX11_type 29 [(.iload_n 1, 1, 1, 0, .null)] 30 (.invokestatic 90) 3 = true := by decide +kernel
theorem b_X11_type_33_33 : bl2 mX11_type 33 [] 33 (.if_icmp .ne 6) 3 = true := by decide +kernel
theorem b_X11_type_36_38 : bl2 mX11_type 36 [(.bipush (-4), 2, 0, 0, .int (-4))] 38 (.ireturn) 1 = true := by decide +kernel
set_option maxRecDepth 20000 in
set_option maxHeartbeats 1000000 in
theorem y_type_full0 (E : EE) (L : Nat) (F : FF) (b : Int32) (hb : 0 ≤ b ∧ b ≤ 255) (hf : F 49 0 = 90) : Ev3 E L 16 mX11_type [.ref 48, .int 0, .int b] F (some (.int (-4))) F := by
  refine Ev3.of okX11_type.2.2.1 (Nat.le_of_ble_eq_true rfl) ?_
  show R2 E L mX11_type 16 0 [some (.ref 48), some (.int 0), some (.int b)] [] F _
  refine R2.B (ls2 := [some (.ref 48), some (.int 0), some (.int b)]) (st2 := [.int 1, .int 0, .int 0]) b_X11_type_0_3 rfl (fun hd => ?_)
  refine R2.callS3 (M2 := mX11_in) (As := [.int 0, .int 0, .int 1]) (rest := []) hd lk_11_86 okX11_in (by decide) (ev_in E L F 0 0 1) (by decide) rfl rfl (Nat.le_of_ble_eq_true rfl) ?_
  refine R2.B (ls2 := [some (.ref 48), some (.int 0), some (.int b)]) (st2 := [.int (b2i (0 ≤ 0 ∧ 0 ≤ 1))]) b_X11_type_6_6 rfl (fun hd => ?_)
  refine R2.if_eq 20 hd (by decide) (fun c6 => ?_) (fun c6 => ?_)
  · have nc6 : ¬ (0 ≤ 0 ∧ 0 ≤ 1) := b2i_zero.mp c6
    refine R2.B (ls2 := [some (.ref 48), some (.int 0), some (.int b)]) (st2 := [.int (-2)]) b_X11_type_20_22 rfl (fun hd => ?_)
    exact False.elim (by clear hd; grind)
  · have nc6 : 0 ≤ 0 ∧ 0 ≤ 1 := b2i_nz.mp c6
    refine R2.B (ls2 := [some (.ref 48), some (.int 0), some (.int b)]) (st2 := [.int 255, .int 0, .int b]) b_X11_type_9_14 rfl (fun hd => ?_)
    refine R2.callS3 (M2 := mX11_in) (As := [.int b, .int 0, .int 255]) (rest := []) hd lk_11_86 okX11_in (by decide) (ev_in E L F b 0 255) (by decide) rfl rfl (Nat.le_of_ble_eq_true rfl) ?_
    refine R2.B (ls2 := [some (.ref 48), some (.int 0), some (.int b)]) (st2 := [.int (b2i (0 ≤ b ∧ b ≤ 255))]) b_X11_type_17_17 rfl (fun hd => ?_)
    refine R2.if_ne 23 hd (by decide) (fun c17 => ?_) (fun c17 => ?_)
    · have nc17 : 0 ≤ b ∧ b ≤ 255 := b2i_nz.mp c17
      refine R2.B (ls2 := [some (.ref 48), some (.int 0), some (.int b)]) (st2 := [.int 0, .ref 49]) b_X11_type_23_28 rfl (fun hd => ?_)
      refine R2.iald 0 rfl hd rfl (fun _ => rfl) (by decide) (by omega) ?_
      refine R2.B (ls2 := [some (.ref 48), some (.int 0), some (.int b)]) (st2 := [.int 0, .int (F 49 0)]) b_X11_type_29_30 rfl (fun hd => ?_)
      refine R2.callS3 (M2 := mX11_limit) (As := [.int 0]) (rest := [.int (F 49 0)]) hd lk_11_90 okX11_limit (by decide) (ev_limit0 E L F) (by decide) rfl rfl (Nat.le_of_ble_eq_true rfl) ?_
      refine R2.B (ls2 := [some (.ref 48), some (.int 0), some (.int b)]) (st2 := [.int 90, .int (F 49 0)]) b_X11_type_33_33 rfl (fun hd => ?_)
      refine R2.icmp_ne 39 hd (by decide) (fun c33 => absurd (hf) c33) (fun c33 => ?_)
      refine R2.B (ls2 := [some (.ref 48), some (.int 0), some (.int b)]) (st2 := [.int (-4)]) b_X11_type_36_38 rfl (fun hd => ?_)
      exact R2.ret3 (r := some (.int (-4))) hd trivial rfl rfl rfl
    · have nc17 : ¬ (0 ≤ b ∧ b ≤ 255) := b2i_zero.mp c17
      refine R2.B (ls2 := [some (.ref 48), some (.int 0), some (.int b)]) (st2 := [.int (-2)]) b_X11_type_20_22 rfl (fun hd => ?_)
      exact False.elim (by clear hd; grind)
theorem b_X11_type_39_52 : bl2 mX11_type 39 [(.aload_n 0, 1, 0, 0, .null), (.getfield 13, 3, 11, 1, .null), (.bipush 90, 2, 0, 0, .int 90), (.iload_n 1, 1, 1, 0, .null), (.imul, 1, 0, 0, .null), (.aload_n 0, 1, 0, 0, .null), (.getfield 7, 3, 11, 0, .null), (.iload_n 1, 1, 1, 0, .null)] 52 (.iaload) 1 = true := by decide +kernel
theorem b_X11_type_53_55 : bl2 mX11_type 53 [(.iadd, 1, 0, 0, .null), (.iload_n 2, 1, 2, 0, .null)] 55 (.iastore) 1 = true := by decide +kernel
theorem b_X11_type_56_62 : bl2 mX11_type 56 [(.aload_n 0, 1, 0, 0, .null), (.getfield 7, 3, 11, 0, .null), (.iload_n 1, 1, 1, 0, .null), (.dup2, 1, 0, 0, .null)] 62 (.iaload) 1 = true := by decide +kernel
theorem b_X11_type_63_65 : bl2 mX11_type 63 [(.iconst 1, 1, 0, 0, .int 1), (.iadd, 1, 0, 0, .null)] 65 (.iastore) 1 = true := by decide +kernel
theorem b_X11_type_66_67 : bl2 mX11_type 66 [(.iload_n 1, 1, 1, 0, .null)] 67 (.ifCond .ne 7) 3 = true := by decide +kernel
theorem b_X11_type_70_71 : bl2 mX11_type 70 [(.aload_n 0, 1, 0, 0, .null)] 71 (.invokevirtual 94) 3 = true := by decide +kernel
theorem b_X11_type_74_79 : bl2 mX11_type 74 [(.aload_n 0, 1, 0, 0, .null), (.getfield 7, 3, 11, 0, .null), (.iload_n 1, 1, 1, 0, .null)] 79 (.iaload) 1 = true := by decide +kernel
theorem b_X11_type_80_80 : bl2 mX11_type 80 [] 80 (.ireturn) 1 = true := by decide +kernel
set_option maxRecDepth 20000 in
set_option maxHeartbeats 1000000 in
theorem y_type_ok0 (E : EE) (L : Nat) (F : FF) (b : Int32) (hb : 0 ≤ b ∧ b ≤ 255) (l : Nat) (hlen : F 49 0 = nI l) (hl : l < 90) (n : Nat) (hn : n ≤ 10) (h3 : (rds (up2 (up2 F 50 l b) 49 0 (nI (l + 1))) (l + 1)).2 48 3 = nI n) : Ev3 E L 16 mX11_type [.ref 48, .int 0, .int b] F (some (.int (nI (l + 1)))) (stL n 0 (rds (up2 (up2 F 50 l b) 49 0 (nI (l + 1))) (l + 1)).2) := by
  refine Ev3.of okX11_type.2.2.1 (Nat.le_of_ble_eq_true rfl) ?_
  show R2 E L mX11_type 16 0 [some (.ref 48), some (.int 0), some (.int b)] [] F _
  refine R2.B (ls2 := [some (.ref 48), some (.int 0), some (.int b)]) (st2 := [.int 1, .int 0, .int 0]) b_X11_type_0_3 rfl (fun hd => ?_)
  refine R2.callS3 (M2 := mX11_in) (As := [.int 0, .int 0, .int 1]) (rest := []) hd lk_11_86 okX11_in (by decide) (ev_in E L F 0 0 1) (by decide) rfl rfl (Nat.le_of_ble_eq_true rfl) ?_
  refine R2.B (ls2 := [some (.ref 48), some (.int 0), some (.int b)]) (st2 := [.int (b2i (0 ≤ 0 ∧ 0 ≤ 1))]) b_X11_type_6_6 rfl (fun hd => ?_)
  refine R2.if_eq 20 hd (by decide) (fun c6 => ?_) (fun c6 => ?_)
  · have nc6 : ¬ (0 ≤ 0 ∧ 0 ≤ 1) := b2i_zero.mp c6
    refine R2.B (ls2 := [some (.ref 48), some (.int 0), some (.int b)]) (st2 := [.int (-2)]) b_X11_type_20_22 rfl (fun hd => ?_)
    exact False.elim (by clear hd; grind)
  · have nc6 : 0 ≤ 0 ∧ 0 ≤ 1 := b2i_nz.mp c6
    refine R2.B (ls2 := [some (.ref 48), some (.int 0), some (.int b)]) (st2 := [.int 255, .int 0, .int b]) b_X11_type_9_14 rfl (fun hd => ?_)
    refine R2.callS3 (M2 := mX11_in) (As := [.int b, .int 0, .int 255]) (rest := []) hd lk_11_86 okX11_in (by decide) (ev_in E L F b 0 255) (by decide) rfl rfl (Nat.le_of_ble_eq_true rfl) ?_
    refine R2.B (ls2 := [some (.ref 48), some (.int 0), some (.int b)]) (st2 := [.int (b2i (0 ≤ b ∧ b ≤ 255))]) b_X11_type_17_17 rfl (fun hd => ?_)
    refine R2.if_ne 23 hd (by decide) (fun c17 => ?_) (fun c17 => ?_)
    · have nc17 : 0 ≤ b ∧ b ≤ 255 := b2i_nz.mp c17
      refine R2.B (ls2 := [some (.ref 48), some (.int 0), some (.int b)]) (st2 := [.int 0, .ref 49]) b_X11_type_23_28 rfl (fun hd => ?_)
      refine R2.iald 0 rfl hd rfl (fun _ => rfl) (by decide) (by omega) ?_
      refine R2.top (show (F 49 0 : Int32) = nI l from hlen) ?_
      refine R2.B (ls2 := [some (.ref 48), some (.int 0), some (.int b)]) (st2 := [.int 0, .int (nI l)]) b_X11_type_29_30 rfl (fun hd => ?_)
      refine R2.callS3 (M2 := mX11_limit) (As := [.int 0]) (rest := [.int (nI l)]) hd lk_11_90 okX11_limit (by decide) (ev_limit0 E L F) (by decide) rfl rfl (Nat.le_of_ble_eq_true rfl) ?_
      refine R2.B (ls2 := [some (.ref 48), some (.int 0), some (.int b)]) (st2 := [.int 90, .int (nI l)]) b_X11_type_33_33 rfl (fun hd => ?_)
      refine R2.icmp_ne 39 hd (by decide) (fun c33 => ?_) (fun c33 => absurd c33 (fun z => absurd ((nI_eq (b := 90) (by omega) (by omega)).mp z) (by omega)))
      refine R2.B (ls2 := [some (.ref 48), some (.int 0), some (.int b)]) (st2 := [.int 0, .ref 49, .int (90 * 0), .ref 50]) b_X11_type_39_52 rfl (fun hd => ?_)
      refine R2.iald 0 rfl hd rfl (fun _ => rfl) (by decide) (by omega) ?_
      refine R2.top (show (F 49 0 : Int32) = nI l from hlen) ?_
      refine R2.B (ls2 := [some (.ref 48), some (.int 0), some (.int b)]) (st2 := [.int b, .int ((90 * 0) + (nI l)), .ref 50]) b_X11_type_53_55 rfl (fun hd => ?_)
      refine R2.iast l (ix0 l) hd (by decide) rfl (fun _ => rfl) (by decide) (by omega) ?_
      refine R2.B (ls2 := [some (.ref 48), some (.int 0), some (.int b)]) (st2 := [.int 0, .ref 49, .int 0, .ref 49]) b_X11_type_56_62 rfl (fun hd => ?_)
      refine R2.iald 0 rfl hd rfl (fun _ => rfl) (by decide) (by omega) ?_
      refine R2.top (show (F 49 0 : Int32) = nI l from hlen) ?_
      refine R2.B (ls2 := [some (.ref 48), some (.int 0), some (.int b)]) (st2 := [.int ((nI l) + 1), .int 0, .ref 49]) b_X11_type_63_65 rfl (fun hd => ?_)
      rw [show ((nI l) + 1 : Int32) = nI (l + 1) from nI_add l 1]
      refine R2.iast 0 rfl hd (by decide) rfl (fun _ => rfl) (by decide) (by omega) ?_
      refine R2.B (ls2 := [some (.ref 48), some (.int 0), some (.int b)]) (st2 := [.int 0]) b_X11_type_66_67 rfl (fun hd => ?_)
      refine R2.if_ne 74 hd (by decide) (fun c67 => absurd (by decide) c67) (fun c67 => ?_)
      refine R2.B (ls2 := [some (.ref 48), some (.int 0), some (.int b)]) (st2 := [.ref 48]) b_X11_type_70_71 rfl (fun hd => ?_)
      refine R2.callV3 (M2 := mX11_stands) (As := []) (rest := []) hd lk_11_94 okX11_stands (by decide) rfl (me_stands E L (up2 (up2 F 50 l b) 49 0 (nI (l + 1))) (l + 1) rfl (by omega) n hn h3) (by decide) rfl rfl (Nat.le_of_ble_eq_true rfl) ?_
      refine R2.B (ls2 := [some (.ref 48), some (.int 0), some (.int b)]) (st2 := [.int 0, .ref 49]) b_X11_type_74_79 rfl (fun hd => ?_)
      refine R2.iald 0 rfl hd rfl (fun _ => rfl) (by decide) (by omega) ?_
      refine R2.top (show ((stL n 0 (rds (up2 (up2 F 50 l b) 49 0 (nI (l + 1))) (l + 1)).2) 49 0 : Int32) = nI (l + 1) from (by rw [stL_row _ _ _ _ (by decide), rds_row (by omega) (by decide)]; rfl)) ?_
      refine R2.B (ls2 := [some (.ref 48), some (.int 0), some (.int b)]) (st2 := [.int (nI (l + 1))]) b_X11_type_80_80 rfl (fun hd => ?_)
      exact R2.ret3 (r := some (.int (nI (l + 1)))) hd trivial rfl rfl rfl
    · have nc17 : ¬ (0 ≤ b ∧ b ≤ 255) := b2i_zero.mp c17
      refine R2.B (ls2 := [some (.ref 48), some (.int 0), some (.int b)]) (st2 := [.int (-2)]) b_X11_type_20_22 rfl (fun hd => ?_)
      exact False.elim (by clear hd; grind)
set_option maxRecDepth 20000 in
set_option maxHeartbeats 1000000 in
theorem y_type_full1 (E : EE) (L : Nat) (F : FF) (b : Int32) (hb : 0 ≤ b ∧ b ≤ 255) (hf : F 49 1 = 60) : Ev3 E L 16 mX11_type [.ref 48, .int 1, .int b] F (some (.int (-4))) F := by
  refine Ev3.of okX11_type.2.2.1 (Nat.le_of_ble_eq_true rfl) ?_
  show R2 E L mX11_type 16 0 [some (.ref 48), some (.int 1), some (.int b)] [] F _
  refine R2.B (ls2 := [some (.ref 48), some (.int 1), some (.int b)]) (st2 := [.int 1, .int 0, .int 1]) b_X11_type_0_3 rfl (fun hd => ?_)
  refine R2.callS3 (M2 := mX11_in) (As := [.int 1, .int 0, .int 1]) (rest := []) hd lk_11_86 okX11_in (by decide) (ev_in E L F 1 0 1) (by decide) rfl rfl (Nat.le_of_ble_eq_true rfl) ?_
  refine R2.B (ls2 := [some (.ref 48), some (.int 1), some (.int b)]) (st2 := [.int (b2i (0 ≤ 1 ∧ 1 ≤ 1))]) b_X11_type_6_6 rfl (fun hd => ?_)
  refine R2.if_eq 20 hd (by decide) (fun c6 => ?_) (fun c6 => ?_)
  · have nc6 : ¬ (0 ≤ 1 ∧ 1 ≤ 1) := b2i_zero.mp c6
    refine R2.B (ls2 := [some (.ref 48), some (.int 1), some (.int b)]) (st2 := [.int (-2)]) b_X11_type_20_22 rfl (fun hd => ?_)
    exact False.elim (by clear hd; grind)
  · have nc6 : 0 ≤ 1 ∧ 1 ≤ 1 := b2i_nz.mp c6
    refine R2.B (ls2 := [some (.ref 48), some (.int 1), some (.int b)]) (st2 := [.int 255, .int 0, .int b]) b_X11_type_9_14 rfl (fun hd => ?_)
    refine R2.callS3 (M2 := mX11_in) (As := [.int b, .int 0, .int 255]) (rest := []) hd lk_11_86 okX11_in (by decide) (ev_in E L F b 0 255) (by decide) rfl rfl (Nat.le_of_ble_eq_true rfl) ?_
    refine R2.B (ls2 := [some (.ref 48), some (.int 1), some (.int b)]) (st2 := [.int (b2i (0 ≤ b ∧ b ≤ 255))]) b_X11_type_17_17 rfl (fun hd => ?_)
    refine R2.if_ne 23 hd (by decide) (fun c17 => ?_) (fun c17 => ?_)
    · have nc17 : 0 ≤ b ∧ b ≤ 255 := b2i_nz.mp c17
      refine R2.B (ls2 := [some (.ref 48), some (.int 1), some (.int b)]) (st2 := [.int 1, .ref 49]) b_X11_type_23_28 rfl (fun hd => ?_)
      refine R2.iald 1 rfl hd rfl (fun _ => rfl) (by decide) (by omega) ?_
      refine R2.B (ls2 := [some (.ref 48), some (.int 1), some (.int b)]) (st2 := [.int 1, .int (F 49 1)]) b_X11_type_29_30 rfl (fun hd => ?_)
      refine R2.callS3 (M2 := mX11_limit) (As := [.int 1]) (rest := [.int (F 49 1)]) hd lk_11_90 okX11_limit (by decide) (ev_limit1 E L F) (by decide) rfl rfl (Nat.le_of_ble_eq_true rfl) ?_
      refine R2.B (ls2 := [some (.ref 48), some (.int 1), some (.int b)]) (st2 := [.int 60, .int (F 49 1)]) b_X11_type_33_33 rfl (fun hd => ?_)
      refine R2.icmp_ne 39 hd (by decide) (fun c33 => absurd (hf) c33) (fun c33 => ?_)
      refine R2.B (ls2 := [some (.ref 48), some (.int 1), some (.int b)]) (st2 := [.int (-4)]) b_X11_type_36_38 rfl (fun hd => ?_)
      exact R2.ret3 (r := some (.int (-4))) hd trivial rfl rfl rfl
    · have nc17 : ¬ (0 ≤ b ∧ b ≤ 255) := b2i_zero.mp c17
      refine R2.B (ls2 := [some (.ref 48), some (.int 1), some (.int b)]) (st2 := [.int (-2)]) b_X11_type_20_22 rfl (fun hd => ?_)
      exact False.elim (by clear hd; grind)
set_option maxRecDepth 20000 in
set_option maxHeartbeats 1000000 in
theorem y_type_ok1 (E : EE) (L : Nat) (F : FF) (b : Int32) (hb : 0 ≤ b ∧ b ≤ 255) (l : Nat) (hlen : F 49 1 = nI l) (hl : l < 60) : Ev3 E L 16 mX11_type [.ref 48, .int 1, .int b] F (some (.int (nI (l + 1)))) (up2 (up2 F 50 (90 + l) b) 49 1 (nI (l + 1))) := by
  refine Ev3.of okX11_type.2.2.1 (Nat.le_of_ble_eq_true rfl) ?_
  show R2 E L mX11_type 16 0 [some (.ref 48), some (.int 1), some (.int b)] [] F _
  refine R2.B (ls2 := [some (.ref 48), some (.int 1), some (.int b)]) (st2 := [.int 1, .int 0, .int 1]) b_X11_type_0_3 rfl (fun hd => ?_)
  refine R2.callS3 (M2 := mX11_in) (As := [.int 1, .int 0, .int 1]) (rest := []) hd lk_11_86 okX11_in (by decide) (ev_in E L F 1 0 1) (by decide) rfl rfl (Nat.le_of_ble_eq_true rfl) ?_
  refine R2.B (ls2 := [some (.ref 48), some (.int 1), some (.int b)]) (st2 := [.int (b2i (0 ≤ 1 ∧ 1 ≤ 1))]) b_X11_type_6_6 rfl (fun hd => ?_)
  refine R2.if_eq 20 hd (by decide) (fun c6 => ?_) (fun c6 => ?_)
  · have nc6 : ¬ (0 ≤ 1 ∧ 1 ≤ 1) := b2i_zero.mp c6
    refine R2.B (ls2 := [some (.ref 48), some (.int 1), some (.int b)]) (st2 := [.int (-2)]) b_X11_type_20_22 rfl (fun hd => ?_)
    exact False.elim (by clear hd; grind)
  · have nc6 : 0 ≤ 1 ∧ 1 ≤ 1 := b2i_nz.mp c6
    refine R2.B (ls2 := [some (.ref 48), some (.int 1), some (.int b)]) (st2 := [.int 255, .int 0, .int b]) b_X11_type_9_14 rfl (fun hd => ?_)
    refine R2.callS3 (M2 := mX11_in) (As := [.int b, .int 0, .int 255]) (rest := []) hd lk_11_86 okX11_in (by decide) (ev_in E L F b 0 255) (by decide) rfl rfl (Nat.le_of_ble_eq_true rfl) ?_
    refine R2.B (ls2 := [some (.ref 48), some (.int 1), some (.int b)]) (st2 := [.int (b2i (0 ≤ b ∧ b ≤ 255))]) b_X11_type_17_17 rfl (fun hd => ?_)
    refine R2.if_ne 23 hd (by decide) (fun c17 => ?_) (fun c17 => ?_)
    · have nc17 : 0 ≤ b ∧ b ≤ 255 := b2i_nz.mp c17
      refine R2.B (ls2 := [some (.ref 48), some (.int 1), some (.int b)]) (st2 := [.int 1, .ref 49]) b_X11_type_23_28 rfl (fun hd => ?_)
      refine R2.iald 1 rfl hd rfl (fun _ => rfl) (by decide) (by omega) ?_
      refine R2.top (show (F 49 1 : Int32) = nI l from hlen) ?_
      refine R2.B (ls2 := [some (.ref 48), some (.int 1), some (.int b)]) (st2 := [.int 1, .int (nI l)]) b_X11_type_29_30 rfl (fun hd => ?_)
      refine R2.callS3 (M2 := mX11_limit) (As := [.int 1]) (rest := [.int (nI l)]) hd lk_11_90 okX11_limit (by decide) (ev_limit1 E L F) (by decide) rfl rfl (Nat.le_of_ble_eq_true rfl) ?_
      refine R2.B (ls2 := [some (.ref 48), some (.int 1), some (.int b)]) (st2 := [.int 60, .int (nI l)]) b_X11_type_33_33 rfl (fun hd => ?_)
      refine R2.icmp_ne 39 hd (by decide) (fun c33 => ?_) (fun c33 => absurd c33 (fun z => absurd ((nI_eq (b := 60) (by omega) (by omega)).mp z) (by omega)))
      refine R2.B (ls2 := [some (.ref 48), some (.int 1), some (.int b)]) (st2 := [.int 1, .ref 49, .int (90 * 1), .ref 50]) b_X11_type_39_52 rfl (fun hd => ?_)
      refine R2.iald 1 rfl hd rfl (fun _ => rfl) (by decide) (by omega) ?_
      refine R2.top (show (F 49 1 : Int32) = nI l from hlen) ?_
      refine R2.B (ls2 := [some (.ref 48), some (.int 1), some (.int b)]) (st2 := [.int b, .int ((90 * 1) + (nI l)), .ref 50]) b_X11_type_53_55 rfl (fun hd => ?_)
      refine R2.iast (90 + l) (ix1 l) hd (by decide) rfl (fun _ => rfl) (by decide) (by omega) ?_
      refine R2.B (ls2 := [some (.ref 48), some (.int 1), some (.int b)]) (st2 := [.int 1, .ref 49, .int 1, .ref 49]) b_X11_type_56_62 rfl (fun hd => ?_)
      refine R2.iald 1 rfl hd rfl (fun _ => rfl) (by decide) (by omega) ?_
      refine R2.top (show (F 49 1 : Int32) = nI l from hlen) ?_
      refine R2.B (ls2 := [some (.ref 48), some (.int 1), some (.int b)]) (st2 := [.int ((nI l) + 1), .int 1, .ref 49]) b_X11_type_63_65 rfl (fun hd => ?_)
      rw [show ((nI l) + 1 : Int32) = nI (l + 1) from nI_add l 1]
      refine R2.iast 1 rfl hd (by decide) rfl (fun _ => rfl) (by decide) (by omega) ?_
      refine R2.B (ls2 := [some (.ref 48), some (.int 1), some (.int b)]) (st2 := [.int 1]) b_X11_type_66_67 rfl (fun hd => ?_)
      refine R2.if_ne 74 hd (by decide) (fun c67 => ?_) (fun c67 => absurd c67 (by decide))
      refine R2.B (ls2 := [some (.ref 48), some (.int 1), some (.int b)]) (st2 := [.int 1, .ref 49]) b_X11_type_74_79 rfl (fun hd => ?_)
      refine R2.iald 1 rfl hd rfl (fun _ => rfl) (by decide) (by omega) ?_
      refine R2.B (ls2 := [some (.ref 48), some (.int 1), some (.int b)]) (st2 := [.int (nI (l + 1))]) b_X11_type_80_80 rfl (fun hd => ?_)
      exact R2.ret3 (r := some (.int (nI (l + 1)))) hd trivial rfl rfl rfl
    · have nc17 : ¬ (0 ≤ b ∧ b ≤ 255) := b2i_zero.mp c17
      refine R2.B (ls2 := [some (.ref 48), some (.int 1), some (.int b)]) (st2 := [.int (-2)]) b_X11_type_20_22 rfl (fun hd => ?_)
      exact False.elim (by clear hd; grind)
theorem b_X11_wipe_0_3 : bl2 mX11_wipe 0 [(.iload_n 1, 1, 1, 0, .null), (.iconst 0, 1, 0, 0, .int 0), (.iconst 1, 1, 0, 0, .int 1)] 3 (.invokestatic 86) 3 = true := by decide +kernel
theorem b_X11_wipe_6_6 : bl2 mX11_wipe 6 [] 6 (.ifCond .ne 6) 3 = true := by decide +kernel
theorem b_X11_wipe_12_12 : bl2 mX11_wipe 12 [] 12 (.aload_n 0) 1 = true := by decide +kernel
theorem b_X11_wipe_9_11 : bl2 mX11_wipe 9 [(.bipush (-2), 2, 0, 0, .int (-2))] 11 (.ireturn) 1 = true := by decide +kernel
set_option maxRecDepth 20000 in
set_option maxHeartbeats 1000000 in
theorem y_wipe_bad (E : EE) (L : Nat) (F : FF) (t : Int32) (h : ¬ (t = 0 ∨ t = 1)) : Ev3 E L 16 mX11_wipe [.ref 48, .int t] F (some (.int (-2))) F := by
  refine Ev3.of okX11_wipe.2.2.1 (Nat.le_of_ble_eq_true rfl) ?_
  show R2 E L mX11_wipe 16 0 [some (.ref 48), some (.int t), none] [] F _
  refine R2.B (ls2 := [some (.ref 48), some (.int t), none]) (st2 := [.int 1, .int 0, .int t]) b_X11_wipe_0_3 rfl (fun hd => ?_)
  refine R2.callS3 (M2 := mX11_in) (As := [.int t, .int 0, .int 1]) (rest := []) hd lk_11_86 okX11_in (by decide) (ev_in E L F t 0 1) (by decide) rfl rfl (Nat.le_of_ble_eq_true rfl) ?_
  refine R2.B (ls2 := [some (.ref 48), some (.int t), none]) (st2 := [.int (b2i (0 ≤ t ∧ t ≤ 1))]) b_X11_wipe_6_6 rfl (fun hd => ?_)
  refine R2.if_ne 12 hd (by decide) (fun c6 => ?_) (fun c6 => ?_)
  · have nc6 : 0 ≤ t ∧ t ≤ 1 := b2i_nz.mp c6
    refine R2.B (ls2 := [some (.ref 48), some (.int t), none]) (st2 := []) b_X11_wipe_12_12 rfl (fun hd => ?_)
    exact False.elim (by clear hd; grind)
  · have nc6 : ¬ (0 ≤ t ∧ t ≤ 1) := b2i_zero.mp c6
    refine R2.B (ls2 := [some (.ref 48), some (.int t), none]) (st2 := [.int (-2)]) b_X11_wipe_9_11 rfl (fun hd => ?_)
    exact R2.ret3 (r := some (.int (-2))) hd trivial rfl rfl rfl
theorem b_X11_wipe_12_17 : bl2 mX11_wipe 12 [(.aload_n 0, 1, 0, 0, .null), (.getfield 7, 3, 11, 0, .null), (.iload_n 1, 1, 1, 0, .null)] 17 (.iaload) 1 = true := by decide +kernel
theorem b_X11_wipe_18_25 : bl2 mX11_wipe 18 [(.istore_n 2, 1, 2, 0, .null), (.aload_n 0, 1, 0, 0, .null), (.getfield 7, 3, 11, 0, .null), (.iload_n 1, 1, 1, 0, .null), (.iconst 0, 1, 0, 0, .int 0)] 25 (.iastore) 1 = true := by decide +kernel
theorem b_X11_wipe_26_27 : bl2 mX11_wipe 26 [(.iload_n 1, 1, 1, 0, .null)] 27 (.ifCond .ne 7) 3 = true := by decide +kernel
theorem b_X11_wipe_30_31 : bl2 mX11_wipe 30 [(.aload_n 0, 1, 0, 0, .null)] 31 (.invokevirtual 94) 3 = true := by decide +kernel
theorem b_X11_wipe_34_35 : bl2 mX11_wipe 34 [(.iload_n 2, 1, 2, 0, .null)] 35 (.ireturn) 1 = true := by decide +kernel
set_option maxRecDepth 20000 in
set_option maxHeartbeats 1000000 in
theorem y_wipe_ok0 (E : EE) (L : Nat) (F : FF) (n : Nat) (hn : n ≤ 10) (h3 : (rds (up2 F 49 0 0) 0).2 48 3 = nI n) : Ev3 E L 16 mX11_wipe [.ref 48, .int 0] F (some (.int (F 49 0))) (stL n 0 (rds (up2 F 49 0 0) 0).2) := by
  refine Ev3.of okX11_wipe.2.2.1 (Nat.le_of_ble_eq_true rfl) ?_
  show R2 E L mX11_wipe 16 0 [some (.ref 48), some (.int 0), none] [] F _
  refine R2.B (ls2 := [some (.ref 48), some (.int 0), none]) (st2 := [.int 1, .int 0, .int 0]) b_X11_wipe_0_3 rfl (fun hd => ?_)
  refine R2.callS3 (M2 := mX11_in) (As := [.int 0, .int 0, .int 1]) (rest := []) hd lk_11_86 okX11_in (by decide) (ev_in E L F 0 0 1) (by decide) rfl rfl (Nat.le_of_ble_eq_true rfl) ?_
  refine R2.B (ls2 := [some (.ref 48), some (.int 0), none]) (st2 := [.int (b2i (0 ≤ 0 ∧ 0 ≤ 1))]) b_X11_wipe_6_6 rfl (fun hd => ?_)
  refine R2.if_ne 12 hd (by decide) (fun c6 => ?_) (fun c6 => ?_)
  · have nc6 : 0 ≤ 0 ∧ 0 ≤ 1 := b2i_nz.mp c6
    refine R2.B (ls2 := [some (.ref 48), some (.int 0), none]) (st2 := [.int 0, .ref 49]) b_X11_wipe_12_17 rfl (fun hd => ?_)
    refine R2.iald 0 rfl hd rfl (fun _ => rfl) (by decide) (by omega) ?_
    refine R2.B (ls2 := [some (.ref 48), some (.int 0), some (.int (F 49 0))]) (st2 := [.int 0, .int 0, .ref 49]) b_X11_wipe_18_25 rfl (fun hd => ?_)
    refine R2.iast 0 rfl hd (by decide) rfl (fun _ => rfl) (by decide) (by omega) ?_
    refine R2.B (ls2 := [some (.ref 48), some (.int 0), some (.int (F 49 0))]) (st2 := [.int 0]) b_X11_wipe_26_27 rfl (fun hd => ?_)
    refine R2.if_ne 34 hd (by decide) (fun c27 => absurd (by decide) c27) (fun c27 => ?_)
    refine R2.B (ls2 := [some (.ref 48), some (.int 0), some (.int (F 49 0))]) (st2 := [.ref 48]) b_X11_wipe_30_31 rfl (fun hd => ?_)
    refine R2.callV3 (M2 := mX11_stands) (As := []) (rest := []) hd lk_11_94 okX11_stands (by decide) rfl (me_stands E L (up2 F 49 0 0) 0 rfl (by omega) n hn h3) (by decide) rfl rfl (Nat.le_of_ble_eq_true rfl) ?_
    refine R2.B (ls2 := [some (.ref 48), some (.int 0), some (.int (F 49 0))]) (st2 := [.int (F 49 0)]) b_X11_wipe_34_35 rfl (fun hd => ?_)
    exact R2.ret3 (r := some (.int (F 49 0))) hd trivial rfl rfl rfl
  · have nc6 : ¬ (0 ≤ 0 ∧ 0 ≤ 1) := b2i_zero.mp c6
    refine R2.B (ls2 := [some (.ref 48), some (.int 0), none]) (st2 := [.int (-2)]) b_X11_wipe_9_11 rfl (fun hd => ?_)
    exact False.elim (by clear hd; grind)
set_option maxRecDepth 20000 in
set_option maxHeartbeats 1000000 in
theorem y_wipe_ok1 (E : EE) (L : Nat) (F : FF) : Ev3 E L 16 mX11_wipe [.ref 48, .int 1] F (some (.int (F 49 1))) (up2 F 49 1 0) := by
  refine Ev3.of okX11_wipe.2.2.1 (Nat.le_of_ble_eq_true rfl) ?_
  show R2 E L mX11_wipe 16 0 [some (.ref 48), some (.int 1), none] [] F _
  refine R2.B (ls2 := [some (.ref 48), some (.int 1), none]) (st2 := [.int 1, .int 0, .int 1]) b_X11_wipe_0_3 rfl (fun hd => ?_)
  refine R2.callS3 (M2 := mX11_in) (As := [.int 1, .int 0, .int 1]) (rest := []) hd lk_11_86 okX11_in (by decide) (ev_in E L F 1 0 1) (by decide) rfl rfl (Nat.le_of_ble_eq_true rfl) ?_
  refine R2.B (ls2 := [some (.ref 48), some (.int 1), none]) (st2 := [.int (b2i (0 ≤ 1 ∧ 1 ≤ 1))]) b_X11_wipe_6_6 rfl (fun hd => ?_)
  refine R2.if_ne 12 hd (by decide) (fun c6 => ?_) (fun c6 => ?_)
  · have nc6 : 0 ≤ 1 ∧ 1 ≤ 1 := b2i_nz.mp c6
    refine R2.B (ls2 := [some (.ref 48), some (.int 1), none]) (st2 := [.int 1, .ref 49]) b_X11_wipe_12_17 rfl (fun hd => ?_)
    refine R2.iald 1 rfl hd rfl (fun _ => rfl) (by decide) (by omega) ?_
    refine R2.B (ls2 := [some (.ref 48), some (.int 1), some (.int (F 49 1))]) (st2 := [.int 0, .int 1, .ref 49]) b_X11_wipe_18_25 rfl (fun hd => ?_)
    refine R2.iast 1 rfl hd (by decide) rfl (fun _ => rfl) (by decide) (by omega) ?_
    refine R2.B (ls2 := [some (.ref 48), some (.int 1), some (.int (F 49 1))]) (st2 := [.int 1]) b_X11_wipe_26_27 rfl (fun hd => ?_)
    refine R2.if_ne 34 hd (by decide) (fun c27 => ?_) (fun c27 => absurd c27 (by decide))
    refine R2.B (ls2 := [some (.ref 48), some (.int 1), some (.int (F 49 1))]) (st2 := [.int (F 49 1)]) b_X11_wipe_34_35 rfl (fun hd => ?_)
    exact R2.ret3 (r := some (.int (F 49 1))) hd trivial rfl rfl rfl
  · have nc6 : ¬ (0 ≤ 1 ∧ 1 ≤ 1) := b2i_zero.mp c6
    refine R2.B (ls2 := [some (.ref 48), some (.int 1), none]) (st2 := [.int (-2)]) b_X11_wipe_9_11 rfl (fun hd => ?_)
    exact False.elim (by clear hd; grind)
theorem b_X11_faultOf_0_1 : bl2 mX11_faultOf 0 [(.iload_n 1, 1, 1, 0, .null)] 1 (.ifCond .ne 10) 3 = true := by decide +kernel
theorem b_X11_faultOf_4_5 : bl2 mX11_faultOf 4 [(.aload_n 0, 1, 0, 0, .null)] 5 (.invokevirtual 97) 3 = true := by decide +kernel
theorem b_X11_faultOf_8_15 : bl2 mX11_faultOf 8 [(.goto 7, 3, 15, 0, .null)] 15 (.ireturn) 1 = true := by decide +kernel
set_option maxRecDepth 20000 in
set_option maxHeartbeats 1000000 in
theorem me_faultOf0 (E : EE) (L : Nat) (F : FF) (l n : Nat) (hm : MR F l n) : Ev3 E L 6 mX11_faultOf [.ref 48, .int 0] F (some (.int ((rds F l).1))) F := by
  refine Ev3.of okX11_faultOf.2.2.1 (Nat.le_of_ble_eq_true rfl) ?_
  show R2 E L mX11_faultOf 6 0 [some (.ref 48), some (.int 0)] [] F _
  refine R2.B (ls2 := [some (.ref 48), some (.int 0)]) (st2 := [.int 0]) b_X11_faultOf_0_1 rfl (fun hd => ?_)
  refine R2.if_ne 11 hd (by decide) (fun c1 => absurd (by decide) c1) (fun c1 => ?_)
  refine R2.B (ls2 := [some (.ref 48), some (.int 0)]) (st2 := [.ref 48]) b_X11_faultOf_4_5 rfl (fun hd => ?_)
  refine R2.callV3 (M2 := mX11_peopleFault) (As := []) (rest := []) hd lk_11_97 okX11_peopleFault (by decide) rfl (me_peopleFault E L F l n hm) (by decide) rfl rfl (Nat.le_of_ble_eq_true rfl) ?_
  refine R2.B (ls2 := [some (.ref 48), some (.int 0)]) (st2 := [.int ((rds F l).1)]) b_X11_faultOf_8_15 rfl (fun hd => ?_)
  exact R2.ret3 (r := some (.int ((rds F l).1))) hd trivial rfl rfl rfl
theorem b_X11_faultOf_11_12 : bl2 mX11_faultOf 11 [(.aload_n 0, 1, 0, 0, .null)] 12 (.invokevirtual 125) 3 = true := by decide +kernel
theorem b_X11_faultOf_15_15 : bl2 mX11_faultOf 15 [] 15 (.ireturn) 1 = true := by decide +kernel
set_option maxRecDepth 20000 in
set_option maxHeartbeats 1000000 in
theorem me_faultOf1 (E : EE) (L : Nat) (F : FF) (l n : Nat) (hm : MR F l n) (l1 : Nat) (hl1 : l1 ≤ 60) (h1 : F 49 1 = nI l1) : Ev3 E L 6 mX11_faultOf [.ref 48, .int 1] F (some (.int ((fds F l1 n).1))) (fds F l1 n).2 := by
  refine Ev3.of okX11_faultOf.2.2.1 (Nat.le_of_ble_eq_true rfl) ?_
  show R2 E L mX11_faultOf 6 0 [some (.ref 48), some (.int 1)] [] F _
  refine R2.B (ls2 := [some (.ref 48), some (.int 1)]) (st2 := [.int 1]) b_X11_faultOf_0_1 rfl (fun hd => ?_)
  refine R2.if_ne 11 hd (by decide) (fun c1 => ?_) (fun c1 => absurd c1 (by decide))
  refine R2.B (ls2 := [some (.ref 48), some (.int 1)]) (st2 := [.ref 48]) b_X11_faultOf_11_12 rfl (fun hd => ?_)
  refine R2.callV3 (M2 := mX11_fairFault) (As := []) (rest := []) hd lk_11_125 okX11_fairFault (by decide) rfl (me_fairFault E L F l n hm l1 hl1 h1) (by decide) rfl rfl (Nat.le_of_ble_eq_true rfl) ?_
  refine R2.B (ls2 := [some (.ref 48), some (.int 1)]) (st2 := [.int ((fds F l1 n).1)]) b_X11_faultOf_15_15 rfl (fun hd => ?_)
  exact R2.ret3 (r := some (.int ((fds F l1 n).1))) hd trivial rfl rfl rfl
theorem b_X11_fault_0_3 : bl2 mX11_fault 0 [(.iload_n 1, 1, 1, 0, .null), (.iconst 0, 1, 0, 0, .int 0), (.iconst 1, 1, 0, 0, .int 1)] 3 (.invokestatic 86) 3 = true := by decide +kernel
theorem b_X11_fault_6_6 : bl2 mX11_fault 6 [] 6 (.ifCond .eq 11) 3 = true := by decide +kernel
theorem b_X11_fault_17_19 : bl2 mX11_fault 17 [(.bipush (-2), 2, 0, 0, .int (-2))] 19 (.ireturn) 1 = true := by decide +kernel
theorem b_X11_fault_9_9 : bl2 mX11_fault 9 [] 9 (.aload_n 0) 1 = true := by decide +kernel
set_option maxRecDepth 20000 in
set_option maxHeartbeats 1000000 in
theorem y_fault_bad (E : EE) (L : Nat) (F : FF) (t : Int32) (h : ¬ (t = 0 ∨ t = 1)) : Ev3 E L 16 mX11_fault [.ref 48, .int t] F (some (.int (-2))) F := by
  refine Ev3.of okX11_fault.2.2.1 (Nat.le_of_ble_eq_true rfl) ?_
  show R2 E L mX11_fault 16 0 [some (.ref 48), some (.int t)] [] F _
  refine R2.B (ls2 := [some (.ref 48), some (.int t)]) (st2 := [.int 1, .int 0, .int t]) b_X11_fault_0_3 rfl (fun hd => ?_)
  refine R2.callS3 (M2 := mX11_in) (As := [.int t, .int 0, .int 1]) (rest := []) hd lk_11_86 okX11_in (by decide) (ev_in E L F t 0 1) (by decide) rfl rfl (Nat.le_of_ble_eq_true rfl) ?_
  refine R2.B (ls2 := [some (.ref 48), some (.int t)]) (st2 := [.int (b2i (0 ≤ t ∧ t ≤ 1))]) b_X11_fault_6_6 rfl (fun hd => ?_)
  refine R2.if_eq 17 hd (by decide) (fun c6 => ?_) (fun c6 => ?_)
  · have nc6 : ¬ (0 ≤ t ∧ t ≤ 1) := b2i_zero.mp c6
    refine R2.B (ls2 := [some (.ref 48), some (.int t)]) (st2 := [.int (-2)]) b_X11_fault_17_19 rfl (fun hd => ?_)
    exact R2.ret3 (r := some (.int (-2))) hd trivial rfl rfl rfl
  · have nc6 : 0 ≤ t ∧ t ≤ 1 := b2i_nz.mp c6
    refine R2.B (ls2 := [some (.ref 48), some (.int t)]) (st2 := []) b_X11_fault_9_9 rfl (fun hd => ?_)
    exact False.elim (by clear hd; grind)
theorem b_X11_fault_9_11 : bl2 mX11_fault 9 [(.aload_n 0, 1, 0, 0, .null), (.iload_n 1, 1, 1, 0, .null)] 11 (.invokevirtual 128) 3 = true := by decide +kernel
theorem b_X11_fault_14_19 : bl2 mX11_fault 14 [(.goto 5, 3, 19, 0, .null)] 19 (.ireturn) 1 = true := by decide +kernel
set_option maxRecDepth 20000 in
set_option maxHeartbeats 1000000 in
theorem y_fault_ok0 (E : EE) (L : Nat) (F : FF) (l n : Nat) (hm : MR F l n) : Ev3 E L 16 mX11_fault [.ref 48, .int 0] F (some (.int ((rds F l).1))) F := by
  refine Ev3.of okX11_fault.2.2.1 (Nat.le_of_ble_eq_true rfl) ?_
  show R2 E L mX11_fault 16 0 [some (.ref 48), some (.int 0)] [] F _
  refine R2.B (ls2 := [some (.ref 48), some (.int 0)]) (st2 := [.int 1, .int 0, .int 0]) b_X11_fault_0_3 rfl (fun hd => ?_)
  refine R2.callS3 (M2 := mX11_in) (As := [.int 0, .int 0, .int 1]) (rest := []) hd lk_11_86 okX11_in (by decide) (ev_in E L F 0 0 1) (by decide) rfl rfl (Nat.le_of_ble_eq_true rfl) ?_
  refine R2.B (ls2 := [some (.ref 48), some (.int 0)]) (st2 := [.int (b2i (0 ≤ 0 ∧ 0 ≤ 1))]) b_X11_fault_6_6 rfl (fun hd => ?_)
  refine R2.if_eq 17 hd (by decide) (fun c6 => ?_) (fun c6 => ?_)
  · have nc6 : ¬ (0 ≤ 0 ∧ 0 ≤ 1) := b2i_zero.mp c6
    refine R2.B (ls2 := [some (.ref 48), some (.int 0)]) (st2 := [.int (-2)]) b_X11_fault_17_19 rfl (fun hd => ?_)
    exact False.elim (by clear hd; grind)
  · have nc6 : 0 ≤ 0 ∧ 0 ≤ 1 := b2i_nz.mp c6
    refine R2.B (ls2 := [some (.ref 48), some (.int 0)]) (st2 := [.int 0, .ref 48]) b_X11_fault_9_11 rfl (fun hd => ?_)
    refine R2.callV3 (M2 := mX11_faultOf) (As := [.int 0]) (rest := []) hd lk_11_128 okX11_faultOf (by decide) rfl (me_faultOf0 E L F l n hm) (by decide) rfl rfl (Nat.le_of_ble_eq_true rfl) ?_
    refine R2.B (ls2 := [some (.ref 48), some (.int 0)]) (st2 := [.int ((rds F l).1)]) b_X11_fault_14_19 rfl (fun hd => ?_)
    exact R2.ret3 (r := some (.int ((rds F l).1))) hd trivial rfl rfl rfl
set_option maxRecDepth 20000 in
set_option maxHeartbeats 1000000 in
theorem y_fault_ok1 (E : EE) (L : Nat) (F : FF) (l n : Nat) (hm : MR F l n) (l1 : Nat) (hl1 : l1 ≤ 60) (h1 : F 49 1 = nI l1) : Ev3 E L 16 mX11_fault [.ref 48, .int 1] F (some (.int ((fds F l1 n).1))) (fds F l1 n).2 := by
  refine Ev3.of okX11_fault.2.2.1 (Nat.le_of_ble_eq_true rfl) ?_
  show R2 E L mX11_fault 16 0 [some (.ref 48), some (.int 1)] [] F _
  refine R2.B (ls2 := [some (.ref 48), some (.int 1)]) (st2 := [.int 1, .int 0, .int 1]) b_X11_fault_0_3 rfl (fun hd => ?_)
  refine R2.callS3 (M2 := mX11_in) (As := [.int 1, .int 0, .int 1]) (rest := []) hd lk_11_86 okX11_in (by decide) (ev_in E L F 1 0 1) (by decide) rfl rfl (Nat.le_of_ble_eq_true rfl) ?_
  refine R2.B (ls2 := [some (.ref 48), some (.int 1)]) (st2 := [.int (b2i (0 ≤ 1 ∧ 1 ≤ 1))]) b_X11_fault_6_6 rfl (fun hd => ?_)
  refine R2.if_eq 17 hd (by decide) (fun c6 => ?_) (fun c6 => ?_)
  · have nc6 : ¬ (0 ≤ 1 ∧ 1 ≤ 1) := b2i_zero.mp c6
    refine R2.B (ls2 := [some (.ref 48), some (.int 1)]) (st2 := [.int (-2)]) b_X11_fault_17_19 rfl (fun hd => ?_)
    exact False.elim (by clear hd; grind)
  · have nc6 : 0 ≤ 1 ∧ 1 ≤ 1 := b2i_nz.mp c6
    refine R2.B (ls2 := [some (.ref 48), some (.int 1)]) (st2 := [.int 1, .ref 48]) b_X11_fault_9_11 rfl (fun hd => ?_)
    refine R2.callV3 (M2 := mX11_faultOf) (As := [.int 1]) (rest := []) hd lk_11_128 okX11_faultOf (by decide) rfl (me_faultOf1 E L F l n hm l1 hl1 h1) (by decide) rfl rfl (Nat.le_of_ble_eq_true rfl) ?_
    refine R2.B (ls2 := [some (.ref 48), some (.int 1)]) (st2 := [.int ((fds F l1 n).1)]) b_X11_fault_14_19 rfl (fun hd => ?_)
    exact R2.ret3 (r := some (.int ((fds F l1 n).1))) hd trivial rfl rfl rfl
theorem b_X11_set_0_3 : bl2 mX11_set 0 [(.iload_n 1, 1, 1, 0, .null), (.iconst 0, 1, 0, 0, .int 0), (.iconst 2, 1, 0, 0, .int 2)] 3 (.invokestatic 86) 3 = true := by decide +kernel
theorem b_X11_set_6_6 : bl2 mX11_set 6 [] 6 (.ifCond .eq 31) 3 = true := by decide +kernel
theorem b_X11_set_37_39 : bl2 mX11_set 37 [(.bipush (-2), 2, 0, 0, .int (-2))] 39 (.ireturn) 1 = true := by decide +kernel
theorem b_X11_set_9_9 : bl2 mX11_set 9 [] 9 (.iload_n 2) 1 = true := by decide +kernel
set_option maxRecDepth 20000 in
set_option maxHeartbeats 1000000 in
theorem y_set_bad (E : EE) (L : Nat) (F : FF) (t v : Int32) (h : t < 0 ∨ 2 < t) : Ev3 E L 16 mX11_set [.ref 48, .int t, .int v] F (some (.int (-2))) F := by
  refine Ev3.of okX11_set.2.2.1 (Nat.le_of_ble_eq_true rfl) ?_
  show R2 E L mX11_set 16 0 [some (.ref 48), some (.int t), some (.int v), none] [] F _
  refine R2.B (ls2 := [some (.ref 48), some (.int t), some (.int v), none]) (st2 := [.int 2, .int 0, .int t]) b_X11_set_0_3 rfl (fun hd => ?_)
  refine R2.callS3 (M2 := mX11_in) (As := [.int t, .int 0, .int 2]) (rest := []) hd lk_11_86 okX11_in (by decide) (ev_in E L F t 0 2) (by decide) rfl rfl (Nat.le_of_ble_eq_true rfl) ?_
  refine R2.B (ls2 := [some (.ref 48), some (.int t), some (.int v), none]) (st2 := [.int (b2i (0 ≤ t ∧ t ≤ 2))]) b_X11_set_6_6 rfl (fun hd => ?_)
  refine R2.if_eq 37 hd (by decide) (fun c6 => ?_) (fun c6 => ?_)
  · have nc6 : ¬ (0 ≤ t ∧ t ≤ 2) := b2i_zero.mp c6
    refine R2.B (ls2 := [some (.ref 48), some (.int t), some (.int v), none]) (st2 := [.int (-2)]) b_X11_set_37_39 rfl (fun hd => ?_)
    exact R2.ret3 (r := some (.int (-2))) hd trivial rfl rfl rfl
  · have nc6 : 0 ≤ t ∧ t ≤ 2 := b2i_nz.mp c6
    refine R2.B (ls2 := [some (.ref 48), some (.int t), some (.int v), none]) (st2 := []) b_X11_set_9_9 rfl (fun hd => ?_)
    exact False.elim (by clear hd; grind)
theorem b_X11_set_9_11 : bl2 mX11_set 9 [(.iload_n 2, 1, 2, 0, .null), (.iload_n 1, 1, 1, 0, .null)] 11 (.ifCond .ne 7) 3 = true := by decide +kernel
theorem b_X11_set_14_21 : bl2 mX11_set 14 [(.iconst 1, 1, 0, 0, .int 1), (.goto 4, 3, 19, 0, .null), (.iload_n 1, 1, 1, 0, .null), (.iconst 2, 1, 0, 0, .int 2)] 21 (.if_icmp .ne 8) 3 = true := by decide +kernel
theorem b_X11_set_29_31 : bl2 mX11_set 29 [(.bipush 90, 2, 0, 0, .int 90)] 31 (.invokestatic 86) 3 = true := by decide +kernel
theorem b_X11_set_34_34 : bl2 mX11_set 34 [] 34 (.ifCond .ne 6) 3 = true := by decide +kernel
theorem b_X11_set_40_40 : bl2 mX11_set 40 [] 40 (.aload_n 0) 1 = true := by decide +kernel
set_option maxRecDepth 20000 in
set_option maxHeartbeats 1000000 in
theorem y_set_bad0 (E : EE) (L : Nat) (F : FF) (v : Int32) (h : v < 1 ∨ 90 < v) : Ev3 E L 16 mX11_set [.ref 48, .int 0, .int v] F (some (.int (-2))) F := by
  refine Ev3.of okX11_set.2.2.1 (Nat.le_of_ble_eq_true rfl) ?_
  show R2 E L mX11_set 16 0 [some (.ref 48), some (.int 0), some (.int v), none] [] F _
  refine R2.B (ls2 := [some (.ref 48), some (.int 0), some (.int v), none]) (st2 := [.int 2, .int 0, .int 0]) b_X11_set_0_3 rfl (fun hd => ?_)
  refine R2.callS3 (M2 := mX11_in) (As := [.int 0, .int 0, .int 2]) (rest := []) hd lk_11_86 okX11_in (by decide) (ev_in E L F 0 0 2) (by decide) rfl rfl (Nat.le_of_ble_eq_true rfl) ?_
  refine R2.B (ls2 := [some (.ref 48), some (.int 0), some (.int v), none]) (st2 := [.int (b2i (0 ≤ 0 ∧ 0 ≤ 2))]) b_X11_set_6_6 rfl (fun hd => ?_)
  refine R2.if_eq 37 hd (by decide) (fun c6 => ?_) (fun c6 => ?_)
  · have nc6 : ¬ (0 ≤ 0 ∧ 0 ≤ 2) := b2i_zero.mp c6
    refine R2.B (ls2 := [some (.ref 48), some (.int 0), some (.int v), none]) (st2 := [.int (-2)]) b_X11_set_37_39 rfl (fun hd => ?_)
    exact R2.ret3 (r := some (.int (-2))) hd trivial rfl rfl rfl
  · have nc6 : 0 ≤ 0 ∧ 0 ≤ 2 := b2i_nz.mp c6
    refine R2.B (ls2 := [some (.ref 48), some (.int 0), some (.int v), none]) (st2 := [.int 0, .int v]) b_X11_set_9_11 rfl (fun hd => ?_)
    refine R2.if_ne 18 hd (by decide) (fun c11 => absurd (by decide) c11) (fun c11 => ?_)
    refine R2.B (ls2 := [some (.ref 48), some (.int 0), some (.int v), none]) (st2 := [.int 2, .int 0, .int 1, .int v]) b_X11_set_14_21 rfl (fun hd => ?_)
    refine R2.icmp_ne 29 hd (by decide) (fun c21 => ?_) (fun c21 => absurd c21 (by decide))
    refine R2.B (ls2 := [some (.ref 48), some (.int 0), some (.int v), none]) (st2 := [.int 90, .int 1, .int v]) b_X11_set_29_31 rfl (fun hd => ?_)
    refine R2.callS3 (M2 := mX11_in) (As := [.int v, .int 1, .int 90]) (rest := []) hd lk_11_86 okX11_in (by decide) (ev_in E L F v 1 90) (by decide) rfl rfl (Nat.le_of_ble_eq_true rfl) ?_
    refine R2.B (ls2 := [some (.ref 48), some (.int 0), some (.int v), none]) (st2 := [.int (b2i (1 ≤ v ∧ v ≤ 90))]) b_X11_set_34_34 rfl (fun hd => ?_)
    refine R2.if_ne 40 hd (by decide) (fun c34 => ?_) (fun c34 => ?_)
    · have nc34 : 1 ≤ v ∧ v ≤ 90 := b2i_nz.mp c34
      refine R2.B (ls2 := [some (.ref 48), some (.int 0), some (.int v), none]) (st2 := []) b_X11_set_40_40 rfl (fun hd => ?_)
      exact False.elim (by clear hd; grind)
    · have nc34 : ¬ (1 ≤ v ∧ v ≤ 90) := b2i_zero.mp c34
      refine R2.B (ls2 := [some (.ref 48), some (.int 0), some (.int v), none]) (st2 := [.int (-2)]) b_X11_set_37_39 rfl (fun hd => ?_)
      exact R2.ret3 (r := some (.int (-2))) hd trivial rfl rfl rfl
theorem b_X11_set_40_45 : bl2 mX11_set 40 [(.aload_n 0, 1, 0, 0, .null), (.getfield 16, 3, 11, 2, .null), (.iload_n 1, 1, 1, 0, .null)] 45 (.iaload) 1 = true := by decide +kernel
theorem b_X11_set_46_53 : bl2 mX11_set 46 [(.istore_n 3, 1, 3, 0, .null), (.aload_n 0, 1, 0, 0, .null), (.getfield 16, 3, 11, 2, .null), (.iload_n 1, 1, 1, 0, .null), (.iload_n 2, 1, 2, 0, .null)] 53 (.iastore) 1 = true := by decide +kernel
theorem b_X11_set_54_55 : bl2 mX11_set 54 [(.iload_n 3, 1, 3, 0, .null)] 55 (.ireturn) 1 = true := by decide +kernel
set_option maxRecDepth 20000 in
set_option maxHeartbeats 1000000 in
theorem y_set_ok0 (E : EE) (L : Nat) (F : FF) (v : Int32) (h : ¬ (v < 1 ∨ 90 < v)) : Ev3 E L 16 mX11_set [.ref 48, .int 0, .int v] F (some (.int (F 51 0))) (up2 F 51 0 v) := by
  refine Ev3.of okX11_set.2.2.1 (Nat.le_of_ble_eq_true rfl) ?_
  show R2 E L mX11_set 16 0 [some (.ref 48), some (.int 0), some (.int v), none] [] F _
  refine R2.B (ls2 := [some (.ref 48), some (.int 0), some (.int v), none]) (st2 := [.int 2, .int 0, .int 0]) b_X11_set_0_3 rfl (fun hd => ?_)
  refine R2.callS3 (M2 := mX11_in) (As := [.int 0, .int 0, .int 2]) (rest := []) hd lk_11_86 okX11_in (by decide) (ev_in E L F 0 0 2) (by decide) rfl rfl (Nat.le_of_ble_eq_true rfl) ?_
  refine R2.B (ls2 := [some (.ref 48), some (.int 0), some (.int v), none]) (st2 := [.int (b2i (0 ≤ 0 ∧ 0 ≤ 2))]) b_X11_set_6_6 rfl (fun hd => ?_)
  refine R2.if_eq 37 hd (by decide) (fun c6 => ?_) (fun c6 => ?_)
  · have nc6 : ¬ (0 ≤ 0 ∧ 0 ≤ 2) := b2i_zero.mp c6
    refine R2.B (ls2 := [some (.ref 48), some (.int 0), some (.int v), none]) (st2 := [.int (-2)]) b_X11_set_37_39 rfl (fun hd => ?_)
    exact False.elim (by clear hd; grind)
  · have nc6 : 0 ≤ 0 ∧ 0 ≤ 2 := b2i_nz.mp c6
    refine R2.B (ls2 := [some (.ref 48), some (.int 0), some (.int v), none]) (st2 := [.int 0, .int v]) b_X11_set_9_11 rfl (fun hd => ?_)
    refine R2.if_ne 18 hd (by decide) (fun c11 => absurd (by decide) c11) (fun c11 => ?_)
    refine R2.B (ls2 := [some (.ref 48), some (.int 0), some (.int v), none]) (st2 := [.int 2, .int 0, .int 1, .int v]) b_X11_set_14_21 rfl (fun hd => ?_)
    refine R2.icmp_ne 29 hd (by decide) (fun c21 => ?_) (fun c21 => absurd c21 (by decide))
    refine R2.B (ls2 := [some (.ref 48), some (.int 0), some (.int v), none]) (st2 := [.int 90, .int 1, .int v]) b_X11_set_29_31 rfl (fun hd => ?_)
    refine R2.callS3 (M2 := mX11_in) (As := [.int v, .int 1, .int 90]) (rest := []) hd lk_11_86 okX11_in (by decide) (ev_in E L F v 1 90) (by decide) rfl rfl (Nat.le_of_ble_eq_true rfl) ?_
    refine R2.B (ls2 := [some (.ref 48), some (.int 0), some (.int v), none]) (st2 := [.int (b2i (1 ≤ v ∧ v ≤ 90))]) b_X11_set_34_34 rfl (fun hd => ?_)
    refine R2.if_ne 40 hd (by decide) (fun c34 => ?_) (fun c34 => ?_)
    · have nc34 : 1 ≤ v ∧ v ≤ 90 := b2i_nz.mp c34
      refine R2.B (ls2 := [some (.ref 48), some (.int 0), some (.int v), none]) (st2 := [.int 0, .ref 51]) b_X11_set_40_45 rfl (fun hd => ?_)
      refine R2.iald 0 rfl hd rfl (fun _ => rfl) (by decide) (by omega) ?_
      refine R2.B (ls2 := [some (.ref 48), some (.int 0), some (.int v), some (.int (F 51 0))]) (st2 := [.int v, .int 0, .ref 51]) b_X11_set_46_53 rfl (fun hd => ?_)
      refine R2.iast 0 rfl hd (by decide) rfl (fun _ => rfl) (by decide) (by omega) ?_
      refine R2.B (ls2 := [some (.ref 48), some (.int 0), some (.int v), some (.int (F 51 0))]) (st2 := [.int (F 51 0)]) b_X11_set_54_55 rfl (fun hd => ?_)
      exact R2.ret3 (r := some (.int (F 51 0))) hd trivial rfl rfl rfl
    · have nc34 : ¬ (1 ≤ v ∧ v ≤ 90) := b2i_zero.mp c34
      refine R2.B (ls2 := [some (.ref 48), some (.int 0), some (.int v), none]) (st2 := [.int (-2)]) b_X11_set_37_39 rfl (fun hd => ?_)
      exact False.elim (by clear hd; grind)
theorem b_X11_set_18_21 : bl2 mX11_set 18 [(.iconst 0, 1, 0, 0, .int 0), (.iload_n 1, 1, 1, 0, .null), (.iconst 2, 1, 0, 0, .int 2)] 21 (.if_icmp .ne 8) 3 = true := by decide +kernel
set_option maxRecDepth 20000 in
set_option maxHeartbeats 1000000 in
theorem y_set_bad1 (E : EE) (L : Nat) (F : FF) (v : Int32) (h : v < 0 ∨ 90 < v) : Ev3 E L 16 mX11_set [.ref 48, .int 1, .int v] F (some (.int (-2))) F := by
  refine Ev3.of okX11_set.2.2.1 (Nat.le_of_ble_eq_true rfl) ?_
  show R2 E L mX11_set 16 0 [some (.ref 48), some (.int 1), some (.int v), none] [] F _
  refine R2.B (ls2 := [some (.ref 48), some (.int 1), some (.int v), none]) (st2 := [.int 2, .int 0, .int 1]) b_X11_set_0_3 rfl (fun hd => ?_)
  refine R2.callS3 (M2 := mX11_in) (As := [.int 1, .int 0, .int 2]) (rest := []) hd lk_11_86 okX11_in (by decide) (ev_in E L F 1 0 2) (by decide) rfl rfl (Nat.le_of_ble_eq_true rfl) ?_
  refine R2.B (ls2 := [some (.ref 48), some (.int 1), some (.int v), none]) (st2 := [.int (b2i (0 ≤ 1 ∧ 1 ≤ 2))]) b_X11_set_6_6 rfl (fun hd => ?_)
  refine R2.if_eq 37 hd (by decide) (fun c6 => ?_) (fun c6 => ?_)
  · have nc6 : ¬ (0 ≤ 1 ∧ 1 ≤ 2) := b2i_zero.mp c6
    refine R2.B (ls2 := [some (.ref 48), some (.int 1), some (.int v), none]) (st2 := [.int (-2)]) b_X11_set_37_39 rfl (fun hd => ?_)
    exact R2.ret3 (r := some (.int (-2))) hd trivial rfl rfl rfl
  · have nc6 : 0 ≤ 1 ∧ 1 ≤ 2 := b2i_nz.mp c6
    refine R2.B (ls2 := [some (.ref 48), some (.int 1), some (.int v), none]) (st2 := [.int 1, .int v]) b_X11_set_9_11 rfl (fun hd => ?_)
    refine R2.if_ne 18 hd (by decide) (fun c11 => ?_) (fun c11 => absurd c11 (by decide))
    refine R2.B (ls2 := [some (.ref 48), some (.int 1), some (.int v), none]) (st2 := [.int 2, .int 1, .int 0, .int v]) b_X11_set_18_21 rfl (fun hd => ?_)
    refine R2.icmp_ne 29 hd (by decide) (fun c21 => ?_) (fun c21 => absurd c21 (by decide))
    refine R2.B (ls2 := [some (.ref 48), some (.int 1), some (.int v), none]) (st2 := [.int 90, .int 0, .int v]) b_X11_set_29_31 rfl (fun hd => ?_)
    refine R2.callS3 (M2 := mX11_in) (As := [.int v, .int 0, .int 90]) (rest := []) hd lk_11_86 okX11_in (by decide) (ev_in E L F v 0 90) (by decide) rfl rfl (Nat.le_of_ble_eq_true rfl) ?_
    refine R2.B (ls2 := [some (.ref 48), some (.int 1), some (.int v), none]) (st2 := [.int (b2i (0 ≤ v ∧ v ≤ 90))]) b_X11_set_34_34 rfl (fun hd => ?_)
    refine R2.if_ne 40 hd (by decide) (fun c34 => ?_) (fun c34 => ?_)
    · have nc34 : 0 ≤ v ∧ v ≤ 90 := b2i_nz.mp c34
      refine R2.B (ls2 := [some (.ref 48), some (.int 1), some (.int v), none]) (st2 := []) b_X11_set_40_40 rfl (fun hd => ?_)
      exact False.elim (by clear hd; grind)
    · have nc34 : ¬ (0 ≤ v ∧ v ≤ 90) := b2i_zero.mp c34
      refine R2.B (ls2 := [some (.ref 48), some (.int 1), some (.int v), none]) (st2 := [.int (-2)]) b_X11_set_37_39 rfl (fun hd => ?_)
      exact R2.ret3 (r := some (.int (-2))) hd trivial rfl rfl rfl
set_option maxRecDepth 20000 in
set_option maxHeartbeats 1000000 in
theorem y_set_ok1 (E : EE) (L : Nat) (F : FF) (v : Int32) (h : ¬ (v < 0 ∨ 90 < v)) : Ev3 E L 16 mX11_set [.ref 48, .int 1, .int v] F (some (.int (F 51 1))) (up2 F 51 1 v) := by
  refine Ev3.of okX11_set.2.2.1 (Nat.le_of_ble_eq_true rfl) ?_
  show R2 E L mX11_set 16 0 [some (.ref 48), some (.int 1), some (.int v), none] [] F _
  refine R2.B (ls2 := [some (.ref 48), some (.int 1), some (.int v), none]) (st2 := [.int 2, .int 0, .int 1]) b_X11_set_0_3 rfl (fun hd => ?_)
  refine R2.callS3 (M2 := mX11_in) (As := [.int 1, .int 0, .int 2]) (rest := []) hd lk_11_86 okX11_in (by decide) (ev_in E L F 1 0 2) (by decide) rfl rfl (Nat.le_of_ble_eq_true rfl) ?_
  refine R2.B (ls2 := [some (.ref 48), some (.int 1), some (.int v), none]) (st2 := [.int (b2i (0 ≤ 1 ∧ 1 ≤ 2))]) b_X11_set_6_6 rfl (fun hd => ?_)
  refine R2.if_eq 37 hd (by decide) (fun c6 => ?_) (fun c6 => ?_)
  · have nc6 : ¬ (0 ≤ 1 ∧ 1 ≤ 2) := b2i_zero.mp c6
    refine R2.B (ls2 := [some (.ref 48), some (.int 1), some (.int v), none]) (st2 := [.int (-2)]) b_X11_set_37_39 rfl (fun hd => ?_)
    exact False.elim (by clear hd; grind)
  · have nc6 : 0 ≤ 1 ∧ 1 ≤ 2 := b2i_nz.mp c6
    refine R2.B (ls2 := [some (.ref 48), some (.int 1), some (.int v), none]) (st2 := [.int 1, .int v]) b_X11_set_9_11 rfl (fun hd => ?_)
    refine R2.if_ne 18 hd (by decide) (fun c11 => ?_) (fun c11 => absurd c11 (by decide))
    refine R2.B (ls2 := [some (.ref 48), some (.int 1), some (.int v), none]) (st2 := [.int 2, .int 1, .int 0, .int v]) b_X11_set_18_21 rfl (fun hd => ?_)
    refine R2.icmp_ne 29 hd (by decide) (fun c21 => ?_) (fun c21 => absurd c21 (by decide))
    refine R2.B (ls2 := [some (.ref 48), some (.int 1), some (.int v), none]) (st2 := [.int 90, .int 0, .int v]) b_X11_set_29_31 rfl (fun hd => ?_)
    refine R2.callS3 (M2 := mX11_in) (As := [.int v, .int 0, .int 90]) (rest := []) hd lk_11_86 okX11_in (by decide) (ev_in E L F v 0 90) (by decide) rfl rfl (Nat.le_of_ble_eq_true rfl) ?_
    refine R2.B (ls2 := [some (.ref 48), some (.int 1), some (.int v), none]) (st2 := [.int (b2i (0 ≤ v ∧ v ≤ 90))]) b_X11_set_34_34 rfl (fun hd => ?_)
    refine R2.if_ne 40 hd (by decide) (fun c34 => ?_) (fun c34 => ?_)
    · have nc34 : 0 ≤ v ∧ v ≤ 90 := b2i_nz.mp c34
      refine R2.B (ls2 := [some (.ref 48), some (.int 1), some (.int v), none]) (st2 := [.int 1, .ref 51]) b_X11_set_40_45 rfl (fun hd => ?_)
      refine R2.iald 1 rfl hd rfl (fun _ => rfl) (by decide) (by omega) ?_
      refine R2.B (ls2 := [some (.ref 48), some (.int 1), some (.int v), some (.int (F 51 1))]) (st2 := [.int v, .int 1, .ref 51]) b_X11_set_46_53 rfl (fun hd => ?_)
      refine R2.iast 1 rfl hd (by decide) rfl (fun _ => rfl) (by decide) (by omega) ?_
      refine R2.B (ls2 := [some (.ref 48), some (.int 1), some (.int v), some (.int (F 51 1))]) (st2 := [.int (F 51 1)]) b_X11_set_54_55 rfl (fun hd => ?_)
      exact R2.ret3 (r := some (.int (F 51 1))) hd trivial rfl rfl rfl
    · have nc34 : ¬ (0 ≤ v ∧ v ≤ 90) := b2i_zero.mp c34
      refine R2.B (ls2 := [some (.ref 48), some (.int 1), some (.int v), none]) (st2 := [.int (-2)]) b_X11_set_37_39 rfl (fun hd => ?_)
      exact False.elim (by clear hd; grind)
theorem b_X11_set_24_31 : bl2 mX11_set 24 [(.bipush 40, 2, 0, 0, .int 40), (.goto 5, 3, 31, 0, .null)] 31 (.invokestatic 86) 3 = true := by decide +kernel
set_option maxRecDepth 20000 in
set_option maxHeartbeats 1000000 in
theorem y_set_bad2 (E : EE) (L : Nat) (F : FF) (v : Int32) (h : v < 0 ∨ 40 < v) : Ev3 E L 16 mX11_set [.ref 48, .int 2, .int v] F (some (.int (-2))) F := by
  refine Ev3.of okX11_set.2.2.1 (Nat.le_of_ble_eq_true rfl) ?_
  show R2 E L mX11_set 16 0 [some (.ref 48), some (.int 2), some (.int v), none] [] F _
  refine R2.B (ls2 := [some (.ref 48), some (.int 2), some (.int v), none]) (st2 := [.int 2, .int 0, .int 2]) b_X11_set_0_3 rfl (fun hd => ?_)
  refine R2.callS3 (M2 := mX11_in) (As := [.int 2, .int 0, .int 2]) (rest := []) hd lk_11_86 okX11_in (by decide) (ev_in E L F 2 0 2) (by decide) rfl rfl (Nat.le_of_ble_eq_true rfl) ?_
  refine R2.B (ls2 := [some (.ref 48), some (.int 2), some (.int v), none]) (st2 := [.int (b2i (0 ≤ 2 ∧ 2 ≤ 2))]) b_X11_set_6_6 rfl (fun hd => ?_)
  refine R2.if_eq 37 hd (by decide) (fun c6 => ?_) (fun c6 => ?_)
  · have nc6 : ¬ (0 ≤ 2 ∧ 2 ≤ 2) := b2i_zero.mp c6
    refine R2.B (ls2 := [some (.ref 48), some (.int 2), some (.int v), none]) (st2 := [.int (-2)]) b_X11_set_37_39 rfl (fun hd => ?_)
    exact R2.ret3 (r := some (.int (-2))) hd trivial rfl rfl rfl
  · have nc6 : 0 ≤ 2 ∧ 2 ≤ 2 := b2i_nz.mp c6
    refine R2.B (ls2 := [some (.ref 48), some (.int 2), some (.int v), none]) (st2 := [.int 2, .int v]) b_X11_set_9_11 rfl (fun hd => ?_)
    refine R2.if_ne 18 hd (by decide) (fun c11 => ?_) (fun c11 => absurd c11 (by decide))
    refine R2.B (ls2 := [some (.ref 48), some (.int 2), some (.int v), none]) (st2 := [.int 2, .int 2, .int 0, .int v]) b_X11_set_18_21 rfl (fun hd => ?_)
    refine R2.icmp_ne 29 hd (by decide) (fun c21 => absurd (by decide) c21) (fun c21 => ?_)
    refine R2.B (ls2 := [some (.ref 48), some (.int 2), some (.int v), none]) (st2 := [.int 40, .int 0, .int v]) b_X11_set_24_31 rfl (fun hd => ?_)
    refine R2.callS3 (M2 := mX11_in) (As := [.int v, .int 0, .int 40]) (rest := []) hd lk_11_86 okX11_in (by decide) (ev_in E L F v 0 40) (by decide) rfl rfl (Nat.le_of_ble_eq_true rfl) ?_
    refine R2.B (ls2 := [some (.ref 48), some (.int 2), some (.int v), none]) (st2 := [.int (b2i (0 ≤ v ∧ v ≤ 40))]) b_X11_set_34_34 rfl (fun hd => ?_)
    refine R2.if_ne 40 hd (by decide) (fun c34 => ?_) (fun c34 => ?_)
    · have nc34 : 0 ≤ v ∧ v ≤ 40 := b2i_nz.mp c34
      refine R2.B (ls2 := [some (.ref 48), some (.int 2), some (.int v), none]) (st2 := []) b_X11_set_40_40 rfl (fun hd => ?_)
      exact False.elim (by clear hd; grind)
    · have nc34 : ¬ (0 ≤ v ∧ v ≤ 40) := b2i_zero.mp c34
      refine R2.B (ls2 := [some (.ref 48), some (.int 2), some (.int v), none]) (st2 := [.int (-2)]) b_X11_set_37_39 rfl (fun hd => ?_)
      exact R2.ret3 (r := some (.int (-2))) hd trivial rfl rfl rfl
set_option maxRecDepth 20000 in
set_option maxHeartbeats 1000000 in
theorem y_set_ok2 (E : EE) (L : Nat) (F : FF) (v : Int32) (h : ¬ (v < 0 ∨ 40 < v)) : Ev3 E L 16 mX11_set [.ref 48, .int 2, .int v] F (some (.int (F 51 2))) (up2 F 51 2 v) := by
  refine Ev3.of okX11_set.2.2.1 (Nat.le_of_ble_eq_true rfl) ?_
  show R2 E L mX11_set 16 0 [some (.ref 48), some (.int 2), some (.int v), none] [] F _
  refine R2.B (ls2 := [some (.ref 48), some (.int 2), some (.int v), none]) (st2 := [.int 2, .int 0, .int 2]) b_X11_set_0_3 rfl (fun hd => ?_)
  refine R2.callS3 (M2 := mX11_in) (As := [.int 2, .int 0, .int 2]) (rest := []) hd lk_11_86 okX11_in (by decide) (ev_in E L F 2 0 2) (by decide) rfl rfl (Nat.le_of_ble_eq_true rfl) ?_
  refine R2.B (ls2 := [some (.ref 48), some (.int 2), some (.int v), none]) (st2 := [.int (b2i (0 ≤ 2 ∧ 2 ≤ 2))]) b_X11_set_6_6 rfl (fun hd => ?_)
  refine R2.if_eq 37 hd (by decide) (fun c6 => ?_) (fun c6 => ?_)
  · have nc6 : ¬ (0 ≤ 2 ∧ 2 ≤ 2) := b2i_zero.mp c6
    refine R2.B (ls2 := [some (.ref 48), some (.int 2), some (.int v), none]) (st2 := [.int (-2)]) b_X11_set_37_39 rfl (fun hd => ?_)
    exact False.elim (by clear hd; grind)
  · have nc6 : 0 ≤ 2 ∧ 2 ≤ 2 := b2i_nz.mp c6
    refine R2.B (ls2 := [some (.ref 48), some (.int 2), some (.int v), none]) (st2 := [.int 2, .int v]) b_X11_set_9_11 rfl (fun hd => ?_)
    refine R2.if_ne 18 hd (by decide) (fun c11 => ?_) (fun c11 => absurd c11 (by decide))
    refine R2.B (ls2 := [some (.ref 48), some (.int 2), some (.int v), none]) (st2 := [.int 2, .int 2, .int 0, .int v]) b_X11_set_18_21 rfl (fun hd => ?_)
    refine R2.icmp_ne 29 hd (by decide) (fun c21 => absurd (by decide) c21) (fun c21 => ?_)
    refine R2.B (ls2 := [some (.ref 48), some (.int 2), some (.int v), none]) (st2 := [.int 40, .int 0, .int v]) b_X11_set_24_31 rfl (fun hd => ?_)
    refine R2.callS3 (M2 := mX11_in) (As := [.int v, .int 0, .int 40]) (rest := []) hd lk_11_86 okX11_in (by decide) (ev_in E L F v 0 40) (by decide) rfl rfl (Nat.le_of_ble_eq_true rfl) ?_
    refine R2.B (ls2 := [some (.ref 48), some (.int 2), some (.int v), none]) (st2 := [.int (b2i (0 ≤ v ∧ v ≤ 40))]) b_X11_set_34_34 rfl (fun hd => ?_)
    refine R2.if_ne 40 hd (by decide) (fun c34 => ?_) (fun c34 => ?_)
    · have nc34 : 0 ≤ v ∧ v ≤ 40 := b2i_nz.mp c34
      refine R2.B (ls2 := [some (.ref 48), some (.int 2), some (.int v), none]) (st2 := [.int 2, .ref 51]) b_X11_set_40_45 rfl (fun hd => ?_)
      refine R2.iald 2 rfl hd rfl (fun _ => rfl) (by decide) (by omega) ?_
      refine R2.B (ls2 := [some (.ref 48), some (.int 2), some (.int v), some (.int (F 51 2))]) (st2 := [.int v, .int 2, .ref 51]) b_X11_set_46_53 rfl (fun hd => ?_)
      refine R2.iast 2 rfl hd (by decide) rfl (fun _ => rfl) (by decide) (by omega) ?_
      refine R2.B (ls2 := [some (.ref 48), some (.int 2), some (.int v), some (.int (F 51 2))]) (st2 := [.int (F 51 2)]) b_X11_set_54_55 rfl (fun hd => ?_)
      exact R2.ret3 (r := some (.int (F 51 2))) hd trivial rfl rfl rfl
    · have nc34 : ¬ (0 ≤ v ∧ v ≤ 40) := b2i_zero.mp c34
      refine R2.B (ls2 := [some (.ref 48), some (.int 2), some (.int v), none]) (st2 := [.int (-2)]) b_X11_set_37_39 rfl (fun hd => ?_)
      exact False.elim (by clear hd; grind)
theorem b_X11_personOf_0_1 : bl2 mX11_personOf 0 [(.iload_n 2, 1, 2, 0, .null)] 1 (.ifCond .ne 12) 3 = true := by decide +kernel
theorem b_X11_personOf_4_9 : bl2 mX11_personOf 4 [(.aload_n 0, 1, 0, 0, .null), (.getfield 19, 3, 11, 4, .null), (.iload_n 1, 1, 1, 0, .null)] 9 (.iaload) 1 = true := by decide +kernel
theorem b_X11_personOf_10_67 : bl2 mX11_personOf 10 [(.goto 57, 3, 67, 0, .null)] 67 (.ireturn) 1 = true := by decide +kernel
set_option maxRecDepth 20000 in
set_option maxHeartbeats 1000000 in
theorem me_personOf0 (E : EE) (L : Nat) (F : FF) (a : Nat) (ha : a < 11) : Ev3 E L 1 mX11_personOf [.ref 48, .int (nI a), .int 0] F (some (.int (F 52 a))) F := by
  refine Ev3.of okX11_personOf.2.2.1 (Nat.le_of_ble_eq_true rfl) ?_
  show R2 E L mX11_personOf 1 0 [some (.ref 48), some (.int (nI a)), some (.int 0)] [] F _
  refine R2.B (ls2 := [some (.ref 48), some (.int (nI a)), some (.int 0)]) (st2 := [.int 0]) b_X11_personOf_0_1 rfl (fun hd => ?_)
  refine R2.if_ne 13 hd (by decide) (fun c1 => absurd (by decide) c1) (fun c1 => ?_)
  refine R2.B (ls2 := [some (.ref 48), some (.int (nI a)), some (.int 0)]) (st2 := [.int (nI a), .ref 52]) b_X11_personOf_4_9 rfl (fun hd => ?_)
  refine R2.iald a rfl hd rfl (fun _ => rfl) (by decide) (by omega) ?_
  refine R2.B (ls2 := [some (.ref 48), some (.int (nI a)), some (.int 0)]) (st2 := [.int (F 52 a)]) b_X11_personOf_10_67 rfl (fun hd => ?_)
  exact R2.ret3 (r := some (.int (F 52 a))) hd trivial rfl rfl rfl
theorem b_X11_personOf_13_15 : bl2 mX11_personOf 13 [(.iload_n 2, 1, 2, 0, .null), (.iconst 1, 1, 0, 0, .int 1)] 15 (.if_icmp .ne 12) 3 = true := by decide +kernel
theorem b_X11_personOf_18_23 : bl2 mX11_personOf 18 [(.aload_n 0, 1, 0, 0, .null), (.getfield 22, 3, 11, 5, .null), (.iload_n 1, 1, 1, 0, .null)] 23 (.iaload) 1 = true := by decide +kernel
theorem b_X11_personOf_24_67 : bl2 mX11_personOf 24 [(.goto 43, 3, 67, 0, .null)] 67 (.ireturn) 1 = true := by decide +kernel
set_option maxRecDepth 20000 in
set_option maxHeartbeats 1000000 in
theorem me_personOf1 (E : EE) (L : Nat) (F : FF) (a : Nat) (ha : a < 11) : Ev3 E L 1 mX11_personOf [.ref 48, .int (nI a), .int 1] F (some (.int (F 53 a))) F := by
  refine Ev3.of okX11_personOf.2.2.1 (Nat.le_of_ble_eq_true rfl) ?_
  show R2 E L mX11_personOf 1 0 [some (.ref 48), some (.int (nI a)), some (.int 1)] [] F _
  refine R2.B (ls2 := [some (.ref 48), some (.int (nI a)), some (.int 1)]) (st2 := [.int 1]) b_X11_personOf_0_1 rfl (fun hd => ?_)
  refine R2.if_ne 13 hd (by decide) (fun c1 => ?_) (fun c1 => absurd c1 (by decide))
  refine R2.B (ls2 := [some (.ref 48), some (.int (nI a)), some (.int 1)]) (st2 := [.int 1, .int 1]) b_X11_personOf_13_15 rfl (fun hd => ?_)
  refine R2.icmp_ne 27 hd (by decide) (fun c15 => absurd (by decide) c15) (fun c15 => ?_)
  refine R2.B (ls2 := [some (.ref 48), some (.int (nI a)), some (.int 1)]) (st2 := [.int (nI a), .ref 53]) b_X11_personOf_18_23 rfl (fun hd => ?_)
  refine R2.iald a rfl hd rfl (fun _ => rfl) (by decide) (by omega) ?_
  refine R2.B (ls2 := [some (.ref 48), some (.int (nI a)), some (.int 1)]) (st2 := [.int (F 53 a)]) b_X11_personOf_24_67 rfl (fun hd => ?_)
  exact R2.ret3 (r := some (.int (F 53 a))) hd trivial rfl rfl rfl
theorem b_X11_personOf_27_29 : bl2 mX11_personOf 27 [(.iload_n 2, 1, 2, 0, .null), (.iconst 2, 1, 0, 0, .int 2)] 29 (.if_icmp .ne 12) 3 = true := by decide +kernel
theorem b_X11_personOf_32_37 : bl2 mX11_personOf 32 [(.aload_n 0, 1, 0, 0, .null), (.getfield 25, 3, 11, 6, .null), (.iload_n 1, 1, 1, 0, .null)] 37 (.iaload) 1 = true := by decide +kernel
theorem b_X11_personOf_38_67 : bl2 mX11_personOf 38 [(.goto 29, 3, 67, 0, .null)] 67 (.ireturn) 1 = true := by decide +kernel
set_option maxRecDepth 20000 in
set_option maxHeartbeats 1000000 in
theorem me_personOf2 (E : EE) (L : Nat) (F : FF) (a : Nat) (ha : a < 11) : Ev3 E L 1 mX11_personOf [.ref 48, .int (nI a), .int 2] F (some (.int (F 54 a))) F := by
  refine Ev3.of okX11_personOf.2.2.1 (Nat.le_of_ble_eq_true rfl) ?_
  show R2 E L mX11_personOf 1 0 [some (.ref 48), some (.int (nI a)), some (.int 2)] [] F _
  refine R2.B (ls2 := [some (.ref 48), some (.int (nI a)), some (.int 2)]) (st2 := [.int 2]) b_X11_personOf_0_1 rfl (fun hd => ?_)
  refine R2.if_ne 13 hd (by decide) (fun c1 => ?_) (fun c1 => absurd c1 (by decide))
  refine R2.B (ls2 := [some (.ref 48), some (.int (nI a)), some (.int 2)]) (st2 := [.int 1, .int 2]) b_X11_personOf_13_15 rfl (fun hd => ?_)
  refine R2.icmp_ne 27 hd (by decide) (fun c15 => ?_) (fun c15 => absurd c15 (by decide))
  refine R2.B (ls2 := [some (.ref 48), some (.int (nI a)), some (.int 2)]) (st2 := [.int 2, .int 2]) b_X11_personOf_27_29 rfl (fun hd => ?_)
  refine R2.icmp_ne 41 hd (by decide) (fun c29 => absurd (by decide) c29) (fun c29 => ?_)
  refine R2.B (ls2 := [some (.ref 48), some (.int (nI a)), some (.int 2)]) (st2 := [.int (nI a), .ref 54]) b_X11_personOf_32_37 rfl (fun hd => ?_)
  refine R2.iald a rfl hd rfl (fun _ => rfl) (by decide) (by omega) ?_
  refine R2.B (ls2 := [some (.ref 48), some (.int (nI a)), some (.int 2)]) (st2 := [.int (F 54 a)]) b_X11_personOf_38_67 rfl (fun hd => ?_)
  exact R2.ret3 (r := some (.int (F 54 a))) hd trivial rfl rfl rfl
theorem b_X11_personOf_41_43 : bl2 mX11_personOf 41 [(.iload_n 2, 1, 2, 0, .null), (.iconst 3, 1, 0, 0, .int 3)] 43 (.if_icmp .ne 15) 3 = true := by decide +kernel
theorem b_X11_personOf_46_51 : bl2 mX11_personOf 46 [(.aload_n 0, 1, 0, 0, .null), (.getfield 31, 3, 11, 8, .null), (.iload_n 1, 1, 1, 0, .null)] 51 (.iaload) 1 = true := by decide +kernel
theorem b_X11_personOf_52_54 : bl2 mX11_personOf 52 [(.bipush 32, 2, 0, 0, .int 32)] 54 (.irem) 1 = true := by decide +kernel
theorem b_X11_personOf_55_67 : bl2 mX11_personOf 55 [(.goto 12, 3, 67, 0, .null)] 67 (.ireturn) 1 = true := by decide +kernel
set_option maxRecDepth 20000 in
set_option maxHeartbeats 1000000 in
theorem me_personOf3 (E : EE) (L : Nat) (F : FF) (a : Nat) (ha : a < 11) : Ev3 E L 1 mX11_personOf [.ref 48, .int (nI a), .int 3] F (some (.int (rem32 (F 56 a)))) F := by
  refine Ev3.of okX11_personOf.2.2.1 (Nat.le_of_ble_eq_true rfl) ?_
  show R2 E L mX11_personOf 1 0 [some (.ref 48), some (.int (nI a)), some (.int 3)] [] F _
  refine R2.B (ls2 := [some (.ref 48), some (.int (nI a)), some (.int 3)]) (st2 := [.int 3]) b_X11_personOf_0_1 rfl (fun hd => ?_)
  refine R2.if_ne 13 hd (by decide) (fun c1 => ?_) (fun c1 => absurd c1 (by decide))
  refine R2.B (ls2 := [some (.ref 48), some (.int (nI a)), some (.int 3)]) (st2 := [.int 1, .int 3]) b_X11_personOf_13_15 rfl (fun hd => ?_)
  refine R2.icmp_ne 27 hd (by decide) (fun c15 => ?_) (fun c15 => absurd c15 (by decide))
  refine R2.B (ls2 := [some (.ref 48), some (.int (nI a)), some (.int 3)]) (st2 := [.int 2, .int 3]) b_X11_personOf_27_29 rfl (fun hd => ?_)
  refine R2.icmp_ne 41 hd (by decide) (fun c29 => ?_) (fun c29 => absurd c29 (by decide))
  refine R2.B (ls2 := [some (.ref 48), some (.int (nI a)), some (.int 3)]) (st2 := [.int 3, .int 3]) b_X11_personOf_41_43 rfl (fun hd => ?_)
  refine R2.icmp_ne 58 hd (by decide) (fun c43 => absurd (by decide) c43) (fun c43 => ?_)
  refine R2.B (ls2 := [some (.ref 48), some (.int (nI a)), some (.int 3)]) (st2 := [.int (nI a), .ref 56]) b_X11_personOf_46_51 rfl (fun hd => ?_)
  refine R2.iald a rfl hd rfl (fun _ => rfl) (by decide) (by omega) ?_
  refine R2.B (ls2 := [some (.ref 48), some (.int (nI a)), some (.int 3)]) (st2 := [.int 32, .int (F 56 a)]) b_X11_personOf_52_54 rfl (fun hd => ?_)
  refine R2.irem hd (by decide) ?_
  refine R2.B (ls2 := [some (.ref 48), some (.int (nI a)), some (.int 3)]) (st2 := [.int ((F 56 a) - (F 56 a) / 32 * 32)]) b_X11_personOf_55_67 rfl (fun hd => ?_)
  exact R2.ret3 (r := some (.int ((F 56 a) - (F 56 a) / 32 * 32))) hd trivial rfl rfl rfl
theorem b_X11_personOf_58_63 : bl2 mX11_personOf 58 [(.aload_n 0, 1, 0, 0, .null), (.getfield 31, 3, 11, 8, .null), (.iload_n 1, 1, 1, 0, .null)] 63 (.iaload) 1 = true := by decide +kernel
theorem b_X11_personOf_64_66 : bl2 mX11_personOf 64 [(.bipush 32, 2, 0, 0, .int 32)] 66 (.idiv) 1 = true := by decide +kernel
theorem b_X11_personOf_67_67 : bl2 mX11_personOf 67 [] 67 (.ireturn) 1 = true := by decide +kernel
set_option maxRecDepth 20000 in
set_option maxHeartbeats 1000000 in
theorem me_personOf4 (E : EE) (L : Nat) (F : FF) (a : Nat) (ha : a < 11) : Ev3 E L 1 mX11_personOf [.ref 48, .int (nI a), .int 4] F (some (.int (F 56 a / 32))) F := by
  refine Ev3.of okX11_personOf.2.2.1 (Nat.le_of_ble_eq_true rfl) ?_
  show R2 E L mX11_personOf 1 0 [some (.ref 48), some (.int (nI a)), some (.int 4)] [] F _
  refine R2.B (ls2 := [some (.ref 48), some (.int (nI a)), some (.int 4)]) (st2 := [.int 4]) b_X11_personOf_0_1 rfl (fun hd => ?_)
  refine R2.if_ne 13 hd (by decide) (fun c1 => ?_) (fun c1 => absurd c1 (by decide))
  refine R2.B (ls2 := [some (.ref 48), some (.int (nI a)), some (.int 4)]) (st2 := [.int 1, .int 4]) b_X11_personOf_13_15 rfl (fun hd => ?_)
  refine R2.icmp_ne 27 hd (by decide) (fun c15 => ?_) (fun c15 => absurd c15 (by decide))
  refine R2.B (ls2 := [some (.ref 48), some (.int (nI a)), some (.int 4)]) (st2 := [.int 2, .int 4]) b_X11_personOf_27_29 rfl (fun hd => ?_)
  refine R2.icmp_ne 41 hd (by decide) (fun c29 => ?_) (fun c29 => absurd c29 (by decide))
  refine R2.B (ls2 := [some (.ref 48), some (.int (nI a)), some (.int 4)]) (st2 := [.int 3, .int 4]) b_X11_personOf_41_43 rfl (fun hd => ?_)
  refine R2.icmp_ne 58 hd (by decide) (fun c43 => ?_) (fun c43 => absurd c43 (by decide))
  refine R2.B (ls2 := [some (.ref 48), some (.int (nI a)), some (.int 4)]) (st2 := [.int (nI a), .ref 56]) b_X11_personOf_58_63 rfl (fun hd => ?_)
  refine R2.iald a rfl hd rfl (fun _ => rfl) (by decide) (by omega) ?_
  refine R2.B (ls2 := [some (.ref 48), some (.int (nI a)), some (.int 4)]) (st2 := [.int 32, .int (F 56 a)]) b_X11_personOf_64_66 rfl (fun hd => ?_)
  refine R2.idiv hd (by decide) ?_
  refine R2.B (ls2 := [some (.ref 48), some (.int (nI a)), some (.int 4)]) (st2 := [.int ((F 56 a) / 32)]) b_X11_personOf_67_67 rfl (fun hd => ?_)
  exact R2.ret3 (r := some (.int ((F 56 a) / 32))) hd trivial rfl rfl rfl
theorem b_X11_person_0_2 : bl2 mX11_person 0 [(.aload_n 0, 1, 0, 0, .null), (.iload_n 1, 1, 1, 0, .null)] 2 (.invokevirtual 131) 3 = true := by decide +kernel
theorem b_X11_person_5_5 : bl2 mX11_person 5 [] 5 (.ifCond .eq 21) 3 = true := by decide +kernel
theorem b_X11_person_26_28 : bl2 mX11_person 26 [(.bipush (-2), 2, 0, 0, .int (-2))] 28 (.ireturn) 1 = true := by decide +kernel
theorem b_X11_person_8_8 : bl2 mX11_person 8 [] 8 (.iload_n 2) 1 = true := by decide +kernel
set_option maxRecDepth 20000 in
set_option maxHeartbeats 1000000 in
theorem y_person_bad (E : EE) (L : Nat) (F : FF) (l n : Nat) (hm : MR F l n) (p w : Int32) (h : ¬ (0 ≤ p ∧ p < nI n)) : Ev3 E L 16 mX11_person [.ref 48, .int p, .int w] F (some (.int (-2))) F := by
  refine Ev3.of okX11_person.2.2.1 (Nat.le_of_ble_eq_true rfl) ?_
  show R2 E L mX11_person 16 0 [some (.ref 48), some (.int p), some (.int w)] [] F _
  refine R2.B (ls2 := [some (.ref 48), some (.int p), some (.int w)]) (st2 := [.int p, .ref 48]) b_X11_person_0_2 rfl (fun hd => ?_)
  refine R2.callV3 (M2 := mX11_isPerson) (As := [.int p]) (rest := []) hd lk_11_131 okX11_isPerson (by decide) rfl (me_isPerson E L F l n hm p) (by decide) rfl rfl (Nat.le_of_ble_eq_true rfl) ?_
  refine R2.B (ls2 := [some (.ref 48), some (.int p), some (.int w)]) (st2 := [.int (b2i (0 ≤ p ∧ p < nI n))]) b_X11_person_5_5 rfl (fun hd => ?_)
  refine R2.if_eq 26 hd (by decide) (fun c5 => ?_) (fun c5 => ?_)
  · have nc5 : ¬ (0 ≤ p ∧ p < nI n) := b2i_zero.mp c5
    refine R2.B (ls2 := [some (.ref 48), some (.int p), some (.int w)]) (st2 := [.int (-2)]) b_X11_person_26_28 rfl (fun hd => ?_)
    exact R2.ret3 (r := some (.int (-2))) hd trivial rfl rfl rfl
  · have nc5 : 0 ≤ p ∧ p < nI n := b2i_nz.mp c5
    refine R2.B (ls2 := [some (.ref 48), some (.int p), some (.int w)]) (st2 := []) b_X11_person_8_8 rfl (fun hd => ?_)
    exact False.elim (by clear hd; grind)
theorem b_X11_person_8_11 : bl2 mX11_person 8 [(.iload_n 2, 1, 2, 0, .null), (.iconst 0, 1, 0, 0, .int 0), (.iconst 4, 1, 0, 0, .int 4)] 11 (.invokestatic 86) 3 = true := by decide +kernel
theorem b_X11_person_14_14 : bl2 mX11_person 14 [] 14 (.ifCond .eq 12) 3 = true := by decide +kernel
theorem b_X11_person_17_17 : bl2 mX11_person 17 [] 17 (.aload_n 0) 1 = true := by decide +kernel
set_option maxRecDepth 20000 in
set_option maxHeartbeats 1000000 in
theorem y_person_out (E : EE) (L : Nat) (F : FF) (l n : Nat) (hm : MR F l n) (a : Nat) (ha : a < n) (w : Int32) (h : ¬ (0 ≤ w ∧ w ≤ 4)) : Ev3 E L 16 mX11_person [.ref 48, .int (nI a), .int w] F (some (.int (-2))) F := by
  refine Ev3.of okX11_person.2.2.1 (Nat.le_of_ble_eq_true rfl) ?_
  show R2 E L mX11_person 16 0 [some (.ref 48), some (.int (nI a)), some (.int w)] [] F _
  refine R2.B (ls2 := [some (.ref 48), some (.int (nI a)), some (.int w)]) (st2 := [.int (nI a), .ref 48]) b_X11_person_0_2 rfl (fun hd => ?_)
  refine R2.callV3 (M2 := mX11_isPerson) (As := [.int (nI a)]) (rest := []) hd lk_11_131 okX11_isPerson (by decide) rfl (me_isPerson E L F l n hm (nI a)) (by decide) rfl rfl (Nat.le_of_ble_eq_true rfl) ?_
  refine R2.B (ls2 := [some (.ref 48), some (.int (nI a)), some (.int w)]) (st2 := [.int (b2i (0 ≤ (nI a) ∧ (nI a) < nI n))]) b_X11_person_5_5 rfl (fun hd => ?_)
  refine R2.if_eq 26 hd (by decide) (fun c5 => ?_) (fun c5 => ?_)
  · have nc5 : ¬ (0 ≤ (nI a) ∧ (nI a) < nI n) := b2i_zero.mp c5
    refine R2.B (ls2 := [some (.ref 48), some (.int (nI a)), some (.int w)]) (st2 := [.int (-2)]) b_X11_person_26_28 rfl (fun hd => ?_)
    exact R2.ret3 (r := some (.int (-2))) hd trivial rfl rfl rfl
  · have nc5 : 0 ≤ (nI a) ∧ (nI a) < nI n := b2i_nz.mp c5
    refine R2.B (ls2 := [some (.ref 48), some (.int (nI a)), some (.int w)]) (st2 := [.int 4, .int 0, .int w]) b_X11_person_8_11 rfl (fun hd => ?_)
    refine R2.callS3 (M2 := mX11_in) (As := [.int w, .int 0, .int 4]) (rest := []) hd lk_11_86 okX11_in (by decide) (ev_in E L F w 0 4) (by decide) rfl rfl (Nat.le_of_ble_eq_true rfl) ?_
    refine R2.B (ls2 := [some (.ref 48), some (.int (nI a)), some (.int w)]) (st2 := [.int (b2i (0 ≤ w ∧ w ≤ 4))]) b_X11_person_14_14 rfl (fun hd => ?_)
    refine R2.if_eq 26 hd (by decide) (fun c14 => ?_) (fun c14 => ?_)
    · have nc14 : ¬ (0 ≤ w ∧ w ≤ 4) := b2i_zero.mp c14
      refine R2.B (ls2 := [some (.ref 48), some (.int (nI a)), some (.int w)]) (st2 := [.int (-2)]) b_X11_person_26_28 rfl (fun hd => ?_)
      exact R2.ret3 (r := some (.int (-2))) hd trivial rfl rfl rfl
    · have nc14 : 0 ≤ w ∧ w ≤ 4 := b2i_nz.mp c14
      refine R2.B (ls2 := [some (.ref 48), some (.int (nI a)), some (.int w)]) (st2 := []) b_X11_person_17_17 rfl (fun hd => ?_)
      exact False.elim (by clear hd; grind)
theorem b_X11_person_17_20 : bl2 mX11_person 17 [(.aload_n 0, 1, 0, 0, .null), (.iload_n 1, 1, 1, 0, .null), (.iload_n 2, 1, 2, 0, .null)] 20 (.invokevirtual 134) 3 = true := by decide +kernel
theorem b_X11_person_23_28 : bl2 mX11_person 23 [(.goto 5, 3, 28, 0, .null)] 28 (.ireturn) 1 = true := by decide +kernel
set_option maxRecDepth 20000 in
set_option maxHeartbeats 1000000 in
theorem y_person0 (E : EE) (L : Nat) (F : FF) (l n : Nat) (hm : MR F l n) (a : Nat) (ha : a < n) : Ev3 E L 16 mX11_person [.ref 48, .int (nI a), .int 0] F (some (.int (F 52 a))) F := by
  have hn10 := hm.2.2.1
  refine Ev3.of okX11_person.2.2.1 (Nat.le_of_ble_eq_true rfl) ?_
  show R2 E L mX11_person 16 0 [some (.ref 48), some (.int (nI a)), some (.int 0)] [] F _
  refine R2.B (ls2 := [some (.ref 48), some (.int (nI a)), some (.int 0)]) (st2 := [.int (nI a), .ref 48]) b_X11_person_0_2 rfl (fun hd => ?_)
  refine R2.callV3 (M2 := mX11_isPerson) (As := [.int (nI a)]) (rest := []) hd lk_11_131 okX11_isPerson (by decide) rfl (me_isPerson E L F l n hm (nI a)) (by decide) rfl rfl (Nat.le_of_ble_eq_true rfl) ?_
  refine R2.B (ls2 := [some (.ref 48), some (.int (nI a)), some (.int 0)]) (st2 := [.int (b2i (0 ≤ (nI a) ∧ (nI a) < nI n))]) b_X11_person_5_5 rfl (fun hd => ?_)
  refine R2.if_eq 26 hd (by decide) (fun c5 => absurd c5 (b2i_nz.mpr (perM hn10 ha))) (fun c5 => ?_)
  refine R2.B (ls2 := [some (.ref 48), some (.int (nI a)), some (.int 0)]) (st2 := [.int 4, .int 0, .int 0]) b_X11_person_8_11 rfl (fun hd => ?_)
  refine R2.callS3 (M2 := mX11_in) (As := [.int 0, .int 0, .int 4]) (rest := []) hd lk_11_86 okX11_in (by decide) (ev_in E L F 0 0 4) (by decide) rfl rfl (Nat.le_of_ble_eq_true rfl) ?_
  refine R2.B (ls2 := [some (.ref 48), some (.int (nI a)), some (.int 0)]) (st2 := [.int (b2i (0 ≤ 0 ∧ 0 ≤ 4))]) b_X11_person_14_14 rfl (fun hd => ?_)
  refine R2.if_eq 26 hd (by decide) (fun c14 => ?_) (fun c14 => ?_)
  · have nc14 : ¬ (0 ≤ 0 ∧ 0 ≤ 4) := b2i_zero.mp c14
    refine R2.B (ls2 := [some (.ref 48), some (.int (nI a)), some (.int 0)]) (st2 := [.int (-2)]) b_X11_person_26_28 rfl (fun hd => ?_)
    exact False.elim (by clear hd; grind)
  · have nc14 : 0 ≤ 0 ∧ 0 ≤ 4 := b2i_nz.mp c14
    refine R2.B (ls2 := [some (.ref 48), some (.int (nI a)), some (.int 0)]) (st2 := [.int 0, .int (nI a), .ref 48]) b_X11_person_17_20 rfl (fun hd => ?_)
    refine R2.callV3 (M2 := mX11_personOf) (As := [.int (nI a), .int 0]) (rest := []) hd lk_11_134 okX11_personOf (by decide) rfl (me_personOf0 E L F a (by omega)) (by decide) rfl rfl (Nat.le_of_ble_eq_true rfl) ?_
    refine R2.B (ls2 := [some (.ref 48), some (.int (nI a)), some (.int 0)]) (st2 := [.int (F 52 a)]) b_X11_person_23_28 rfl (fun hd => ?_)
    exact R2.ret3 (r := some (.int (F 52 a))) hd trivial rfl rfl rfl
set_option maxRecDepth 20000 in
set_option maxHeartbeats 1000000 in
theorem y_person1 (E : EE) (L : Nat) (F : FF) (l n : Nat) (hm : MR F l n) (a : Nat) (ha : a < n) : Ev3 E L 16 mX11_person [.ref 48, .int (nI a), .int 1] F (some (.int (F 53 a))) F := by
  have hn10 := hm.2.2.1
  refine Ev3.of okX11_person.2.2.1 (Nat.le_of_ble_eq_true rfl) ?_
  show R2 E L mX11_person 16 0 [some (.ref 48), some (.int (nI a)), some (.int 1)] [] F _
  refine R2.B (ls2 := [some (.ref 48), some (.int (nI a)), some (.int 1)]) (st2 := [.int (nI a), .ref 48]) b_X11_person_0_2 rfl (fun hd => ?_)
  refine R2.callV3 (M2 := mX11_isPerson) (As := [.int (nI a)]) (rest := []) hd lk_11_131 okX11_isPerson (by decide) rfl (me_isPerson E L F l n hm (nI a)) (by decide) rfl rfl (Nat.le_of_ble_eq_true rfl) ?_
  refine R2.B (ls2 := [some (.ref 48), some (.int (nI a)), some (.int 1)]) (st2 := [.int (b2i (0 ≤ (nI a) ∧ (nI a) < nI n))]) b_X11_person_5_5 rfl (fun hd => ?_)
  refine R2.if_eq 26 hd (by decide) (fun c5 => absurd c5 (b2i_nz.mpr (perM hn10 ha))) (fun c5 => ?_)
  refine R2.B (ls2 := [some (.ref 48), some (.int (nI a)), some (.int 1)]) (st2 := [.int 4, .int 0, .int 1]) b_X11_person_8_11 rfl (fun hd => ?_)
  refine R2.callS3 (M2 := mX11_in) (As := [.int 1, .int 0, .int 4]) (rest := []) hd lk_11_86 okX11_in (by decide) (ev_in E L F 1 0 4) (by decide) rfl rfl (Nat.le_of_ble_eq_true rfl) ?_
  refine R2.B (ls2 := [some (.ref 48), some (.int (nI a)), some (.int 1)]) (st2 := [.int (b2i (0 ≤ 1 ∧ 1 ≤ 4))]) b_X11_person_14_14 rfl (fun hd => ?_)
  refine R2.if_eq 26 hd (by decide) (fun c14 => ?_) (fun c14 => ?_)
  · have nc14 : ¬ (0 ≤ 1 ∧ 1 ≤ 4) := b2i_zero.mp c14
    refine R2.B (ls2 := [some (.ref 48), some (.int (nI a)), some (.int 1)]) (st2 := [.int (-2)]) b_X11_person_26_28 rfl (fun hd => ?_)
    exact False.elim (by clear hd; grind)
  · have nc14 : 0 ≤ 1 ∧ 1 ≤ 4 := b2i_nz.mp c14
    refine R2.B (ls2 := [some (.ref 48), some (.int (nI a)), some (.int 1)]) (st2 := [.int 1, .int (nI a), .ref 48]) b_X11_person_17_20 rfl (fun hd => ?_)
    refine R2.callV3 (M2 := mX11_personOf) (As := [.int (nI a), .int 1]) (rest := []) hd lk_11_134 okX11_personOf (by decide) rfl (me_personOf1 E L F a (by omega)) (by decide) rfl rfl (Nat.le_of_ble_eq_true rfl) ?_
    refine R2.B (ls2 := [some (.ref 48), some (.int (nI a)), some (.int 1)]) (st2 := [.int (F 53 a)]) b_X11_person_23_28 rfl (fun hd => ?_)
    exact R2.ret3 (r := some (.int (F 53 a))) hd trivial rfl rfl rfl
set_option maxRecDepth 20000 in
set_option maxHeartbeats 1000000 in
theorem y_person2 (E : EE) (L : Nat) (F : FF) (l n : Nat) (hm : MR F l n) (a : Nat) (ha : a < n) : Ev3 E L 16 mX11_person [.ref 48, .int (nI a), .int 2] F (some (.int (F 54 a))) F := by
  have hn10 := hm.2.2.1
  refine Ev3.of okX11_person.2.2.1 (Nat.le_of_ble_eq_true rfl) ?_
  show R2 E L mX11_person 16 0 [some (.ref 48), some (.int (nI a)), some (.int 2)] [] F _
  refine R2.B (ls2 := [some (.ref 48), some (.int (nI a)), some (.int 2)]) (st2 := [.int (nI a), .ref 48]) b_X11_person_0_2 rfl (fun hd => ?_)
  refine R2.callV3 (M2 := mX11_isPerson) (As := [.int (nI a)]) (rest := []) hd lk_11_131 okX11_isPerson (by decide) rfl (me_isPerson E L F l n hm (nI a)) (by decide) rfl rfl (Nat.le_of_ble_eq_true rfl) ?_
  refine R2.B (ls2 := [some (.ref 48), some (.int (nI a)), some (.int 2)]) (st2 := [.int (b2i (0 ≤ (nI a) ∧ (nI a) < nI n))]) b_X11_person_5_5 rfl (fun hd => ?_)
  refine R2.if_eq 26 hd (by decide) (fun c5 => absurd c5 (b2i_nz.mpr (perM hn10 ha))) (fun c5 => ?_)
  refine R2.B (ls2 := [some (.ref 48), some (.int (nI a)), some (.int 2)]) (st2 := [.int 4, .int 0, .int 2]) b_X11_person_8_11 rfl (fun hd => ?_)
  refine R2.callS3 (M2 := mX11_in) (As := [.int 2, .int 0, .int 4]) (rest := []) hd lk_11_86 okX11_in (by decide) (ev_in E L F 2 0 4) (by decide) rfl rfl (Nat.le_of_ble_eq_true rfl) ?_
  refine R2.B (ls2 := [some (.ref 48), some (.int (nI a)), some (.int 2)]) (st2 := [.int (b2i (0 ≤ 2 ∧ 2 ≤ 4))]) b_X11_person_14_14 rfl (fun hd => ?_)
  refine R2.if_eq 26 hd (by decide) (fun c14 => ?_) (fun c14 => ?_)
  · have nc14 : ¬ (0 ≤ 2 ∧ 2 ≤ 4) := b2i_zero.mp c14
    refine R2.B (ls2 := [some (.ref 48), some (.int (nI a)), some (.int 2)]) (st2 := [.int (-2)]) b_X11_person_26_28 rfl (fun hd => ?_)
    exact False.elim (by clear hd; grind)
  · have nc14 : 0 ≤ 2 ∧ 2 ≤ 4 := b2i_nz.mp c14
    refine R2.B (ls2 := [some (.ref 48), some (.int (nI a)), some (.int 2)]) (st2 := [.int 2, .int (nI a), .ref 48]) b_X11_person_17_20 rfl (fun hd => ?_)
    refine R2.callV3 (M2 := mX11_personOf) (As := [.int (nI a), .int 2]) (rest := []) hd lk_11_134 okX11_personOf (by decide) rfl (me_personOf2 E L F a (by omega)) (by decide) rfl rfl (Nat.le_of_ble_eq_true rfl) ?_
    refine R2.B (ls2 := [some (.ref 48), some (.int (nI a)), some (.int 2)]) (st2 := [.int (F 54 a)]) b_X11_person_23_28 rfl (fun hd => ?_)
    exact R2.ret3 (r := some (.int (F 54 a))) hd trivial rfl rfl rfl
set_option maxRecDepth 20000 in
set_option maxHeartbeats 1000000 in
theorem y_person3 (E : EE) (L : Nat) (F : FF) (l n : Nat) (hm : MR F l n) (a : Nat) (ha : a < n) : Ev3 E L 16 mX11_person [.ref 48, .int (nI a), .int 3] F (some (.int (rem32 (F 56 a)))) F := by
  have hn10 := hm.2.2.1
  refine Ev3.of okX11_person.2.2.1 (Nat.le_of_ble_eq_true rfl) ?_
  show R2 E L mX11_person 16 0 [some (.ref 48), some (.int (nI a)), some (.int 3)] [] F _
  refine R2.B (ls2 := [some (.ref 48), some (.int (nI a)), some (.int 3)]) (st2 := [.int (nI a), .ref 48]) b_X11_person_0_2 rfl (fun hd => ?_)
  refine R2.callV3 (M2 := mX11_isPerson) (As := [.int (nI a)]) (rest := []) hd lk_11_131 okX11_isPerson (by decide) rfl (me_isPerson E L F l n hm (nI a)) (by decide) rfl rfl (Nat.le_of_ble_eq_true rfl) ?_
  refine R2.B (ls2 := [some (.ref 48), some (.int (nI a)), some (.int 3)]) (st2 := [.int (b2i (0 ≤ (nI a) ∧ (nI a) < nI n))]) b_X11_person_5_5 rfl (fun hd => ?_)
  refine R2.if_eq 26 hd (by decide) (fun c5 => absurd c5 (b2i_nz.mpr (perM hn10 ha))) (fun c5 => ?_)
  refine R2.B (ls2 := [some (.ref 48), some (.int (nI a)), some (.int 3)]) (st2 := [.int 4, .int 0, .int 3]) b_X11_person_8_11 rfl (fun hd => ?_)
  refine R2.callS3 (M2 := mX11_in) (As := [.int 3, .int 0, .int 4]) (rest := []) hd lk_11_86 okX11_in (by decide) (ev_in E L F 3 0 4) (by decide) rfl rfl (Nat.le_of_ble_eq_true rfl) ?_
  refine R2.B (ls2 := [some (.ref 48), some (.int (nI a)), some (.int 3)]) (st2 := [.int (b2i (0 ≤ 3 ∧ 3 ≤ 4))]) b_X11_person_14_14 rfl (fun hd => ?_)
  refine R2.if_eq 26 hd (by decide) (fun c14 => ?_) (fun c14 => ?_)
  · have nc14 : ¬ (0 ≤ 3 ∧ 3 ≤ 4) := b2i_zero.mp c14
    refine R2.B (ls2 := [some (.ref 48), some (.int (nI a)), some (.int 3)]) (st2 := [.int (-2)]) b_X11_person_26_28 rfl (fun hd => ?_)
    exact False.elim (by clear hd; grind)
  · have nc14 : 0 ≤ 3 ∧ 3 ≤ 4 := b2i_nz.mp c14
    refine R2.B (ls2 := [some (.ref 48), some (.int (nI a)), some (.int 3)]) (st2 := [.int 3, .int (nI a), .ref 48]) b_X11_person_17_20 rfl (fun hd => ?_)
    refine R2.callV3 (M2 := mX11_personOf) (As := [.int (nI a), .int 3]) (rest := []) hd lk_11_134 okX11_personOf (by decide) rfl (me_personOf3 E L F a (by omega)) (by decide) rfl rfl (Nat.le_of_ble_eq_true rfl) ?_
    refine R2.B (ls2 := [some (.ref 48), some (.int (nI a)), some (.int 3)]) (st2 := [.int (rem32 (F 56 a))]) b_X11_person_23_28 rfl (fun hd => ?_)
    exact R2.ret3 (r := some (.int (rem32 (F 56 a)))) hd trivial rfl rfl rfl
set_option maxRecDepth 20000 in
set_option maxHeartbeats 1000000 in
theorem y_person4 (E : EE) (L : Nat) (F : FF) (l n : Nat) (hm : MR F l n) (a : Nat) (ha : a < n) : Ev3 E L 16 mX11_person [.ref 48, .int (nI a), .int 4] F (some (.int (F 56 a / 32))) F := by
  have hn10 := hm.2.2.1
  refine Ev3.of okX11_person.2.2.1 (Nat.le_of_ble_eq_true rfl) ?_
  show R2 E L mX11_person 16 0 [some (.ref 48), some (.int (nI a)), some (.int 4)] [] F _
  refine R2.B (ls2 := [some (.ref 48), some (.int (nI a)), some (.int 4)]) (st2 := [.int (nI a), .ref 48]) b_X11_person_0_2 rfl (fun hd => ?_)
  refine R2.callV3 (M2 := mX11_isPerson) (As := [.int (nI a)]) (rest := []) hd lk_11_131 okX11_isPerson (by decide) rfl (me_isPerson E L F l n hm (nI a)) (by decide) rfl rfl (Nat.le_of_ble_eq_true rfl) ?_
  refine R2.B (ls2 := [some (.ref 48), some (.int (nI a)), some (.int 4)]) (st2 := [.int (b2i (0 ≤ (nI a) ∧ (nI a) < nI n))]) b_X11_person_5_5 rfl (fun hd => ?_)
  refine R2.if_eq 26 hd (by decide) (fun c5 => absurd c5 (b2i_nz.mpr (perM hn10 ha))) (fun c5 => ?_)
  refine R2.B (ls2 := [some (.ref 48), some (.int (nI a)), some (.int 4)]) (st2 := [.int 4, .int 0, .int 4]) b_X11_person_8_11 rfl (fun hd => ?_)
  refine R2.callS3 (M2 := mX11_in) (As := [.int 4, .int 0, .int 4]) (rest := []) hd lk_11_86 okX11_in (by decide) (ev_in E L F 4 0 4) (by decide) rfl rfl (Nat.le_of_ble_eq_true rfl) ?_
  refine R2.B (ls2 := [some (.ref 48), some (.int (nI a)), some (.int 4)]) (st2 := [.int (b2i (0 ≤ 4 ∧ 4 ≤ 4))]) b_X11_person_14_14 rfl (fun hd => ?_)
  refine R2.if_eq 26 hd (by decide) (fun c14 => ?_) (fun c14 => ?_)
  · have nc14 : ¬ (0 ≤ 4 ∧ 4 ≤ 4) := b2i_zero.mp c14
    refine R2.B (ls2 := [some (.ref 48), some (.int (nI a)), some (.int 4)]) (st2 := [.int (-2)]) b_X11_person_26_28 rfl (fun hd => ?_)
    exact False.elim (by clear hd; grind)
  · have nc14 : 0 ≤ 4 ∧ 4 ≤ 4 := b2i_nz.mp c14
    refine R2.B (ls2 := [some (.ref 48), some (.int (nI a)), some (.int 4)]) (st2 := [.int 4, .int (nI a), .ref 48]) b_X11_person_17_20 rfl (fun hd => ?_)
    refine R2.callV3 (M2 := mX11_personOf) (As := [.int (nI a), .int 4]) (rest := []) hd lk_11_134 okX11_personOf (by decide) rfl (me_personOf4 E L F a (by omega)) (by decide) rfl rfl (Nat.le_of_ble_eq_true rfl) ?_
    refine R2.B (ls2 := [some (.ref 48), some (.int (nI a)), some (.int 4)]) (st2 := [.int (F 56 a / 32)]) b_X11_person_23_28 rfl (fun hd => ?_)
    exact R2.ret3 (r := some (.int (F 56 a / 32))) hd trivial rfl rfl rfl
theorem b_X11_step_0_2 : bl2 mX11_step 0 [(.aload_n 0, 1, 0, 0, .null), (.iload_n 1, 1, 1, 0, .null)] 2 (.invokevirtual 131) 3 = true := by decide +kernel
theorem b_X11_step_5_5 : bl2 mX11_step 5 [] 5 (.ifCond .eq 13) 3 = true := by decide +kernel
theorem b_X11_step_18_20 : bl2 mX11_step 18 [(.bipush (-2), 2, 0, 0, .int (-2))] 20 (.ireturn) 1 = true := by decide +kernel
theorem b_X11_step_8_12 : bl2 mX11_step 8 [(.iload_n 2, 1, 2, 0, .null), (.iconst 0, 1, 0, 0, .int 0), (.bipush 7, 2, 0, 0, .int 7)] 12 (.invokestatic 86) 3 = true := by decide +kernel
theorem b_X11_step_15_15 : bl2 mX11_step 15 [] 15 (.ifCond .ne 6) 3 = true := by decide +kernel
theorem b_X11_step_21_21 : bl2 mX11_step 21 [] 21 (.aload_n 0) 1 = true := by decide +kernel
set_option maxRecDepth 20000 in
set_option maxHeartbeats 1000000 in
theorem y_step_bad (E : EE) (L : Nat) (F : FF) (l n : Nat) (hm : MR F l n) (p d : Int32) (h : ¬ (0 ≤ p ∧ p < nI n) ∨ ¬ (0 ≤ d ∧ d < 8)) : Ev3 E L 16 mX11_step [.ref 48, .int p, .int d] F (some (.int (-2))) F := by
  refine Ev3.of okX11_step.2.2.1 (Nat.le_of_ble_eq_true rfl) ?_
  show R2 E L mX11_step 16 0 [some (.ref 48), some (.int p), some (.int d)] [] F _
  refine R2.B (ls2 := [some (.ref 48), some (.int p), some (.int d)]) (st2 := [.int p, .ref 48]) b_X11_step_0_2 rfl (fun hd => ?_)
  refine R2.callV3 (M2 := mX11_isPerson) (As := [.int p]) (rest := []) hd lk_11_131 okX11_isPerson (by decide) rfl (me_isPerson E L F l n hm p) (by decide) rfl rfl (Nat.le_of_ble_eq_true rfl) ?_
  refine R2.B (ls2 := [some (.ref 48), some (.int p), some (.int d)]) (st2 := [.int (b2i (0 ≤ p ∧ p < nI n))]) b_X11_step_5_5 rfl (fun hd => ?_)
  refine R2.if_eq 18 hd (by decide) (fun c5 => ?_) (fun c5 => ?_)
  · have nc5 : ¬ (0 ≤ p ∧ p < nI n) := b2i_zero.mp c5
    refine R2.B (ls2 := [some (.ref 48), some (.int p), some (.int d)]) (st2 := [.int (-2)]) b_X11_step_18_20 rfl (fun hd => ?_)
    exact R2.ret3 (r := some (.int (-2))) hd trivial rfl rfl rfl
  · have nc5 : 0 ≤ p ∧ p < nI n := b2i_nz.mp c5
    refine R2.B (ls2 := [some (.ref 48), some (.int p), some (.int d)]) (st2 := [.int 7, .int 0, .int d]) b_X11_step_8_12 rfl (fun hd => ?_)
    refine R2.callS3 (M2 := mX11_in) (As := [.int d, .int 0, .int 7]) (rest := []) hd lk_11_86 okX11_in (by decide) (ev_in E L F d 0 7) (by decide) rfl rfl (Nat.le_of_ble_eq_true rfl) ?_
    refine R2.B (ls2 := [some (.ref 48), some (.int p), some (.int d)]) (st2 := [.int (b2i (0 ≤ d ∧ d ≤ 7))]) b_X11_step_15_15 rfl (fun hd => ?_)
    refine R2.if_ne 21 hd (by decide) (fun c15 => ?_) (fun c15 => ?_)
    · have nc15 : 0 ≤ d ∧ d ≤ 7 := b2i_nz.mp c15
      refine R2.B (ls2 := [some (.ref 48), some (.int p), some (.int d)]) (st2 := []) b_X11_step_21_21 rfl (fun hd => ?_)
      exact False.elim (by clear hd; grind)
    · have nc15 : ¬ (0 ≤ d ∧ d ≤ 7) := b2i_zero.mp c15
      refine R2.B (ls2 := [some (.ref 48), some (.int p), some (.int d)]) (st2 := [.int (-2)]) b_X11_step_18_20 rfl (fun hd => ?_)
      exact R2.ret3 (r := some (.int (-2))) hd trivial rfl rfl rfl
theorem b_X11_step_21_24 : bl2 mX11_step 21 [(.aload_n 0, 1, 0, 0, .null), (.iload_n 1, 1, 1, 0, .null), (.iload_n 2, 1, 2, 0, .null)] 24 (.invokevirtual 150) 3 = true := by decide +kernel
theorem b_X11_step_27_27 : bl2 mX11_step 27 [] 27 (.ifCond .eq 7) 3 = true := by decide +kernel
theorem b_X11_step_34_36 : bl2 mX11_step 34 [(.bipush (-3), 2, 0, 0, .int (-3))] 36 (.ireturn) 1 = true := by decide +kernel
set_option maxRecDepth 20000 in
set_option maxHeartbeats 1000000 in
theorem y_step0 (E : EE) (L : Nat) (F : FF) (l n : Nat) (hm : MR F l n) (a d : Nat) (ha : a < n) (hd8 : d < 8) (h : ¬ stC F n a d) : Ev3 E L 16 mX11_step [.ref 48, .int (nI a), .int (nI d)] F (some (.int (-3))) (ly F n) := by
  have hn10 := hm.2.2.1
  refine Ev3.of okX11_step.2.2.1 (Nat.le_of_ble_eq_true rfl) ?_
  show R2 E L mX11_step 16 0 [some (.ref 48), some (.int (nI a)), some (.int (nI d))] [] F _
  refine R2.B (ls2 := [some (.ref 48), some (.int (nI a)), some (.int (nI d))]) (st2 := [.int (nI a), .ref 48]) b_X11_step_0_2 rfl (fun hd => ?_)
  refine R2.callV3 (M2 := mX11_isPerson) (As := [.int (nI a)]) (rest := []) hd lk_11_131 okX11_isPerson (by decide) rfl (me_isPerson E L F l n hm (nI a)) (by decide) rfl rfl (Nat.le_of_ble_eq_true rfl) ?_
  refine R2.B (ls2 := [some (.ref 48), some (.int (nI a)), some (.int (nI d))]) (st2 := [.int (b2i (0 ≤ (nI a) ∧ (nI a) < nI n))]) b_X11_step_5_5 rfl (fun hd => ?_)
  refine R2.if_eq 18 hd (by decide) (fun c5 => absurd c5 (b2i_nz.mpr (perM hn10 ha))) (fun c5 => ?_)
  refine R2.B (ls2 := [some (.ref 48), some (.int (nI a)), some (.int (nI d))]) (st2 := [.int 7, .int 0, .int (nI d)]) b_X11_step_8_12 rfl (fun hd => ?_)
  refine R2.callS3 (M2 := mX11_in) (As := [.int (nI d), .int 0, .int 7]) (rest := []) hd lk_11_86 okX11_in (by decide) (ev_in E L F (nI d) 0 7) (by decide) rfl rfl (Nat.le_of_ble_eq_true rfl) ?_
  refine R2.B (ls2 := [some (.ref 48), some (.int (nI a)), some (.int (nI d))]) (st2 := [.int (b2i (0 ≤ (nI d) ∧ (nI d) ≤ 7))]) b_X11_step_15_15 rfl (fun hd => ?_)
  refine R2.if_ne 21 hd (by decide) (fun c15 => ?_) (fun c15 => absurd c15 (b2i_nz.mpr ⟨nI_pos' (by omega), (nI_leI (b := 7) (by omega) (by omega)).mpr (by omega)⟩))
  refine R2.B (ls2 := [some (.ref 48), some (.int (nI a)), some (.int (nI d))]) (st2 := [.int (nI d), .int (nI a), .ref 48]) b_X11_step_21_24 rfl (fun hd => ?_)
  refine R2.callV3 (M2 := mX11_steps) (As := [.int (nI a), .int (nI d)]) (rest := []) hd lk_11_150 okX11_steps (by decide) rfl (me_steps0 E L F l n hm a d ha hd8 h) (by decide) rfl rfl (Nat.le_of_ble_eq_true rfl) ?_
  refine R2.B (ls2 := [some (.ref 48), some (.int (nI a)), some (.int (nI d))]) (st2 := [.int 0]) b_X11_step_27_27 rfl (fun hd => ?_)
  refine R2.if_eq 34 hd (by decide) (fun c27 => ?_) (fun c27 => absurd (by decide) c27)
  refine R2.B (ls2 := [some (.ref 48), some (.int (nI a)), some (.int (nI d))]) (st2 := [.int (-3)]) b_X11_step_34_36 rfl (fun hd => ?_)
  exact R2.ret3 (r := some (.int (-3))) hd trivial rfl rfl rfl
theorem b_X11_step_30_36 : bl2 mX11_step 30 [(.iconst 1, 1, 0, 0, .int 1), (.goto 5, 3, 36, 0, .null)] 36 (.ireturn) 1 = true := by decide +kernel
set_option maxRecDepth 20000 in
set_option maxHeartbeats 1000000 in
theorem y_step1 (E : EE) (L : Nat) (F : FF) (l n : Nat) (hm : MR F l n) (a d : Nat) (ha : a < n) (hd8 : d < 8) (h : stC F n a d) : Ev3 E L 16 mX11_step [.ref 48, .int (nI a), .int (nI d)] F (some (.int (1))) (up2 (ly F n) 56 a (nbr (F 56 a) d)) := by
  have hn10 := hm.2.2.1
  refine Ev3.of okX11_step.2.2.1 (Nat.le_of_ble_eq_true rfl) ?_
  show R2 E L mX11_step 16 0 [some (.ref 48), some (.int (nI a)), some (.int (nI d))] [] F _
  refine R2.B (ls2 := [some (.ref 48), some (.int (nI a)), some (.int (nI d))]) (st2 := [.int (nI a), .ref 48]) b_X11_step_0_2 rfl (fun hd => ?_)
  refine R2.callV3 (M2 := mX11_isPerson) (As := [.int (nI a)]) (rest := []) hd lk_11_131 okX11_isPerson (by decide) rfl (me_isPerson E L F l n hm (nI a)) (by decide) rfl rfl (Nat.le_of_ble_eq_true rfl) ?_
  refine R2.B (ls2 := [some (.ref 48), some (.int (nI a)), some (.int (nI d))]) (st2 := [.int (b2i (0 ≤ (nI a) ∧ (nI a) < nI n))]) b_X11_step_5_5 rfl (fun hd => ?_)
  refine R2.if_eq 18 hd (by decide) (fun c5 => absurd c5 (b2i_nz.mpr (perM hn10 ha))) (fun c5 => ?_)
  refine R2.B (ls2 := [some (.ref 48), some (.int (nI a)), some (.int (nI d))]) (st2 := [.int 7, .int 0, .int (nI d)]) b_X11_step_8_12 rfl (fun hd => ?_)
  refine R2.callS3 (M2 := mX11_in) (As := [.int (nI d), .int 0, .int 7]) (rest := []) hd lk_11_86 okX11_in (by decide) (ev_in E L F (nI d) 0 7) (by decide) rfl rfl (Nat.le_of_ble_eq_true rfl) ?_
  refine R2.B (ls2 := [some (.ref 48), some (.int (nI a)), some (.int (nI d))]) (st2 := [.int (b2i (0 ≤ (nI d) ∧ (nI d) ≤ 7))]) b_X11_step_15_15 rfl (fun hd => ?_)
  refine R2.if_ne 21 hd (by decide) (fun c15 => ?_) (fun c15 => absurd c15 (b2i_nz.mpr ⟨nI_pos' (by omega), (nI_leI (b := 7) (by omega) (by omega)).mpr (by omega)⟩))
  refine R2.B (ls2 := [some (.ref 48), some (.int (nI a)), some (.int (nI d))]) (st2 := [.int (nI d), .int (nI a), .ref 48]) b_X11_step_21_24 rfl (fun hd => ?_)
  refine R2.callV3 (M2 := mX11_steps) (As := [.int (nI a), .int (nI d)]) (rest := []) hd lk_11_150 okX11_steps (by decide) rfl (me_steps1 E L F l n hm a d ha hd8 h) (by decide) rfl rfl (Nat.le_of_ble_eq_true rfl) ?_
  refine R2.B (ls2 := [some (.ref 48), some (.int (nI a)), some (.int (nI d))]) (st2 := [.int 1]) b_X11_step_27_27 rfl (fun hd => ?_)
  refine R2.if_eq 34 hd (by decide) (fun c27 => absurd c27 (by decide)) (fun c27 => ?_)
  refine R2.B (ls2 := [some (.ref 48), some (.int (nI a)), some (.int (nI d))]) (st2 := [.int 1]) b_X11_step_30_36 rfl (fun hd => ?_)
  exact R2.ret3 (r := some (.int 1)) hd trivial rfl rfl rfl
theorem b_X11_away_0_2 : bl2 mX11_away 0 [(.aload_n 0, 1, 0, 0, .null), (.iload_n 1, 1, 1, 0, .null)] 2 (.invokevirtual 131) 3 = true := by decide +kernel
theorem b_X11_away_5_5 : bl2 mX11_away 5 [] 5 (.ifCond .eq 29) 3 = true := by decide +kernel
theorem b_X11_away_34_36 : bl2 mX11_away 34 [(.bipush (-2), 2, 0, 0, .int (-2))] 36 (.ireturn) 1 = true := by decide +kernel
theorem b_X11_away_8_10 : bl2 mX11_away 8 [(.aload_n 0, 1, 0, 0, .null), (.iload_n 2, 1, 2, 0, .null)] 10 (.invokevirtual 131) 3 = true := by decide +kernel
theorem b_X11_away_13_13 : bl2 mX11_away 13 [] 13 (.ifCond .eq 21) 3 = true := by decide +kernel
theorem b_X11_away_16_16 : bl2 mX11_away 16 [] 16 (.aload_n 0) 1 = true := by decide +kernel
set_option maxRecDepth 20000 in
set_option maxHeartbeats 1000000 in
theorem y_away_bad (E : EE) (L : Nat) (F : FF) (l n : Nat) (hm : MR F l n) (p q : Int32) (h : ¬ (0 ≤ p ∧ p < nI n) ∨ ¬ (0 ≤ q ∧ q < nI n)) : Ev3 E L 16 mX11_away [.ref 48, .int p, .int q] F (some (.int (-2))) F := by
  refine Ev3.of okX11_away.2.2.1 (Nat.le_of_ble_eq_true rfl) ?_
  show R2 E L mX11_away 16 0 [some (.ref 48), some (.int p), some (.int q)] [] F _
  refine R2.B (ls2 := [some (.ref 48), some (.int p), some (.int q)]) (st2 := [.int p, .ref 48]) b_X11_away_0_2 rfl (fun hd => ?_)
  refine R2.callV3 (M2 := mX11_isPerson) (As := [.int p]) (rest := []) hd lk_11_131 okX11_isPerson (by decide) rfl (me_isPerson E L F l n hm p) (by decide) rfl rfl (Nat.le_of_ble_eq_true rfl) ?_
  refine R2.B (ls2 := [some (.ref 48), some (.int p), some (.int q)]) (st2 := [.int (b2i (0 ≤ p ∧ p < nI n))]) b_X11_away_5_5 rfl (fun hd => ?_)
  refine R2.if_eq 34 hd (by decide) (fun c5 => ?_) (fun c5 => ?_)
  · have nc5 : ¬ (0 ≤ p ∧ p < nI n) := b2i_zero.mp c5
    refine R2.B (ls2 := [some (.ref 48), some (.int p), some (.int q)]) (st2 := [.int (-2)]) b_X11_away_34_36 rfl (fun hd => ?_)
    exact R2.ret3 (r := some (.int (-2))) hd trivial rfl rfl rfl
  · have nc5 : 0 ≤ p ∧ p < nI n := b2i_nz.mp c5
    refine R2.B (ls2 := [some (.ref 48), some (.int p), some (.int q)]) (st2 := [.int q, .ref 48]) b_X11_away_8_10 rfl (fun hd => ?_)
    refine R2.callV3 (M2 := mX11_isPerson) (As := [.int q]) (rest := []) hd lk_11_131 okX11_isPerson (by decide) rfl (me_isPerson E L F l n hm q) (by decide) rfl rfl (Nat.le_of_ble_eq_true rfl) ?_
    refine R2.B (ls2 := [some (.ref 48), some (.int p), some (.int q)]) (st2 := [.int (b2i (0 ≤ q ∧ q < nI n))]) b_X11_away_13_13 rfl (fun hd => ?_)
    refine R2.if_eq 34 hd (by decide) (fun c13 => ?_) (fun c13 => ?_)
    · have nc13 : ¬ (0 ≤ q ∧ q < nI n) := b2i_zero.mp c13
      refine R2.B (ls2 := [some (.ref 48), some (.int p), some (.int q)]) (st2 := [.int (-2)]) b_X11_away_34_36 rfl (fun hd => ?_)
      exact R2.ret3 (r := some (.int (-2))) hd trivial rfl rfl rfl
    · have nc13 : 0 ≤ q ∧ q < nI n := b2i_nz.mp c13
      refine R2.B (ls2 := [some (.ref 48), some (.int p), some (.int q)]) (st2 := []) b_X11_away_16_16 rfl (fun hd => ?_)
      exact False.elim (by clear hd; grind)
theorem b_X11_away_16_21 : bl2 mX11_away 16 [(.aload_n 0, 1, 0, 0, .null), (.getfield 31, 3, 11, 8, .null), (.iload_n 1, 1, 1, 0, .null)] 21 (.iaload) 1 = true := by decide +kernel
theorem b_X11_away_22_27 : bl2 mX11_away 22 [(.aload_n 0, 1, 0, 0, .null), (.getfield 31, 3, 11, 8, .null), (.iload_n 2, 1, 2, 0, .null)] 27 (.iaload) 1 = true := by decide +kernel
theorem b_X11_away_28_28 : bl2 mX11_away 28 [] 28 (.invokestatic 137) 3 = true := by decide +kernel
theorem b_X11_away_31_36 : bl2 mX11_away 31 [(.goto 5, 3, 36, 0, .null)] 36 (.ireturn) 1 = true := by decide +kernel
set_option maxRecDepth 20000 in
set_option maxHeartbeats 1000000 in
theorem y_away (E : EE) (L : Nat) (F : FF) (l n : Nat) (hm : MR F l n) (a b : Nat) (ha : a < n) (hb : b < n) : Ev3 E L 16 mX11_away [.ref 48, .int (nI a), .int (nI b)] F (some (.int (awy (F 56 a) (F 56 b)))) F := by
  have hn10 := hm.2.2.1
  refine Ev3.of okX11_away.2.2.1 (Nat.le_of_ble_eq_true rfl) ?_
  show R2 E L mX11_away 16 0 [some (.ref 48), some (.int (nI a)), some (.int (nI b))] [] F _
  refine R2.B (ls2 := [some (.ref 48), some (.int (nI a)), some (.int (nI b))]) (st2 := [.int (nI a), .ref 48]) b_X11_away_0_2 rfl (fun hd => ?_)
  refine R2.callV3 (M2 := mX11_isPerson) (As := [.int (nI a)]) (rest := []) hd lk_11_131 okX11_isPerson (by decide) rfl (me_isPerson E L F l n hm (nI a)) (by decide) rfl rfl (Nat.le_of_ble_eq_true rfl) ?_
  refine R2.B (ls2 := [some (.ref 48), some (.int (nI a)), some (.int (nI b))]) (st2 := [.int (b2i (0 ≤ (nI a) ∧ (nI a) < nI n))]) b_X11_away_5_5 rfl (fun hd => ?_)
  refine R2.if_eq 34 hd (by decide) (fun c5 => absurd c5 (b2i_nz.mpr (perM hn10 ha))) (fun c5 => ?_)
  refine R2.B (ls2 := [some (.ref 48), some (.int (nI a)), some (.int (nI b))]) (st2 := [.int (nI b), .ref 48]) b_X11_away_8_10 rfl (fun hd => ?_)
  refine R2.callV3 (M2 := mX11_isPerson) (As := [.int (nI b)]) (rest := []) hd lk_11_131 okX11_isPerson (by decide) rfl (me_isPerson E L F l n hm (nI b)) (by decide) rfl rfl (Nat.le_of_ble_eq_true rfl) ?_
  refine R2.B (ls2 := [some (.ref 48), some (.int (nI a)), some (.int (nI b))]) (st2 := [.int (b2i (0 ≤ (nI b) ∧ (nI b) < nI n))]) b_X11_away_13_13 rfl (fun hd => ?_)
  refine R2.if_eq 34 hd (by decide) (fun c13 => absurd c13 (b2i_nz.mpr (perM hn10 hb))) (fun c13 => ?_)
  refine R2.B (ls2 := [some (.ref 48), some (.int (nI a)), some (.int (nI b))]) (st2 := [.int (nI a), .ref 56]) b_X11_away_16_21 rfl (fun hd => ?_)
  refine R2.iald a rfl hd rfl (fun _ => rfl) (by decide) (by omega) ?_
  refine R2.B (ls2 := [some (.ref 48), some (.int (nI a)), some (.int (nI b))]) (st2 := [.int (nI b), .ref 56, .int (F 56 a)]) b_X11_away_22_27 rfl (fun hd => ?_)
  refine R2.iald b rfl hd rfl (fun _ => rfl) (by decide) (by omega) ?_
  refine R2.B (ls2 := [some (.ref 48), some (.int (nI a)), some (.int (nI b))]) (st2 := [.int (F 56 b), .int (F 56 a)]) b_X11_away_28_28 rfl (fun hd => ?_)
  refine R2.callS3 (M2 := mX11_awayBy) (As := [.int (F 56 a), .int (F 56 b)]) (rest := []) hd lk_11_137 okX11_awayBy (by decide) (me_awayBy E L F (F 56 a) (F 56 b)) (by decide) rfl rfl (Nat.le_of_ble_eq_true rfl) ?_
  refine R2.B (ls2 := [some (.ref 48), some (.int (nI a)), some (.int (nI b))]) (st2 := [.int (awy (F 56 a) (F 56 b))]) b_X11_away_31_36 rfl (fun hd => ?_)
  exact R2.ret3 (r := some (.int (awy (F 56 a) (F 56 b)))) hd trivial rfl rfl rfl
theorem b_X11_binds_0_3 : bl2 mX11_binds 0 [(.aload_n 0, 1, 0, 0, .null), (.iload_n 1, 1, 1, 0, .null), (.iload_n 2, 1, 2, 0, .null)] 3 (.invokevirtual 173) 3 = true := by decide +kernel
theorem b_X11_binds_6_6 : bl2 mX11_binds 6 [] 6 (.ifCond .eq 12) 3 = true := by decide +kernel
theorem b_X11_binds_18_20 : bl2 mX11_binds 18 [(.bipush (-2), 2, 0, 0, .int (-2))] 20 (.ireturn) 1 = true := by decide +kernel
theorem b_X11_binds_9_12 : bl2 mX11_binds 9 [(.iload_n 3, 1, 3, 0, .null), (.iconst 0, 1, 0, 0, .int 0), (.iconst 3, 1, 0, 0, .int 3)] 12 (.invokestatic 86) 3 = true := by decide +kernel
theorem b_X11_binds_15_15 : bl2 mX11_binds 15 [] 15 (.ifCond .ne 6) 3 = true := by decide +kernel
theorem b_X11_binds_21_21 : bl2 mX11_binds 21 [] 21 (.aload_n 0) 1 = true := by decide +kernel
set_option maxRecDepth 20000 in
set_option maxHeartbeats 1000000 in
theorem y_binds_bad (E : EE) (L : Nat) (F : FF) (l n : Nat) (hm : MR F l n) (p q w : Int32) (h : ¬ ((0 ≤ p ∧ p < nI n) ∧ (0 ≤ q ∧ q < nI n) ∧ ¬ p = q) ∨ w < 0 ∨ 3 < w) : Ev3 E L 16 mX11_binds [.ref 48, .int p, .int q, .int w] F (some (.int (-2))) F := by
  refine Ev3.of okX11_binds.2.2.1 (Nat.le_of_ble_eq_true rfl) ?_
  show R2 E L mX11_binds 16 0 [some (.ref 48), some (.int p), some (.int q), some (.int w)] [] F _
  refine R2.B (ls2 := [some (.ref 48), some (.int p), some (.int q), some (.int w)]) (st2 := [.int q, .int p, .ref 48]) b_X11_binds_0_3 rfl (fun hd => ?_)
  refine R2.callV3 (M2 := mX11_areTwo) (As := [.int p, .int q]) (rest := []) hd lk_11_173 okX11_areTwo (by decide) rfl (me_areTwo E L F l n hm p q) (by decide) rfl rfl (Nat.le_of_ble_eq_true rfl) ?_
  refine R2.B (ls2 := [some (.ref 48), some (.int p), some (.int q), some (.int w)]) (st2 := [.int (b2i ((0 ≤ p ∧ p < nI n) ∧ (0 ≤ q ∧ q < nI n) ∧ ¬ p = q))]) b_X11_binds_6_6 rfl (fun hd => ?_)
  refine R2.if_eq 18 hd (by decide) (fun c6 => ?_) (fun c6 => ?_)
  · have nc6 : ¬ ((0 ≤ p ∧ p < nI n) ∧ (0 ≤ q ∧ q < nI n) ∧ ¬ p = q) := b2i_zero.mp c6
    refine R2.B (ls2 := [some (.ref 48), some (.int p), some (.int q), some (.int w)]) (st2 := [.int (-2)]) b_X11_binds_18_20 rfl (fun hd => ?_)
    exact R2.ret3 (r := some (.int (-2))) hd trivial rfl rfl rfl
  · have nc6 : (0 ≤ p ∧ p < nI n) ∧ (0 ≤ q ∧ q < nI n) ∧ ¬ p = q := b2i_nz.mp c6
    refine R2.B (ls2 := [some (.ref 48), some (.int p), some (.int q), some (.int w)]) (st2 := [.int 3, .int 0, .int w]) b_X11_binds_9_12 rfl (fun hd => ?_)
    refine R2.callS3 (M2 := mX11_in) (As := [.int w, .int 0, .int 3]) (rest := []) hd lk_11_86 okX11_in (by decide) (ev_in E L F w 0 3) (by decide) rfl rfl (Nat.le_of_ble_eq_true rfl) ?_
    refine R2.B (ls2 := [some (.ref 48), some (.int p), some (.int q), some (.int w)]) (st2 := [.int (b2i (0 ≤ w ∧ w ≤ 3))]) b_X11_binds_15_15 rfl (fun hd => ?_)
    refine R2.if_ne 21 hd (by decide) (fun c15 => ?_) (fun c15 => ?_)
    · have nc15 : 0 ≤ w ∧ w ≤ 3 := b2i_nz.mp c15
      refine R2.B (ls2 := [some (.ref 48), some (.int p), some (.int q), some (.int w)]) (st2 := []) b_X11_binds_21_21 rfl (fun hd => ?_)
      exact False.elim (by clear hd; grind)
    · have nc15 : ¬ (0 ≤ w ∧ w ≤ 3) := b2i_zero.mp c15
      refine R2.B (ls2 := [some (.ref 48), some (.int p), some (.int q), some (.int w)]) (st2 := [.int (-2)]) b_X11_binds_18_20 rfl (fun hd => ?_)
      exact R2.ret3 (r := some (.int (-2))) hd trivial rfl rfl rfl
theorem b_X11_binds_21_22 : bl2 mX11_binds 21 [(.aload_n 0, 1, 0, 0, .null)] 22 (.invokevirtual 140) 3 = true := by decide +kernel
theorem b_X11_binds_25_26 : bl2 mX11_binds 25 [(.iload_n 3, 1, 3, 0, .null)] 26 (.ifCond .ne 17) 3 = true := by decide +kernel
theorem b_X11_binds_29_37 : bl2 mX11_binds 29 [(.aload_n 0, 1, 0, 0, .null), (.iload_n 1, 1, 1, 0, .null), (.iload_n 2, 1, 2, 0, .null), (.aload_n 0, 1, 0, 0, .null), (.getfield 16, 3, 11, 2, .null), (.iconst 0, 1, 0, 0, .int 0)] 37 (.iaload) 1 = true := by decide +kernel
theorem b_X11_binds_38_39 : bl2 mX11_binds 38 [(.iconst (-1), 1, 0, 0, .int (-1))] 39 (.invokevirtual 169) 3 = true := by decide +kernel
theorem b_X11_binds_42_42 : bl2 mX11_binds 42 [] 42 (.ireturn) 1 = true := by decide +kernel
set_option maxRecDepth 20000 in
set_option maxHeartbeats 1000000 in
theorem y_binds0 (E : EE) (L : Nat) (F : FF) (l n : Nat) (hm : MR F l n) (a b : Nat) (ha : a < n) (hb : b < n) (hab : ¬ a = b) : Ev3 E L 16 mX11_binds [.ref 48, .int (nI a), .int (nI b), .int 0] F (some (.int (mvd (ly F n) n (F 51 0) (-1) a b))) (ly F n) := by
  have hn10 := hm.2.2.1
  refine Ev3.of okX11_binds.2.2.1 (Nat.le_of_ble_eq_true rfl) ?_
  show R2 E L mX11_binds 16 0 [some (.ref 48), some (.int (nI a)), some (.int (nI b)), some (.int 0)] [] F _
  refine R2.B (ls2 := [some (.ref 48), some (.int (nI a)), some (.int (nI b)), some (.int 0)]) (st2 := [.int (nI b), .int (nI a), .ref 48]) b_X11_binds_0_3 rfl (fun hd => ?_)
  refine R2.callV3 (M2 := mX11_areTwo) (As := [.int (nI a), .int (nI b)]) (rest := []) hd lk_11_173 okX11_areTwo (by decide) rfl (me_areTwo E L F l n hm (nI a) (nI b)) (by decide) rfl rfl (Nat.le_of_ble_eq_true rfl) ?_
  refine R2.B (ls2 := [some (.ref 48), some (.int (nI a)), some (.int (nI b)), some (.int 0)]) (st2 := [.int (b2i ((0 ≤ (nI a) ∧ (nI a) < nI n) ∧ (0 ≤ (nI b) ∧ (nI b) < nI n) ∧ ¬ (nI a) = (nI b)))]) b_X11_binds_6_6 rfl (fun hd => ?_)
  refine R2.if_eq 18 hd (by decide) (fun c6 => absurd c6 (b2i_nz.mpr (twoM hn10 ha hb hab))) (fun c6 => ?_)
  refine R2.B (ls2 := [some (.ref 48), some (.int (nI a)), some (.int (nI b)), some (.int 0)]) (st2 := [.int 3, .int 0, .int 0]) b_X11_binds_9_12 rfl (fun hd => ?_)
  refine R2.callS3 (M2 := mX11_in) (As := [.int 0, .int 0, .int 3]) (rest := []) hd lk_11_86 okX11_in (by decide) (ev_in E L F 0 0 3) (by decide) rfl rfl (Nat.le_of_ble_eq_true rfl) ?_
  refine R2.B (ls2 := [some (.ref 48), some (.int (nI a)), some (.int (nI b)), some (.int 0)]) (st2 := [.int (b2i (0 ≤ 0 ∧ 0 ≤ 3))]) b_X11_binds_15_15 rfl (fun hd => ?_)
  refine R2.if_ne 21 hd (by decide) (fun c15 => ?_) (fun c15 => ?_)
  · have nc15 : 0 ≤ 0 ∧ 0 ≤ 3 := b2i_nz.mp c15
    refine R2.B (ls2 := [some (.ref 48), some (.int (nI a)), some (.int (nI b)), some (.int 0)]) (st2 := [.ref 48]) b_X11_binds_21_22 rfl (fun hd => ?_)
    refine R2.callV3 (M2 := mX11_lays) (As := []) (rest := []) hd lk_11_140 okX11_lays (by decide) rfl (me_lays E L F l n hm) (by decide) rfl rfl (Nat.le_of_ble_eq_true rfl) ?_
    refine R2.B (ls2 := [some (.ref 48), some (.int (nI a)), some (.int (nI b)), some (.int 0)]) (st2 := [.int 0]) b_X11_binds_25_26 rfl (fun hd => ?_)
    refine R2.if_ne 43 hd (by decide) (fun c26 => absurd (by decide) c26) (fun c26 => ?_)
    refine R2.B (ls2 := [some (.ref 48), some (.int (nI a)), some (.int (nI b)), some (.int 0)]) (st2 := [.int 0, .ref 51, .int (nI b), .int (nI a), .ref 48]) b_X11_binds_29_37 rfl (fun hd => ?_)
    refine R2.iald 0 rfl hd rfl (fun _ => rfl) (by decide) (by omega) ?_
    refine R2.top (show ((ly F n) 51 0 : Int32) = F 51 0 from (by rw [ly_row (a := 51) (by decide)])) ?_
    refine R2.B (ls2 := [some (.ref 48), some (.int (nI a)), some (.int (nI b)), some (.int 0)]) (st2 := [.int (-1), .int (F 51 0), .int (nI b), .int (nI a), .ref 48]) b_X11_binds_38_39 rfl (fun hd => ?_)
    refine R2.callV3 (M2 := mX11_bindsBy) (As := [.int (nI a), .int (nI b), .int (F 51 0), .int (-1)]) (rest := []) hd lk_11_169 okX11_bindsBy (by decide) rfl (me_bindsBy E L (ly F n) n ((congrFun (ly_row (by decide)) 3).trans hm.2.2.2.1) hm.2.2.1 a b (F 51 0) (-1) (by omega) (by omega)) (by decide) rfl rfl (Nat.le_of_ble_eq_true rfl) ?_
    refine R2.B (ls2 := [some (.ref 48), some (.int (nI a)), some (.int (nI b)), some (.int 0)]) (st2 := [.int (mvd (ly F n) n (F 51 0) (-1) a b)]) b_X11_binds_42_42 rfl (fun hd => ?_)
    exact R2.ret3 (r := some (.int (mvd (ly F n) n (F 51 0) (-1) a b))) hd trivial rfl rfl rfl
  · have nc15 : ¬ (0 ≤ 0 ∧ 0 ≤ 3) := b2i_zero.mp c15
    refine R2.B (ls2 := [some (.ref 48), some (.int (nI a)), some (.int (nI b)), some (.int 0)]) (st2 := [.int (-2)]) b_X11_binds_18_20 rfl (fun hd => ?_)
    exact False.elim (by clear hd; grind)
theorem b_X11_binds_43_45 : bl2 mX11_binds 43 [(.iload_n 3, 1, 3, 0, .null), (.iconst 1, 1, 0, 0, .int 1)] 45 (.if_icmp .ne 11) 3 = true := by decide +kernel
theorem b_X11_binds_48_52 : bl2 mX11_binds 48 [(.aload_n 0, 1, 0, 0, .null), (.iload_n 1, 1, 1, 0, .null), (.iload_n 2, 1, 2, 0, .null), (.iconst (-1), 1, 0, 0, .int (-1))] 52 (.invokevirtual 162) 3 = true := by decide +kernel
theorem b_X11_binds_55_55 : bl2 mX11_binds 55 [] 55 (.ireturn) 1 = true := by decide +kernel
set_option maxRecDepth 20000 in
set_option maxHeartbeats 1000000 in
theorem y_binds1 (E : EE) (L : Nat) (F : FF) (l n : Nat) (hm : MR F l n) (a b : Nat) (ha : a < n) (hb : b < n) (hab : ¬ a = b) : Ev3 E L 16 mX11_binds [.ref 48, .int (nI a), .int (nI b), .int 1] F (some (.int (fnr (ly F n 57) a b (-1) (F 51 1 * F 51 1) n 0))) (ly F n) := by
  have hn10 := hm.2.2.1
  refine Ev3.of okX11_binds.2.2.1 (Nat.le_of_ble_eq_true rfl) ?_
  show R2 E L mX11_binds 16 0 [some (.ref 48), some (.int (nI a)), some (.int (nI b)), some (.int 1)] [] F _
  refine R2.B (ls2 := [some (.ref 48), some (.int (nI a)), some (.int (nI b)), some (.int 1)]) (st2 := [.int (nI b), .int (nI a), .ref 48]) b_X11_binds_0_3 rfl (fun hd => ?_)
  refine R2.callV3 (M2 := mX11_areTwo) (As := [.int (nI a), .int (nI b)]) (rest := []) hd lk_11_173 okX11_areTwo (by decide) rfl (me_areTwo E L F l n hm (nI a) (nI b)) (by decide) rfl rfl (Nat.le_of_ble_eq_true rfl) ?_
  refine R2.B (ls2 := [some (.ref 48), some (.int (nI a)), some (.int (nI b)), some (.int 1)]) (st2 := [.int (b2i ((0 ≤ (nI a) ∧ (nI a) < nI n) ∧ (0 ≤ (nI b) ∧ (nI b) < nI n) ∧ ¬ (nI a) = (nI b)))]) b_X11_binds_6_6 rfl (fun hd => ?_)
  refine R2.if_eq 18 hd (by decide) (fun c6 => absurd c6 (b2i_nz.mpr (twoM hn10 ha hb hab))) (fun c6 => ?_)
  refine R2.B (ls2 := [some (.ref 48), some (.int (nI a)), some (.int (nI b)), some (.int 1)]) (st2 := [.int 3, .int 0, .int 1]) b_X11_binds_9_12 rfl (fun hd => ?_)
  refine R2.callS3 (M2 := mX11_in) (As := [.int 1, .int 0, .int 3]) (rest := []) hd lk_11_86 okX11_in (by decide) (ev_in E L F 1 0 3) (by decide) rfl rfl (Nat.le_of_ble_eq_true rfl) ?_
  refine R2.B (ls2 := [some (.ref 48), some (.int (nI a)), some (.int (nI b)), some (.int 1)]) (st2 := [.int (b2i (0 ≤ 1 ∧ 1 ≤ 3))]) b_X11_binds_15_15 rfl (fun hd => ?_)
  refine R2.if_ne 21 hd (by decide) (fun c15 => ?_) (fun c15 => ?_)
  · have nc15 : 0 ≤ 1 ∧ 1 ≤ 3 := b2i_nz.mp c15
    refine R2.B (ls2 := [some (.ref 48), some (.int (nI a)), some (.int (nI b)), some (.int 1)]) (st2 := [.ref 48]) b_X11_binds_21_22 rfl (fun hd => ?_)
    refine R2.callV3 (M2 := mX11_lays) (As := []) (rest := []) hd lk_11_140 okX11_lays (by decide) rfl (me_lays E L F l n hm) (by decide) rfl rfl (Nat.le_of_ble_eq_true rfl) ?_
    refine R2.B (ls2 := [some (.ref 48), some (.int (nI a)), some (.int (nI b)), some (.int 1)]) (st2 := [.int 1]) b_X11_binds_25_26 rfl (fun hd => ?_)
    refine R2.if_ne 43 hd (by decide) (fun c26 => ?_) (fun c26 => absurd c26 (by decide))
    refine R2.B (ls2 := [some (.ref 48), some (.int (nI a)), some (.int (nI b)), some (.int 1)]) (st2 := [.int 1, .int 1]) b_X11_binds_43_45 rfl (fun hd => ?_)
    refine R2.icmp_ne 56 hd (by decide) (fun c45 => absurd (by decide) c45) (fun c45 => ?_)
    refine R2.B (ls2 := [some (.ref 48), some (.int (nI a)), some (.int (nI b)), some (.int 1)]) (st2 := [.int (-1), .int (nI b), .int (nI a), .ref 48]) b_X11_binds_48_52 rfl (fun hd => ?_)
    refine R2.callV3 (M2 := mX11_nearer) (As := [.int (nI a), .int (nI b), .int (-1)]) (rest := []) hd lk_11_162 okX11_nearer (by decide) rfl (me_nearer E L (ly F n) n ((congrFun (ly_row (by decide)) 3).trans hm.2.2.2.1) hm.2.2.1 a b (-1) (by omega) (by omega)) (by decide) rfl rfl (Nat.le_of_ble_eq_true rfl) ?_
    refine R2.top (show (fnr ((ly F n) 57) a b (-1) ((ly F n) 51 1 * (ly F n) 51 1) n 0 : Int32) = fnr (ly F n 57) a b (-1) (F 51 1 * F 51 1) n 0 from (by rw [ly_row (a := 51) (by decide)])) ?_
    refine R2.B (ls2 := [some (.ref 48), some (.int (nI a)), some (.int (nI b)), some (.int 1)]) (st2 := [.int (fnr (ly F n 57) a b (-1) (F 51 1 * F 51 1) n 0)]) b_X11_binds_55_55 rfl (fun hd => ?_)
    exact R2.ret3 (r := some (.int (fnr (ly F n 57) a b (-1) (F 51 1 * F 51 1) n 0))) hd trivial rfl rfl rfl
  · have nc15 : ¬ (0 ≤ 1 ∧ 1 ≤ 3) := b2i_zero.mp c15
    refine R2.B (ls2 := [some (.ref 48), some (.int (nI a)), some (.int (nI b)), some (.int 1)]) (st2 := [.int (-2)]) b_X11_binds_18_20 rfl (fun hd => ?_)
    exact False.elim (by clear hd; grind)
theorem b_X11_binds_56_59 : bl2 mX11_binds 56 [(.aload_n 0, 1, 0, 0, .null), (.iload_n 1, 1, 1, 0, .null), (.iload_n 2, 1, 2, 0, .null)] 59 (.invokevirtual 176) 3 = true := by decide +kernel
theorem b_X11_binds_62_62 : bl2 mX11_binds 62 [] 62 (.ifCond .ne 8) 3 = true := by decide +kernel
theorem b_X11_binds_70_72 : bl2 mX11_binds 70 [(.iload_n 3, 1, 3, 0, .null), (.iconst 2, 1, 0, 0, .int 2)] 72 (.if_icmp .ne 12) 3 = true := by decide +kernel
theorem b_X11_binds_75_78 : bl2 mX11_binds 75 [(.aload_n 0, 1, 0, 0, .null), (.iload_n 1, 1, 1, 0, .null), (.iload_n 2, 1, 2, 0, .null)] 78 (.invokevirtual 166) 3 = true := by decide +kernel
theorem b_X11_binds_81_99 : bl2 mX11_binds 81 [(.goto 18, 3, 99, 0, .null)] 99 (.ireturn) 1 = true := by decide +kernel
theorem b_X11_binds_65_99 : bl2 mX11_binds 65 [(.bipush (-3), 2, 0, 0, .int (-3)), (.goto 32, 3, 99, 0, .null)] 99 (.ireturn) 1 = true := by decide +kernel
set_option maxRecDepth 20000 in
set_option maxHeartbeats 1000000 in
theorem y_binds2 (E : EE) (L : Nat) (F : FF) (l n : Nat) (hm : MR F l n) (a b : Nat) (ha : a < n) (hb : b < n) (hab : ¬ a = b) : Ev3 E L 16 mX11_binds [.ref 48, .int (nI a), .int (nI b), .int 2] F (some (.int (if mvd (ly F n) n (F 51 0) (-1) a b = 0 then gan (F 52) (F 54) a b else -3))) (ly F n) := by
  have hn10 := hm.2.2.1
  refine Ev3.of okX11_binds.2.2.1 (Nat.le_of_ble_eq_true rfl) ?_
  show R2 E L mX11_binds 16 0 [some (.ref 48), some (.int (nI a)), some (.int (nI b)), some (.int 2)] [] F _
  refine R2.B (ls2 := [some (.ref 48), some (.int (nI a)), some (.int (nI b)), some (.int 2)]) (st2 := [.int (nI b), .int (nI a), .ref 48]) b_X11_binds_0_3 rfl (fun hd => ?_)
  refine R2.callV3 (M2 := mX11_areTwo) (As := [.int (nI a), .int (nI b)]) (rest := []) hd lk_11_173 okX11_areTwo (by decide) rfl (me_areTwo E L F l n hm (nI a) (nI b)) (by decide) rfl rfl (Nat.le_of_ble_eq_true rfl) ?_
  refine R2.B (ls2 := [some (.ref 48), some (.int (nI a)), some (.int (nI b)), some (.int 2)]) (st2 := [.int (b2i ((0 ≤ (nI a) ∧ (nI a) < nI n) ∧ (0 ≤ (nI b) ∧ (nI b) < nI n) ∧ ¬ (nI a) = (nI b)))]) b_X11_binds_6_6 rfl (fun hd => ?_)
  refine R2.if_eq 18 hd (by decide) (fun c6 => absurd c6 (b2i_nz.mpr (twoM hn10 ha hb hab))) (fun c6 => ?_)
  refine R2.B (ls2 := [some (.ref 48), some (.int (nI a)), some (.int (nI b)), some (.int 2)]) (st2 := [.int 3, .int 0, .int 2]) b_X11_binds_9_12 rfl (fun hd => ?_)
  refine R2.callS3 (M2 := mX11_in) (As := [.int 2, .int 0, .int 3]) (rest := []) hd lk_11_86 okX11_in (by decide) (ev_in E L F 2 0 3) (by decide) rfl rfl (Nat.le_of_ble_eq_true rfl) ?_
  refine R2.B (ls2 := [some (.ref 48), some (.int (nI a)), some (.int (nI b)), some (.int 2)]) (st2 := [.int (b2i (0 ≤ 2 ∧ 2 ≤ 3))]) b_X11_binds_15_15 rfl (fun hd => ?_)
  refine R2.if_ne 21 hd (by decide) (fun c15 => ?_) (fun c15 => ?_)
  · have nc15 : 0 ≤ 2 ∧ 2 ≤ 3 := b2i_nz.mp c15
    refine R2.B (ls2 := [some (.ref 48), some (.int (nI a)), some (.int (nI b)), some (.int 2)]) (st2 := [.ref 48]) b_X11_binds_21_22 rfl (fun hd => ?_)
    refine R2.callV3 (M2 := mX11_lays) (As := []) (rest := []) hd lk_11_140 okX11_lays (by decide) rfl (me_lays E L F l n hm) (by decide) rfl rfl (Nat.le_of_ble_eq_true rfl) ?_
    refine R2.B (ls2 := [some (.ref 48), some (.int (nI a)), some (.int (nI b)), some (.int 2)]) (st2 := [.int 2]) b_X11_binds_25_26 rfl (fun hd => ?_)
    refine R2.if_ne 43 hd (by decide) (fun c26 => ?_) (fun c26 => absurd c26 (by decide))
    refine R2.B (ls2 := [some (.ref 48), some (.int (nI a)), some (.int (nI b)), some (.int 2)]) (st2 := [.int 1, .int 2]) b_X11_binds_43_45 rfl (fun hd => ?_)
    refine R2.icmp_ne 56 hd (by decide) (fun c45 => ?_) (fun c45 => absurd c45 (by decide))
    refine R2.B (ls2 := [some (.ref 48), some (.int (nI a)), some (.int (nI b)), some (.int 2)]) (st2 := [.int (nI b), .int (nI a), .ref 48]) b_X11_binds_56_59 rfl (fun hd => ?_)
    refine R2.callV3 (M2 := mX11_isBound) (As := [.int (nI a), .int (nI b)]) (rest := []) hd lk_11_176 okX11_isBound (by decide) rfl (me_isBound E L (ly F n) n ((congrFun (ly_row (by decide)) 3).trans hm.2.2.2.1) hm.2.2.1 a b (by omega) (by omega)) (by decide) rfl rfl (Nat.le_of_ble_eq_true rfl) ?_
    refine R2.top (show (b2i (mvd (ly F n) n ((ly F n) 51 0) (-1) a b = 0) : Int32) = b2i (mvd (ly F n) n (F 51 0) (-1) a b = 0) from (by rw [ly_row (a := 51) (by decide)])) ?_
    refine R2.B (ls2 := [some (.ref 48), some (.int (nI a)), some (.int (nI b)), some (.int 2)]) (st2 := [.int (b2i (mvd (ly F n) n (F 51 0) (-1) a b = 0))]) b_X11_binds_62_62 rfl (fun hd => ?_)
    refine R2.if_ne 70 hd (by decide) (fun c62 => ?_) (fun c62 => ?_)
    · have nc62 : mvd (ly F n) n (F 51 0) (-1) a b = 0 := b2i_nz.mp c62
      refine R2.B (ls2 := [some (.ref 48), some (.int (nI a)), some (.int (nI b)), some (.int 2)]) (st2 := [.int 2, .int 2]) b_X11_binds_70_72 rfl (fun hd => ?_)
      refine R2.icmp_ne 84 hd (by decide) (fun c72 => absurd (by decide) c72) (fun c72 => ?_)
      refine R2.B (ls2 := [some (.ref 48), some (.int (nI a)), some (.int (nI b)), some (.int 2)]) (st2 := [.int (nI b), .int (nI a), .ref 48]) b_X11_binds_75_78 rfl (fun hd => ?_)
      refine R2.callV3 (M2 := mX11_worthOf) (As := [.int (nI a), .int (nI b)]) (rest := []) hd lk_11_166 okX11_worthOf (by decide) rfl (me_worthOf E L (ly F n) a b (by omega) (by omega)) (by decide) rfl rfl (Nat.le_of_ble_eq_true rfl) ?_
      refine R2.top (show (gan ((ly F n) 52) ((ly F n) 54) a b : Int32) = gan (F 52) (F 54) a b from (by rw [ly_row (a := 52) (by decide), ly_row (a := 54) (by decide)])) ?_
      refine R2.B (ls2 := [some (.ref 48), some (.int (nI a)), some (.int (nI b)), some (.int 2)]) (st2 := [.int (gan (F 52) (F 54) a b)]) b_X11_binds_81_99 rfl (fun hd => ?_)
      exact R2.ret3 (r := some (.int (gan (F 52) (F 54) a b))) hd trivial rfl (congrArg (fun z => some (Value.int z)) (by clear hd; grind)) rfl
    · have nc62 : ¬ (mvd (ly F n) n (F 51 0) (-1) a b = 0) := b2i_zero.mp c62
      refine R2.B (ls2 := [some (.ref 48), some (.int (nI a)), some (.int (nI b)), some (.int 2)]) (st2 := [.int (-3)]) b_X11_binds_65_99 rfl (fun hd => ?_)
      exact R2.ret3 (r := some (.int (-3))) hd trivial rfl (congrArg (fun z => some (Value.int z)) (by clear hd; grind)) rfl
  · have nc15 : ¬ (0 ≤ 2 ∧ 2 ≤ 3) := b2i_zero.mp c15
    refine R2.B (ls2 := [some (.ref 48), some (.int (nI a)), some (.int (nI b)), some (.int 2)]) (st2 := [.int (-2)]) b_X11_binds_18_20 rfl (fun hd => ?_)
    exact False.elim (by clear hd; grind)
theorem b_X11_binds_84_89 : bl2 mX11_binds 84 [(.aload_n 0, 1, 0, 0, .null), (.getfield 25, 3, 11, 6, .null), (.iload_n 1, 1, 1, 0, .null)] 89 (.iaload) 1 = true := by decide +kernel
theorem b_X11_binds_90_95 : bl2 mX11_binds 90 [(.aload_n 0, 1, 0, 0, .null), (.getfield 25, 3, 11, 6, .null), (.iload_n 2, 1, 2, 0, .null)] 95 (.iaload) 1 = true := by decide +kernel
theorem b_X11_binds_96_98 : bl2 mX11_binds 96 [(.iadd, 1, 0, 0, .null), (.iconst 2, 1, 0, 0, .int 2)] 98 (.idiv) 1 = true := by decide +kernel
theorem b_X11_binds_99_99 : bl2 mX11_binds 99 [] 99 (.ireturn) 1 = true := by decide +kernel
set_option maxRecDepth 20000 in
set_option maxHeartbeats 1000000 in
theorem y_binds3 (E : EE) (L : Nat) (F : FF) (l n : Nat) (hm : MR F l n) (a b : Nat) (ha : a < n) (hb : b < n) (hab : ¬ a = b) : Ev3 E L 16 mX11_binds [.ref 48, .int (nI a), .int (nI b), .int 3] F (some (.int (if mvd (ly F n) n (F 51 0) (-1) a b = 0 then (F 54 a + F 54 b) / 2 else -3))) (ly F n) := by
  have hn10 := hm.2.2.1
  refine Ev3.of okX11_binds.2.2.1 (Nat.le_of_ble_eq_true rfl) ?_
  show R2 E L mX11_binds 16 0 [some (.ref 48), some (.int (nI a)), some (.int (nI b)), some (.int 3)] [] F _
  refine R2.B (ls2 := [some (.ref 48), some (.int (nI a)), some (.int (nI b)), some (.int 3)]) (st2 := [.int (nI b), .int (nI a), .ref 48]) b_X11_binds_0_3 rfl (fun hd => ?_)
  refine R2.callV3 (M2 := mX11_areTwo) (As := [.int (nI a), .int (nI b)]) (rest := []) hd lk_11_173 okX11_areTwo (by decide) rfl (me_areTwo E L F l n hm (nI a) (nI b)) (by decide) rfl rfl (Nat.le_of_ble_eq_true rfl) ?_
  refine R2.B (ls2 := [some (.ref 48), some (.int (nI a)), some (.int (nI b)), some (.int 3)]) (st2 := [.int (b2i ((0 ≤ (nI a) ∧ (nI a) < nI n) ∧ (0 ≤ (nI b) ∧ (nI b) < nI n) ∧ ¬ (nI a) = (nI b)))]) b_X11_binds_6_6 rfl (fun hd => ?_)
  refine R2.if_eq 18 hd (by decide) (fun c6 => absurd c6 (b2i_nz.mpr (twoM hn10 ha hb hab))) (fun c6 => ?_)
  refine R2.B (ls2 := [some (.ref 48), some (.int (nI a)), some (.int (nI b)), some (.int 3)]) (st2 := [.int 3, .int 0, .int 3]) b_X11_binds_9_12 rfl (fun hd => ?_)
  refine R2.callS3 (M2 := mX11_in) (As := [.int 3, .int 0, .int 3]) (rest := []) hd lk_11_86 okX11_in (by decide) (ev_in E L F 3 0 3) (by decide) rfl rfl (Nat.le_of_ble_eq_true rfl) ?_
  refine R2.B (ls2 := [some (.ref 48), some (.int (nI a)), some (.int (nI b)), some (.int 3)]) (st2 := [.int (b2i (0 ≤ 3 ∧ 3 ≤ 3))]) b_X11_binds_15_15 rfl (fun hd => ?_)
  refine R2.if_ne 21 hd (by decide) (fun c15 => ?_) (fun c15 => ?_)
  · have nc15 : 0 ≤ 3 ∧ 3 ≤ 3 := b2i_nz.mp c15
    refine R2.B (ls2 := [some (.ref 48), some (.int (nI a)), some (.int (nI b)), some (.int 3)]) (st2 := [.ref 48]) b_X11_binds_21_22 rfl (fun hd => ?_)
    refine R2.callV3 (M2 := mX11_lays) (As := []) (rest := []) hd lk_11_140 okX11_lays (by decide) rfl (me_lays E L F l n hm) (by decide) rfl rfl (Nat.le_of_ble_eq_true rfl) ?_
    refine R2.B (ls2 := [some (.ref 48), some (.int (nI a)), some (.int (nI b)), some (.int 3)]) (st2 := [.int 3]) b_X11_binds_25_26 rfl (fun hd => ?_)
    refine R2.if_ne 43 hd (by decide) (fun c26 => ?_) (fun c26 => absurd c26 (by decide))
    refine R2.B (ls2 := [some (.ref 48), some (.int (nI a)), some (.int (nI b)), some (.int 3)]) (st2 := [.int 1, .int 3]) b_X11_binds_43_45 rfl (fun hd => ?_)
    refine R2.icmp_ne 56 hd (by decide) (fun c45 => ?_) (fun c45 => absurd c45 (by decide))
    refine R2.B (ls2 := [some (.ref 48), some (.int (nI a)), some (.int (nI b)), some (.int 3)]) (st2 := [.int (nI b), .int (nI a), .ref 48]) b_X11_binds_56_59 rfl (fun hd => ?_)
    refine R2.callV3 (M2 := mX11_isBound) (As := [.int (nI a), .int (nI b)]) (rest := []) hd lk_11_176 okX11_isBound (by decide) rfl (me_isBound E L (ly F n) n ((congrFun (ly_row (by decide)) 3).trans hm.2.2.2.1) hm.2.2.1 a b (by omega) (by omega)) (by decide) rfl rfl (Nat.le_of_ble_eq_true rfl) ?_
    refine R2.top (show (b2i (mvd (ly F n) n ((ly F n) 51 0) (-1) a b = 0) : Int32) = b2i (mvd (ly F n) n (F 51 0) (-1) a b = 0) from (by rw [ly_row (a := 51) (by decide)])) ?_
    refine R2.B (ls2 := [some (.ref 48), some (.int (nI a)), some (.int (nI b)), some (.int 3)]) (st2 := [.int (b2i (mvd (ly F n) n (F 51 0) (-1) a b = 0))]) b_X11_binds_62_62 rfl (fun hd => ?_)
    refine R2.if_ne 70 hd (by decide) (fun c62 => ?_) (fun c62 => ?_)
    · have nc62 : mvd (ly F n) n (F 51 0) (-1) a b = 0 := b2i_nz.mp c62
      refine R2.B (ls2 := [some (.ref 48), some (.int (nI a)), some (.int (nI b)), some (.int 3)]) (st2 := [.int 2, .int 3]) b_X11_binds_70_72 rfl (fun hd => ?_)
      refine R2.icmp_ne 84 hd (by decide) (fun c72 => ?_) (fun c72 => absurd c72 (by decide))
      refine R2.B (ls2 := [some (.ref 48), some (.int (nI a)), some (.int (nI b)), some (.int 3)]) (st2 := [.int (nI a), .ref 54]) b_X11_binds_84_89 rfl (fun hd => ?_)
      refine R2.iald a rfl hd rfl (fun _ => rfl) (by decide) (by omega) ?_
      refine R2.top (show ((ly F n) 54 a : Int32) = F 54 a from (by rw [ly_row (a := 54) (by decide)])) ?_
      refine R2.B (ls2 := [some (.ref 48), some (.int (nI a)), some (.int (nI b)), some (.int 3)]) (st2 := [.int (nI b), .ref 54, .int (F 54 a)]) b_X11_binds_90_95 rfl (fun hd => ?_)
      refine R2.iald b rfl hd rfl (fun _ => rfl) (by decide) (by omega) ?_
      refine R2.top (show ((ly F n) 54 b : Int32) = F 54 b from (by rw [ly_row (a := 54) (by decide)])) ?_
      refine R2.B (ls2 := [some (.ref 48), some (.int (nI a)), some (.int (nI b)), some (.int 3)]) (st2 := [.int 2, .int ((F 54 a) + (F 54 b))]) b_X11_binds_96_98 rfl (fun hd => ?_)
      refine R2.idiv hd (by decide) ?_
      refine R2.B (ls2 := [some (.ref 48), some (.int (nI a)), some (.int (nI b)), some (.int 3)]) (st2 := [.int (((F 54 a) + (F 54 b)) / 2)]) b_X11_binds_99_99 rfl (fun hd => ?_)
      exact R2.ret3 (r := some (.int (((F 54 a) + (F 54 b)) / 2))) hd trivial rfl (congrArg (fun z => some (Value.int z)) (by clear hd; grind)) rfl
    · have nc62 : ¬ (mvd (ly F n) n (F 51 0) (-1) a b = 0) := b2i_zero.mp c62
      refine R2.B (ls2 := [some (.ref 48), some (.int (nI a)), some (.int (nI b)), some (.int 3)]) (st2 := [.int (-3)]) b_X11_binds_65_99 rfl (fun hd => ?_)
      exact R2.ret3 (r := some (.int (-3))) hd trivial rfl (congrArg (fun z => some (Value.int z)) (by clear hd; grind)) rfl
  · have nc15 : ¬ (0 ≤ 3 ∧ 3 ≤ 3) := b2i_zero.mp c15
    refine R2.B (ls2 := [some (.ref 48), some (.int (nI a)), some (.int (nI b)), some (.int 3)]) (st2 := [.int (-2)]) b_X11_binds_18_20 rfl (fun hd => ?_)
    exact False.elim (by clear hd; grind)
theorem b_X11_pairs_0_1 : bl2 mX11_pairs 0 [(.aload_n 0, 1, 0, 0, .null)] 1 (.invokevirtual 182) 3 = true := by decide +kernel
theorem b_X11_pairs_4_4 : bl2 mX11_pairs 4 [] 4 (.ireturn) 1 = true := by decide +kernel
set_option maxRecDepth 20000 in
set_option maxHeartbeats 1000000 in
theorem y_pairs (E : EE) (L : Nat) (F : FF) (l n : Nat) (hm : MR F l n) : Ev3 E L 16 mX11_pairs [.ref 48] F (some (.int (sumB (gMP (ly F n) n (F 51 0)) n 0 0))) (ly F n) := by
  refine Ev3.of okX11_pairs.2.2.1 (Nat.le_of_ble_eq_true rfl) ?_
  show R2 E L mX11_pairs 16 0 [some (.ref 48)] [] F _
  refine R2.B (ls2 := [some (.ref 48)]) (st2 := [.ref 48]) b_X11_pairs_0_1 rfl (fun hd => ?_)
  refine R2.callV3 (M2 := mX11_pairsNow) (As := []) (rest := []) hd lk_11_182 okX11_pairsNow (by decide) rfl (me_pairsNow E L F l n hm) (by decide) rfl rfl (Nat.le_of_ble_eq_true rfl) ?_
  refine R2.B (ls2 := [some (.ref 48)]) (st2 := [.int (sumB (gMP (ly F n) n (F 51 0)) n 0 0)]) b_X11_pairs_4_4 rfl (fun hd => ?_)
  exact R2.ret3 (r := some (.int (sumB (gMP (ly F n) n (F 51 0)) n 0 0))) hd trivial rfl rfl rfl
theorem b_X11_once_0_2 : bl2 mX11_once 0 [(.iload_n 1, 1, 1, 0, .null), (.iconst (-1), 1, 0, 0, .int (-1))] 2 (.if_icmp .eq 11) 3 = true := by decide +kernel
theorem b_X11_once_13_13 : bl2 mX11_once 13 [] 13 (.aload_n 0) 1 = true := by decide +kernel
theorem b_X11_once_5_7 : bl2 mX11_once 5 [(.aload_n 0, 1, 0, 0, .null), (.iload_n 1, 1, 1, 0, .null)] 7 (.invokevirtual 131) 3 = true := by decide +kernel
theorem b_X11_once_10_10 : bl2 mX11_once 10 [] 10 (.ifCond .eq 11) 3 = true := by decide +kernel
theorem b_X11_once_21_23 : bl2 mX11_once 21 [(.bipush (-2), 2, 0, 0, .int (-2))] 23 (.ireturn) 1 = true := by decide +kernel
set_option maxRecDepth 20000 in
set_option maxHeartbeats 1000000 in
theorem y_once_bad (E : EE) (L : Nat) (F : FF) (l n : Nat) (hm : MR F l n) (p : Int32) (h : ¬ (0 ≤ p ∧ p < nI n)) (h1 : ¬ p = -1) : Ev3 E L 16 mX11_once [.ref 48, .int p] F (some (.int (-2))) F := by
  refine Ev3.of okX11_once.2.2.1 (Nat.le_of_ble_eq_true rfl) ?_
  show R2 E L mX11_once 16 0 [some (.ref 48), some (.int p)] [] F _
  refine R2.B (ls2 := [some (.ref 48), some (.int p)]) (st2 := [.int (-1), .int p]) b_X11_once_0_2 rfl (fun hd => ?_)
  refine R2.icmp_eq 13 hd (by decide) (fun c2 => ?_) (fun c2 => ?_)
  · refine R2.B (ls2 := [some (.ref 48), some (.int p)]) (st2 := []) b_X11_once_13_13 rfl (fun hd => ?_)
    exact False.elim (by clear hd; grind)
  · refine R2.B (ls2 := [some (.ref 48), some (.int p)]) (st2 := [.int p, .ref 48]) b_X11_once_5_7 rfl (fun hd => ?_)
    refine R2.callV3 (M2 := mX11_isPerson) (As := [.int p]) (rest := []) hd lk_11_131 okX11_isPerson (by decide) rfl (me_isPerson E L F l n hm p) (by decide) rfl rfl (Nat.le_of_ble_eq_true rfl) ?_
    refine R2.B (ls2 := [some (.ref 48), some (.int p)]) (st2 := [.int (b2i (0 ≤ p ∧ p < nI n))]) b_X11_once_10_10 rfl (fun hd => ?_)
    refine R2.if_eq 21 hd (by decide) (fun c10 => ?_) (fun c10 => ?_)
    · have nc10 : ¬ (0 ≤ p ∧ p < nI n) := b2i_zero.mp c10
      refine R2.B (ls2 := [some (.ref 48), some (.int p)]) (st2 := [.int (-2)]) b_X11_once_21_23 rfl (fun hd => ?_)
      exact R2.ret3 (r := some (.int (-2))) hd trivial rfl rfl rfl
    · have nc10 : 0 ≤ p ∧ p < nI n := b2i_nz.mp c10
      refine R2.B (ls2 := [some (.ref 48), some (.int p)]) (st2 := []) b_X11_once_13_13 rfl (fun hd => ?_)
      exact False.elim (by clear hd; grind)
theorem b_X11_once_13_15 : bl2 mX11_once 13 [(.aload_n 0, 1, 0, 0, .null), (.iload_n 1, 1, 1, 0, .null)] 15 (.invokevirtual 192) 3 = true := by decide +kernel
theorem b_X11_once_18_23 : bl2 mX11_once 18 [(.goto 5, 3, 23, 0, .null)] 23 (.ireturn) 1 = true := by decide +kernel
set_option maxRecDepth 20000 in
set_option maxHeartbeats 1000000 in
theorem y_once_none (E : EE) (L : Nat) (F : FF) (l n : Nat) (hm : MR F l n) : Ev3 E L 16 mX11_once [.ref 48, .int (-1)] F (some (.int ((loF F n) 61 (2 ^ n - 1) / 1000000))) (loF F n) := by
  refine Ev3.of okX11_once.2.2.1 (Nat.le_of_ble_eq_true rfl) ?_
  show R2 E L mX11_once 16 0 [some (.ref 48), some (.int (-1))] [] F _
  refine R2.B (ls2 := [some (.ref 48), some (.int (-1))]) (st2 := [.int (-1), .int (-1)]) b_X11_once_0_2 rfl (fun hd => ?_)
  refine R2.icmp_eq 13 hd (by decide) (fun c2 => ?_) (fun c2 => absurd (by decide) c2)
  refine R2.B (ls2 := [some (.ref 48), some (.int (-1))]) (st2 := [.int (-1), .ref 48]) b_X11_once_13_15 rfl (fun hd => ?_)
  refine R2.callV3 (M2 := mX11_onceOf) (As := [.int (-1)]) (rest := []) hd lk_11_192 okX11_onceOf (by decide) rfl (me_onceAll E L F l n hm) (by decide) rfl rfl (Nat.le_of_ble_eq_true rfl) ?_
  refine R2.B (ls2 := [some (.ref 48), some (.int (-1))]) (st2 := [.int ((loF F n) 61 (2 ^ n - 1) / 1000000)]) b_X11_once_18_23 rfl (fun hd => ?_)
  exact R2.ret3 (r := some (.int ((loF F n) 61 (2 ^ n - 1) / 1000000))) hd trivial rfl rfl rfl
set_option maxRecDepth 20000 in
set_option maxHeartbeats 1000000 in
theorem y_once (E : EE) (L : Nat) (F : FF) (l n : Nat) (hm : MR F l n) (a : Nat) (ha : a < n) : Ev3 E L 16 mX11_once [.ref 48, .int (nI a)] F (some (.int ((loF F n) 62 a))) (loF F n) := by
  have hn10 := hm.2.2.1
  refine Ev3.of okX11_once.2.2.1 (Nat.le_of_ble_eq_true rfl) ?_
  show R2 E L mX11_once 16 0 [some (.ref 48), some (.int (nI a))] [] F _
  refine R2.B (ls2 := [some (.ref 48), some (.int (nI a))]) (st2 := [.int (-1), .int (nI a)]) b_X11_once_0_2 rfl (fun hd => ?_)
  refine R2.icmp_eq 13 hd (by decide) (fun c2 => absurd c2 (nI_m1 (by omega))) (fun c2 => ?_)
  refine R2.B (ls2 := [some (.ref 48), some (.int (nI a))]) (st2 := [.int (nI a), .ref 48]) b_X11_once_5_7 rfl (fun hd => ?_)
  refine R2.callV3 (M2 := mX11_isPerson) (As := [.int (nI a)]) (rest := []) hd lk_11_131 okX11_isPerson (by decide) rfl (me_isPerson E L F l n hm (nI a)) (by decide) rfl rfl (Nat.le_of_ble_eq_true rfl) ?_
  refine R2.B (ls2 := [some (.ref 48), some (.int (nI a))]) (st2 := [.int (b2i (0 ≤ (nI a) ∧ (nI a) < nI n))]) b_X11_once_10_10 rfl (fun hd => ?_)
  refine R2.if_eq 21 hd (by decide) (fun c10 => absurd c10 (b2i_nz.mpr (perM hn10 ha))) (fun c10 => ?_)
  refine R2.B (ls2 := [some (.ref 48), some (.int (nI a))]) (st2 := [.int (nI a), .ref 48]) b_X11_once_13_15 rfl (fun hd => ?_)
  refine R2.callV3 (M2 := mX11_onceOf) (As := [.int (nI a)]) (rest := []) hd lk_11_192 okX11_onceOf (by decide) rfl (me_onceOf E L F l n hm a (by omega)) (by decide) rfl rfl (Nat.le_of_ble_eq_true rfl) ?_
  refine R2.B (ls2 := [some (.ref 48), some (.int (nI a))]) (st2 := [.int ((loF F n) 62 a)]) b_X11_once_18_23 rfl (fun hd => ?_)
  exact R2.ret3 (r := some (.int ((loF F n) 62 a))) hd trivial rfl rfl rfl
theorem b_X11_worth_0_1 : bl2 mX11_worth 0 [(.aload_n 0, 1, 0, 0, .null)] 1 (.invokevirtual 195) 3 = true := by decide +kernel
theorem b_X11_worth_4_4 : bl2 mX11_worth 4 [] 4 (.ireturn) 1 = true := by decide +kernel
set_option maxRecDepth 20000 in
set_option maxHeartbeats 1000000 in
theorem y_worth (E : EE) (L : Nat) (F : FF) (l n : Nat) (hm : MR F l n) : Ev3 E L 16 mX11_worth [.ref 48] F (some (.int ((loF F n) 61 (2 ^ n - 1) - (loF F n) 61 (2 ^ n - 1) / 1000000 * 1000000))) (loF F n) := by
  refine Ev3.of okX11_worth.2.2.1 (Nat.le_of_ble_eq_true rfl) ?_
  show R2 E L mX11_worth 16 0 [some (.ref 48)] [] F _
  refine R2.B (ls2 := [some (.ref 48)]) (st2 := [.ref 48]) b_X11_worth_0_1 rfl (fun hd => ?_)
  refine R2.callV3 (M2 := mX11_worthNow) (As := []) (rest := []) hd lk_11_195 okX11_worthNow (by decide) rfl (me_worthNow E L F l n hm) (by decide) rfl rfl (Nat.le_of_ble_eq_true rfl) ?_
  refine R2.B (ls2 := [some (.ref 48)]) (st2 := [.int ((loF F n) 61 (2 ^ n - 1) - (loF F n) 61 (2 ^ n - 1) / 1000000 * 1000000)]) b_X11_worth_4_4 rfl (fun hd => ?_)
  exact R2.ret3 (r := some (.int ((loF F n) 61 (2 ^ n - 1) - (loF F n) 61 (2 ^ n - 1) / 1000000 * 1000000))) hd trivial rfl rfl rfl
theorem b_X11_judged_0_3 : bl2 mX11_judged 0 [(.iload_n 1, 1, 1, 0, .null), (.iconst 0, 1, 0, 0, .int 0), (.iconst 2, 1, 0, 0, .int 2)] 3 (.invokestatic 86) 3 = true := by decide +kernel
theorem b_X11_judged_6_6 : bl2 mX11_judged 6 [] 6 (.ifCond .eq 11) 3 = true := by decide +kernel
theorem b_X11_judged_17_19 : bl2 mX11_judged 17 [(.bipush (-2), 2, 0, 0, .int (-2))] 19 (.ireturn) 1 = true := by decide +kernel
theorem b_X11_judged_9_9 : bl2 mX11_judged 9 [] 9 (.aload_n 0) 1 = true := by decide +kernel
set_option maxRecDepth 20000 in
set_option maxHeartbeats 1000000 in
theorem y_judged_bad (E : EE) (L : Nat) (F : FF) (w : Int32) (h : w < 0 ∨ 2 < w) : Ev3 E L 16 mX11_judged [.ref 48, .int w] F (some (.int (-2))) F := by
  refine Ev3.of okX11_judged.2.2.1 (Nat.le_of_ble_eq_true rfl) ?_
  show R2 E L mX11_judged 16 0 [some (.ref 48), some (.int w)] [] F _
  refine R2.B (ls2 := [some (.ref 48), some (.int w)]) (st2 := [.int 2, .int 0, .int w]) b_X11_judged_0_3 rfl (fun hd => ?_)
  refine R2.callS3 (M2 := mX11_in) (As := [.int w, .int 0, .int 2]) (rest := []) hd lk_11_86 okX11_in (by decide) (ev_in E L F w 0 2) (by decide) rfl rfl (Nat.le_of_ble_eq_true rfl) ?_
  refine R2.B (ls2 := [some (.ref 48), some (.int w)]) (st2 := [.int (b2i (0 ≤ w ∧ w ≤ 2))]) b_X11_judged_6_6 rfl (fun hd => ?_)
  refine R2.if_eq 17 hd (by decide) (fun c6 => ?_) (fun c6 => ?_)
  · have nc6 : ¬ (0 ≤ w ∧ w ≤ 2) := b2i_zero.mp c6
    refine R2.B (ls2 := [some (.ref 48), some (.int w)]) (st2 := [.int (-2)]) b_X11_judged_17_19 rfl (fun hd => ?_)
    exact R2.ret3 (r := some (.int (-2))) hd trivial rfl rfl rfl
  · have nc6 : 0 ≤ w ∧ w ≤ 2 := b2i_nz.mp c6
    refine R2.B (ls2 := [some (.ref 48), some (.int w)]) (st2 := []) b_X11_judged_9_9 rfl (fun hd => ?_)
    exact False.elim (by clear hd; grind)
theorem b_X11_judged_9_11 : bl2 mX11_judged 9 [(.aload_n 0, 1, 0, 0, .null), (.iload_n 1, 1, 1, 0, .null)] 11 (.invokevirtual 210) 3 = true := by decide +kernel
theorem b_X11_judged_14_19 : bl2 mX11_judged 14 [(.goto 5, 3, 19, 0, .null)] 19 (.ireturn) 1 = true := by decide +kernel
set_option maxRecDepth 20000 in
set_option maxHeartbeats 1000000 in
theorem y_judged (E : EE) (L : Nat) (F : FF) (l n : Nat) (hm : MR F l n) (l1 : Nat) (hl1 : l1 ≤ 60) (h1 : F 49 1 = nI l1) (s : Nat) (hf : MFair (fds F l1 n).2 n s) (x : Int32) (h : ¬ (x < 0 ∨ 2 < x)) : Ev3 E L 16 mX11_judged [.ref 48, .int x] F (some (.int (if x = 0 then (mjF (fds F l1 n).2 n s) 48 16 else if x = 1 then (mjF (fds F l1 n).2 n s) 48 17 else (mjF (fds F l1 n).2 n s) 48 18))) (mjF (fds F l1 n).2 n s) := by
  refine Ev3.of okX11_judged.2.2.1 (Nat.le_of_ble_eq_true rfl) ?_
  show R2 E L mX11_judged 16 0 [some (.ref 48), some (.int x)] [] F _
  refine R2.B (ls2 := [some (.ref 48), some (.int x)]) (st2 := [.int 2, .int 0, .int x]) b_X11_judged_0_3 rfl (fun hd => ?_)
  refine R2.callS3 (M2 := mX11_in) (As := [.int x, .int 0, .int 2]) (rest := []) hd lk_11_86 okX11_in (by decide) (ev_in E L F x 0 2) (by decide) rfl rfl (Nat.le_of_ble_eq_true rfl) ?_
  refine R2.B (ls2 := [some (.ref 48), some (.int x)]) (st2 := [.int (b2i (0 ≤ x ∧ x ≤ 2))]) b_X11_judged_6_6 rfl (fun hd => ?_)
  refine R2.if_eq 17 hd (by decide) (fun c6 => ?_) (fun c6 => ?_)
  · have nc6 : ¬ (0 ≤ x ∧ x ≤ 2) := b2i_zero.mp c6
    refine R2.B (ls2 := [some (.ref 48), some (.int x)]) (st2 := [.int (-2)]) b_X11_judged_17_19 rfl (fun hd => ?_)
    exact False.elim (by clear hd; grind)
  · have nc6 : 0 ≤ x ∧ x ≤ 2 := b2i_nz.mp c6
    refine R2.B (ls2 := [some (.ref 48), some (.int x)]) (st2 := [.int x, .ref 48]) b_X11_judged_9_11 rfl (fun hd => ?_)
    refine R2.callV3 (M2 := mX11_judgedOf) (As := [.int x]) (rest := []) hd lk_11_210 okX11_judgedOf (by decide) rfl (me_judgedOf E L F l n hm l1 hl1 h1 s hf x) (by decide) rfl rfl (Nat.le_of_ble_eq_true rfl) ?_
    refine R2.B (ls2 := [some (.ref 48), some (.int x)]) (st2 := [.int (if x = 0 then (mjF (fds F l1 n).2 n s) 48 16 else if x = 1 then (mjF (fds F l1 n).2 n s) 48 17 else (mjF (fds F l1 n).2 n s) 48 18)]) b_X11_judged_14_19 rfl (fun hd => ?_)
    exact R2.ret3 (r := some (.int (if x = 0 then (mjF (fds F l1 n).2 n s) 48 16 else if x = 1 then (mjF (fds F l1 n).2 n s) 48 17 else (mjF (fds F l1 n).2 n s) 48 18))) hd trivial rfl rfl rfl
theorem b_X11_ends_0_2 : bl2 mX11_ends 0 [(.aload_n 0, 1, 0, 0, .null), (.iload_n 1, 1, 1, 0, .null)] 2 (.invokevirtual 131) 3 = true := by decide +kernel
theorem b_X11_ends_5_5 : bl2 mX11_ends 5 [] 5 (.ifCond .eq 11) 3 = true := by decide +kernel
theorem b_X11_ends_16_18 : bl2 mX11_ends 16 [(.bipush (-2), 2, 0, 0, .int (-2))] 18 (.ireturn) 1 = true := by decide +kernel
theorem b_X11_ends_8_8 : bl2 mX11_ends 8 [] 8 (.aload_n 0) 1 = true := by decide +kernel
set_option maxRecDepth 20000 in
set_option maxHeartbeats 1000000 in
theorem y_ends_bad (E : EE) (L : Nat) (F : FF) (l n : Nat) (hm : MR F l n) (p : Int32) (h : ¬ (0 ≤ p ∧ p < nI n)) : Ev3 E L 16 mX11_ends [.ref 48, .int p] F (some (.int (-2))) F := by
  refine Ev3.of okX11_ends.2.2.1 (Nat.le_of_ble_eq_true rfl) ?_
  show R2 E L mX11_ends 16 0 [some (.ref 48), some (.int p)] [] F _
  refine R2.B (ls2 := [some (.ref 48), some (.int p)]) (st2 := [.int p, .ref 48]) b_X11_ends_0_2 rfl (fun hd => ?_)
  refine R2.callV3 (M2 := mX11_isPerson) (As := [.int p]) (rest := []) hd lk_11_131 okX11_isPerson (by decide) rfl (me_isPerson E L F l n hm p) (by decide) rfl rfl (Nat.le_of_ble_eq_true rfl) ?_
  refine R2.B (ls2 := [some (.ref 48), some (.int p)]) (st2 := [.int (b2i (0 ≤ p ∧ p < nI n))]) b_X11_ends_5_5 rfl (fun hd => ?_)
  refine R2.if_eq 16 hd (by decide) (fun c5 => ?_) (fun c5 => ?_)
  · have nc5 : ¬ (0 ≤ p ∧ p < nI n) := b2i_zero.mp c5
    refine R2.B (ls2 := [some (.ref 48), some (.int p)]) (st2 := [.int (-2)]) b_X11_ends_16_18 rfl (fun hd => ?_)
    exact R2.ret3 (r := some (.int (-2))) hd trivial rfl rfl rfl
  · have nc5 : 0 ≤ p ∧ p < nI n := b2i_nz.mp c5
    refine R2.B (ls2 := [some (.ref 48), some (.int p)]) (st2 := []) b_X11_ends_8_8 rfl (fun hd => ?_)
    exact False.elim (by clear hd; grind)
theorem b_X11_ends_8_10 : bl2 mX11_ends 8 [(.aload_n 0, 1, 0, 0, .null), (.iload_n 1, 1, 1, 0, .null)] 10 (.invokevirtual 213) 3 = true := by decide +kernel
theorem b_X11_ends_13_18 : bl2 mX11_ends 13 [(.goto 5, 3, 18, 0, .null)] 18 (.ireturn) 1 = true := by decide +kernel
set_option maxRecDepth 20000 in
set_option maxHeartbeats 1000000 in
theorem y_ends (E : EE) (L : Nat) (F : FF) (l n : Nat) (hm : MR F l n) (l1 : Nat) (hl1 : l1 ≤ 60) (h1 : F 49 1 = nI l1) (s : Nat) (hf : MFair (fds F l1 n).2 n s) (a : Nat) (ha : a < n) : Ev3 E L 16 mX11_ends [.ref 48, .int (nI a)] F (some (.int ((mjF (fds F l1 n).2 n s) 57 a))) (mjF (fds F l1 n).2 n s) := by
  have hn10 := hm.2.2.1
  refine Ev3.of okX11_ends.2.2.1 (Nat.le_of_ble_eq_true rfl) ?_
  show R2 E L mX11_ends 16 0 [some (.ref 48), some (.int (nI a))] [] F _
  refine R2.B (ls2 := [some (.ref 48), some (.int (nI a))]) (st2 := [.int (nI a), .ref 48]) b_X11_ends_0_2 rfl (fun hd => ?_)
  refine R2.callV3 (M2 := mX11_isPerson) (As := [.int (nI a)]) (rest := []) hd lk_11_131 okX11_isPerson (by decide) rfl (me_isPerson E L F l n hm (nI a)) (by decide) rfl rfl (Nat.le_of_ble_eq_true rfl) ?_
  refine R2.B (ls2 := [some (.ref 48), some (.int (nI a))]) (st2 := [.int (b2i (0 ≤ (nI a) ∧ (nI a) < nI n))]) b_X11_ends_5_5 rfl (fun hd => ?_)
  refine R2.if_eq 16 hd (by decide) (fun c5 => absurd c5 (b2i_nz.mpr (perM hn10 ha))) (fun c5 => ?_)
  refine R2.B (ls2 := [some (.ref 48), some (.int (nI a))]) (st2 := [.int (nI a), .ref 48]) b_X11_ends_8_10 rfl (fun hd => ?_)
  refine R2.callV3 (M2 := mX11_endsOf) (As := [.int (nI a)]) (rest := []) hd lk_11_213 okX11_endsOf (by decide) rfl (me_endsOf E L F l n hm l1 hl1 h1 s hf a (by omega)) (by decide) rfl rfl (Nat.le_of_ble_eq_true rfl) ?_
  refine R2.B (ls2 := [some (.ref 48), some (.int (nI a))]) (st2 := [.int ((mjF (fds F l1 n).2 n s) 57 a)]) b_X11_ends_13_18 rfl (fun hd => ?_)
  exact R2.ret3 (r := some (.int ((mjF (fds F l1 n).2 n s) 57 a))) hd trivial rfl rfl rfl
theorem b_X11_comes_0_3 : bl2 mX11_comes 0 [(.aload_n 0, 1, 0, 0, .null), (.iload_n 1, 1, 1, 0, .null), (.iload_n 2, 1, 2, 0, .null)] 3 (.invokevirtual 173) 3 = true := by decide +kernel
theorem b_X11_comes_6_6 : bl2 mX11_comes 6 [] 6 (.ifCond .eq 12) 3 = true := by decide +kernel
theorem b_X11_comes_18_20 : bl2 mX11_comes 18 [(.bipush (-2), 2, 0, 0, .int (-2))] 20 (.ireturn) 1 = true := by decide +kernel
theorem b_X11_comes_9_9 : bl2 mX11_comes 9 [] 9 (.aload_n 0) 1 = true := by decide +kernel
set_option maxRecDepth 20000 in
set_option maxHeartbeats 1000000 in
theorem y_comes_bad (E : EE) (L : Nat) (F : FF) (l n : Nat) (hm : MR F l n) (p q : Int32) (h : ¬ ((0 ≤ p ∧ p < nI n) ∧ (0 ≤ q ∧ q < nI n) ∧ ¬ p = q)) : Ev3 E L 16 mX11_comes [.ref 48, .int p, .int q] F (some (.int (-2))) F := by
  refine Ev3.of okX11_comes.2.2.1 (Nat.le_of_ble_eq_true rfl) ?_
  show R2 E L mX11_comes 16 0 [some (.ref 48), some (.int p), some (.int q)] [] F _
  refine R2.B (ls2 := [some (.ref 48), some (.int p), some (.int q)]) (st2 := [.int q, .int p, .ref 48]) b_X11_comes_0_3 rfl (fun hd => ?_)
  refine R2.callV3 (M2 := mX11_areTwo) (As := [.int p, .int q]) (rest := []) hd lk_11_173 okX11_areTwo (by decide) rfl (me_areTwo E L F l n hm p q) (by decide) rfl rfl (Nat.le_of_ble_eq_true rfl) ?_
  refine R2.B (ls2 := [some (.ref 48), some (.int p), some (.int q)]) (st2 := [.int (b2i ((0 ≤ p ∧ p < nI n) ∧ (0 ≤ q ∧ q < nI n) ∧ ¬ p = q))]) b_X11_comes_6_6 rfl (fun hd => ?_)
  refine R2.if_eq 18 hd (by decide) (fun c6 => ?_) (fun c6 => ?_)
  · have nc6 : ¬ ((0 ≤ p ∧ p < nI n) ∧ (0 ≤ q ∧ q < nI n) ∧ ¬ p = q) := b2i_zero.mp c6
    refine R2.B (ls2 := [some (.ref 48), some (.int p), some (.int q)]) (st2 := [.int (-2)]) b_X11_comes_18_20 rfl (fun hd => ?_)
    exact R2.ret3 (r := some (.int (-2))) hd trivial rfl rfl rfl
  · have nc6 : (0 ≤ p ∧ p < nI n) ∧ (0 ≤ q ∧ q < nI n) ∧ ¬ p = q := b2i_nz.mp c6
    refine R2.B (ls2 := [some (.ref 48), some (.int p), some (.int q)]) (st2 := []) b_X11_comes_9_9 rfl (fun hd => ?_)
    exact False.elim (by clear hd; grind)
theorem b_X11_comes_9_12 : bl2 mX11_comes 9 [(.aload_n 0, 1, 0, 0, .null), (.iload_n 1, 1, 1, 0, .null), (.iload_n 2, 1, 2, 0, .null)] 12 (.invokevirtual 220) 3 = true := by decide +kernel
theorem b_X11_comes_15_20 : bl2 mX11_comes 15 [(.goto 5, 3, 20, 0, .null)] 20 (.ireturn) 1 = true := by decide +kernel
set_option maxRecDepth 20000 in
set_option maxHeartbeats 1000000 in
theorem y_comes (E : EE) (L : Nat) (F : FF) (l n : Nat) (hm : MR F l n) (a b : Nat) (ha : a < n) (hb : b < n) (hab : ¬ a = b) (bg : Nat) (hs : F 56 a = nI bg) (hbg : bg < 1024) : Ev3 E L 16 mX11_comes [.ref 48, .int (nI a), .int (nI b)] F (some (.int ((lfF F n a b bg) 63 bg))) (lfF F n a b bg) := by
  have hn10 := hm.2.2.1
  refine Ev3.of okX11_comes.2.2.1 (Nat.le_of_ble_eq_true rfl) ?_
  show R2 E L mX11_comes 16 0 [some (.ref 48), some (.int (nI a)), some (.int (nI b))] [] F _
  refine R2.B (ls2 := [some (.ref 48), some (.int (nI a)), some (.int (nI b))]) (st2 := [.int (nI b), .int (nI a), .ref 48]) b_X11_comes_0_3 rfl (fun hd => ?_)
  refine R2.callV3 (M2 := mX11_areTwo) (As := [.int (nI a), .int (nI b)]) (rest := []) hd lk_11_173 okX11_areTwo (by decide) rfl (me_areTwo E L F l n hm (nI a) (nI b)) (by decide) rfl rfl (Nat.le_of_ble_eq_true rfl) ?_
  refine R2.B (ls2 := [some (.ref 48), some (.int (nI a)), some (.int (nI b))]) (st2 := [.int (b2i ((0 ≤ (nI a) ∧ (nI a) < nI n) ∧ (0 ≤ (nI b) ∧ (nI b) < nI n) ∧ ¬ (nI a) = (nI b)))]) b_X11_comes_6_6 rfl (fun hd => ?_)
  refine R2.if_eq 18 hd (by decide) (fun c6 => absurd c6 (b2i_nz.mpr (twoM hn10 ha hb hab))) (fun c6 => ?_)
  refine R2.B (ls2 := [some (.ref 48), some (.int (nI a)), some (.int (nI b))]) (st2 := [.int (nI b), .int (nI a), .ref 48]) b_X11_comes_9_12 rfl (fun hd => ?_)
  refine R2.callV3 (M2 := mX11_comesOf) (As := [.int (nI a), .int (nI b)]) (rest := []) hd lk_11_220 okX11_comesOf (by decide) rfl (me_comesOf E L F l n hm a b bg ha hb hs hbg) (by decide) rfl rfl (Nat.le_of_ble_eq_true rfl) ?_
  refine R2.B (ls2 := [some (.ref 48), some (.int (nI a)), some (.int (nI b))]) (st2 := [.int ((lfF F n a b bg) 63 bg)]) b_X11_comes_15_20 rfl (fun hd => ?_)
  exact R2.ret3 (r := some (.int ((lfF F n a b bg) 63 bg))) hd trivial rfl rfl rfl
theorem b_X11_way_13_15 : bl2 mX11_way 13 [(.bipush (-2), 2, 0, 0, .int (-2))] 15 (.ireturn) 1 = true := by decide +kernel
theorem b_X11_way_16_16 : bl2 mX11_way 16 [] 16 (.aload_n 0) 1 = true := by decide +kernel
set_option maxRecDepth 20000 in
set_option maxHeartbeats 1000000 in
theorem y_way_bad (E : EE) (L : Nat) (F : FF) (l n : Nat) (hm : MR F l n) (p q x : Int32) (h : ¬ ((0 ≤ p ∧ p < nI n) ∧ (0 ≤ q ∧ q < nI n) ∧ ¬ p = q) ∨ x < 0) : Ev3 E L 16 mX11_way [.ref 48, .int p, .int q, .int x] F (some (.int (-2))) F := by
  refine Ev3.of okX11_way.2.2.1 (Nat.le_of_ble_eq_true rfl) ?_
  show R2 E L mX11_way 16 0 [some (.ref 48), some (.int p), some (.int q), some (.int x), none, none, none, none, none] [] F _
  refine R2.B (ls2 := [some (.ref 48), some (.int p), some (.int q), some (.int x), none, none, none, none, none]) (st2 := [.int q, .int p, .ref 48]) b_X11_way_0_3 rfl (fun hd => ?_)
  refine R2.callV3 (M2 := mX11_areTwo) (As := [.int p, .int q]) (rest := []) hd lk_11_173 okX11_areTwo (by decide) rfl (me_areTwo E L F l n hm p q) (by decide) rfl rfl (Nat.le_of_ble_eq_true rfl) ?_
  refine R2.B (ls2 := [some (.ref 48), some (.int p), some (.int q), some (.int x), none, none, none, none, none]) (st2 := [.int (b2i ((0 ≤ p ∧ p < nI n) ∧ (0 ≤ q ∧ q < nI n) ∧ ¬ p = q))]) b_X11_way_6_6 rfl (fun hd => ?_)
  refine R2.if_eq 13 hd (by decide) (fun c6 => ?_) (fun c6 => ?_)
  · have nc6 : ¬ ((0 ≤ p ∧ p < nI n) ∧ (0 ≤ q ∧ q < nI n) ∧ ¬ p = q) := b2i_zero.mp c6
    refine R2.B (ls2 := [some (.ref 48), some (.int p), some (.int q), some (.int x), none, none, none, none, none]) (st2 := [.int (-2)]) b_X11_way_13_15 rfl (fun hd => ?_)
    exact R2.ret3 (r := some (.int (-2))) hd trivial rfl rfl rfl
  · have nc6 : (0 ≤ p ∧ p < nI n) ∧ (0 ≤ q ∧ q < nI n) ∧ ¬ p = q := b2i_nz.mp c6
    refine R2.B (ls2 := [some (.ref 48), some (.int p), some (.int q), some (.int x), none, none, none, none, none]) (st2 := [.int x]) b_X11_way_9_10 rfl (fun hd => ?_)
    refine R2.if_ge 16 hd (by decide) (fun c10 => ?_) (fun c10 => ?_)
    · refine R2.B (ls2 := [some (.ref 48), some (.int p), some (.int q), some (.int x), none, none, none, none, none]) (st2 := []) b_X11_way_16_16 rfl (fun hd => ?_)
      exact False.elim (by clear hd; grind)
    · refine R2.B (ls2 := [some (.ref 48), some (.int p), some (.int q), some (.int x), none, none, none, none, none]) (st2 := [.int (-2)]) b_X11_way_13_15 rfl (fun hd => ?_)
      exact R2.ret3 (r := some (.int (-2))) hd trivial rfl rfl rfl
theorem b_X11_hinders_0_2 : bl2 mX11_hinders 0 [(.aload_n 0, 1, 0, 0, .null), (.iload_n 1, 1, 1, 0, .null)] 2 (.invokevirtual 131) 3 = true := by decide +kernel
theorem b_X11_hinders_5_5 : bl2 mX11_hinders 5 [] 5 (.ifCond .eq 21) 3 = true := by decide +kernel
theorem b_X11_hinders_26_28 : bl2 mX11_hinders 26 [(.bipush (-2), 2, 0, 0, .int (-2))] 28 (.ireturn) 1 = true := by decide +kernel
theorem b_X11_hinders_8_11 : bl2 mX11_hinders 8 [(.iload_n 2, 1, 2, 0, .null), (.iconst 0, 1, 0, 0, .int 0), (.iconst 1, 1, 0, 0, .int 1)] 11 (.invokestatic 86) 3 = true := by decide +kernel
theorem b_X11_hinders_14_14 : bl2 mX11_hinders 14 [] 14 (.ifCond .eq 12) 3 = true := by decide +kernel
theorem b_X11_hinders_17_17 : bl2 mX11_hinders 17 [] 17 (.aload_n 0) 1 = true := by decide +kernel
set_option maxRecDepth 20000 in
set_option maxHeartbeats 1000000 in
theorem y_hinders_bad (E : EE) (L : Nat) (F : FF) (l n : Nat) (hm : MR F l n) (p w : Int32) (h : ¬ (0 ≤ p ∧ p < nI n) ∨ w < 0 ∨ 1 < w) : Ev3 E L 16 mX11_hinders [.ref 48, .int p, .int w] F (some (.int (-2))) F := by
  refine Ev3.of okX11_hinders.2.2.1 (Nat.le_of_ble_eq_true rfl) ?_
  show R2 E L mX11_hinders 16 0 [some (.ref 48), some (.int p), some (.int w)] [] F _
  refine R2.B (ls2 := [some (.ref 48), some (.int p), some (.int w)]) (st2 := [.int p, .ref 48]) b_X11_hinders_0_2 rfl (fun hd => ?_)
  refine R2.callV3 (M2 := mX11_isPerson) (As := [.int p]) (rest := []) hd lk_11_131 okX11_isPerson (by decide) rfl (me_isPerson E L F l n hm p) (by decide) rfl rfl (Nat.le_of_ble_eq_true rfl) ?_
  refine R2.B (ls2 := [some (.ref 48), some (.int p), some (.int w)]) (st2 := [.int (b2i (0 ≤ p ∧ p < nI n))]) b_X11_hinders_5_5 rfl (fun hd => ?_)
  refine R2.if_eq 26 hd (by decide) (fun c5 => ?_) (fun c5 => ?_)
  · have nc5 : ¬ (0 ≤ p ∧ p < nI n) := b2i_zero.mp c5
    refine R2.B (ls2 := [some (.ref 48), some (.int p), some (.int w)]) (st2 := [.int (-2)]) b_X11_hinders_26_28 rfl (fun hd => ?_)
    exact R2.ret3 (r := some (.int (-2))) hd trivial rfl rfl rfl
  · have nc5 : 0 ≤ p ∧ p < nI n := b2i_nz.mp c5
    refine R2.B (ls2 := [some (.ref 48), some (.int p), some (.int w)]) (st2 := [.int 1, .int 0, .int w]) b_X11_hinders_8_11 rfl (fun hd => ?_)
    refine R2.callS3 (M2 := mX11_in) (As := [.int w, .int 0, .int 1]) (rest := []) hd lk_11_86 okX11_in (by decide) (ev_in E L F w 0 1) (by decide) rfl rfl (Nat.le_of_ble_eq_true rfl) ?_
    refine R2.B (ls2 := [some (.ref 48), some (.int p), some (.int w)]) (st2 := [.int (b2i (0 ≤ w ∧ w ≤ 1))]) b_X11_hinders_14_14 rfl (fun hd => ?_)
    refine R2.if_eq 26 hd (by decide) (fun c14 => ?_) (fun c14 => ?_)
    · have nc14 : ¬ (0 ≤ w ∧ w ≤ 1) := b2i_zero.mp c14
      refine R2.B (ls2 := [some (.ref 48), some (.int p), some (.int w)]) (st2 := [.int (-2)]) b_X11_hinders_26_28 rfl (fun hd => ?_)
      exact R2.ret3 (r := some (.int (-2))) hd trivial rfl rfl rfl
    · have nc14 : 0 ≤ w ∧ w ≤ 1 := b2i_nz.mp c14
      refine R2.B (ls2 := [some (.ref 48), some (.int p), some (.int w)]) (st2 := []) b_X11_hinders_17_17 rfl (fun hd => ?_)
      exact False.elim (by clear hd; grind)
theorem b_X11_hinders_17_20 : bl2 mX11_hinders 17 [(.aload_n 0, 1, 0, 0, .null), (.iload_n 1, 1, 1, 0, .null), (.iload_n 2, 1, 2, 0, .null)] 20 (.invokevirtual 223) 3 = true := by decide +kernel
theorem b_X11_hinders_23_28 : bl2 mX11_hinders 23 [(.goto 5, 3, 28, 0, .null)] 28 (.ireturn) 1 = true := by decide +kernel
set_option maxRecDepth 20000 in
set_option maxHeartbeats 1000000 in
theorem y_hinders (E : EE) (L : Nat) (F : FF) (l n : Nat) (hm : MR F l n) (a : Nat) (ha : a < n) (w : Int32) (h : ¬ (w < 0 ∨ 1 < w)) : Ev3 E L 16 mX11_hinders [.ref 48, .int (nI a), .int w] F (some (.int (if w = 0 then sumB (gMH (ly F n) n a) n 0 0 else sumB (gMW (ly F n) n a) n 0 0))) (ly F n) := by
  have hn10 := hm.2.2.1
  refine Ev3.of okX11_hinders.2.2.1 (Nat.le_of_ble_eq_true rfl) ?_
  show R2 E L mX11_hinders 16 0 [some (.ref 48), some (.int (nI a)), some (.int w)] [] F _
  refine R2.B (ls2 := [some (.ref 48), some (.int (nI a)), some (.int w)]) (st2 := [.int (nI a), .ref 48]) b_X11_hinders_0_2 rfl (fun hd => ?_)
  refine R2.callV3 (M2 := mX11_isPerson) (As := [.int (nI a)]) (rest := []) hd lk_11_131 okX11_isPerson (by decide) rfl (me_isPerson E L F l n hm (nI a)) (by decide) rfl rfl (Nat.le_of_ble_eq_true rfl) ?_
  refine R2.B (ls2 := [some (.ref 48), some (.int (nI a)), some (.int w)]) (st2 := [.int (b2i (0 ≤ (nI a) ∧ (nI a) < nI n))]) b_X11_hinders_5_5 rfl (fun hd => ?_)
  refine R2.if_eq 26 hd (by decide) (fun c5 => absurd c5 (b2i_nz.mpr (perM hn10 ha))) (fun c5 => ?_)
  refine R2.B (ls2 := [some (.ref 48), some (.int (nI a)), some (.int w)]) (st2 := [.int 1, .int 0, .int w]) b_X11_hinders_8_11 rfl (fun hd => ?_)
  refine R2.callS3 (M2 := mX11_in) (As := [.int w, .int 0, .int 1]) (rest := []) hd lk_11_86 okX11_in (by decide) (ev_in E L F w 0 1) (by decide) rfl rfl (Nat.le_of_ble_eq_true rfl) ?_
  refine R2.B (ls2 := [some (.ref 48), some (.int (nI a)), some (.int w)]) (st2 := [.int (b2i (0 ≤ w ∧ w ≤ 1))]) b_X11_hinders_14_14 rfl (fun hd => ?_)
  refine R2.if_eq 26 hd (by decide) (fun c14 => ?_) (fun c14 => ?_)
  · have nc14 : ¬ (0 ≤ w ∧ w ≤ 1) := b2i_zero.mp c14
    refine R2.B (ls2 := [some (.ref 48), some (.int (nI a)), some (.int w)]) (st2 := [.int (-2)]) b_X11_hinders_26_28 rfl (fun hd => ?_)
    exact False.elim (by clear hd; grind)
  · have nc14 : 0 ≤ w ∧ w ≤ 1 := b2i_nz.mp c14
    refine R2.B (ls2 := [some (.ref 48), some (.int (nI a)), some (.int w)]) (st2 := [.int w, .int (nI a), .ref 48]) b_X11_hinders_17_20 rfl (fun hd => ?_)
    refine R2.callV3 (M2 := mX11_hindersOf) (As := [.int (nI a), .int w]) (rest := []) hd lk_11_223 okX11_hindersOf (by decide) rfl (me_hindersOf E L F l n hm a ha w) (by decide) rfl rfl (Nat.le_of_ble_eq_true rfl) ?_
    refine R2.B (ls2 := [some (.ref 48), some (.int (nI a)), some (.int w)]) (st2 := [.int (if w = 0 then sumB (gMH (ly F n) n a) n 0 0 else sumB (gMW (ly F n) n a) n 0 0)]) b_X11_hinders_23_28 rfl (fun hd => ?_)
    exact R2.ret3 (r := some (.int (if w = 0 then sumB (gMH (ly F n) n a) n 0 0 else sumB (gMW (ly F n) n a) n 0 0))) hd trivial rfl rfl rfl
