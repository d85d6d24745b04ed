theorem b_X11_awayBy_0_3 : bl2 mX11_awayBy 0 [(.iload_n 0, 1, 0, 0, .null), (.bipush 32, 2, 0, 0, .int 32)] 3 (.irem) 1 = true := by decide +kernel
theorem b_X11_awayBy_4_7 : bl2 mX11_awayBy 4 [(.iload_n 1, 1, 1, 0, .null), (.bipush 32, 2, 0, 0, .int 32)] 7 (.irem) 1 = true := by decide +kernel
theorem b_X11_awayBy_8_13 : bl2 mX11_awayBy 8 [(.isub, 1, 0, 0, .null), (.istore_n 2, 1, 2, 0, .null), (.iload_n 0, 1, 0, 0, .null), (.bipush 32, 2, 0, 0, .int 32)] 13 (.idiv) 1 = true := by decide +kernel
theorem b_X11_awayBy_14_17 : bl2 mX11_awayBy 14 [(.iload_n 1, 1, 1, 0, .null), (.bipush 32, 2, 0, 0, .int 32)] 17 (.idiv) 1 = true := by decide +kernel
theorem b_X11_awayBy_18_29 : bl2 mX11_awayBy 18 [(.isub, 1, 0, 0, .null), (.istore_n 3, 1, 3, 0, .null), (.iconst 4, 1, 0, 0, .int 4), (.iload_n 2, 1, 2, 0, .null), (.iload_n 2, 1, 2, 0, .null), (.imul, 1, 0, 0, .null), (.iload_n 3, 1, 3, 0, .null), (.iload_n 3, 1, 3, 0, .null), (.imul, 1, 0, 0, .null), (.iadd, 1, 0, 0, .null), (.imul, 1, 0, 0, .null)] 29 (.ireturn) 1 = true := by decide +kernel
set_option maxRecDepth 20000 in
set_option maxHeartbeats 1000000 in
theorem me_awayBy (E : EE) (L : Nat) (F : FF) (s t : Int32) : Ev3 E L 1 mX11_awayBy [.int s, .int t] F (some (.int (awy s t))) F := by
  refine Ev3.of okX11_awayBy.2.1 (Nat.le_of_ble_eq_true rfl) ?_
  show R2 E L mX11_awayBy 1 0 [some (.int s), some (.int t), none, none] [] F _
  refine R2.B (ls2 := [some (.int s), some (.int t), none, none]) (st2 := [.int 32, .int s]) b_X11_awayBy_0_3 rfl (fun hd => ?_)
  refine R2.irem hd (by decide) ?_
  refine R2.B (ls2 := [some (.int s), some (.int t), none, none]) (st2 := [.int 32, .int t, .int (s - s / 32 * 32)]) b_X11_awayBy_4_7 rfl (fun hd => ?_)
  refine R2.irem hd (by decide) ?_
  refine R2.B (ls2 := [some (.int s), some (.int t), some (.int ((s - s / 32 * 32) - (t - t / 32 * 32))), none]) (st2 := [.int 32, .int s]) b_X11_awayBy_8_13 rfl (fun hd => ?_)
  refine R2.idiv hd (by decide) ?_
  refine R2.B (ls2 := [some (.int s), some (.int t), some (.int ((s - s / 32 * 32) - (t - t / 32 * 32))), none]) (st2 := [.int 32, .int t, .int (s / 32)]) b_X11_awayBy_14_17 rfl (fun hd => ?_)
  refine R2.idiv hd (by decide) ?_
  refine R2.B (ls2 := [some (.int s), some (.int t), some (.int ((s - s / 32 * 32) - (t - t / 32 * 32))), some (.int ((s / 32) - (t / 32)))]) (st2 := [.int (4 * ((((s - s / 32 * 32) - (t - t / 32 * 32)) * ((s - s / 32 * 32) - (t - t / 32 * 32))) + (((s / 32) - (t / 32)) * ((s / 32) - (t / 32)))))]) b_X11_awayBy_18_29 rfl (fun hd => ?_)
  exact R2.ret3 (r := some (.int (4 * ((((s - s / 32 * 32) - (t - t / 32 * 32)) * ((s - s / 32 * 32) - (t - t / 32 * 32))) + (((s / 32) - (t / 32)) * ((s / 32) - (t / 32))))))) hd trivial rfl (rfl) rfl
theorem in31 (x : Int32) : (0 ≤ x ∧ x ≤ 31) ↔ ¬ (x < 0 ∨ 32 ≤ x) := by
  rw [Int32.le_iff_toInt_le, Int32.le_iff_toInt_le, Int32.lt_iff_toInt_lt, Int32.le_iff_toInt_le, show (0 : Int32).toInt = 0 from rfl, show (31 : Int32).toInt = 31 from rfl, show (32 : Int32).toInt = 32 from rfl]; omega
theorem nbr_in {s x y : Int32} {d : Nat} (ex : rem32 s + exT d = x) (ey : s / 32 + syT d = y) (h1 : 0 ≤ x ∧ x ≤ 31) (h2 : 0 ≤ y ∧ y ≤ 31) : 32 * y + x = nbr s d := by
  unfold nbr; rw [ex, ey, if_neg]
  intro h; rcases h with h | h | h | h
  · exact (in31 x).mp h1 (Or.inl h)
  · exact (in31 x).mp h1 (Or.inr h)
  · exact (in31 y).mp h2 (Or.inl h)
  · exact (in31 y).mp h2 (Or.inr h)
theorem nbr_o1 {s x : Int32} {d : Nat} (ex : rem32 s + exT d = x) (h1 : ¬ (0 ≤ x ∧ x ≤ 31)) : (-1 : Int32) = nbr s d := by
  unfold nbr; rw [ex, if_pos]
  rcases Classical.not_not.mp (fun z => h1 ((in31 x).mpr z)) with h | h
  · exact Or.inl h
  · exact Or.inr (Or.inl h)
theorem nbr_o2 {s y : Int32} {d : Nat} (ey : s / 32 + syT d = y) (h1 : ¬ (0 ≤ y ∧ y ≤ 31)) : (-1 : Int32) = nbr s d := by
  unfold nbr; rw [ey, if_pos]
  rcases Classical.not_not.mp (fun z => h1 ((in31 y).mpr z)) with h | h
  · exact Or.inr (Or.inr (Or.inl h))
  · exact Or.inr (Or.inr (Or.inr h))
theorem b_X11_stepTo_0_3 : bl2 mX11_stepTo 0 [(.iload_n 0, 1, 0, 0, .null), (.bipush 32, 2, 0, 0, .int 32)] 3 (.irem) 1 = true := by decide +kernel
theorem b_X11_stepTo_4_6 : bl2 mX11_stepTo 4 [(.iload_n 1, 1, 1, 0, .null), (.iconst 1, 1, 0, 0, .int 1)] 6 (.if_icmp .eq 13) 3 = true := by decide +kernel
theorem b_X11_stepTo_9_11 : bl2 mX11_stepTo 9 [(.iload_n 1, 1, 1, 0, .null), (.iconst 2, 1, 0, 0, .int 2)] 11 (.if_icmp .eq 8) 3 = true := by decide +kernel
theorem b_X11_stepTo_14_16 : bl2 mX11_stepTo 14 [(.iload_n 1, 1, 1, 0, .null), (.iconst 3, 1, 0, 0, .int 3)] 16 (.if_icmp .ne 7) 3 = true := by decide +kernel
theorem b_X11_stepTo_23_25 : bl2 mX11_stepTo 23 [(.iload_n 1, 1, 1, 0, .null), (.iconst 5, 1, 0, 0, .int 5)] 25 (.if_icmp .eq 15) 3 = true := by decide +kernel
theorem b_X11_stepTo_28_31 : bl2 mX11_stepTo 28 [(.iload_n 1, 1, 1, 0, .null), (.bipush 6, 2, 0, 0, .int 6)] 31 (.if_icmp .eq 9) 3 = true := by decide +kernel
theorem b_X11_stepTo_34_37 : bl2 mX11_stepTo 34 [(.iload_n 1, 1, 1, 0, .null), (.bipush 7, 2, 0, 0, .int 7)] 37 (.if_icmp .ne 7) 3 = true := by decide +kernel
theorem b_X11_stepTo_44_50 : bl2 mX11_stepTo 44 [(.iconst 0, 1, 0, 0, .int 0), (.iadd, 1, 0, 0, .null), (.istore_n 2, 1, 2, 0, .null), (.iload_n 0, 1, 0, 0, .null), (.bipush 32, 2, 0, 0, .int 32)] 50 (.idiv) 1 = true := by decide +kernel
theorem b_X11_stepTo_51_54 : bl2 mX11_stepTo 51 [(.iload_n 1, 1, 1, 0, .null), (.bipush 7, 2, 0, 0, .int 7)] 54 (.if_icmp .eq 12) 3 = true := by decide +kernel
theorem b_X11_stepTo_57_58 : bl2 mX11_stepTo 57 [(.iload_n 1, 1, 1, 0, .null)] 58 (.ifCond .eq 8) 3 = true := by decide +kernel
theorem b_X11_stepTo_66_96 : bl2 mX11_stepTo 66 [(.iconst (-1), 1, 0, 0, .int (-1)), (.goto 23, 3, 90, 0, .null), (.iadd, 1, 0, 0, .null), (.istore_n 3, 1, 3, 0, .null), (.iload_n 2, 1, 2, 0, .null), (.iconst 0, 1, 0, 0, .int 0), (.bipush 31, 2, 0, 0, .int 31)] 96 (.invokestatic 86) 3 = true := by decide +kernel
theorem b_X11_stepTo_99_99 : bl2 mX11_stepTo 99 [] 99 (.ifCond .eq 22) 3 = true := by decide +kernel
theorem b_X11_stepTo_121_122 : bl2 mX11_stepTo 121 [(.iconst (-1), 1, 0, 0, .int (-1))] 122 (.ireturn) 1 = true := by decide +kernel
theorem b_X11_stepTo_102_106 : bl2 mX11_stepTo 102 [(.iload_n 3, 1, 3, 0, .null), (.iconst 0, 1, 0, 0, .int 0), (.bipush 31, 2, 0, 0, .int 31)] 106 (.invokestatic 86) 3 = true := by decide +kernel
theorem b_X11_stepTo_109_109 : bl2 mX11_stepTo 109 [] 109 (.ifCond .eq 12) 3 = true := by decide +kernel
theorem b_X11_stepTo_112_122 : bl2 mX11_stepTo 112 [(.bipush 32, 2, 0, 0, .int 32), (.iload_n 3, 1, 3, 0, .null), (.imul, 1, 0, 0, .null), (.iload_n 2, 1, 2, 0, .null), (.iadd, 1, 0, 0, .null), (.goto 4, 3, 122, 0, .null)] 122 (.ireturn) 1 = true := by decide +kernel
set_option maxRecDepth 20000 in
set_option maxHeartbeats 1000000 in
theorem me_stepTo0 (E : EE) (L : Nat) (F : FF) (s : Int32) : Ev3 E L 2 mX11_stepTo [.int s, .int 0] F (some (.int (nbr s 0))) F := by
  refine Ev3.of okX11_stepTo.2.1 (Nat.le_of_ble_eq_true rfl) ?_
  show R2 E L mX11_stepTo 2 0 [some (.int s), some (.int 0), none, none] [] F _
  refine R2.B (ls2 := [some (.int s), some (.int 0), none, none]) (st2 := [.int 32, .int s]) b_X11_stepTo_0_3 rfl (fun hd => ?_)
  refine R2.irem hd (by decide) ?_
  refine R2.B (ls2 := [some (.int s), some (.int 0), none, none]) (st2 := [.int 1, .int 0, .int (s - s / 32 * 32)]) b_X11_stepTo_4_6 rfl (fun hd => ?_)
  refine R2.icmp_eq 19 hd (by decide) (fun c6 => absurd c6 (by decide)) (fun c6 => ?_)
  refine R2.B (ls2 := [some (.int s), some (.int 0), none, none]) (st2 := [.int 2, .int 0, .int (s - s / 32 * 32)]) b_X11_stepTo_9_11 rfl (fun hd => ?_)
  refine R2.icmp_eq 19 hd (by decide) (fun c11 => absurd c11 (by decide)) (fun c11 => ?_)
  refine R2.B (ls2 := [some (.int s), some (.int 0), none, none]) (st2 := [.int 3, .int 0, .int (s - s / 32 * 32)]) b_X11_stepTo_14_16 rfl (fun hd => ?_)
  refine R2.icmp_ne 23 hd (by decide) (fun c16 => ?_) (fun c16 => absurd c16 (by decide))
  refine R2.B (ls2 := [some (.int s), some (.int 0), none, none]) (st2 := [.int 5, .int 0, .int (s - s / 32 * 32)]) b_X11_stepTo_23_25 rfl (fun hd => ?_)
  refine R2.icmp_eq 40 hd (by decide) (fun c25 => absurd c25 (by decide)) (fun c25 => ?_)
  refine R2.B (ls2 := [some (.int s), some (.int 0), none, none]) (st2 := [.int 6, .int 0, .int (s - s / 32 * 32)]) b_X11_stepTo_28_31 rfl (fun hd => ?_)
  refine R2.icmp_eq 40 hd (by decide) (fun c31 => absurd c31 (by decide)) (fun c31 => ?_)
  refine R2.B (ls2 := [some (.int s), some (.int 0), none, none]) (st2 := [.int 7, .int 0, .int (s - s / 32 * 32)]) b_X11_stepTo_34_37 rfl (fun hd => ?_)
  refine R2.icmp_ne 44 hd (by decide) (fun c37 => ?_) (fun c37 => absurd c37 (by decide))
  refine R2.B (ls2 := [some (.int s), some (.int 0), some (.int ((s - s / 32 * 32) + 0)), none]) (st2 := [.int 32, .int s]) b_X11_stepTo_44_50 rfl (fun hd => ?_)
  refine R2.idiv hd (by decide) ?_
  refine R2.B (ls2 := [some (.int s), some (.int 0), some (.int ((s - s / 32 * 32) + 0)), none]) (st2 := [.int 7, .int 0, .int (s / 32)]) b_X11_stepTo_51_54 rfl (fun hd => ?_)
  refine R2.icmp_eq 66 hd (by decide) (fun c54 => absurd c54 (by decide)) (fun c54 => ?_)
  refine R2.B (ls2 := [some (.int s), some (.int 0), some (.int ((s - s / 32 * 32) + 0)), none]) (st2 := [.int 0, .int (s / 32)]) b_X11_stepTo_57_58 rfl (fun hd => ?_)
  refine R2.if_eq 66 hd (by decide) (fun c58 => ?_) (fun c58 => absurd (by decide) c58)
  refine R2.B (ls2 := [some (.int s), some (.int 0), some (.int ((s - s / 32 * 32) + 0)), some (.int ((s / 32) + (-1)))]) (st2 := [.int 31, .int 0, .int ((s - s / 32 * 32) + 0)]) b_X11_stepTo_66_96 rfl (fun hd => ?_)
  refine R2.callS3 (M2 := mX11_in) (As := [.int ((s - s / 32 * 32) + 0), .int 0, .int 31]) (rest := []) hd lk_11_86 okX11_in (by decide) (ev_in E L F ((s - s / 32 * 32) + 0) 0 31) (by decide) rfl rfl (Nat.le_of_ble_eq_true rfl) ?_
  refine R2.B (ls2 := [some (.int s), some (.int 0), some (.int ((s - s / 32 * 32) + 0)), some (.int ((s / 32) + (-1)))]) (st2 := [.int (b2i (0 ≤ ((s - s / 32 * 32) + 0) ∧ ((s - s / 32 * 32) + 0) ≤ 31))]) b_X11_stepTo_99_99 rfl (fun hd => ?_)
  refine R2.if_eq 121 hd (by decide) (fun c99 => ?_) (fun c99 => ?_)
  · have nc99 : ¬ (0 ≤ ((s - s / 32 * 32) + 0) ∧ ((s - s / 32 * 32) + 0) ≤ 31) := b2i_zero.mp c99
    refine R2.B (ls2 := [some (.int s), some (.int 0), some (.int ((s - s / 32 * 32) + 0)), some (.int ((s / 32) + (-1)))]) (st2 := [.int (-1)]) b_X11_stepTo_121_122 rfl (fun hd => ?_)
    exact R2.ret3 (r := some (.int (-1))) hd trivial rfl (congrArg (fun z => some (Value.int z)) (nbr_o1 (d := 0) rfl nc99)) rfl
  · have nc99 : 0 ≤ ((s - s / 32 * 32) + 0) ∧ ((s - s / 32 * 32) + 0) ≤ 31 := b2i_nz.mp c99
    refine R2.B (ls2 := [some (.int s), some (.int 0), some (.int ((s - s / 32 * 32) + 0)), some (.int ((s / 32) + (-1)))]) (st2 := [.int 31, .int 0, .int ((s / 32) + (-1))]) b_X11_stepTo_102_106 rfl (fun hd => ?_)
    refine R2.callS3 (M2 := mX11_in) (As := [.int ((s / 32) + (-1)), .int 0, .int 31]) (rest := []) hd lk_11_86 okX11_in (by decide) (ev_in E L F ((s / 32) + (-1)) 0 31) (by decide) rfl rfl (Nat.le_of_ble_eq_true rfl) ?_
    refine R2.B (ls2 := [some (.int s), some (.int 0), some (.int ((s - s / 32 * 32) + 0)), some (.int ((s / 32) + (-1)))]) (st2 := [.int (b2i (0 ≤ ((s / 32) + (-1)) ∧ ((s / 32) + (-1)) ≤ 31))]) b_X11_stepTo_109_109 rfl (fun hd => ?_)
    refine R2.if_eq 121 hd (by decide) (fun c109 => ?_) (fun c109 => ?_)
    · have nc109 : ¬ (0 ≤ ((s / 32) + (-1)) ∧ ((s / 32) + (-1)) ≤ 31) := b2i_zero.mp c109
      refine R2.B (ls2 := [some (.int s), some (.int 0), some (.int ((s - s / 32 * 32) + 0)), some (.int ((s / 32) + (-1)))]) (st2 := [.int (-1)]) b_X11_stepTo_121_122 rfl (fun hd => ?_)
      exact R2.ret3 (r := some (.int (-1))) hd trivial rfl (congrArg (fun z => some (Value.int z)) (nbr_o2 (d := 0) rfl nc109)) rfl
    · have nc109 : 0 ≤ ((s / 32) + (-1)) ∧ ((s / 32) + (-1)) ≤ 31 := b2i_nz.mp c109
      refine R2.B (ls2 := [some (.int s), some (.int 0), some (.int ((s - s / 32 * 32) + 0)), some (.int ((s / 32) + (-1)))]) (st2 := [.int ((32 * ((s / 32) + (-1))) + ((s - s / 32 * 32) + 0))]) b_X11_stepTo_112_122 rfl (fun hd => ?_)
      exact R2.ret3 (r := some (.int ((32 * ((s / 32) + (-1))) + ((s - s / 32 * 32) + 0)))) hd trivial rfl (congrArg (fun z => some (Value.int z)) (nbr_in (d := 0) rfl rfl nc99 nc109)) rfl
theorem b_X11_stepTo_19_50 : bl2 mX11_stepTo 19 [(.iconst 1, 1, 0, 0, .int 1), (.goto 25, 3, 45, 0, .null), (.iadd, 1, 0, 0, .null), (.istore_n 2, 1, 2, 0, .null), (.iload_n 0, 1, 0, 0, .null), (.bipush 32, 2, 0, 0, .int 32)] 50 (.idiv) 1 = true := by decide +kernel
theorem b_X11_stepTo_61_63 : bl2 mX11_stepTo 61 [(.iload_n 1, 1, 1, 0, .null), (.iconst 1, 1, 0, 0, .int 1)] 63 (.if_icmp .ne 7) 3 = true := by decide +kernel
set_option maxRecDepth 20000 in
set_option maxHeartbeats 1000000 in
theorem me_stepTo1 (E : EE) (L : Nat) (F : FF) (s : Int32) : Ev3 E L 2 mX11_stepTo [.int s, .int 1] F (some (.int (nbr s 1))) F := by
  refine Ev3.of okX11_stepTo.2.1 (Nat.le_of_ble_eq_true rfl) ?_
  show R2 E L mX11_stepTo 2 0 [some (.int s), some (.int 1), none, none] [] F _
  refine R2.B (ls2 := [some (.int s), some (.int 1), none, none]) (st2 := [.int 32, .int s]) b_X11_stepTo_0_3 rfl (fun hd => ?_)
  refine R2.irem hd (by decide) ?_
  refine R2.B (ls2 := [some (.int s), some (.int 1), none, none]) (st2 := [.int 1, .int 1, .int (s - s / 32 * 32)]) b_X11_stepTo_4_6 rfl (fun hd => ?_)
  refine R2.icmp_eq 19 hd (by decide) (fun c6 => ?_) (fun c6 => absurd (by decide) c6)
  refine R2.B (ls2 := [some (.int s), some (.int 1), some (.int ((s - s / 32 * 32) + 1)), none]) (st2 := [.int 32, .int s]) b_X11_stepTo_19_50 rfl (fun hd => ?_)
  refine R2.idiv hd (by decide) ?_
  refine R2.B (ls2 := [some (.int s), some (.int 1), some (.int ((s - s / 32 * 32) + 1)), none]) (st2 := [.int 7, .int 1, .int (s / 32)]) b_X11_stepTo_51_54 rfl (fun hd => ?_)
  refine R2.icmp_eq 66 hd (by decide) (fun c54 => absurd c54 (by decide)) (fun c54 => ?_)
  refine R2.B (ls2 := [some (.int s), some (.int 1), some (.int ((s - s / 32 * 32) + 1)), none]) (st2 := [.int 1, .int (s / 32)]) b_X11_stepTo_57_58 rfl (fun hd => ?_)
  refine R2.if_eq 66 hd (by decide) (fun c58 => absurd c58 (by decide)) (fun c58 => ?_)
  refine R2.B (ls2 := [some (.int s), some (.int 1), some (.int ((s - s / 32 * 32) + 1)), none]) (st2 := [.int 1, .int 1, .int (s / 32)]) b_X11_stepTo_61_63 rfl (fun hd => ?_)
  refine R2.icmp_ne 70 hd (by decide) (fun c63 => absurd (by decide) c63) (fun c63 => ?_)
  refine R2.B (ls2 := [some (.int s), some (.int 1), some (.int ((s - s / 32 * 32) + 1)), some (.int ((s / 32) + (-1)))]) (st2 := [.int 31, .int 0, .int ((s - s / 32 * 32) + 1)]) b_X11_stepTo_66_96 rfl (fun hd => ?_)
  refine R2.callS3 (M2 := mX11_in) (As := [.int ((s - s / 32 * 32) + 1), .int 0, .int 31]) (rest := []) hd lk_11_86 okX11_in (by decide) (ev_in E L F ((s - s / 32 * 32) + 1) 0 31) (by decide) rfl rfl (Nat.le_of_ble_eq_true rfl) ?_
  refine R2.B (ls2 := [some (.int s), some (.int 1), some (.int ((s - s / 32 * 32) + 1)), some (.int ((s / 32) + (-1)))]) (st2 := [.int (b2i (0 ≤ ((s - s / 32 * 32) + 1) ∧ ((s - s / 32 * 32) + 1) ≤ 31))]) b_X11_stepTo_99_99 rfl (fun hd => ?_)
  refine R2.if_eq 121 hd (by decide) (fun c99 => ?_) (fun c99 => ?_)
  · have nc99 : ¬ (0 ≤ ((s - s / 32 * 32) + 1) ∧ ((s - s / 32 * 32) + 1) ≤ 31) := b2i_zero.mp c99
    refine R2.B (ls2 := [some (.int s), some (.int 1), some (.int ((s - s / 32 * 32) + 1)), some (.int ((s / 32) + (-1)))]) (st2 := [.int (-1)]) b_X11_stepTo_121_122 rfl (fun hd => ?_)
    exact R2.ret3 (r := some (.int (-1))) hd trivial rfl (congrArg (fun z => some (Value.int z)) (nbr_o1 (d := 1) rfl nc99)) rfl
  · have nc99 : 0 ≤ ((s - s / 32 * 32) + 1) ∧ ((s - s / 32 * 32) + 1) ≤ 31 := b2i_nz.mp c99
    refine R2.B (ls2 := [some (.int s), some (.int 1), some (.int ((s - s / 32 * 32) + 1)), some (.int ((s / 32) + (-1)))]) (st2 := [.int 31, .int 0, .int ((s / 32) + (-1))]) b_X11_stepTo_102_106 rfl (fun hd => ?_)
    refine R2.callS3 (M2 := mX11_in) (As := [.int ((s / 32) + (-1)), .int 0, .int 31]) (rest := []) hd lk_11_86 okX11_in (by decide) (ev_in E L F ((s / 32) + (-1)) 0 31) (by decide) rfl rfl (Nat.le_of_ble_eq_true rfl) ?_
    refine R2.B (ls2 := [some (.int s), some (.int 1), some (.int ((s - s / 32 * 32) + 1)), some (.int ((s / 32) + (-1)))]) (st2 := [.int (b2i (0 ≤ ((s / 32) + (-1)) ∧ ((s / 32) + (-1)) ≤ 31))]) b_X11_stepTo_109_109 rfl (fun hd => ?_)
    refine R2.if_eq 121 hd (by decide) (fun c109 => ?_) (fun c109 => ?_)
    · have nc109 : ¬ (0 ≤ ((s / 32) + (-1)) ∧ ((s / 32) + (-1)) ≤ 31) := b2i_zero.mp c109
      refine R2.B (ls2 := [some (.int s), some (.int 1), some (.int ((s - s / 32 * 32) + 1)), some (.int ((s / 32) + (-1)))]) (st2 := [.int (-1)]) b_X11_stepTo_121_122 rfl (fun hd => ?_)
      exact R2.ret3 (r := some (.int (-1))) hd trivial rfl (congrArg (fun z => some (Value.int z)) (nbr_o2 (d := 1) rfl nc109)) rfl
    · have nc109 : 0 ≤ ((s / 32) + (-1)) ∧ ((s / 32) + (-1)) ≤ 31 := b2i_nz.mp c109
      refine R2.B (ls2 := [some (.int s), some (.int 1), some (.int ((s - s / 32 * 32) + 1)), some (.int ((s / 32) + (-1)))]) (st2 := [.int ((32 * ((s / 32) + (-1))) + ((s - s / 32 * 32) + 1))]) b_X11_stepTo_112_122 rfl (fun hd => ?_)
      exact R2.ret3 (r := some (.int ((32 * ((s / 32) + (-1))) + ((s - s / 32 * 32) + 1)))) hd trivial rfl (congrArg (fun z => some (Value.int z)) (nbr_in (d := 1) rfl rfl nc99 nc109)) rfl
theorem b_X11_stepTo_70_72 : bl2 mX11_stepTo 70 [(.iload_n 1, 1, 1, 0, .null), (.iconst 3, 1, 0, 0, .int 3)] 72 (.if_icmp .eq 13) 3 = true := by decide +kernel
theorem b_X11_stepTo_75_77 : bl2 mX11_stepTo 75 [(.iload_n 1, 1, 1, 0, .null), (.iconst 4, 1, 0, 0, .int 4)] 77 (.if_icmp .eq 8) 3 = true := by decide +kernel
theorem b_X11_stepTo_80_82 : bl2 mX11_stepTo 80 [(.iload_n 1, 1, 1, 0, .null), (.iconst 5, 1, 0, 0, .int 5)] 82 (.if_icmp .ne 7) 3 = true := by decide +kernel
theorem b_X11_stepTo_89_96 : bl2 mX11_stepTo 89 [(.iconst 0, 1, 0, 0, .int 0), (.iadd, 1, 0, 0, .null), (.istore_n 3, 1, 3, 0, .null), (.iload_n 2, 1, 2, 0, .null), (.iconst 0, 1, 0, 0, .int 0), (.bipush 31, 2, 0, 0, .int 31)] 96 (.invokestatic 86) 3 = true := by decide +kernel
set_option maxRecDepth 20000 in
set_option maxHeartbeats 1000000 in
theorem me_stepTo2 (E : EE) (L : Nat) (F : FF) (s : Int32) : Ev3 E L 2 mX11_stepTo [.int s, .int 2] F (some (.int (nbr s 2))) F := by
  refine Ev3.of okX11_stepTo.2.1 (Nat.le_of_ble_eq_true rfl) ?_
  show R2 E L mX11_stepTo 2 0 [some (.int s), some (.int 2), none, none] [] F _
  refine R2.B (ls2 := [some (.int s), some (.int 2), none, none]) (st2 := [.int 32, .int s]) b_X11_stepTo_0_3 rfl (fun hd => ?_)
  refine R2.irem hd (by decide) ?_
  refine R2.B (ls2 := [some (.int s), some (.int 2), none, none]) (st2 := [.int 1, .int 2, .int (s - s / 32 * 32)]) b_X11_stepTo_4_6 rfl (fun hd => ?_)
  refine R2.icmp_eq 19 hd (by decide) (fun c6 => absurd c6 (by decide)) (fun c6 => ?_)
  refine R2.B (ls2 := [some (.int s), some (.int 2), none, none]) (st2 := [.int 2, .int 2, .int (s - s / 32 * 32)]) b_X11_stepTo_9_11 rfl (fun hd => ?_)
  refine R2.icmp_eq 19 hd (by decide) (fun c11 => ?_) (fun c11 => absurd (by decide) c11)
  refine R2.B (ls2 := [some (.int s), some (.int 2), some (.int ((s - s / 32 * 32) + 1)), none]) (st2 := [.int 32, .int s]) b_X11_stepTo_19_50 rfl (fun hd => ?_)
  refine R2.idiv hd (by decide) ?_
  refine R2.B (ls2 := [some (.int s), some (.int 2), some (.int ((s - s / 32 * 32) + 1)), none]) (st2 := [.int 7, .int 2, .int (s / 32)]) b_X11_stepTo_51_54 rfl (fun hd => ?_)
  refine R2.icmp_eq 66 hd (by decide) (fun c54 => absurd c54 (by decide)) (fun c54 => ?_)
  refine R2.B (ls2 := [some (.int s), some (.int 2), some (.int ((s - s / 32 * 32) + 1)), none]) (st2 := [.int 2, .int (s / 32)]) b_X11_stepTo_57_58 rfl (fun hd => ?_)
  refine R2.if_eq 66 hd (by decide) (fun c58 => absurd c58 (by decide)) (fun c58 => ?_)
  refine R2.B (ls2 := [some (.int s), some (.int 2), some (.int ((s - s / 32 * 32) + 1)), none]) (st2 := [.int 1, .int 2, .int (s / 32)]) b_X11_stepTo_61_63 rfl (fun hd => ?_)
  refine R2.icmp_ne 70 hd (by decide) (fun c63 => ?_) (fun c63 => absurd c63 (by decide))
  refine R2.B (ls2 := [some (.int s), some (.int 2), some (.int ((s - s / 32 * 32) + 1)), none]) (st2 := [.int 3, .int 2, .int (s / 32)]) b_X11_stepTo_70_72 rfl (fun hd => ?_)
  refine R2.icmp_eq 85 hd (by decide) (fun c72 => absurd c72 (by decide)) (fun c72 => ?_)
  refine R2.B (ls2 := [some (.int s), some (.int 2), some (.int ((s - s / 32 * 32) + 1)), none]) (st2 := [.int 4, .int 2, .int (s / 32)]) b_X11_stepTo_75_77 rfl (fun hd => ?_)
  refine R2.icmp_eq 85 hd (by decide) (fun c77 => absurd c77 (by decide)) (fun c77 => ?_)
  refine R2.B (ls2 := [some (.int s), some (.int 2), some (.int ((s - s / 32 * 32) + 1)), none]) (st2 := [.int 5, .int 2, .int (s / 32)]) b_X11_stepTo_80_82 rfl (fun hd => ?_)
  refine R2.icmp_ne 89 hd (by decide) (fun c82 => ?_) (fun c82 => absurd c82 (by decide))
  refine R2.B (ls2 := [some (.int s), some (.int 2), some (.int ((s - s / 32 * 32) + 1)), some (.int ((s / 32) + 0))]) (st2 := [.int 31, .int 0, .int ((s - s / 32 * 32) + 1)]) b_X11_stepTo_89_96 rfl (fun hd => ?_)
  refine R2.callS3 (M2 := mX11_in) (As := [.int ((s - s / 32 * 32) + 1), .int 0, .int 31]) (rest := []) hd lk_11_86 okX11_in (by decide) (ev_in E L F ((s - s / 32 * 32) + 1) 0 31) (by decide) rfl rfl (Nat.le_of_ble_eq_true rfl) ?_
  refine R2.B (ls2 := [some (.int s), some (.int 2), some (.int ((s - s / 32 * 32) + 1)), some (.int ((s / 32) + 0))]) (st2 := [.int (b2i (0 ≤ ((s - s / 32 * 32) + 1) ∧ ((s - s / 32 * 32) + 1) ≤ 31))]) b_X11_stepTo_99_99 rfl (fun hd => ?_)
  refine R2.if_eq 121 hd (by decide) (fun c99 => ?_) (fun c99 => ?_)
  · have nc99 : ¬ (0 ≤ ((s - s / 32 * 32) + 1) ∧ ((s - s / 32 * 32) + 1) ≤ 31) := b2i_zero.mp c99
    refine R2.B (ls2 := [some (.int s), some (.int 2), some (.int ((s - s / 32 * 32) + 1)), some (.int ((s / 32) + 0))]) (st2 := [.int (-1)]) b_X11_stepTo_121_122 rfl (fun hd => ?_)
    exact R2.ret3 (r := some (.int (-1))) hd trivial rfl (congrArg (fun z => some (Value.int z)) (nbr_o1 (d := 2) rfl nc99)) rfl
  · have nc99 : 0 ≤ ((s - s / 32 * 32) + 1) ∧ ((s - s / 32 * 32) + 1) ≤ 31 := b2i_nz.mp c99
    refine R2.B (ls2 := [some (.int s), some (.int 2), some (.int ((s - s / 32 * 32) + 1)), some (.int ((s / 32) + 0))]) (st2 := [.int 31, .int 0, .int ((s / 32) + 0)]) b_X11_stepTo_102_106 rfl (fun hd => ?_)
    refine R2.callS3 (M2 := mX11_in) (As := [.int ((s / 32) + 0), .int 0, .int 31]) (rest := []) hd lk_11_86 okX11_in (by decide) (ev_in E L F ((s / 32) + 0) 0 31) (by decide) rfl rfl (Nat.le_of_ble_eq_true rfl) ?_
    refine R2.B (ls2 := [some (.int s), some (.int 2), some (.int ((s - s / 32 * 32) + 1)), some (.int ((s / 32) + 0))]) (st2 := [.int (b2i (0 ≤ ((s / 32) + 0) ∧ ((s / 32) + 0) ≤ 31))]) b_X11_stepTo_109_109 rfl (fun hd => ?_)
    refine R2.if_eq 121 hd (by decide) (fun c109 => ?_) (fun c109 => ?_)
    · have nc109 : ¬ (0 ≤ ((s / 32) + 0) ∧ ((s / 32) + 0) ≤ 31) := b2i_zero.mp c109
      refine R2.B (ls2 := [some (.int s), some (.int 2), some (.int ((s - s / 32 * 32) + 1)), some (.int ((s / 32) + 0))]) (st2 := [.int (-1)]) b_X11_stepTo_121_122 rfl (fun hd => ?_)
      exact R2.ret3 (r := some (.int (-1))) hd trivial rfl (congrArg (fun z => some (Value.int z)) (nbr_o2 (d := 2) rfl nc109)) rfl
    · have nc109 : 0 ≤ ((s / 32) + 0) ∧ ((s / 32) + 0) ≤ 31 := b2i_nz.mp c109
      refine R2.B (ls2 := [some (.int s), some (.int 2), some (.int ((s - s / 32 * 32) + 1)), some (.int ((s / 32) + 0))]) (st2 := [.int ((32 * ((s / 32) + 0)) + ((s - s / 32 * 32) + 1))]) b_X11_stepTo_112_122 rfl (fun hd => ?_)
      exact R2.ret3 (r := some (.int ((32 * ((s / 32) + 0)) + ((s - s / 32 * 32) + 1)))) hd trivial rfl (congrArg (fun z => some (Value.int z)) (nbr_in (d := 2) rfl rfl nc99 nc109)) rfl
theorem b_X11_stepTo_85_96 : bl2 mX11_stepTo 85 [(.iconst 1, 1, 0, 0, .int 1), (.goto 4, 3, 90, 0, .null), (.iadd, 1, 0, 0, .null), (.istore_n 3, 1, 3, 0, .null), (.iload_n 2, 1, 2, 0, .null), (.iconst 0, 1, 0, 0, .int 0), (.bipush 31, 2, 0, 0, .int 31)] 96 (.invokestatic 86) 3 = true := by decide +kernel
set_option maxRecDepth 20000 in
set_option maxHeartbeats 1000000 in
theorem me_stepTo3 (E : EE) (L : Nat) (F : FF) (s : Int32) : Ev3 E L 2 mX11_stepTo [.int s, .int 3] F (some (.int (nbr s 3))) F := by
  refine Ev3.of okX11_stepTo.2.1 (Nat.le_of_ble_eq_true rfl) ?_
  show R2 E L mX11_stepTo 2 0 [some (.int s), some (.int 3), none, none] [] F _
  refine R2.B (ls2 := [some (.int s), some (.int 3), none, none]) (st2 := [.int 32, .int s]) b_X11_stepTo_0_3 rfl (fun hd => ?_)
  refine R2.irem hd (by decide) ?_
  refine R2.B (ls2 := [some (.int s), some (.int 3), none, none]) (st2 := [.int 1, .int 3, .int (s - s / 32 * 32)]) b_X11_stepTo_4_6 rfl (fun hd => ?_)
  refine R2.icmp_eq 19 hd (by decide) (fun c6 => absurd c6 (by decide)) (fun c6 => ?_)
  refine R2.B (ls2 := [some (.int s), some (.int 3), none, none]) (st2 := [.int 2, .int 3, .int (s - s / 32 * 32)]) b_X11_stepTo_9_11 rfl (fun hd => ?_)
  refine R2.icmp_eq 19 hd (by decide) (fun c11 => absurd c11 (by decide)) (fun c11 => ?_)
  refine R2.B (ls2 := [some (.int s), some (.int 3), none, none]) (st2 := [.int 3, .int 3, .int (s - s / 32 * 32)]) b_X11_stepTo_14_16 rfl (fun hd => ?_)
  refine R2.icmp_ne 23 hd (by decide) (fun c16 => absurd (by decide) c16) (fun c16 => ?_)
  refine R2.B (ls2 := [some (.int s), some (.int 3), some (.int ((s - s / 32 * 32) + 1)), none]) (st2 := [.int 32, .int s]) b_X11_stepTo_19_50 rfl (fun hd => ?_)
  refine R2.idiv hd (by decide) ?_
  refine R2.B (ls2 := [some (.int s), some (.int 3), some (.int ((s - s / 32 * 32) + 1)), none]) (st2 := [.int 7, .int 3, .int (s / 32)]) b_X11_stepTo_51_54 rfl (fun hd => ?_)
  refine R2.icmp_eq 66 hd (by decide) (fun c54 => absurd c54 (by decide)) (fun c54 => ?_)
  refine R2.B (ls2 := [some (.int s), some (.int 3), some (.int ((s - s / 32 * 32) + 1)), none]) (st2 := [.int 3, .int (s / 32)]) b_X11_stepTo_57_58 rfl (fun hd => ?_)
  refine R2.if_eq 66 hd (by decide) (fun c58 => absurd c58 (by decide)) (fun c58 => ?_)
  refine R2.B (ls2 := [some (.int s), some (.int 3), some (.int ((s - s / 32 * 32) + 1)), none]) (st2 := [.int 1, .int 3, .int (s / 32)]) b_X11_stepTo_61_63 rfl (fun hd => ?_)
  refine R2.icmp_ne 70 hd (by decide) (fun c63 => ?_) (fun c63 => absurd c63 (by decide))
  refine R2.B (ls2 := [some (.int s), some (.int 3), some (.int ((s - s / 32 * 32) + 1)), none]) (st2 := [.int 3, .int 3, .int (s / 32)]) b_X11_stepTo_70_72 rfl (fun hd => ?_)
  refine R2.icmp_eq 85 hd (by decide) (fun c72 => ?_) (fun c72 => absurd (by decide) c72)
  refine R2.B (ls2 := [some (.int s), some (.int 3), some (.int ((s - s / 32 * 32) + 1)), some (.int ((s / 32) + 1))]) (st2 := [.int 31, .int 0, .int ((s - s / 32 * 32) + 1)]) b_X11_stepTo_85_96 rfl (fun hd => ?_)
  refine R2.callS3 (M2 := mX11_in) (As := [.int ((s - s / 32 * 32) + 1), .int 0, .int 31]) (rest := []) hd lk_11_86 okX11_in (by decide) (ev_in E L F ((s - s / 32 * 32) + 1) 0 31) (by decide) rfl rfl (Nat.le_of_ble_eq_true rfl) ?_
  refine R2.B (ls2 := [some (.int s), some (.int 3), some (.int ((s - s / 32 * 32) + 1)), some (.int ((s / 32) + 1))]) (st2 := [.int (b2i (0 ≤ ((s - s / 32 * 32) + 1) ∧ ((s - s / 32 * 32) + 1) ≤ 31))]) b_X11_stepTo_99_99 rfl (fun hd => ?_)
  refine R2.if_eq 121 hd (by decide) (fun c99 => ?_) (fun c99 => ?_)
  · have nc99 : ¬ (0 ≤ ((s - s / 32 * 32) + 1) ∧ ((s - s / 32 * 32) + 1) ≤ 31) := b2i_zero.mp c99
    refine R2.B (ls2 := [some (.int s), some (.int 3), some (.int ((s - s / 32 * 32) + 1)), some (.int ((s / 32) + 1))]) (st2 := [.int (-1)]) b_X11_stepTo_121_122 rfl (fun hd => ?_)
    exact R2.ret3 (r := some (.int (-1))) hd trivial rfl (congrArg (fun z => some (Value.int z)) (nbr_o1 (d := 3) rfl nc99)) rfl
  · have nc99 : 0 ≤ ((s - s / 32 * 32) + 1) ∧ ((s - s / 32 * 32) + 1) ≤ 31 := b2i_nz.mp c99
    refine R2.B (ls2 := [some (.int s), some (.int 3), some (.int ((s - s / 32 * 32) + 1)), some (.int ((s / 32) + 1))]) (st2 := [.int 31, .int 0, .int ((s / 32) + 1)]) b_X11_stepTo_102_106 rfl (fun hd => ?_)
    refine R2.callS3 (M2 := mX11_in) (As := [.int ((s / 32) + 1), .int 0, .int 31]) (rest := []) hd lk_11_86 okX11_in (by decide) (ev_in E L F ((s / 32) + 1) 0 31) (by decide) rfl rfl (Nat.le_of_ble_eq_true rfl) ?_
    refine R2.B (ls2 := [some (.int s), some (.int 3), some (.int ((s - s / 32 * 32) + 1)), some (.int ((s / 32) + 1))]) (st2 := [.int (b2i (0 ≤ ((s / 32) + 1) ∧ ((s / 32) + 1) ≤ 31))]) b_X11_stepTo_109_109 rfl (fun hd => ?_)
    refine R2.if_eq 121 hd (by decide) (fun c109 => ?_) (fun c109 => ?_)
    · have nc109 : ¬ (0 ≤ ((s / 32) + 1) ∧ ((s / 32) + 1) ≤ 31) := b2i_zero.mp c109
      refine R2.B (ls2 := [some (.int s), some (.int 3), some (.int ((s - s / 32 * 32) + 1)), some (.int ((s / 32) + 1))]) (st2 := [.int (-1)]) b_X11_stepTo_121_122 rfl (fun hd => ?_)
      exact R2.ret3 (r := some (.int (-1))) hd trivial rfl (congrArg (fun z => some (Value.int z)) (nbr_o2 (d := 3) rfl nc109)) rfl
    · have nc109 : 0 ≤ ((s / 32) + 1) ∧ ((s / 32) + 1) ≤ 31 := b2i_nz.mp c109
      refine R2.B (ls2 := [some (.int s), some (.int 3), some (.int ((s - s / 32 * 32) + 1)), some (.int ((s / 32) + 1))]) (st2 := [.int ((32 * ((s / 32) + 1)) + ((s - s / 32 * 32) + 1))]) b_X11_stepTo_112_122 rfl (fun hd => ?_)
      exact R2.ret3 (r := some (.int ((32 * ((s / 32) + 1)) + ((s - s / 32 * 32) + 1)))) hd trivial rfl (congrArg (fun z => some (Value.int z)) (nbr_in (d := 3) rfl rfl nc99 nc109)) rfl
set_option maxRecDepth 20000 in
set_option maxHeartbeats 1000000 in
theorem me_stepTo4 (E : EE) (L : Nat) (F : FF) (s : Int32) : Ev3 E L 2 mX11_stepTo [.int s, .int 4] F (some (.int (nbr s 4))) F := by
  refine Ev3.of okX11_stepTo.2.1 (Nat.le_of_ble_eq_true rfl) ?_
  show R2 E L mX11_stepTo 2 0 [some (.int s), some (.int 4), none, none] [] F _
  refine R2.B (ls2 := [some (.int s), some (.int 4), none, none]) (st2 := [.int 32, .int s]) b_X11_stepTo_0_3 rfl (fun hd => ?_)
  refine R2.irem hd (by decide) ?_
  refine R2.B (ls2 := [some (.int s), some (.int 4), none, none]) (st2 := [.int 1, .int 4, .int (s - s / 32 * 32)]) b_X11_stepTo_4_6 rfl (fun hd => ?_)
  refine R2.icmp_eq 19 hd (by decide) (fun c6 => absurd c6 (by decide)) (fun c6 => ?_)
  refine R2.B (ls2 := [some (.int s), some (.int 4), none, none]) (st2 := [.int 2, .int 4, .int (s - s / 32 * 32)]) b_X11_stepTo_9_11 rfl (fun hd => ?_)
  refine R2.icmp_eq 19 hd (by decide) (fun c11 => absurd c11 (by decide)) (fun c11 => ?_)
  refine R2.B (ls2 := [some (.int s), some (.int 4), none, none]) (st2 := [.int 3, .int 4, .int (s - s / 32 * 32)]) b_X11_stepTo_14_16 rfl (fun hd => ?_)
  refine R2.icmp_ne 23 hd (by decide) (fun c16 => ?_) (fun c16 => absurd c16 (by decide))
  refine R2.B (ls2 := [some (.int s), some (.int 4), none, none]) (st2 := [.int 5, .int 4, .int (s - s / 32 * 32)]) b_X11_stepTo_23_25 rfl (fun hd => ?_)
  refine R2.icmp_eq 40 hd (by decide) (fun c25 => absurd c25 (by decide)) (fun c25 => ?_)
  refine R2.B (ls2 := [some (.int s), some (.int 4), none, none]) (st2 := [.int 6, .int 4, .int (s - s / 32 * 32)]) b_X11_stepTo_28_31 rfl (fun hd => ?_)
  refine R2.icmp_eq 40 hd (by decide) (fun c31 => absurd c31 (by decide)) (fun c31 => ?_)
  refine R2.B (ls2 := [some (.int s), some (.int 4), none, none]) (st2 := [.int 7, .int 4, .int (s - s / 32 * 32)]) b_X11_stepTo_34_37 rfl (fun hd => ?_)
  refine R2.icmp_ne 44 hd (by decide) (fun c37 => ?_) (fun c37 => absurd c37 (by decide))
  refine R2.B (ls2 := [some (.int s), some (.int 4), some (.int ((s - s / 32 * 32) + 0)), none]) (st2 := [.int 32, .int s]) b_X11_stepTo_44_50 rfl (fun hd => ?_)
  refine R2.idiv hd (by decide) ?_
  refine R2.B (ls2 := [some (.int s), some (.int 4), some (.int ((s - s / 32 * 32) + 0)), none]) (st2 := [.int 7, .int 4, .int (s / 32)]) b_X11_stepTo_51_54 rfl (fun hd => ?_)
  refine R2.icmp_eq 66 hd (by decide) (fun c54 => absurd c54 (by decide)) (fun c54 => ?_)
  refine R2.B (ls2 := [some (.int s), some (.int 4), some (.int ((s - s / 32 * 32) + 0)), none]) (st2 := [.int 4, .int (s / 32)]) b_X11_stepTo_57_58 rfl (fun hd => ?_)
  refine R2.if_eq 66 hd (by decide) (fun c58 => absurd c58 (by decide)) (fun c58 => ?_)
  refine R2.B (ls2 := [some (.int s), some (.int 4), some (.int ((s - s / 32 * 32) + 0)), none]) (st2 := [.int 1, .int 4, .int (s / 32)]) b_X11_stepTo_61_63 rfl (fun hd => ?_)
  refine R2.icmp_ne 70 hd (by decide) (fun c63 => ?_) (fun c63 => absurd c63 (by decide))
  refine R2.B (ls2 := [some (.int s), some (.int 4), some (.int ((s - s / 32 * 32) + 0)), none]) (st2 := [.int 3, .int 4, .int (s / 32)]) b_X11_stepTo_70_72 rfl (fun hd => ?_)
  refine R2.icmp_eq 85 hd (by decide) (fun c72 => absurd c72 (by decide)) (fun c72 => ?_)
  refine R2.B (ls2 := [some (.int s), some (.int 4), some (.int ((s - s / 32 * 32) + 0)), none]) (st2 := [.int 4, .int 4, .int (s / 32)]) b_X11_stepTo_75_77 rfl (fun hd => ?_)
  refine R2.icmp_eq 85 hd (by decide) (fun c77 => ?_) (fun c77 => absurd (by decide) c77)
  refine R2.B (ls2 := [some (.int s), some (.int 4), some (.int ((s - s / 32 * 32) + 0)), some (.int ((s / 32) + 1))]) (st2 := [.int 31, .int 0, .int ((s - s / 32 * 32) + 0)]) b_X11_stepTo_85_96 rfl (fun hd => ?_)
  refine R2.callS3 (M2 := mX11_in) (As := [.int ((s - s / 32 * 32) + 0), .int 0, .int 31]) (rest := []) hd lk_11_86 okX11_in (by decide) (ev_in E L F ((s - s / 32 * 32) + 0) 0 31) (by decide) rfl rfl (Nat.le_of_ble_eq_true rfl) ?_
  refine R2.B (ls2 := [some (.int s), some (.int 4), some (.int ((s - s / 32 * 32) + 0)), some (.int ((s / 32) + 1))]) (st2 := [.int (b2i (0 ≤ ((s - s / 32 * 32) + 0) ∧ ((s - s / 32 * 32) + 0) ≤ 31))]) b_X11_stepTo_99_99 rfl (fun hd => ?_)
  refine R2.if_eq 121 hd (by decide) (fun c99 => ?_) (fun c99 => ?_)
  · have nc99 : ¬ (0 ≤ ((s - s / 32 * 32) + 0) ∧ ((s - s / 32 * 32) + 0) ≤ 31) := b2i_zero.mp c99
    refine R2.B (ls2 := [some (.int s), some (.int 4), some (.int ((s - s / 32 * 32) + 0)), some (.int ((s / 32) + 1))]) (st2 := [.int (-1)]) b_X11_stepTo_121_122 rfl (fun hd => ?_)
    exact R2.ret3 (r := some (.int (-1))) hd trivial rfl (congrArg (fun z => some (Value.int z)) (nbr_o1 (d := 4) rfl nc99)) rfl
  · have nc99 : 0 ≤ ((s - s / 32 * 32) + 0) ∧ ((s - s / 32 * 32) + 0) ≤ 31 := b2i_nz.mp c99
    refine R2.B (ls2 := [some (.int s), some (.int 4), some (.int ((s - s / 32 * 32) + 0)), some (.int ((s / 32) + 1))]) (st2 := [.int 31, .int 0, .int ((s / 32) + 1)]) b_X11_stepTo_102_106 rfl (fun hd => ?_)
    refine R2.callS3 (M2 := mX11_in) (As := [.int ((s / 32) + 1), .int 0, .int 31]) (rest := []) hd lk_11_86 okX11_in (by decide) (ev_in E L F ((s / 32) + 1) 0 31) (by decide) rfl rfl (Nat.le_of_ble_eq_true rfl) ?_
    refine R2.B (ls2 := [some (.int s), some (.int 4), some (.int ((s - s / 32 * 32) + 0)), some (.int ((s / 32) + 1))]) (st2 := [.int (b2i (0 ≤ ((s / 32) + 1) ∧ ((s / 32) + 1) ≤ 31))]) b_X11_stepTo_109_109 rfl (fun hd => ?_)
    refine R2.if_eq 121 hd (by decide) (fun c109 => ?_) (fun c109 => ?_)
    · have nc109 : ¬ (0 ≤ ((s / 32) + 1) ∧ ((s / 32) + 1) ≤ 31) := b2i_zero.mp c109
      refine R2.B (ls2 := [some (.int s), some (.int 4), some (.int ((s - s / 32 * 32) + 0)), some (.int ((s / 32) + 1))]) (st2 := [.int (-1)]) b_X11_stepTo_121_122 rfl (fun hd => ?_)
      exact R2.ret3 (r := some (.int (-1))) hd trivial rfl (congrArg (fun z => some (Value.int z)) (nbr_o2 (d := 4) rfl nc109)) rfl
    · have nc109 : 0 ≤ ((s / 32) + 1) ∧ ((s / 32) + 1) ≤ 31 := b2i_nz.mp c109
      refine R2.B (ls2 := [some (.int s), some (.int 4), some (.int ((s - s / 32 * 32) + 0)), some (.int ((s / 32) + 1))]) (st2 := [.int ((32 * ((s / 32) + 1)) + ((s - s / 32 * 32) + 0))]) b_X11_stepTo_112_122 rfl (fun hd => ?_)
      exact R2.ret3 (r := some (.int ((32 * ((s / 32) + 1)) + ((s - s / 32 * 32) + 0)))) hd trivial rfl (congrArg (fun z => some (Value.int z)) (nbr_in (d := 4) rfl rfl nc99 nc109)) rfl
theorem b_X11_stepTo_40_50 : bl2 mX11_stepTo 40 [(.iconst (-1), 1, 0, 0, .int (-1)), (.goto 4, 3, 45, 0, .null), (.iadd, 1, 0, 0, .null), (.istore_n 2, 1, 2, 0, .null), (.iload_n 0, 1, 0, 0, .null), (.bipush 32, 2, 0, 0, .int 32)] 50 (.idiv) 1 = true := by decide +kernel
set_option maxRecDepth 20000 in
set_option maxHeartbeats 1000000 in
theorem me_stepTo5 (E : EE) (L : Nat) (F : FF) (s : Int32) : Ev3 E L 2 mX11_stepTo [.int s, .int 5] F (some (.int (nbr s 5))) F := by
  refine Ev3.of okX11_stepTo.2.1 (Nat.le_of_ble_eq_true rfl) ?_
  show R2 E L mX11_stepTo 2 0 [some (.int s), some (.int 5), none, none] [] F _
  refine R2.B (ls2 := [some (.int s), some (.int 5), none, none]) (st2 := [.int 32, .int s]) b_X11_stepTo_0_3 rfl (fun hd => ?_)
  refine R2.irem hd (by decide) ?_
  refine R2.B (ls2 := [some (.int s), some (.int 5), none, none]) (st2 := [.int 1, .int 5, .int (s - s / 32 * 32)]) b_X11_stepTo_4_6 rfl (fun hd => ?_)
  refine R2.icmp_eq 19 hd (by decide) (fun c6 => absurd c6 (by decide)) (fun c6 => ?_)
  refine R2.B (ls2 := [some (.int s), some (.int 5), none, none]) (st2 := [.int 2, .int 5, .int (s - s / 32 * 32)]) b_X11_stepTo_9_11 rfl (fun hd => ?_)
  refine R2.icmp_eq 19 hd (by decide) (fun c11 => absurd c11 (by decide)) (fun c11 => ?_)
  refine R2.B (ls2 := [some (.int s), some (.int 5), none, none]) (st2 := [.int 3, .int 5, .int (s - s / 32 * 32)]) b_X11_stepTo_14_16 rfl (fun hd => ?_)
  refine R2.icmp_ne 23 hd (by decide) (fun c16 => ?_) (fun c16 => absurd c16 (by decide))
  refine R2.B (ls2 := [some (.int s), some (.int 5), none, none]) (st2 := [.int 5, .int 5, .int (s - s / 32 * 32)]) b_X11_stepTo_23_25 rfl (fun hd => ?_)
  refine R2.icmp_eq 40 hd (by decide) (fun c25 => ?_) (fun c25 => absurd (by decide) c25)
  refine R2.B (ls2 := [some (.int s), some (.int 5), some (.int ((s - s / 32 * 32) + (-1))), none]) (st2 := [.int 32, .int s]) b_X11_stepTo_40_50 rfl (fun hd => ?_)
  refine R2.idiv hd (by decide) ?_
  refine R2.B (ls2 := [some (.int s), some (.int 5), some (.int ((s - s / 32 * 32) + (-1))), none]) (st2 := [.int 7, .int 5, .int (s / 32)]) b_X11_stepTo_51_54 rfl (fun hd => ?_)
  refine R2.icmp_eq 66 hd (by decide) (fun c54 => absurd c54 (by decide)) (fun c54 => ?_)
  refine R2.B (ls2 := [some (.int s), some (.int 5), some (.int ((s - s / 32 * 32) + (-1))), none]) (st2 := [.int 5, .int (s / 32)]) b_X11_stepTo_57_58 rfl (fun hd => ?_)
  refine R2.if_eq 66 hd (by decide) (fun c58 => absurd c58 (by decide)) (fun c58 => ?_)
  refine R2.B (ls2 := [some (.int s), some (.int 5), some (.int ((s - s / 32 * 32) + (-1))), none]) (st2 := [.int 1, .int 5, .int (s / 32)]) b_X11_stepTo_61_63 rfl (fun hd => ?_)
  refine R2.icmp_ne 70 hd (by decide) (fun c63 => ?_) (fun c63 => absurd c63 (by decide))
  refine R2.B (ls2 := [some (.int s), some (.int 5), some (.int ((s - s / 32 * 32) + (-1))), none]) (st2 := [.int 3, .int 5, .int (s / 32)]) b_X11_stepTo_70_72 rfl (fun hd => ?_)
  refine R2.icmp_eq 85 hd (by decide) (fun c72 => absurd c72 (by decide)) (fun c72 => ?_)
  refine R2.B (ls2 := [some (.int s), some (.int 5), some (.int ((s - s / 32 * 32) + (-1))), none]) (st2 := [.int 4, .int 5, .int (s / 32)]) b_X11_stepTo_75_77 rfl (fun hd => ?_)
  refine R2.icmp_eq 85 hd (by decide) (fun c77 => absurd c77 (by decide)) (fun c77 => ?_)
  refine R2.B (ls2 := [some (.int s), some (.int 5), some (.int ((s - s / 32 * 32) + (-1))), none]) (st2 := [.int 5, .int 5, .int (s / 32)]) b_X11_stepTo_80_82 rfl (fun hd => ?_)
  refine R2.icmp_ne 89 hd (by decide) (fun c82 => absurd (by decide) c82) (fun c82 => ?_)
  refine R2.B (ls2 := [some (.int s), some (.int 5), some (.int ((s - s / 32 * 32) + (-1))), some (.int ((s / 32) + 1))]) (st2 := [.int 31, .int 0, .int ((s - s / 32 * 32) + (-1))]) b_X11_stepTo_85_96 rfl (fun hd => ?_)
  refine R2.callS3 (M2 := mX11_in) (As := [.int ((s - s / 32 * 32) + (-1)), .int 0, .int 31]) (rest := []) hd lk_11_86 okX11_in (by decide) (ev_in E L F ((s - s / 32 * 32) + (-1)) 0 31) (by decide) rfl rfl (Nat.le_of_ble_eq_true rfl) ?_
  refine R2.B (ls2 := [some (.int s), some (.int 5), some (.int ((s - s / 32 * 32) + (-1))), some (.int ((s / 32) + 1))]) (st2 := [.int (b2i (0 ≤ ((s - s / 32 * 32) + (-1)) ∧ ((s - s / 32 * 32) + (-1)) ≤ 31))]) b_X11_stepTo_99_99 rfl (fun hd => ?_)
  refine R2.if_eq 121 hd (by decide) (fun c99 => ?_) (fun c99 => ?_)
  · have nc99 : ¬ (0 ≤ ((s - s / 32 * 32) + (-1)) ∧ ((s - s / 32 * 32) + (-1)) ≤ 31) := b2i_zero.mp c99
    refine R2.B (ls2 := [some (.int s), some (.int 5), some (.int ((s - s / 32 * 32) + (-1))), some (.int ((s / 32) + 1))]) (st2 := [.int (-1)]) b_X11_stepTo_121_122 rfl (fun hd => ?_)
    exact R2.ret3 (r := some (.int (-1))) hd trivial rfl (congrArg (fun z => some (Value.int z)) (nbr_o1 (d := 5) rfl nc99)) rfl
  · have nc99 : 0 ≤ ((s - s / 32 * 32) + (-1)) ∧ ((s - s / 32 * 32) + (-1)) ≤ 31 := b2i_nz.mp c99
    refine R2.B (ls2 := [some (.int s), some (.int 5), some (.int ((s - s / 32 * 32) + (-1))), some (.int ((s / 32) + 1))]) (st2 := [.int 31, .int 0, .int ((s / 32) + 1)]) b_X11_stepTo_102_106 rfl (fun hd => ?_)
    refine R2.callS3 (M2 := mX11_in) (As := [.int ((s / 32) + 1), .int 0, .int 31]) (rest := []) hd lk_11_86 okX11_in (by decide) (ev_in E L F ((s / 32) + 1) 0 31) (by decide) rfl rfl (Nat.le_of_ble_eq_true rfl) ?_
    refine R2.B (ls2 := [some (.int s), some (.int 5), some (.int ((s - s / 32 * 32) + (-1))), some (.int ((s / 32) + 1))]) (st2 := [.int (b2i (0 ≤ ((s / 32) + 1) ∧ ((s / 32) + 1) ≤ 31))]) b_X11_stepTo_109_109 rfl (fun hd => ?_)
    refine R2.if_eq 121 hd (by decide) (fun c109 => ?_) (fun c109 => ?_)
    · have nc109 : ¬ (0 ≤ ((s / 32) + 1) ∧ ((s / 32) + 1) ≤ 31) := b2i_zero.mp c109
      refine R2.B (ls2 := [some (.int s), some (.int 5), some (.int ((s - s / 32 * 32) + (-1))), some (.int ((s / 32) + 1))]) (st2 := [.int (-1)]) b_X11_stepTo_121_122 rfl (fun hd => ?_)
      exact R2.ret3 (r := some (.int (-1))) hd trivial rfl (congrArg (fun z => some (Value.int z)) (nbr_o2 (d := 5) rfl nc109)) rfl
    · have nc109 : 0 ≤ ((s / 32) + 1) ∧ ((s / 32) + 1) ≤ 31 := b2i_nz.mp c109
      refine R2.B (ls2 := [some (.int s), some (.int 5), some (.int ((s - s / 32 * 32) + (-1))), some (.int ((s / 32) + 1))]) (st2 := [.int ((32 * ((s / 32) + 1)) + ((s - s / 32 * 32) + (-1)))]) b_X11_stepTo_112_122 rfl (fun hd => ?_)
      exact R2.ret3 (r := some (.int ((32 * ((s / 32) + 1)) + ((s - s / 32 * 32) + (-1))))) hd trivial rfl (congrArg (fun z => some (Value.int z)) (nbr_in (d := 5) rfl rfl nc99 nc109)) rfl
set_option maxRecDepth 20000 in
set_option maxHeartbeats 1000000 in
theorem me_stepTo6 (E : EE) (L : Nat) (F : FF) (s : Int32) : Ev3 E L 2 mX11_stepTo [.int s, .int 6] F (some (.int (nbr s 6))) F := by
  refine Ev3.of okX11_stepTo.2.1 (Nat.le_of_ble_eq_true rfl) ?_
  show R2 E L mX11_stepTo 2 0 [some (.int s), some (.int 6), none, none] [] F _
  refine R2.B (ls2 := [some (.int s), some (.int 6), none, none]) (st2 := [.int 32, .int s]) b_X11_stepTo_0_3 rfl (fun hd => ?_)
  refine R2.irem hd (by decide) ?_
  refine R2.B (ls2 := [some (.int s), some (.int 6), none, none]) (st2 := [.int 1, .int 6, .int (s - s / 32 * 32)]) b_X11_stepTo_4_6 rfl (fun hd => ?_)
  refine R2.icmp_eq 19 hd (by decide) (fun c6 => absurd c6 (by decide)) (fun c6 => ?_)
  refine R2.B (ls2 := [some (.int s), some (.int 6), none, none]) (st2 := [.int 2, .int 6, .int (s - s / 32 * 32)]) b_X11_stepTo_9_11 rfl (fun hd => ?_)
  refine R2.icmp_eq 19 hd (by decide) (fun c11 => absurd c11 (by decide)) (fun c11 => ?_)
  refine R2.B (ls2 := [some (.int s), some (.int 6), none, none]) (st2 := [.int 3, .int 6, .int (s - s / 32 * 32)]) b_X11_stepTo_14_16 rfl (fun hd => ?_)
  refine R2.icmp_ne 23 hd (by decide) (fun c16 => ?_) (fun c16 => absurd c16 (by decide))
  refine R2.B (ls2 := [some (.int s), some (.int 6), none, none]) (st2 := [.int 5, .int 6, .int (s - s / 32 * 32)]) b_X11_stepTo_23_25 rfl (fun hd => ?_)
  refine R2.icmp_eq 40 hd (by decide) (fun c25 => absurd c25 (by decide)) (fun c25 => ?_)
  refine R2.B (ls2 := [some (.int s), some (.int 6), none, none]) (st2 := [.int 6, .int 6, .int (s - s / 32 * 32)]) b_X11_stepTo_28_31 rfl (fun hd => ?_)
  refine R2.icmp_eq 40 hd (by decide) (fun c31 => ?_) (fun c31 => absurd (by decide) c31)
  refine R2.B (ls2 := [some (.int s), some (.int 6), some (.int ((s - s / 32 * 32) + (-1))), none]) (st2 := [.int 32, .int s]) b_X11_stepTo_40_50 rfl (fun hd => ?_)
  refine R2.idiv hd (by decide) ?_
  refine R2.B (ls2 := [some (.int s), some (.int 6), some (.int ((s - s / 32 * 32) + (-1))), none]) (st2 := [.int 7, .int 6, .int (s / 32)]) b_X11_stepTo_51_54 rfl (fun hd => ?_)
  refine R2.icmp_eq 66 hd (by decide) (fun c54 => absurd c54 (by decide)) (fun c54 => ?_)
  refine R2.B (ls2 := [some (.int s), some (.int 6), some (.int ((s - s / 32 * 32) + (-1))), none]) (st2 := [.int 6, .int (s / 32)]) b_X11_stepTo_57_58 rfl (fun hd => ?_)
  refine R2.if_eq 66 hd (by decide) (fun c58 => absurd c58 (by decide)) (fun c58 => ?_)
  refine R2.B (ls2 := [some (.int s), some (.int 6), some (.int ((s - s / 32 * 32) + (-1))), none]) (st2 := [.int 1, .int 6, .int (s / 32)]) b_X11_stepTo_61_63 rfl (fun hd => ?_)
  refine R2.icmp_ne 70 hd (by decide) (fun c63 => ?_) (fun c63 => absurd c63 (by decide))
  refine R2.B (ls2 := [some (.int s), some (.int 6), some (.int ((s - s / 32 * 32) + (-1))), none]) (st2 := [.int 3, .int 6, .int (s / 32)]) b_X11_stepTo_70_72 rfl (fun hd => ?_)
  refine R2.icmp_eq 85 hd (by decide) (fun c72 => absurd c72 (by decide)) (fun c72 => ?_)
  refine R2.B (ls2 := [some (.int s), some (.int 6), some (.int ((s - s / 32 * 32) + (-1))), none]) (st2 := [.int 4, .int 6, .int (s / 32)]) b_X11_stepTo_75_77 rfl (fun hd => ?_)
  refine R2.icmp_eq 85 hd (by decide) (fun c77 => absurd c77 (by decide)) (fun c77 => ?_)
  refine R2.B (ls2 := [some (.int s), some (.int 6), some (.int ((s - s / 32 * 32) + (-1))), none]) (st2 := [.int 5, .int 6, .int (s / 32)]) b_X11_stepTo_80_82 rfl (fun hd => ?_)
  refine R2.icmp_ne 89 hd (by decide) (fun c82 => ?_) (fun c82 => absurd c82 (by decide))
  refine R2.B (ls2 := [some (.int s), some (.int 6), some (.int ((s - s / 32 * 32) + (-1))), some (.int ((s / 32) + 0))]) (st2 := [.int 31, .int 0, .int ((s - s / 32 * 32) + (-1))]) b_X11_stepTo_89_96 rfl (fun hd => ?_)
  refine R2.callS3 (M2 := mX11_in) (As := [.int ((s - s / 32 * 32) + (-1)), .int 0, .int 31]) (rest := []) hd lk_11_86 okX11_in (by decide) (ev_in E L F ((s - s / 32 * 32) + (-1)) 0 31) (by decide) rfl rfl (Nat.le_of_ble_eq_true rfl) ?_
  refine R2.B (ls2 := [some (.int s), some (.int 6), some (.int ((s - s / 32 * 32) + (-1))), some (.int ((s / 32) + 0))]) (st2 := [.int (b2i (0 ≤ ((s - s / 32 * 32) + (-1)) ∧ ((s - s / 32 * 32) + (-1)) ≤ 31))]) b_X11_stepTo_99_99 rfl (fun hd => ?_)
  refine R2.if_eq 121 hd (by decide) (fun c99 => ?_) (fun c99 => ?_)
  · have nc99 : ¬ (0 ≤ ((s - s / 32 * 32) + (-1)) ∧ ((s - s / 32 * 32) + (-1)) ≤ 31) := b2i_zero.mp c99
    refine R2.B (ls2 := [some (.int s), some (.int 6), some (.int ((s - s / 32 * 32) + (-1))), some (.int ((s / 32) + 0))]) (st2 := [.int (-1)]) b_X11_stepTo_121_122 rfl (fun hd => ?_)
    exact R2.ret3 (r := some (.int (-1))) hd trivial rfl (congrArg (fun z => some (Value.int z)) (nbr_o1 (d := 6) rfl nc99)) rfl
  · have nc99 : 0 ≤ ((s - s / 32 * 32) + (-1)) ∧ ((s - s / 32 * 32) + (-1)) ≤ 31 := b2i_nz.mp c99
    refine R2.B (ls2 := [some (.int s), some (.int 6), some (.int ((s - s / 32 * 32) + (-1))), some (.int ((s / 32) + 0))]) (st2 := [.int 31, .int 0, .int ((s / 32) + 0)]) b_X11_stepTo_102_106 rfl (fun hd => ?_)
    refine R2.callS3 (M2 := mX11_in) (As := [.int ((s / 32) + 0), .int 0, .int 31]) (rest := []) hd lk_11_86 okX11_in (by decide) (ev_in E L F ((s / 32) + 0) 0 31) (by decide) rfl rfl (Nat.le_of_ble_eq_true rfl) ?_
    refine R2.B (ls2 := [some (.int s), some (.int 6), some (.int ((s - s / 32 * 32) + (-1))), some (.int ((s / 32) + 0))]) (st2 := [.int (b2i (0 ≤ ((s / 32) + 0) ∧ ((s / 32) + 0) ≤ 31))]) b_X11_stepTo_109_109 rfl (fun hd => ?_)
    refine R2.if_eq 121 hd (by decide) (fun c109 => ?_) (fun c109 => ?_)
    · have nc109 : ¬ (0 ≤ ((s / 32) + 0) ∧ ((s / 32) + 0) ≤ 31) := b2i_zero.mp c109
      refine R2.B (ls2 := [some (.int s), some (.int 6), some (.int ((s - s / 32 * 32) + (-1))), some (.int ((s / 32) + 0))]) (st2 := [.int (-1)]) b_X11_stepTo_121_122 rfl (fun hd => ?_)
      exact R2.ret3 (r := some (.int (-1))) hd trivial rfl (congrArg (fun z => some (Value.int z)) (nbr_o2 (d := 6) rfl nc109)) rfl
    · have nc109 : 0 ≤ ((s / 32) + 0) ∧ ((s / 32) + 0) ≤ 31 := b2i_nz.mp c109
      refine R2.B (ls2 := [some (.int s), some (.int 6), some (.int ((s - s / 32 * 32) + (-1))), some (.int ((s / 32) + 0))]) (st2 := [.int ((32 * ((s / 32) + 0)) + ((s - s / 32 * 32) + (-1)))]) b_X11_stepTo_112_122 rfl (fun hd => ?_)
      exact R2.ret3 (r := some (.int ((32 * ((s / 32) + 0)) + ((s - s / 32 * 32) + (-1))))) hd trivial rfl (congrArg (fun z => some (Value.int z)) (nbr_in (d := 6) rfl rfl nc99 nc109)) rfl
set_option maxRecDepth 20000 in
set_option maxHeartbeats 1000000 in
theorem me_stepTo7 (E : EE) (L : Nat) (F : FF) (s : Int32) : Ev3 E L 2 mX11_stepTo [.int s, .int 7] F (some (.int (nbr s 7))) F := by
  refine Ev3.of okX11_stepTo.2.1 (Nat.le_of_ble_eq_true rfl) ?_
  show R2 E L mX11_stepTo 2 0 [some (.int s), some (.int 7), none, none] [] F _
  refine R2.B (ls2 := [some (.int s), some (.int 7), none, none]) (st2 := [.int 32, .int s]) b_X11_stepTo_0_3 rfl (fun hd => ?_)
  refine R2.irem hd (by decide) ?_
  refine R2.B (ls2 := [some (.int s), some (.int 7), none, none]) (st2 := [.int 1, .int 7, .int (s - s / 32 * 32)]) b_X11_stepTo_4_6 rfl (fun hd => ?_)
  refine R2.icmp_eq 19 hd (by decide) (fun c6 => absurd c6 (by decide)) (fun c6 => ?_)
  refine R2.B (ls2 := [some (.int s), some (.int 7), none, none]) (st2 := [.int 2, .int 7, .int (s - s / 32 * 32)]) b_X11_stepTo_9_11 rfl (fun hd => ?_)
  refine R2.icmp_eq 19 hd (by decide) (fun c11 => absurd c11 (by decide)) (fun c11 => ?_)
  refine R2.B (ls2 := [some (.int s), some (.int 7), none, none]) (st2 := [.int 3, .int 7, .int (s - s / 32 * 32)]) b_X11_stepTo_14_16 rfl (fun hd => ?_)
  refine R2.icmp_ne 23 hd (by decide) (fun c16 => ?_) (fun c16 => absurd c16 (by decide))
  refine R2.B (ls2 := [some (.int s), some (.int 7), none, none]) (st2 := [.int 5, .int 7, .int (s - s / 32 * 32)]) b_X11_stepTo_23_25 rfl (fun hd => ?_)
  refine R2.icmp_eq 40 hd (by decide) (fun c25 => absurd c25 (by decide)) (fun c25 => ?_)
  refine R2.B (ls2 := [some (.int s), some (.int 7), none, none]) (st2 := [.int 6, .int 7, .int (s - s / 32 * 32)]) b_X11_stepTo_28_31 rfl (fun hd => ?_)
  refine R2.icmp_eq 40 hd (by decide) (fun c31 => absurd c31 (by decide)) (fun c31 => ?_)
  refine R2.B (ls2 := [some (.int s), some (.int 7), none, none]) (st2 := [.int 7, .int 7, .int (s - s / 32 * 32)]) b_X11_stepTo_34_37 rfl (fun hd => ?_)
  refine R2.icmp_ne 44 hd (by decide) (fun c37 => absurd (by decide) c37) (fun c37 => ?_)
  refine R2.B (ls2 := [some (.int s), some (.int 7), some (.int ((s - s / 32 * 32) + (-1))), none]) (st2 := [.int 32, .int s]) b_X11_stepTo_40_50 rfl (fun hd => ?_)
  refine R2.idiv hd (by decide) ?_
  refine R2.B (ls2 := [some (.int s), some (.int 7), some (.int ((s - s / 32 * 32) + (-1))), none]) (st2 := [.int 7, .int 7, .int (s / 32)]) b_X11_stepTo_51_54 rfl (fun hd => ?_)
  refine R2.icmp_eq 66 hd (by decide) (fun c54 => ?_) (fun c54 => absurd (by decide) c54)
  refine R2.B (ls2 := [some (.int s), some (.int 7), some (.int ((s - s / 32 * 32) + (-1))), some (.int ((s / 32) + (-1)))]) (st2 := [.int 31, .int 0, .int ((s - s / 32 * 32) + (-1))]) b_X11_stepTo_66_96 rfl (fun hd => ?_)
  refine R2.callS3 (M2 := mX11_in) (As := [.int ((s - s / 32 * 32) + (-1)), .int 0, .int 31]) (rest := []) hd lk_11_86 okX11_in (by decide) (ev_in E L F ((s - s / 32 * 32) + (-1)) 0 31) (by decide) rfl rfl (Nat.le_of_ble_eq_true rfl) ?_
  refine R2.B (ls2 := [some (.int s), some (.int 7), some (.int ((s - s / 32 * 32) + (-1))), some (.int ((s / 32) + (-1)))]) (st2 := [.int (b2i (0 ≤ ((s - s / 32 * 32) + (-1)) ∧ ((s - s / 32 * 32) + (-1)) ≤ 31))]) b_X11_stepTo_99_99 rfl (fun hd => ?_)
  refine R2.if_eq 121 hd (by decide) (fun c99 => ?_) (fun c99 => ?_)
  · have nc99 : ¬ (0 ≤ ((s - s / 32 * 32) + (-1)) ∧ ((s - s / 32 * 32) + (-1)) ≤ 31) := b2i_zero.mp c99
    refine R2.B (ls2 := [some (.int s), some (.int 7), some (.int ((s - s / 32 * 32) + (-1))), some (.int ((s / 32) + (-1)))]) (st2 := [.int (-1)]) b_X11_stepTo_121_122 rfl (fun hd => ?_)
    exact R2.ret3 (r := some (.int (-1))) hd trivial rfl (congrArg (fun z => some (Value.int z)) (nbr_o1 (d := 7) rfl nc99)) rfl
  · have nc99 : 0 ≤ ((s - s / 32 * 32) + (-1)) ∧ ((s - s / 32 * 32) + (-1)) ≤ 31 := b2i_nz.mp c99
    refine R2.B (ls2 := [some (.int s), some (.int 7), some (.int ((s - s / 32 * 32) + (-1))), some (.int ((s / 32) + (-1)))]) (st2 := [.int 31, .int 0, .int ((s / 32) + (-1))]) b_X11_stepTo_102_106 rfl (fun hd => ?_)
    refine R2.callS3 (M2 := mX11_in) (As := [.int ((s / 32) + (-1)), .int 0, .int 31]) (rest := []) hd lk_11_86 okX11_in (by decide) (ev_in E L F ((s / 32) + (-1)) 0 31) (by decide) rfl rfl (Nat.le_of_ble_eq_true rfl) ?_
    refine R2.B (ls2 := [some (.int s), some (.int 7), some (.int ((s - s / 32 * 32) + (-1))), some (.int ((s / 32) + (-1)))]) (st2 := [.int (b2i (0 ≤ ((s / 32) + (-1)) ∧ ((s / 32) + (-1)) ≤ 31))]) b_X11_stepTo_109_109 rfl (fun hd => ?_)
    refine R2.if_eq 121 hd (by decide) (fun c109 => ?_) (fun c109 => ?_)
    · have nc109 : ¬ (0 ≤ ((s / 32) + (-1)) ∧ ((s / 32) + (-1)) ≤ 31) := b2i_zero.mp c109
      refine R2.B (ls2 := [some (.int s), some (.int 7), some (.int ((s - s / 32 * 32) + (-1))), some (.int ((s / 32) + (-1)))]) (st2 := [.int (-1)]) b_X11_stepTo_121_122 rfl (fun hd => ?_)
      exact R2.ret3 (r := some (.int (-1))) hd trivial rfl (congrArg (fun z => some (Value.int z)) (nbr_o2 (d := 7) rfl nc109)) rfl
    · have nc109 : 0 ≤ ((s / 32) + (-1)) ∧ ((s / 32) + (-1)) ≤ 31 := b2i_nz.mp c109
      refine R2.B (ls2 := [some (.int s), some (.int 7), some (.int ((s - s / 32 * 32) + (-1))), some (.int ((s / 32) + (-1)))]) (st2 := [.int ((32 * ((s / 32) + (-1))) + ((s - s / 32 * 32) + (-1)))]) b_X11_stepTo_112_122 rfl (fun hd => ?_)
      exact R2.ret3 (r := some (.int ((32 * ((s / 32) + (-1))) + ((s - s / 32 * 32) + (-1))))) hd trivial rfl (congrArg (fun z => some (Value.int z)) (nbr_in (d := 7) rfl rfl nc99 nc109)) rfl
theorem me_stepTo (E : EE) (L : Nat) (F : FF) (s : Int32) (d : Nat) (hd8 : d < 8) : Ev3 E L 2 mX11_stepTo [.int s, .int (nI d)] F (some (.int (nbr s d))) F := by
  rcases (by omega : d = 0 ∨ d = 1 ∨ d = 2 ∨ d = 3 ∨ d = 4 ∨ d = 5 ∨ d = 6 ∨ d = 7) with z | z | z | z | z | z | z | z <;> subst z
  · exact me_stepTo0 E L F s
  · exact me_stepTo1 E L F s
  · exact me_stepTo2 E L F s
  · exact me_stepTo3 E L F s
  · exact me_stepTo4 E L F s
  · exact me_stepTo5 E L F s
  · exact me_stepTo6 E L F s
  · exact me_stepTo7 E L F s
