/-! The reference's people, places and binding. Printed by wip/whole/gen/spec16.py. -/
theorem b_X11_reads_0_2 : bl2 mX11_reads 0 [(.aload_n 0, 1, 0, 0, .null), (.iconst 0, 1, 0, 0, .int 0)] 2 (.putfield 101) 3 = true := by decide +kernel
theorem b_X11_reads_5_9 : bl2 mX11_reads 5 [(.iconst 0, 1, 0, 0, .int 0), (.istore_n 1, 1, 1, 0, .null), (.iconst 0, 1, 0, 0, .int 0), (.istore_n 2, 1, 2, 0, .null)] 9 (.iload_n 2) 1 = true := by decide +kernel
set_option maxRecDepth 20000 in
set_option maxHeartbeats 1000000 in
theorem me_reads0 (E : EE) (L : Nat) (F : FF) (l : Nat) (hlen : F 49 0 = nI l) (hl : l ≤ 90) : Ev3 E L 4 mX11_reads [.ref 48] F (some (.int (rds F l).1)) (rds F l).2 := by
  refine Ev3.of okX11_reads.2.2.1 (Nat.le_of_ble_eq_true rfl) ?_
  show R2 E L mX11_reads 4 0 [some (.ref 48), none, none, none, none, none, none] [] F _
  refine R2.B (ls2 := [some (.ref 48), none, none, none, none, none, none]) (st2 := [.int 0, .ref 48]) b_X11_reads_0_2 rfl (fun hd => ?_)
  refine R2.putf (a := 11) (b := 3) hd (by decide) (by decide) rfl rfl (fun _ => rfl) ?_
  refine R2.B (ls2 := [some (.ref 48), some (.int 0), some (.int 0), none, none, none, none]) (st2 := []) b_X11_reads_5_9 rfl (fun hd => ?_)
  exact lp_reads E L l hl 11 0 0 _ (by omega) (by omega) (by omega) hlen
theorem me_reads (E : EE) (L : Nat) (F : FF) (l n : Nat) (hm : MR F l n) : Ev3 E L 4 mX11_reads [.ref 48] F (some (.int (rds F l).1)) F := by
  have h := me_reads0 E L F l hm.1 hm.2.1
  rw [hm.2.2.2.2] at h
  exact h
theorem b_X11_peopleFault_0_1 : bl2 mX11_peopleFault 0 [(.aload_n 0, 1, 0, 0, .null)] 1 (.invokevirtual 116) 3 = true := by decide +kernel
theorem b_X11_peopleFault_4_4 : bl2 mX11_peopleFault 4 [] 4 (.ireturn) 1 = true := by decide +kernel
set_option maxRecDepth 20000 in
set_option maxHeartbeats 1000000 in
theorem me_peopleFault (E : EE) (L : Nat) (F : FF) (l n : Nat) (hm : MR F l n) : Ev3 E L 5 mX11_peopleFault [.ref 48] F (some (.int (rds F l).1)) F := by
  refine Ev3.of okX11_peopleFault.2.2.1 (Nat.le_of_ble_eq_true rfl) ?_
  show R2 E L mX11_peopleFault 5 0 [some (.ref 48)] [] F _
  refine R2.B (ls2 := [some (.ref 48)]) (st2 := [.ref 48]) b_X11_peopleFault_0_1 rfl (fun hd => ?_)
  refine R2.callV3 (M2 := mX11_reads) (As := []) (rest := []) hd lk_11_116 okX11_reads (by decide) rfl (me_reads E L F l n hm) (by decide) rfl rfl (Nat.le_of_ble_eq_true rfl) ?_
  refine R2.B (ls2 := [some (.ref 48)]) (st2 := [.int ((rds F l).1)]) b_X11_peopleFault_4_4 rfl (fun hd => ?_)
  exact R2.ret3 (r := some (.int ((rds F l).1))) hd trivial rfl rfl rfl
theorem b_X11_peopleNow_0_1 : bl2 mX11_peopleNow 0 [(.aload_n 0, 1, 0, 0, .null)] 1 (.invokevirtual 116) 3 = true := by decide +kernel
theorem b_X11_peopleNow_4_9 : bl2 mX11_peopleNow 4 [(.istore_n 1, 1, 1, 0, .null), (.aload_n 0, 1, 0, 0, .null), (.getfield 101, 3, 11, 3, .null)] 9 (.ireturn) 1 = true := by decide +kernel
set_option maxRecDepth 20000 in
set_option maxHeartbeats 1000000 in
theorem me_peopleNow (E : EE) (L : Nat) (F : FF) (l n : Nat) (hm : MR F l n) : Ev3 E L 5 mX11_peopleNow [.ref 48] F (some (.int (nI n))) F := by
  refine Ev3.of okX11_peopleNow.2.2.1 (Nat.le_of_ble_eq_true rfl) ?_
  show R2 E L mX11_peopleNow 5 0 [some (.ref 48), none] [] F _
  refine R2.B (ls2 := [some (.ref 48), none]) (st2 := [.ref 48]) b_X11_peopleNow_0_1 rfl (fun hd => ?_)
  refine R2.callV3 (M2 := mX11_reads) (As := []) (rest := []) hd lk_11_116 okX11_reads (by decide) rfl (me_reads E L F l n hm) (by decide) rfl rfl (Nat.le_of_ble_eq_true rfl) ?_
  refine R2.B (ls2 := [some (.ref 48), some (.int ((rds F l).1))]) (st2 := [.int (F 48 3)]) b_X11_peopleNow_4_9 rfl (fun hd => ?_)
  exact R2.ret3 (r := some (.int (F 48 3))) hd trivial rfl (congrArg (fun z => some (Value.int z)) hm.2.2.2.1) rfl
theorem i32_le_pred (m m1 x : Int32) (h : m1.toInt = m.toInt - 1) : x ≤ m1 ↔ x < m := by
  rw [Int32.le_iff_toInt_le, Int32.lt_iff_toInt_lt, h]; omega
theorem n1_iff {n : Nat} (hn : n ≤ 10) (x : Int32) : (0 ≤ x ∧ x ≤ nI n - 1) ↔ (0 ≤ x ∧ x < nI n) := by
  rcases (by omega : n = 0 ∨ n = 1 ∨ n = 2 ∨ n = 3 ∨ n = 4 ∨ n = 5 ∨ n = 6 ∨ n = 7 ∨ n = 8 ∨ n = 9 ∨ n = 10) with z | z | z | z | z | z | z | z | z | z | z <;> subst z
  · exact and_congr Iff.rfl (i32_le_pred 0 (-1) x (by decide))
  · exact and_congr Iff.rfl (i32_le_pred 1 0 x (by decide))
  · exact and_congr Iff.rfl (i32_le_pred 2 1 x (by decide))
  · exact and_congr Iff.rfl (i32_le_pred 3 2 x (by decide))
  · exact and_congr Iff.rfl (i32_le_pred 4 3 x (by decide))
  · exact and_congr Iff.rfl (i32_le_pred 5 4 x (by decide))
  · exact and_congr Iff.rfl (i32_le_pred 6 5 x (by decide))
  · exact and_congr Iff.rfl (i32_le_pred 7 6 x (by decide))
  · exact and_congr Iff.rfl (i32_le_pred 8 7 x (by decide))
  · exact and_congr Iff.rfl (i32_le_pred 9 8 x (by decide))
  · exact and_congr Iff.rfl (i32_le_pred 10 9 x (by decide))
theorem b2i_cg {p q : Prop} [Decidable p] [Decidable q] (h : p ↔ q) : b2i p = b2i q := by
  unfold b2i; by_cases hp : p
  · rw [if_pos hp, if_pos (h.mp hp)]
  · rw [if_neg hp, if_neg (fun z => hp (h.mpr z))]
theorem b_X11_isPerson_0_3 : bl2 mX11_isPerson 0 [(.iload_n 1, 1, 1, 0, .null), (.iconst 0, 1, 0, 0, .int 0), (.aload_n 0, 1, 0, 0, .null)] 3 (.invokevirtual 119) 3 = true := by decide +kernel
theorem b_X11_isPerson_6_8 : bl2 mX11_isPerson 6 [(.iconst 1, 1, 0, 0, .int 1), (.isub, 1, 0, 0, .null)] 8 (.invokestatic 86) 3 = true := by decide +kernel
theorem b_X11_isPerson_11_11 : bl2 mX11_isPerson 11 [] 11 (.ireturn) 1 = true := by decide +kernel
set_option maxRecDepth 20000 in
set_option maxHeartbeats 1000000 in
theorem me_isPerson (E : EE) (L : Nat) (F : FF) (l n : Nat) (hm : MR F l n) (x : Int32) : Ev3 E L 6 mX11_isPerson [.ref 48, .int x] F (some (.int (b2i (0 ≤ x ∧ x < nI n)))) F := by
  refine Ev3.of okX11_isPerson.2.2.1 (Nat.le_of_ble_eq_true rfl) ?_
  show R2 E L mX11_isPerson 6 0 [some (.ref 48), some (.int x)] [] F _
  refine R2.B (ls2 := [some (.ref 48), some (.int x)]) (st2 := [.ref 48, .int 0, .int x]) b_X11_isPerson_0_3 rfl (fun hd => ?_)
  refine R2.callV3 (M2 := mX11_peopleNow) (As := []) (rest := [.int 0, .int x]) hd lk_11_119 okX11_peopleNow (by decide) rfl (me_peopleNow E L F l n hm) (by decide) rfl rfl (Nat.le_of_ble_eq_true rfl) ?_
  refine R2.B (ls2 := [some (.ref 48), some (.int x)]) (st2 := [.int ((nI n) - 1), .int 0, .int x]) b_X11_isPerson_6_8 rfl (fun hd => ?_)
  refine R2.callS3 (M2 := mX11_in) (As := [.int x, .int 0, .int ((nI n) - 1)]) (rest := []) hd lk_11_86 okX11_in (by decide) (ev_in E L F x 0 ((nI n) - 1)) (by decide) rfl rfl (Nat.le_of_ble_eq_true rfl) ?_
  refine R2.B (ls2 := [some (.ref 48), some (.int x)]) (st2 := [.int (b2i (0 ≤ x ∧ x ≤ ((nI n) - 1)))]) b_X11_isPerson_11_11 rfl (fun hd => ?_)
  exact R2.ret3 (r := some (.int (b2i (0 ≤ x ∧ x ≤ ((nI n) - 1))))) hd b2i_01 rfl (congrArg (fun z => some (Value.int z)) (b2i_cg (n1_iff hm.2.2.1 x))) rfl
theorem b_X11_areTwo_0_2 : bl2 mX11_areTwo 0 [(.aload_n 0, 1, 0, 0, .null), (.iload_n 1, 1, 1, 0, .null)] 2 (.invokevirtual 131) 3 = true := by decide +kernel
theorem b_X11_areTwo_5_5 : bl2 mX11_areTwo 5 [] 5 (.ifCond .eq 20) 3 = true := by decide +kernel
theorem b_X11_areTwo_25_26 : bl2 mX11_areTwo 25 [(.iconst 0, 1, 0, 0, .int 0)] 26 (.ireturn) 1 = true := by decide +kernel
theorem b_X11_areTwo_8_10 : bl2 mX11_areTwo 8 [(.aload_n 0, 1, 0, 0, .null), (.iload_n 2, 1, 2, 0, .null)] 10 (.invokevirtual 131) 3 = true := by decide +kernel
theorem b_X11_areTwo_13_13 : bl2 mX11_areTwo 13 [] 13 (.ifCond .eq 12) 3 = true := by decide +kernel
theorem b_X11_areTwo_16_18 : bl2 mX11_areTwo 16 [(.iload_n 1, 1, 1, 0, .null), (.iload_n 2, 1, 2, 0, .null)] 18 (.if_icmp .eq 7) 3 = true := by decide +kernel
theorem b_X11_areTwo_21_26 : bl2 mX11_areTwo 21 [(.iconst 1, 1, 0, 0, .int 1), (.goto 4, 3, 26, 0, .null)] 26 (.ireturn) 1 = true := by decide +kernel
set_option maxRecDepth 20000 in
set_option maxHeartbeats 1000000 in
theorem me_areTwo (E : EE) (L : Nat) (F : FF) (l n : Nat) (hm : MR F l n) (x y : Int32) : Ev3 E L 7 mX11_areTwo [.ref 48, .int x, .int y] F (some (.int (b2i ((0 ≤ x ∧ x < nI n) ∧ (0 ≤ y ∧ y < nI n) ∧ ¬ x = y)))) F := by
  refine Ev3.of okX11_areTwo.2.2.1 (Nat.le_of_ble_eq_true rfl) ?_
  show R2 E L mX11_areTwo 7 0 [some (.ref 48), some (.int x), some (.int y)] [] F _
  refine R2.B (ls2 := [some (.ref 48), some (.int x), some (.int y)]) (st2 := [.int x, .ref 48]) b_X11_areTwo_0_2 rfl (fun hd => ?_)
  refine R2.callV3 (M2 := mX11_isPerson) (As := [.int x]) (rest := []) hd lk_11_131 okX11_isPerson (by decide) rfl (me_isPerson E L F l n hm x) (by decide) rfl rfl (Nat.le_of_ble_eq_true rfl) ?_
  refine R2.B (ls2 := [some (.ref 48), some (.int x), some (.int y)]) (st2 := [.int (b2i (0 ≤ x ∧ x < nI n))]) b_X11_areTwo_5_5 rfl (fun hd => ?_)
  refine R2.if_eq 25 hd (by decide) (fun c5 => ?_) (fun c5 => ?_)
  · have nc5 : ¬ (0 ≤ x ∧ x < nI n) := b2i_zero.mp c5
    refine R2.B (ls2 := [some (.ref 48), some (.int x), some (.int y)]) (st2 := [.int 0]) b_X11_areTwo_25_26 rfl (fun hd => ?_)
    exact R2.ret3 (r := some (.int 0)) hd (Or.inl rfl) rfl (congrArg (fun z => some (Value.int z)) (b2i_f (by clear hd; grind))) rfl
  · have nc5 : 0 ≤ x ∧ x < nI n := b2i_nz.mp c5
    refine R2.B (ls2 := [some (.ref 48), some (.int x), some (.int y)]) (st2 := [.int y, .ref 48]) b_X11_areTwo_8_10 rfl (fun hd => ?_)
    refine R2.callV3 (M2 := mX11_isPerson) (As := [.int y]) (rest := []) hd lk_11_131 okX11_isPerson (by decide) rfl (me_isPerson E L F l n hm y) (by decide) rfl rfl (Nat.le_of_ble_eq_true rfl) ?_
    refine R2.B (ls2 := [some (.ref 48), some (.int x), some (.int y)]) (st2 := [.int (b2i (0 ≤ y ∧ y < nI n))]) b_X11_areTwo_13_13 rfl (fun hd => ?_)
    refine R2.if_eq 25 hd (by decide) (fun c13 => ?_) (fun c13 => ?_)
    · have nc13 : ¬ (0 ≤ y ∧ y < nI n) := b2i_zero.mp c13
      refine R2.B (ls2 := [some (.ref 48), some (.int x), some (.int y)]) (st2 := [.int 0]) b_X11_areTwo_25_26 rfl (fun hd => ?_)
      exact R2.ret3 (r := some (.int 0)) hd (Or.inl rfl) rfl (congrArg (fun z => some (Value.int z)) (b2i_f (by clear hd; grind))) rfl
    · have nc13 : 0 ≤ y ∧ y < nI n := b2i_nz.mp c13
      refine R2.B (ls2 := [some (.ref 48), some (.int x), some (.int y)]) (st2 := [.int y, .int x]) b_X11_areTwo_16_18 rfl (fun hd => ?_)
      refine R2.icmp_eq 25 hd (by decide) (fun c18 => ?_) (fun c18 => ?_)
      · refine R2.B (ls2 := [some (.ref 48), some (.int x), some (.int y)]) (st2 := [.int 0]) b_X11_areTwo_25_26 rfl (fun hd => ?_)
        exact R2.ret3 (r := some (.int 0)) hd (Or.inl rfl) rfl (congrArg (fun z => some (Value.int z)) (b2i_f (by clear hd; grind))) rfl
      · refine R2.B (ls2 := [some (.ref 48), some (.int x), some (.int y)]) (st2 := [.int 1]) b_X11_areTwo_21_26 rfl (fun hd => ?_)
        exact R2.ret3 (r := some (.int 1)) hd (Or.inr rfl) rfl (congrArg (fun z => some (Value.int z)) (b2i_t (by clear hd; grind))) rfl
