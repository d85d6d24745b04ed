theorem b_X2_square_0_5 : bl2 mX2_square 0 [(.aload_n 0, 1, 0, 0, .null), (.getfield 9, 3, 2, 1, .null), (.iload_n 1, 1, 1, 0, .null)] 5 (.iaload) 1 = true := by decide +kernel
theorem b_X2_square_6_11 : bl2 mX2_square 6 [(.aload_n 0, 1, 0, 0, .null), (.getfield 9, 3, 2, 1, .null), (.iload_n 1, 1, 1, 0, .null)] 11 (.iaload) 1 = true := by decide +kernel
theorem b_X2_square_12_13 : bl2 mX2_square 12 [(.imul, 1, 0, 0, .null)] 13 (.ireturn) 1 = true := by decide +kernel
set_option maxRecDepth 20000 in
set_option maxHeartbeats 1000000 in
theorem ev_square (E : EE) (L : Nat) (F : FF) (j : Nat) (hj : j < 3) : Ev3 E L 1 mX2_square [.ref 16, .int (nI j)] F (some (.int (F 17 j * F 17 j))) F := by
  refine Ev3.of okX2_square.2.2.1 (Nat.le_of_ble_eq_true rfl) ?_
  show R2 E L mX2_square 1 0 [some (.ref 16), some (.int (nI j))] [] F _
  refine R2.B (ls2 := [some (.ref 16), some (.int (nI j))]) (st2 := [.int (nI j), .ref 17]) b_X2_square_0_5 rfl (fun hd => ?_)
  refine R2.iald j rfl hd rfl (fun _ => rfl) (by decide) (by omega) ?_
  refine R2.B (ls2 := [some (.ref 16), some (.int (nI j))]) (st2 := [.int (nI j), .ref 17, .int (F 17 j)]) b_X2_square_6_11 rfl (fun hd => ?_)
  refine R2.iald j rfl hd rfl (fun _ => rfl) (by decide) (by omega) ?_
  refine R2.B (ls2 := [some (.ref 16), some (.int (nI j))]) (st2 := [.int ((F 17 j) * (F 17 j))]) b_X2_square_12_13 rfl (fun hd => ?_)
  exact R2.ret3 (r := some (.int ((F 17 j) * (F 17 j)))) hd trivial rfl rfl rfl
theorem b_X2_mayStand_10_19 : bl2 mX2_mayStand 10 [(.iload 5, 2, 5, 0, .null), (.aload_n 0, 1, 0, 0, .null), (.getfield 15, 3, 2, 0, .null), (.getfield 31, 3, 0, 5, .null)] 19 (.if_icmp .ge 30) 3 = true := by decide +kernel
theorem b_X2_mayStand_49_50 : bl2 mX2_mayStand 49 [(.iconst 1, 1, 0, 0, .int 1)] 50 (.ireturn) 1 = true := by decide +kernel
theorem b_X2_mayStand_22_25 : bl2 mX2_mayStand 22 [(.iload 5, 2, 5, 0, .null), (.iload_n 2, 1, 2, 0, .null)] 25 (.if_icmp .eq 18) 3 = true := by decide +kernel
theorem b_X2_mayStand_43_10 : bl2 mX2_mayStand 43 [(.iinc 5 1, 3, 5, 0, .int 1), (.goto (-36), 3, 10, 0, .null)] 10 (.iload 5) 2 = true := by decide +kernel
theorem b_X2_mayStand_28_31 : bl2 mX2_mayStand 28 [(.aload_n 1, 1, 1, 0, .null), (.iload 5, 2, 5, 0, .null)] 31 (.iaload) 1 = true := by decide +kernel
theorem b_X2_mayStand_32_33 : bl2 mX2_mayStand 32 [(.iload_n 3, 1, 3, 0, .null)] 33 (.invokestatic 37) 3 = true := by decide +kernel
theorem b_X2_mayStand_36_38 : bl2 mX2_mayStand 36 [(.iload 4, 2, 4, 0, .null)] 38 (.if_icmp .ge 5) 3 = true := by decide +kernel
theorem b_X2_mayStand_41_42 : bl2 mX2_mayStand 41 [(.iconst 0, 1, 0, 0, .int 0)] 42 (.ireturn) 1 = true := by decide +kernel
set_option maxRecDepth 20000 in
set_option maxHeartbeats 2000000 in
theorem lp_mayStand (E : EE) (L : Nat) (F : FF) (n : Nat) (hn : F 10 5 = nI n) (hn10 : n ≤ 10) (sp : Nat) (hsp : shg (SH L) sp = some (.inr (.int, 10))) (hsr : ∀ q : Nat, nthR rowsL sp q = none) (p : Nat) (t near : Int32) (hp : p < 10) : ∀ (k : Nat) (i : Nat), i + k = n → R2 E L mX2_mayStand 2 10 [some (.ref 16), some (.ref sp), some (.int (nI p)), some (.int t), some (.int near), some (.int (nI i))] [] F (fun r' F' => r' = some (.int (b2i (mayS (F sp) p t near k i = true))) ∧ F' = F) := by
  intro k
  induction k with
  | zero =>
    intro i hi
    refine R2.B (ls2 := [some (.ref 16), some (.ref sp), some (.int (nI p)), some (.int t), some (.int near), some (.int (nI i))]) (st2 := [.int (F 10 5), .int (nI i)]) b_X2_mayStand_10_19 rfl (fun hd => ?_)
    rw [show (F 10 5 : Int32) = nI n from hn]
    refine R2.icmp_ge 49 hd (by decide) (fun c19 => ?_) (fun c19 => absurd (nI_le (by omega) (by omega)) c19)
    refine R2.B (ls2 := [some (.ref 16), some (.ref sp), some (.int (nI p)), some (.int t), some (.int near), some (.int (nI i))]) (st2 := [.int 1]) b_X2_mayStand_49_50 rfl (fun hd => ?_)
    exact R2.ret3 (r := some (.int 1)) hd (Or.inr rfl) rfl (congrArg (fun z => some (Value.int z)) (b2i_t (by clear hd; simp only [mayS] <;> grind))) rfl
  | succ k ih =>
    intro i hi
    refine R2.B (ls2 := [some (.ref 16), some (.ref sp), some (.int (nI p)), some (.int t), some (.int near), some (.int (nI i))]) (st2 := [.int (F 10 5), .int (nI i)]) b_X2_mayStand_10_19 rfl (fun hd => ?_)
    rw [show (F 10 5 : Int32) = nI n from hn]
    refine R2.icmp_ge 49 hd (by decide) (fun c19 => absurd c19 (nI_ge (by omega) (by omega))) (fun c19 => ?_)
    refine R2.B (ls2 := [some (.ref 16), some (.ref sp), some (.int (nI p)), some (.int t), some (.int near), some (.int (nI i))]) (st2 := [.int (nI p), .int (nI i)]) b_X2_mayStand_22_25 rfl (fun hd => ?_)
    refine R2.icmp_eq 43 hd (by decide) (fun c25 => ?_) (fun c25 => ?_)
    · have nc25 : i = p := (nI_eq (a := i) (b := p) (by omega) (by omega)).mp c25
      refine R2.B (ls2 := [some (.ref 16), some (.ref sp), some (.int (nI p)), some (.int t), some (.int near), some (.int ((nI i) + 1))]) (st2 := []) b_X2_mayStand_43_10 rfl (fun hd => ?_)
      rw [show ((nI i) + 1 : Int32) = nI (i + 1) from nI_add i 1]
      rw [show mayS (F sp) p t near (k + 1) i = mayS (F sp) p t near k (i + 1) from (by clear hd; simp only [mayS] <;> grind)]
      exact ih (i + 1) (by omega)
    · have nc25 : ¬ i = p := fun h9 => c25 ((nI_eq (a := i) (b := p) (by omega) (by omega)).mpr h9)
      refine R2.B (ls2 := [some (.ref 16), some (.ref sp), some (.int (nI p)), some (.int t), some (.int near), some (.int (nI i))]) (st2 := [.int (nI i), .ref sp]) b_X2_mayStand_28_31 rfl (fun hd => ?_)
      refine R2.iald i rfl hd hsp hsr (by decide) (by omega) ?_
      refine R2.B (ls2 := [some (.ref 16), some (.ref sp), some (.int (nI p)), some (.int t), some (.int near), some (.int (nI i))]) (st2 := [.int t, .int (F sp i)]) b_X2_mayStand_32_33 rfl (fun hd => ?_)
      refine R2.callS3 (M2 := mX10_between) (As := [.int (F sp i), .int t]) (rest := []) hd lk_2_37 okX10_between (by decide) (ev_between E L F (F sp i) t) (by decide) rfl rfl (Nat.le_of_ble_eq_true rfl) ?_
      refine R2.B (ls2 := [some (.ref 16), some (.ref sp), some (.int (nI p)), some (.int t), some (.int near), some (.int (nI i))]) (st2 := [.int near, .int (awy (F sp i) t)]) b_X2_mayStand_36_38 rfl (fun hd => ?_)
      refine R2.icmp_ge 43 hd (by decide) (fun c38 => ?_) (fun c38 => ?_)
      · refine R2.B (ls2 := [some (.ref 16), some (.ref sp), some (.int (nI p)), some (.int t), some (.int near), some (.int ((nI i) + 1))]) (st2 := []) b_X2_mayStand_43_10 rfl (fun hd => ?_)
        rw [show ((nI i) + 1 : Int32) = nI (i + 1) from nI_add i 1]
        rw [show mayS (F sp) p t near (k + 1) i = mayS (F sp) p t near k (i + 1) from (by clear hd; simp only [mayS] <;> grind)]
        exact ih (i + 1) (by omega)
      · refine R2.B (ls2 := [some (.ref 16), some (.ref sp), some (.int (nI p)), some (.int t), some (.int near), some (.int (nI i))]) (st2 := [.int 0]) b_X2_mayStand_41_42 rfl (fun hd => ?_)
        exact R2.ret3 (r := some (.int 0)) hd (Or.inl rfl) rfl (congrArg (fun z => some (Value.int z)) (b2i_f (by clear hd; simp only [mayS] <;> grind))) rfl
theorem b_X2_mayStand_0_2 : bl2 mX2_mayStand 0 [(.aload_n 0, 1, 0, 0, .null), (.iconst 2, 1, 0, 0, .int 2)] 2 (.invokevirtual 27) 3 = true := by decide +kernel
theorem b_X2_mayStand_5_10 : bl2 mX2_mayStand 5 [(.istore 4, 2, 4, 0, .null), (.iconst 0, 1, 0, 0, .int 0), (.istore 5, 2, 5, 0, .null)] 10 (.iload 5) 2 = true := by decide +kernel
set_option maxRecDepth 20000 in
set_option maxHeartbeats 1000000 in
theorem ev_mayStand (E : EE) (L : Nat) (F : FF) (n : Nat) (hn : F 10 5 = nI n) (hn10 : n ≤ 10) (sp : Nat) (hsp : shg (SH L) sp = some (.inr (.int, 10))) (hsr : ∀ q : Nat, nthR rowsL sp q = none) (p : Nat) (t : Int32) (hp : p < 10) : Ev3 E L 2 mX2_mayStand [.ref 16, .ref sp, .int (nI p), .int t] F (some (.int (b2i (mayS (F sp) p t (F 17 2 * F 17 2) n 0 = true)))) F := by
  refine Ev3.of okX2_mayStand.2.2.1 (Nat.le_of_ble_eq_true rfl) ?_
  show R2 E L mX2_mayStand 2 0 [some (.ref 16), some (.ref sp), some (.int (nI p)), some (.int t), none, none] [] F _
  refine R2.B (ls2 := [some (.ref 16), some (.ref sp), some (.int (nI p)), some (.int t), none, none]) (st2 := [.int 2, .ref 16]) b_X2_mayStand_0_2 rfl (fun hd => ?_)
  refine R2.callV3 (M2 := mX2_square) (As := [.int 2]) (rest := []) hd lk_2_27 okX2_square (by decide) rfl (ev_square E L F 2 (by decide)) (by decide) rfl rfl (Nat.le_of_ble_eq_true rfl) ?_
  refine R2.B (ls2 := [some (.ref 16), some (.ref sp), some (.int (nI p)), some (.int t), some (.int ((F 17 2) * (F 17 2))), some (.int 0)]) (st2 := []) b_X2_mayStand_5_10 rfl (fun hd => ?_)
  exact lp_mayStand E L F n hn hn10 sp hsp hsr p t _ hp n 0 (by omega)
theorem b_X2_lawfulStep_0_2 : bl2 mX2_lawfulStep 0 [(.aload_n 1, 1, 1, 0, .null), (.iload_n 2, 1, 2, 0, .null)] 2 (.iaload) 1 = true := by decide +kernel
theorem b_X2_lawfulStep_3_4 : bl2 mX2_lawfulStep 3 [(.iload_n 3, 1, 3, 0, .null)] 4 (.invokestatic 19) 3 = true := by decide +kernel
theorem b_X2_lawfulStep_7_12 : bl2 mX2_lawfulStep 7 [(.istore 4, 2, 4, 0, .null), (.iload 4, 2, 4, 0, .null), (.iconst (-1), 1, 0, 0, .int (-1))] 12 (.if_icmp .eq 19) 3 = true := by decide +kernel
theorem b_X2_lawfulStep_31_32 : bl2 mX2_lawfulStep 31 [(.iconst (-1), 1, 0, 0, .int (-1))] 32 (.ireturn) 1 = true := by decide +kernel
theorem b_X2_lawfulStep_15_20 : bl2 mX2_lawfulStep 15 [(.aload_n 0, 1, 0, 0, .null), (.aload_n 1, 1, 1, 0, .null), (.iload_n 2, 1, 2, 0, .null), (.iload 4, 2, 4, 0, .null)] 20 (.invokevirtual 23) 3 = true := by decide +kernel
theorem b_X2_lawfulStep_23_23 : bl2 mX2_lawfulStep 23 [] 23 (.ifCond .eq 8) 3 = true := by decide +kernel
theorem b_X2_lawfulStep_26_32 : bl2 mX2_lawfulStep 26 [(.iload 4, 2, 4, 0, .null), (.goto 4, 3, 32, 0, .null)] 32 (.ireturn) 1 = true := by decide +kernel
set_option maxRecDepth 20000 in
set_option maxHeartbeats 1000000 in
theorem ev_lawfulStep (E : EE) (L : Nat) (F : FF) (hc : CST F) (n : Nat) (hn : F 10 5 = nI n) (hn10 : n ≤ 10) (sp : Nat) (hsp : shg (SH L) sp = some (.inr (.int, 10))) (hsr : ∀ q : Nat, nthR rowsL sp q = none) (p d : Nat) (hp : p < 10) (hd8 : d < 8) : Ev3 E L 3 mX2_lawfulStep [.ref 16, .ref sp, .int (nI p), .int (nI d)] F (some (.int (lawS (F sp) p d (F 17 2 * F 17 2) n))) F := by
  refine Ev3.of okX2_lawfulStep.2.2.1 (Nat.le_of_ble_eq_true rfl) ?_
  show R2 E L mX2_lawfulStep 3 0 [some (.ref 16), some (.ref sp), some (.int (nI p)), some (.int (nI d)), none] [] F _
  refine R2.B (ls2 := [some (.ref 16), some (.ref sp), some (.int (nI p)), some (.int (nI d)), none]) (st2 := [.int (nI p), .ref sp]) b_X2_lawfulStep_0_2 rfl (fun hd => ?_)
  refine R2.iald p rfl hd hsp hsr (by decide) (by omega) ?_
  refine R2.B (ls2 := [some (.ref 16), some (.ref sp), some (.int (nI p)), some (.int (nI d)), none]) (st2 := [.int (nI d), .int (F sp p)]) b_X2_lawfulStep_3_4 rfl (fun hd => ?_)
  refine R2.callS3 (M2 := mX10_neighbour) (As := [.int (F sp p), .int (nI d)]) (rest := []) hd lk_2_19 okX10_neighbour (by decide) (ev_neighbour E L F hc (F sp p) d (by omega)) (by decide) rfl rfl (Nat.le_of_ble_eq_true rfl) ?_
  refine R2.B (ls2 := [some (.ref 16), some (.ref sp), some (.int (nI p)), some (.int (nI d)), some (.int (nbr (F sp p) d))]) (st2 := [.int (-1), .int (nbr (F sp p) d)]) b_X2_lawfulStep_7_12 rfl (fun hd => ?_)
  refine R2.icmp_eq 31 hd (by decide) (fun c12 => ?_) (fun c12 => ?_)
  · refine R2.B (ls2 := [some (.ref 16), some (.ref sp), some (.int (nI p)), some (.int (nI d)), some (.int (nbr (F sp p) d))]) (st2 := [.int (-1)]) b_X2_lawfulStep_31_32 rfl (fun hd => ?_)
    exact R2.ret3 (r := some (.int (-1))) hd trivial rfl (congrArg (fun z => some (Value.int z)) (by unfold lawS; clear hd; grind)) rfl
  · refine R2.B (ls2 := [some (.ref 16), some (.ref sp), some (.int (nI p)), some (.int (nI d)), some (.int (nbr (F sp p) d))]) (st2 := [.int (nbr (F sp p) d), .int (nI p), .ref sp, .ref 16]) b_X2_lawfulStep_15_20 rfl (fun hd => ?_)
    refine R2.callV3 (M2 := mX2_mayStand) (As := [.ref sp, .int (nI p), .int (nbr (F sp p) d)]) (rest := []) hd lk_2_23 okX2_mayStand (by decide) rfl (ev_mayStand E L F n hn hn10 sp hsp hsr p (nbr (F sp p) d) (by omega)) (by decide) rfl rfl (Nat.le_of_ble_eq_true rfl) ?_
    refine R2.B (ls2 := [some (.ref 16), some (.ref sp), some (.int (nI p)), some (.int (nI d)), some (.int (nbr (F sp p) d))]) (st2 := [.int (b2i (mayS (F sp) p (nbr (F sp p) d) ((F 17 2) * (F 17 2)) n 0 = true))]) b_X2_lawfulStep_23_23 rfl (fun hd => ?_)
    refine R2.if_eq 31 hd (by decide) (fun c23 => ?_) (fun c23 => ?_)
    · have nc23 : ¬ (mayS (F sp) p (nbr (F sp p) d) ((F 17 2) * (F 17 2)) n 0 = true) := b2i_zero.mp c23
      refine R2.B (ls2 := [some (.ref 16), some (.ref sp), some (.int (nI p)), some (.int (nI d)), some (.int (nbr (F sp p) d))]) (st2 := [.int (-1)]) b_X2_lawfulStep_31_32 rfl (fun hd => ?_)
      exact R2.ret3 (r := some (.int (-1))) hd trivial rfl (congrArg (fun z => some (Value.int z)) (by unfold lawS; clear hd; grind)) rfl
    · have nc23 : mayS (F sp) p (nbr (F sp p) d) ((F 17 2) * (F 17 2)) n 0 = true := b2i_nz.mp c23
      refine R2.B (ls2 := [some (.ref 16), some (.ref sp), some (.int (nI p)), some (.int (nI d)), some (.int (nbr (F sp p) d))]) (st2 := [.int (nbr (F sp p) d)]) b_X2_lawfulStep_26_32 rfl (fun hd => ?_)
      exact R2.ret3 (r := some (.int (nbr (F sp p) d))) hd trivial rfl (congrArg (fun z => some (Value.int z)) (by unfold lawS; clear hd; grind)) rfl
theorem b_X2_firstNearer_10_19 : bl2 mX2_firstNearer 10 [(.iload 6, 2, 6, 0, .null), (.aload_n 0, 1, 0, 0, .null), (.getfield 15, 3, 2, 0, .null), (.getfield 31, 3, 0, 5, .null)] 19 (.if_icmp .ge 73) 3 = true := by decide +kernel
theorem b_X2_firstNearer_92_93 : bl2 mX2_firstNearer 92 [(.iconst (-1), 1, 0, 0, .int (-1))] 93 (.ireturn) 1 = true := by decide +kernel
theorem b_X2_firstNearer_22_25 : bl2 mX2_firstNearer 22 [(.iload 6, 2, 6, 0, .null), (.iload_n 2, 1, 2, 0, .null)] 25 (.if_icmp .eq 20) 3 = true := by decide +kernel
theorem b_X2_firstNearer_45_50 : bl2 mX2_firstNearer 45 [(.iconst 0, 1, 0, 0, .int 0), (.istore 7, 2, 7, 0, .null), (.iload 7, 2, 7, 0, .null)] 50 (.ifCond .eq 36) 3 = true := by decide +kernel
theorem b_X2_firstNearer_86_10 : bl2 mX2_firstNearer 86 [(.iinc 6 1, 3, 6, 0, .int 1), (.goto (-79), 3, 10, 0, .null)] 10 (.iload 6) 2 = true := by decide +kernel
theorem b_X2_firstNearer_28_31 : bl2 mX2_firstNearer 28 [(.iload 6, 2, 6, 0, .null), (.iload_n 3, 1, 3, 0, .null)] 31 (.if_icmp .eq 14) 3 = true := by decide +kernel
theorem b_X2_firstNearer_34_38 : bl2 mX2_firstNearer 34 [(.iload 6, 2, 6, 0, .null), (.iload 4, 2, 4, 0, .null)] 38 (.if_icmp .eq 7) 3 = true := by decide +kernel
theorem b_X2_firstNearer_41_50 : bl2 mX2_firstNearer 41 [(.iconst 1, 1, 0, 0, .int 1), (.goto 4, 3, 46, 0, .null), (.istore 7, 2, 7, 0, .null), (.iload 7, 2, 7, 0, .null)] 50 (.ifCond .eq 36) 3 = true := by decide +kernel
theorem b_X2_firstNearer_53_56 : bl2 mX2_firstNearer 53 [(.aload_n 1, 1, 1, 0, .null), (.iload 6, 2, 6, 0, .null)] 56 (.iaload) 1 = true := by decide +kernel
theorem b_X2_firstNearer_57_59 : bl2 mX2_firstNearer 57 [(.aload_n 1, 1, 1, 0, .null), (.iload_n 2, 1, 2, 0, .null)] 59 (.iaload) 1 = true := by decide +kernel
theorem b_X2_firstNearer_60_60 : bl2 mX2_firstNearer 60 [] 60 (.invokestatic 37) 3 = true := by decide +kernel
theorem b_X2_firstNearer_63_65 : bl2 mX2_firstNearer 63 [(.iload 5, 2, 5, 0, .null)] 65 (.if_icmp .lt 18) 3 = true := by decide +kernel
theorem b_X2_firstNearer_83_85 : bl2 mX2_firstNearer 83 [(.iload 6, 2, 6, 0, .null)] 85 (.ireturn) 1 = true := by decide +kernel
theorem b_X2_firstNearer_68_71 : bl2 mX2_firstNearer 68 [(.aload_n 1, 1, 1, 0, .null), (.iload 6, 2, 6, 0, .null)] 71 (.iaload) 1 = true := by decide +kernel
theorem b_X2_firstNearer_72_74 : bl2 mX2_firstNearer 72 [(.aload_n 1, 1, 1, 0, .null), (.iload_n 3, 1, 3, 0, .null)] 74 (.iaload) 1 = true := by decide +kernel
theorem b_X2_firstNearer_75_75 : bl2 mX2_firstNearer 75 [] 75 (.invokestatic 37) 3 = true := by decide +kernel
theorem b_X2_firstNearer_78_80 : bl2 mX2_firstNearer 78 [(.iload 5, 2, 5, 0, .null)] 80 (.if_icmp .ge 6) 3 = true := by decide +kernel
set_option maxRecDepth 20000 in
set_option maxHeartbeats 2000000 in
theorem lp_firstNearer (E : EE) (L : Nat) (F : FF) (n : Nat) (hn : F 10 5 = nI n) (hn10 : n ≤ 10) (sp : Nat) (hsp : shg (SH L) sp = some (.inr (.int, 10))) (hsr : ∀ q : Nat, nthR rowsL sp q = none) (a b : Nat) (w clr : Int32) (ha : a < 10) (hb : b < 10) : ∀ (k : Nat) (i : Nat), i + k = n → R2 E L mX2_firstNearer 2 10 [some (.ref 16), some (.ref sp), some (.int (nI a)), some (.int (nI b)), some (.int w), some (.int clr), some (.int (nI i)), none] [] F (fun r' F' => r' = some (.int (fnr (F sp) a b w clr k i)) ∧ F' = F) := by
  intro k
  induction k with
  | zero =>
    intro i hi
    refine R2.B (ls2 := [some (.ref 16), some (.ref sp), some (.int (nI a)), some (.int (nI b)), some (.int w), some (.int clr), some (.int (nI i)), none]) (st2 := [.int (F 10 5), .int (nI i)]) b_X2_firstNearer_10_19 rfl (fun hd => ?_)
    rw [show (F 10 5 : Int32) = nI n from hn]
    refine R2.icmp_ge 92 hd (by decide) (fun c19 => ?_) (fun c19 => absurd (nI_le (by omega) (by omega)) c19)
    refine R2.B (ls2 := [some (.ref 16), some (.ref sp), some (.int (nI a)), some (.int (nI b)), some (.int w), some (.int clr), some (.int (nI i)), none]) (st2 := [.int (-1)]) b_X2_firstNearer_92_93 rfl (fun hd => ?_)
    exact R2.ret3 (r := some (.int (-1))) hd trivial rfl (congrArg (fun z => some (Value.int z)) (by clear hd; simp only [fnr] <;> grind)) rfl
  | succ k ih =>
    intro i hi
    refine R2.B (ls2 := [some (.ref 16), some (.ref sp), some (.int (nI a)), some (.int (nI b)), some (.int w), some (.int clr), some (.int (nI i)), none]) (st2 := [.int (F 10 5), .int (nI i)]) b_X2_firstNearer_10_19 rfl (fun hd => ?_)
    rw [show (F 10 5 : Int32) = nI n from hn]
    refine R2.icmp_ge 92 hd (by decide) (fun c19 => absurd c19 (nI_ge (by omega) (by omega))) (fun c19 => ?_)
    refine R2.B (ls2 := [some (.ref 16), some (.ref sp), some (.int (nI a)), some (.int (nI b)), some (.int w), some (.int clr), some (.int (nI i)), none]) (st2 := [.int (nI a), .int (nI i)]) b_X2_firstNearer_22_25 rfl (fun hd => ?_)
    refine R2.icmp_eq 45 hd (by decide) (fun c25 => ?_) (fun c25 => ?_)
    · have nc25 : i = a := (nI_eq (a := i) (b := a) (by omega) (by omega)).mp c25
      refine R2.B (ls2 := [some (.ref 16), some (.ref sp), some (.int (nI a)), some (.int (nI b)), some (.int w), some (.int clr), some (.int (nI i)), some (.int 0)]) (st2 := [.int 0]) b_X2_firstNearer_45_50 rfl (fun hd => ?_)
      refine R2.if_eq 86 hd (by decide) (fun c50 => ?_) (fun c50 => absurd (by decide) c50)
      refine R2.B (ls2 := [some (.ref 16), some (.ref sp), some (.int (nI a)), some (.int (nI b)), some (.int w), some (.int clr), some (.int ((nI i) + 1)), some (.int 0)]) (st2 := []) b_X2_firstNearer_86_10 rfl (fun hd => ?_)
      rw [show ((nI i) + 1 : Int32) = nI (i + 1) from nI_add i 1]
      rw [show fnr (F sp) a b w clr (k + 1) i = fnr (F sp) a b w clr k (i + 1) from (by clear hd; simp only [fnr] <;> grind)]
      refine R2.forget (ls2 := [some (.ref 16), some (.ref sp), some (.int (nI a)), some (.int (nI b)), some (.int w), some (.int clr), some (.int (nI (i + 1))), none]) ⟨rfl, ⟨rfl, ⟨rfl, ⟨rfl, ⟨rfl, ⟨rfl, ⟨rfl, trivial⟩⟩⟩⟩⟩⟩⟩ ?_
      exact ih (i + 1) (by omega)
    · have nc25 : ¬ i = a := fun h9 => c25 ((nI_eq (a := i) (b := a) (by omega) (by omega)).mpr h9)
      refine R2.B (ls2 := [some (.ref 16), some (.ref sp), some (.int (nI a)), some (.int (nI b)), some (.int w), some (.int clr), some (.int (nI i)), none]) (st2 := [.int (nI b), .int (nI i)]) b_X2_firstNearer_28_31 rfl (fun hd => ?_)
      refine R2.icmp_eq 45 hd (by decide) (fun c31 => ?_) (fun c31 => ?_)
      · have nc31 : i = b := (nI_eq (a := i) (b := b) (by omega) (by omega)).mp c31
        refine R2.B (ls2 := [some (.ref 16), some (.ref sp), some (.int (nI a)), some (.int (nI b)), some (.int w), some (.int clr), some (.int (nI i)), some (.int 0)]) (st2 := [.int 0]) b_X2_firstNearer_45_50 rfl (fun hd => ?_)
        refine R2.if_eq 86 hd (by decide) (fun c50 => ?_) (fun c50 => absurd (by decide) c50)
        refine R2.B (ls2 := [some (.ref 16), some (.ref sp), some (.int (nI a)), some (.int (nI b)), some (.int w), some (.int clr), some (.int ((nI i) + 1)), some (.int 0)]) (st2 := []) b_X2_firstNearer_86_10 rfl (fun hd => ?_)
        rw [show ((nI i) + 1 : Int32) = nI (i + 1) from nI_add i 1]
        rw [show fnr (F sp) a b w clr (k + 1) i = fnr (F sp) a b w clr k (i + 1) from (by clear hd; simp only [fnr] <;> grind)]
        refine R2.forget (ls2 := [some (.ref 16), some (.ref sp), some (.int (nI a)), some (.int (nI b)), some (.int w), some (.int clr), some (.int (nI (i + 1))), none]) ⟨rfl, ⟨rfl, ⟨rfl, ⟨rfl, ⟨rfl, ⟨rfl, ⟨rfl, trivial⟩⟩⟩⟩⟩⟩⟩ ?_
        exact ih (i + 1) (by omega)
      · have nc31 : ¬ i = b := fun h9 => c31 ((nI_eq (a := i) (b := b) (by omega) (by omega)).mpr h9)
        refine R2.B (ls2 := [some (.ref 16), some (.ref sp), some (.int (nI a)), some (.int (nI b)), some (.int w), some (.int clr), some (.int (nI i)), none]) (st2 := [.int w, .int (nI i)]) b_X2_firstNearer_34_38 rfl (fun hd => ?_)
        refine R2.icmp_eq 45 hd (by decide) (fun c38 => ?_) (fun c38 => ?_)
        · refine R2.B (ls2 := [some (.ref 16), some (.ref sp), some (.int (nI a)), some (.int (nI b)), some (.int w), some (.int clr), some (.int (nI i)), some (.int 0)]) (st2 := [.int 0]) b_X2_firstNearer_45_50 rfl (fun hd => ?_)
          refine R2.if_eq 86 hd (by decide) (fun c50 => ?_) (fun c50 => absurd (by decide) c50)
          refine R2.B (ls2 := [some (.ref 16), some (.ref sp), some (.int (nI a)), some (.int (nI b)), some (.int w), some (.int clr), some (.int ((nI i) + 1)), some (.int 0)]) (st2 := []) b_X2_firstNearer_86_10 rfl (fun hd => ?_)
          rw [show ((nI i) + 1 : Int32) = nI (i + 1) from nI_add i 1]
          rw [show fnr (F sp) a b w clr (k + 1) i = fnr (F sp) a b w clr k (i + 1) from (by clear hd; simp only [fnr] <;> grind)]
          refine R2.forget (ls2 := [some (.ref 16), some (.ref sp), some (.int (nI a)), some (.int (nI b)), some (.int w), some (.int clr), some (.int (nI (i + 1))), none]) ⟨rfl, ⟨rfl, ⟨rfl, ⟨rfl, ⟨rfl, ⟨rfl, ⟨rfl, trivial⟩⟩⟩⟩⟩⟩⟩ ?_
          exact ih (i + 1) (by omega)
        · refine R2.B (ls2 := [some (.ref 16), some (.ref sp), some (.int (nI a)), some (.int (nI b)), some (.int w), some (.int clr), some (.int (nI i)), some (.int 1)]) (st2 := [.int 1]) b_X2_firstNearer_41_50 rfl (fun hd => ?_)
          refine R2.if_eq 86 hd (by decide) (fun c50 => absurd c50 (by decide)) (fun c50 => ?_)
          refine R2.B (ls2 := [some (.ref 16), some (.ref sp), some (.int (nI a)), some (.int (nI b)), some (.int w), some (.int clr), some (.int (nI i)), some (.int 1)]) (st2 := [.int (nI i), .ref sp]) b_X2_firstNearer_53_56 rfl (fun hd => ?_)
          refine R2.iald i rfl hd hsp hsr (by decide) (by omega) ?_
          refine R2.B (ls2 := [some (.ref 16), some (.ref sp), some (.int (nI a)), some (.int (nI b)), some (.int w), some (.int clr), some (.int (nI i)), some (.int 1)]) (st2 := [.int (nI a), .ref sp, .int (F sp i)]) b_X2_firstNearer_57_59 rfl (fun hd => ?_)
          refine R2.iald a rfl hd hsp hsr (by decide) (by omega) ?_
          refine R2.B (ls2 := [some (.ref 16), some (.ref sp), some (.int (nI a)), some (.int (nI b)), some (.int w), some (.int clr), some (.int (nI i)), some (.int 1)]) (st2 := [.int (F sp a), .int (F sp i)]) b_X2_firstNearer_60_60 rfl (fun hd => ?_)
          refine R2.callS3 (M2 := mX10_between) (As := [.int (F sp i), .int (F sp a)]) (rest := []) hd lk_2_37 okX10_between (by decide) (ev_between E L F (F sp i) (F sp a)) (by decide) rfl rfl (Nat.le_of_ble_eq_true rfl) ?_
          refine R2.B (ls2 := [some (.ref 16), some (.ref sp), some (.int (nI a)), some (.int (nI b)), some (.int w), some (.int clr), some (.int (nI i)), some (.int 1)]) (st2 := [.int clr, .int (awy (F sp i) (F sp a))]) b_X2_firstNearer_63_65 rfl (fun hd => ?_)
          refine R2.icmp_lt 83 hd (by decide) (fun c65 => ?_) (fun c65 => ?_)
          · refine R2.B (ls2 := [some (.ref 16), some (.ref sp), some (.int (nI a)), some (.int (nI b)), some (.int w), some (.int clr), some (.int (nI i)), some (.int 1)]) (st2 := [.int (nI i)]) b_X2_firstNearer_83_85 rfl (fun hd => ?_)
            exact R2.ret3 (r := some (.int (nI i))) hd trivial rfl (congrArg (fun z => some (Value.int z)) (by clear hd; simp only [fnr] <;> grind)) rfl
          · refine R2.B (ls2 := [some (.ref 16), some (.ref sp), some (.int (nI a)), some (.int (nI b)), some (.int w), some (.int clr), some (.int (nI i)), some (.int 1)]) (st2 := [.int (nI i), .ref sp]) b_X2_firstNearer_68_71 rfl (fun hd => ?_)
            refine R2.iald i rfl hd hsp hsr (by decide) (by omega) ?_
            refine R2.B (ls2 := [some (.ref 16), some (.ref sp), some (.int (nI a)), some (.int (nI b)), some (.int w), some (.int clr), some (.int (nI i)), some (.int 1)]) (st2 := [.int (nI b), .ref sp, .int (F sp i)]) b_X2_firstNearer_72_74 rfl (fun hd => ?_)
            refine R2.iald b rfl hd hsp hsr (by decide) (by omega) ?_
            refine R2.B (ls2 := [some (.ref 16), some (.ref sp), some (.int (nI a)), some (.int (nI b)), some (.int w), some (.int clr), some (.int (nI i)), some (.int 1)]) (st2 := [.int (F sp b), .int (F sp i)]) b_X2_firstNearer_75_75 rfl (fun hd => ?_)
            refine R2.callS3 (M2 := mX10_between) (As := [.int (F sp i), .int (F sp b)]) (rest := []) hd lk_2_37 okX10_between (by decide) (ev_between E L F (F sp i) (F sp b)) (by decide) rfl rfl (Nat.le_of_ble_eq_true rfl) ?_
            refine R2.B (ls2 := [some (.ref 16), some (.ref sp), some (.int (nI a)), some (.int (nI b)), some (.int w), some (.int clr), some (.int (nI i)), some (.int 1)]) (st2 := [.int clr, .int (awy (F sp i) (F sp b))]) b_X2_firstNearer_78_80 rfl (fun hd => ?_)
            refine R2.icmp_ge 86 hd (by decide) (fun c80 => ?_) (fun c80 => ?_)
            · refine R2.B (ls2 := [some (.ref 16), some (.ref sp), some (.int (nI a)), some (.int (nI b)), some (.int w), some (.int clr), some (.int ((nI i) + 1)), some (.int 1)]) (st2 := []) b_X2_firstNearer_86_10 rfl (fun hd => ?_)
              rw [show ((nI i) + 1 : Int32) = nI (i + 1) from nI_add i 1]
              rw [show fnr (F sp) a b w clr (k + 1) i = fnr (F sp) a b w clr k (i + 1) from (by clear hd; simp only [fnr] <;> grind)]
              refine R2.forget (ls2 := [some (.ref 16), some (.ref sp), some (.int (nI a)), some (.int (nI b)), some (.int w), some (.int clr), some (.int (nI (i + 1))), none]) ⟨rfl, ⟨rfl, ⟨rfl, ⟨rfl, ⟨rfl, ⟨rfl, ⟨rfl, trivial⟩⟩⟩⟩⟩⟩⟩ ?_
              exact ih (i + 1) (by omega)
            · refine R2.B (ls2 := [some (.ref 16), some (.ref sp), some (.int (nI a)), some (.int (nI b)), some (.int w), some (.int clr), some (.int (nI i)), some (.int 1)]) (st2 := [.int (nI i)]) b_X2_firstNearer_83_85 rfl (fun hd => ?_)
              exact R2.ret3 (r := some (.int (nI i))) hd trivial rfl (congrArg (fun z => some (Value.int z)) (by clear hd; simp only [fnr] <;> grind)) rfl
theorem b_X2_firstNearer_0_2 : bl2 mX2_firstNearer 0 [(.aload_n 0, 1, 0, 0, .null), (.iconst 1, 1, 0, 0, .int 1)] 2 (.invokevirtual 27) 3 = true := by decide +kernel
theorem b_X2_firstNearer_5_10 : bl2 mX2_firstNearer 5 [(.istore 5, 2, 5, 0, .null), (.iconst 0, 1, 0, 0, .int 0), (.istore 6, 2, 6, 0, .null)] 10 (.iload 6) 2 = true := by decide +kernel
set_option maxRecDepth 20000 in
set_option maxHeartbeats 1000000 in
theorem ev_firstNearer (E : EE) (L : Nat) (F : FF) (n : Nat) (hn : F 10 5 = nI n) (hn10 : n ≤ 10) (sp : Nat) (hsp : shg (SH L) sp = some (.inr (.int, 10))) (hsr : ∀ q : Nat, nthR rowsL sp q = none) (a b : Nat) (w : Int32) (ha : a < 10) (hb : b < 10) : Ev3 E L 2 mX2_firstNearer [.ref 16, .ref sp, .int (nI a), .int (nI b), .int w] F (some (.int (fnr (F sp) a b w (F 17 1 * F 17 1) n 0))) F := by
  refine Ev3.of okX2_firstNearer.2.2.1 (Nat.le_of_ble_eq_true rfl) ?_
  show R2 E L mX2_firstNearer 2 0 [some (.ref 16), some (.ref sp), some (.int (nI a)), some (.int (nI b)), some (.int w), none, none, none] [] F _
  refine R2.B (ls2 := [some (.ref 16), some (.ref sp), some (.int (nI a)), some (.int (nI b)), some (.int w), none, none, none]) (st2 := [.int 1, .ref 16]) b_X2_firstNearer_0_2 rfl (fun hd => ?_)
  refine R2.callV3 (M2 := mX2_square) (As := [.int 1]) (rest := []) hd lk_2_27 okX2_square (by decide) rfl (ev_square E L F 1 (by decide)) (by decide) rfl rfl (Nat.le_of_ble_eq_true rfl) ?_
  refine R2.B (ls2 := [some (.ref 16), some (.ref sp), some (.int (nI a)), some (.int (nI b)), some (.int w), some (.int ((F 17 1) * (F 17 1))), some (.int 0), none]) (st2 := []) b_X2_firstNearer_5_10 rfl (fun hd => ?_)
  exact lp_firstNearer E L F n hn hn10 sp hsp hsr a b w _ ha hb n 0 (by omega)
theorem b_X2_verdictBy_0_2 : bl2 mX2_verdictBy 0 [(.aload_n 2, 1, 2, 0, .null), (.iload_n 3, 1, 3, 0, .null)] 2 (.iaload) 1 = true := by decide +kernel
theorem b_X2_verdictBy_3_6 : bl2 mX2_verdictBy 3 [(.aload_n 2, 1, 2, 0, .null), (.iload 4, 2, 4, 0, .null)] 6 (.iaload) 1 = true := by decide +kernel
theorem b_X2_verdictBy_7_7 : bl2 mX2_verdictBy 7 [] 7 (.invokestatic 37) 3 = true := by decide +kernel
theorem b_X2_verdictBy_10_13 : bl2 mX2_verdictBy 10 [(.iload_n 1, 1, 1, 0, .null), (.iload_n 1, 1, 1, 0, .null), (.imul, 1, 0, 0, .null)] 13 (.if_icmp .eq 5) 3 = true := by decide +kernel
theorem b_X2_verdictBy_18_25 : bl2 mX2_verdictBy 18 [(.aload_n 0, 1, 0, 0, .null), (.aload_n 2, 1, 2, 0, .null), (.iload_n 3, 1, 3, 0, .null), (.iload 4, 2, 4, 0, .null), (.iload 5, 2, 5, 0, .null)] 25 (.invokevirtual 61) 3 = true := by decide +kernel
theorem b_X2_verdictBy_28_29 : bl2 mX2_verdictBy 28 [(.iconst (-1), 1, 0, 0, .int (-1))] 29 (.if_icmp .eq 5) 3 = true := by decide +kernel
theorem b_X2_verdictBy_34_41 : bl2 mX2_verdictBy 34 [(.aload_n 0, 1, 0, 0, .null), (.getfield 15, 3, 2, 0, .null), (.iload_n 3, 1, 3, 0, .null), (.iload 4, 2, 4, 0, .null)] 41 (.invokevirtual 64) 3 = true := by decide +kernel
theorem b_X2_verdictBy_44_44 : bl2 mX2_verdictBy 44 [] 44 (.ifCond .eq 7) 3 = true := by decide +kernel
theorem b_X2_verdictBy_51_52 : bl2 mX2_verdictBy 51 [(.iconst 3, 1, 0, 0, .int 3)] 52 (.ireturn) 1 = true := by decide +kernel
theorem b_X2_verdictBy_47_52 : bl2 mX2_verdictBy 47 [(.iconst 0, 1, 0, 0, .int 0), (.goto 4, 3, 52, 0, .null)] 52 (.ireturn) 1 = true := by decide +kernel
theorem b_X2_verdictBy_32_33 : bl2 mX2_verdictBy 32 [(.iconst 2, 1, 0, 0, .int 2)] 33 (.ireturn) 1 = true := by decide +kernel
theorem b_X2_verdictBy_16_17 : bl2 mX2_verdictBy 16 [(.iconst 1, 1, 0, 0, .int 1)] 17 (.ireturn) 1 = true := by decide +kernel
set_option maxRecDepth 20000 in
set_option maxHeartbeats 1000000 in
theorem ev_verdictBy (E : EE) (L : Nat) (F : FF) (n : Nat) (hn : F 10 5 = nI n) (hn10 : n ≤ 10) (sp : Nat) (hsp : shg (SH L) sp = some (.inr (.int, 10))) (hsr : ∀ q : Nat, nthR rowsL sp q = none) (a b : Nat) (due w : Int32) (ha : a < 10) (hb : b < 10) : Ev3 E L 3 mX2_verdictBy [.ref 16, .int due, .ref sp, .int (nI a), .int (nI b), .int w] F (some (.int (cvd F (F sp) n due w a b))) F := by
  refine Ev3.of okX2_verdictBy.2.2.1 (Nat.le_of_ble_eq_true rfl) ?_
  show R2 E L mX2_verdictBy 3 0 [some (.ref 16), some (.int due), some (.ref sp), some (.int (nI a)), some (.int (nI b)), some (.int w)] [] F _
  refine R2.B (ls2 := [some (.ref 16), some (.int due), some (.ref sp), some (.int (nI a)), some (.int (nI b)), some (.int w)]) (st2 := [.int (nI a), .ref sp]) b_X2_verdictBy_0_2 rfl (fun hd => ?_)
  refine R2.iald a rfl hd hsp hsr (by decide) (by omega) ?_
  refine R2.B (ls2 := [some (.ref 16), some (.int due), some (.ref sp), some (.int (nI a)), some (.int (nI b)), some (.int w)]) (st2 := [.int (nI b), .ref sp, .int (F sp a)]) b_X2_verdictBy_3_6 rfl (fun hd => ?_)
  refine R2.iald b rfl hd hsp hsr (by decide) (by omega) ?_
  refine R2.B (ls2 := [some (.ref 16), some (.int due), some (.ref sp), some (.int (nI a)), some (.int (nI b)), some (.int w)]) (st2 := [.int (F sp b), .int (F sp a)]) b_X2_verdictBy_7_7 rfl (fun hd => ?_)
  refine R2.callS3 (M2 := mX10_between) (As := [.int (F sp a), .int (F sp b)]) (rest := []) hd lk_2_37 okX10_between (by decide) (ev_between E L F (F sp a) (F sp b)) (by decide) rfl rfl (Nat.le_of_ble_eq_true rfl) ?_
  refine R2.B (ls2 := [some (.ref 16), some (.int due), some (.ref sp), some (.int (nI a)), some (.int (nI b)), some (.int w)]) (st2 := [.int (due * due), .int (awy (F sp a) (F sp b))]) b_X2_verdictBy_10_13 rfl (fun hd => ?_)
  refine R2.icmp_eq 18 hd (by decide) (fun c13 => ?_) (fun c13 => ?_)
  · refine R2.B (ls2 := [some (.ref 16), some (.int due), some (.ref sp), some (.int (nI a)), some (.int (nI b)), some (.int w)]) (st2 := [.int w, .int (nI b), .int (nI a), .ref sp, .ref 16]) b_X2_verdictBy_18_25 rfl (fun hd => ?_)
    refine R2.callV3 (M2 := mX2_firstNearer) (As := [.ref sp, .int (nI a), .int (nI b), .int w]) (rest := []) hd lk_2_61 okX2_firstNearer (by decide) rfl (ev_firstNearer E L F n hn hn10 sp hsp hsr a b w (by omega) (by omega)) (by decide) rfl rfl (Nat.le_of_ble_eq_true rfl) ?_
    refine R2.B (ls2 := [some (.ref 16), some (.int due), some (.ref sp), some (.int (nI a)), some (.int (nI b)), some (.int w)]) (st2 := [.int (-1), .int (fnr (F sp) a b w ((F 17 1) * (F 17 1)) n 0)]) b_X2_verdictBy_28_29 rfl (fun hd => ?_)
    refine R2.icmp_eq 34 hd (by decide) (fun c29 => ?_) (fun c29 => ?_)
    · refine R2.B (ls2 := [some (.ref 16), some (.int due), some (.ref sp), some (.int (nI a)), some (.int (nI b)), some (.int w)]) (st2 := [.int (nI b), .int (nI a), .ref 10]) b_X2_verdictBy_34_41 rfl (fun hd => ?_)
      refine R2.callV3 (M2 := mX0_canTrade) (As := [.int (nI a), .int (nI b)]) (rest := []) hd lk_2_64 okX0_canTrade (by decide) rfl (ev_canTrade E L F a b (by omega) (by omega)) (by decide) rfl rfl (Nat.le_of_ble_eq_true rfl) ?_
      refine R2.B (ls2 := [some (.ref 16), some (.int due), some (.ref sp), some (.int (nI a)), some (.int (nI b)), some (.int w)]) (st2 := [.int (b2i (trd (F 11) (F 12) (F 13) a b))]) b_X2_verdictBy_44_44 rfl (fun hd => ?_)
      refine R2.if_eq 51 hd (by decide) (fun c44 => ?_) (fun c44 => ?_)
      · have nc44 : ¬ (trd (F 11) (F 12) (F 13) a b) := b2i_zero.mp c44
        refine R2.B (ls2 := [some (.ref 16), some (.int due), some (.ref sp), some (.int (nI a)), some (.int (nI b)), some (.int w)]) (st2 := [.int 3]) b_X2_verdictBy_51_52 rfl (fun hd => ?_)
        exact R2.ret3 (r := some (.int 3)) hd trivial rfl (congrArg (fun z => some (Value.int z)) (by unfold cvd vdB; clear hd; grind)) rfl
      · have nc44 : trd (F 11) (F 12) (F 13) a b := b2i_nz.mp c44
        refine R2.B (ls2 := [some (.ref 16), some (.int due), some (.ref sp), some (.int (nI a)), some (.int (nI b)), some (.int w)]) (st2 := [.int 0]) b_X2_verdictBy_47_52 rfl (fun hd => ?_)
        exact R2.ret3 (r := some (.int 0)) hd trivial rfl (congrArg (fun z => some (Value.int z)) (by unfold cvd vdB; clear hd; grind)) rfl
    · refine R2.B (ls2 := [some (.ref 16), some (.int due), some (.ref sp), some (.int (nI a)), some (.int (nI b)), some (.int w)]) (st2 := [.int 2]) b_X2_verdictBy_32_33 rfl (fun hd => ?_)
      exact R2.ret3 (r := some (.int 2)) hd trivial rfl (congrArg (fun z => some (Value.int z)) (by unfold cvd vdB; clear hd; grind)) rfl
  · refine R2.B (ls2 := [some (.ref 16), some (.int due), some (.ref sp), some (.int (nI a)), some (.int (nI b)), some (.int w)]) (st2 := [.int 1]) b_X2_verdictBy_16_17 rfl (fun hd => ?_)
    exact R2.ret3 (r := some (.int 1)) hd trivial rfl (congrArg (fun z => some (Value.int z)) (by unfold cvd vdB; clear hd; grind)) rfl
theorem b_X2_verdict_0_6 : bl2 mX2_verdict 0 [(.aload_n 0, 1, 0, 0, .null), (.aload_n 0, 1, 0, 0, .null), (.getfield 9, 3, 2, 1, .null), (.iconst 0, 1, 0, 0, .int 0)] 6 (.iaload) 1 = true := by decide +kernel
theorem b_X2_verdict_7_12 : bl2 mX2_verdict 7 [(.aload_n 1, 1, 1, 0, .null), (.iload_n 2, 1, 2, 0, .null), (.iload_n 3, 1, 3, 0, .null), (.iload 4, 2, 4, 0, .null)] 12 (.invokevirtual 40) 3 = true := by decide +kernel
theorem b_X2_verdict_15_15 : bl2 mX2_verdict 15 [] 15 (.ireturn) 1 = true := by decide +kernel
set_option maxRecDepth 20000 in
set_option maxHeartbeats 1000000 in
theorem ev_verdict (E : EE) (L : Nat) (F : FF) (n : Nat) (hn : F 10 5 = nI n) (hn10 : n ≤ 10) (sp : Nat) (hsp : shg (SH L) sp = some (.inr (.int, 10))) (hsr : ∀ q : Nat, nthR rowsL sp q = none) (a b : Nat) (w : Int32) (ha : a < 10) (hb : b < 10) : Ev3 E L 4 mX2_verdict [.ref 16, .ref sp, .int (nI a), .int (nI b), .int w] F (some (.int (cvd F (F sp) n (F 17 0) w a b))) F := by
  refine Ev3.of okX2_verdict.2.2.1 (Nat.le_of_ble_eq_true rfl) ?_
  show R2 E L mX2_verdict 4 0 [some (.ref 16), some (.ref sp), some (.int (nI a)), some (.int (nI b)), some (.int w)] [] F _
  refine R2.B (ls2 := [some (.ref 16), some (.ref sp), some (.int (nI a)), some (.int (nI b)), some (.int w)]) (st2 := [.int 0, .ref 17, .ref 16]) b_X2_verdict_0_6 rfl (fun hd => ?_)
  refine R2.iald 0 rfl hd rfl (fun _ => rfl) (by decide) (by omega) ?_
  refine R2.B (ls2 := [some (.ref 16), some (.ref sp), some (.int (nI a)), some (.int (nI b)), some (.int w)]) (st2 := [.int w, .int (nI b), .int (nI a), .ref sp, .int (F 17 0), .ref 16]) b_X2_verdict_7_12 rfl (fun hd => ?_)
  refine R2.callV3 (M2 := mX2_verdictBy) (As := [.int (F 17 0), .ref sp, .int (nI a), .int (nI b), .int w]) (rest := []) hd lk_2_40 okX2_verdictBy (by decide) rfl (ev_verdictBy E L F n hn hn10 sp hsp hsr a b (F 17 0) w (by omega) (by omega)) (by decide) rfl rfl (Nat.le_of_ble_eq_true rfl) ?_
  refine R2.B (ls2 := [some (.ref 16), some (.ref sp), some (.int (nI a)), some (.int (nI b)), some (.int w)]) (st2 := [.int (cvd F (F sp) n (F 17 0) w a b)]) b_X2_verdict_15_15 rfl (fun hd => ?_)
  exact R2.ret3 (r := some (.int (cvd F (F sp) n (F 17 0) w a b))) hd trivial rfl rfl rfl
