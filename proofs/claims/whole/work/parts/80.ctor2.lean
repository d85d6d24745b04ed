/-! The two great constructors. Printed by wip/whole/gen/spec30.py. -/
theorem b_X10_init_0_1 : bl2 mX10_init 0 [(.aload_n 0, 1, 0, 0, .null)] 1 (.invokespecial 1) 3 = true := by decide +kernel
theorem b_X10_init_4_5 : bl2 mX10_init 4 [(.aload_n 0, 1, 0, 0, .null)] 5 (.new 7) 3 = true := by decide +kernel
theorem b_X10_init_8_11 : bl2 mX10_init 8 [(.dup, 1, 0, 0, .null), (.bipush 90, 2, 0, 0, .int 90)] 11 (.invokespecial 11) 3 = true := by decide +kernel
theorem b_X10_init_14_14 : bl2 mX10_init 14 [] 14 (.putfield 14) 3 = true := by decide +kernel
theorem b_X10_init_17_18 : bl2 mX10_init 17 [(.aload_n 0, 1, 0, 0, .null)] 18 (.new 7) 3 = true := by decide +kernel
theorem b_X10_init_21_24 : bl2 mX10_init 21 [(.dup, 1, 0, 0, .null), (.bipush 60, 2, 0, 0, .int 60)] 24 (.invokespecial 11) 3 = true := by decide +kernel
theorem b_X10_init_27_27 : bl2 mX10_init 27 [] 27 (.putfield 18) 3 = true := by decide +kernel
theorem b_X10_init_30_31 : bl2 mX10_init 30 [(.aload_n 0, 1, 0, 0, .null)] 31 (.new 21) 3 = true := by decide +kernel
theorem b_X10_init_34_35 : bl2 mX10_init 34 [(.dup, 1, 0, 0, .null)] 35 (.invokespecial 23) 3 = true := by decide +kernel
theorem b_X10_init_38_38 : bl2 mX10_init 38 [] 38 (.putfield 24) 3 = true := by decide +kernel
theorem b_X10_init_41_42 : bl2 mX10_init 41 [(.aload_n 0, 1, 0, 0, .null)] 42 (.new 28) 3 = true := by decide +kernel
theorem b_X10_init_45_50 : bl2 mX10_init 45 [(.dup, 1, 0, 0, .null), (.aload_n 0, 1, 0, 0, .null), (.getfield 24, 3, 10, 2, .null)] 50 (.invokespecial 30) 3 = true := by decide +kernel
theorem b_X10_init_53_53 : bl2 mX10_init 53 [] 53 (.putfield 33) 3 = true := by decide +kernel
theorem b_X10_init_56_57 : bl2 mX10_init 56 [(.aload_n 0, 1, 0, 0, .null)] 57 (.new 37) 3 = true := by decide +kernel
theorem b_X10_init_60_61 : bl2 mX10_init 60 [(.dup, 1, 0, 0, .null)] 61 (.invokespecial 39) 3 = true := by decide +kernel
theorem b_X10_init_64_64 : bl2 mX10_init 64 [] 64 (.putfield 40) 3 = true := by decide +kernel
theorem b_X10_init_67_68 : bl2 mX10_init 67 [(.aload_n 0, 1, 0, 0, .null)] 68 (.new 44) 3 = true := by decide +kernel
theorem b_X10_init_71_76 : bl2 mX10_init 71 [(.dup, 1, 0, 0, .null), (.aload_n 0, 1, 0, 0, .null), (.getfield 33, 3, 10, 3, .null)] 76 (.invokespecial 46) 3 = true := by decide +kernel
theorem b_X10_init_79_79 : bl2 mX10_init 79 [] 79 (.putfield 49) 3 = true := by decide +kernel
theorem b_X10_init_82_83 : bl2 mX10_init 82 [(.aload_n 0, 1, 0, 0, .null)] 83 (.new 53) 3 = true := by decide +kernel
theorem b_X10_init_86_91 : bl2 mX10_init 86 [(.dup, 1, 0, 0, .null), (.aload_n 0, 1, 0, 0, .null), (.getfield 33, 3, 10, 3, .null)] 91 (.invokespecial 55) 3 = true := by decide +kernel
theorem b_X10_init_94_94 : bl2 mX10_init 94 [] 94 (.putfield 56) 3 = true := by decide +kernel
theorem b_X10_init_97_98 : bl2 mX10_init 97 [(.aload_n 0, 1, 0, 0, .null)] 98 (.new 60) 3 = true := by decide +kernel
theorem b_X10_init_101_106 : bl2 mX10_init 101 [(.dup, 1, 0, 0, .null), (.aload_n 0, 1, 0, 0, .null), (.getfield 33, 3, 10, 3, .null)] 106 (.invokespecial 62) 3 = true := by decide +kernel
theorem b_X10_init_109_109 : bl2 mX10_init 109 [] 109 (.putfield 63) 3 = true := by decide +kernel
theorem b_X10_init_112_113 : bl2 mX10_init 112 [(.aload_n 0, 1, 0, 0, .null)] 113 (.new 67) 3 = true := by decide +kernel
theorem b_X10_init_116_117 : bl2 mX10_init 116 [(.dup, 1, 0, 0, .null)] 117 (.invokespecial 69) 3 = true := by decide +kernel
theorem b_X10_init_120_120 : bl2 mX10_init 120 [] 120 (.putfield 70) 3 = true := by decide +kernel
theorem b_X10_init_123_124 : bl2 mX10_init 123 [(.aload_n 0, 1, 0, 0, .null)] 124 (.new 74) 3 = true := by decide +kernel
theorem b_X10_init_127_132 : bl2 mX10_init 127 [(.dup, 1, 0, 0, .null), (.aload_n 0, 1, 0, 0, .null), (.getfield 33, 3, 10, 3, .null)] 132 (.invokespecial 76) 3 = true := by decide +kernel
theorem b_X10_init_135_135 : bl2 mX10_init 135 [] 135 (.putfield 77) 3 = true := by decide +kernel
theorem b_X10_init_138_140 : bl2 mX10_init 138 [(.aload_n 0, 1, 0, 0, .null), (.iconst 4, 1, 0, 0, .int 4)] 140 (.anewarray 81) 3 = true := by decide +kernel
theorem b_X10_init_143_143 : bl2 mX10_init 143 [] 143 (.putfield 83) 3 = true := by decide +kernel
theorem b_X10_init_146_150 : bl2 mX10_init 146 [(.iconst 0, 1, 0, 0, .int 0), (.istore_n 1, 1, 1, 0, .null), (.iload_n 1, 1, 1, 0, .null), (.iconst 4, 1, 0, 0, .int 4)] 150 (.if_icmp .ge 22) 3 = true := by decide +kernel
theorem b_X10_init_153_158 : bl2 mX10_init 153 [(.aload_n 0, 1, 0, 0, .null), (.getfield 83, 3, 10, 10, .null), (.iload_n 1, 1, 1, 0, .null)] 158 (.new 81) 3 = true := by decide +kernel
theorem b_X10_init_161_162 : bl2 mX10_init 161 [(.dup, 1, 0, 0, .null)] 162 (.invokespecial 87) 3 = true := by decide +kernel
theorem b_X10_init_165_165 : bl2 mX10_init 165 [] 165 (.aastore) 1 = true := by decide +kernel
theorem b_X10_init_166_150 : bl2 mX10_init 166 [(.iinc 1 1, 3, 1, 0, .int 1), (.goto (-21), 3, 148, 0, .null), (.iload_n 1, 1, 1, 0, .null), (.iconst 4, 1, 0, 0, .int 4)] 150 (.if_icmp .ge 22) 3 = true := by decide +kernel
theorem b_X10_init_172_174 : bl2 mX10_init 172 [(.aload_n 0, 1, 0, 0, .null), (.iconst 0, 1, 0, 0, .int 0)] 174 (.putfield 88) 3 = true := by decide +kernel
theorem b_X10_init_177_177 : bl2 mX10_init 177 [] 177 (.return_) 1 = true := by decide +kernel
set_option maxRecDepth 20000 in
set_option maxHeartbeats 1000000 in
theorem ct_5 (E : EE) (L : Nat) (S : FF) (G : GG) (hG : ∀ a, 5 ≤ a → a < 48 → G a = gl (F00 S) a) : Ev E 3 mX10_init [.ref 5] (tk L 6) (gset G 5 (dfl 10)) 42 2790 (QC L 48 G) := by
  refine Ev.of okX10_init.2.2.1 (Nat.le_of_ble_eq_true rfl) ?_
  show Rn E mX10_init 3 42 2790 0 0 0 [some (.ref 5), none] [] _ _ _
  refine Rn.B (ls2 := [some (.ref 5), none]) (st2 := [.ref 5]) b_X10_init_0_1 rfl (fun hd => ?_)
  refine Rn.objI hd oi_10_1 (Nat.le_of_ble_eq_true rfl) (Nat.le_of_ble_eq_true rfl) ?_
  refine Rn.B (ls2 := [some (.ref 5), none]) (st2 := [.ref 5]) b_X10_init_4_5 rfl (fun hd => ?_)
  refine Rn.newT (ci := 7) (N := 2) 6 hd (by decide) (fun r hr => by cases hr; rfl) rfl rfl (Nat.le_of_ble_eq_true rfl) (Nat.le_of_ble_eq_true rfl) ?_
  refine Rn.B (ls2 := [some (.ref 5), none]) (st2 := [.int 90, .ref 6, .ref 6, .ref 5]) b_X10_init_8_11 rfl (fun hd => ?_)
  refine Rn.callI (M2 := mX7_init) (As := [.int 90]) (rest := [.ref 6, .ref 5]) hd lk_10_11 okX7_init rfl (by decide) (ct_6 E L S (gset G 5 (dfl 10)) (fun a h1 h2 => by rw [gset_ne (show a ≠ 5 by omega)]; exact hG a (by omega) (by omega))) (by decide) rfl rfl (Nat.le_of_ble_eq_true rfl) (Nat.le_of_ble_eq_true rfl) (Nat.le_of_ble_eq_true rfl) ?_
  rintro r1 sh1 G1 ⟨rfl, rfl, rfl⟩
  refine Rn.B (ls2 := [some (.ref 5), none]) (st2 := [.ref 6, .ref 5]) b_X10_init_14_14 rfl (fun hd => ?_)
  refine Rn.putFT (a := 10) (b := 0) hd (by decide) (fun r hr => by cases hr; exact ⟨rfl, rfl⟩) (fun r hr => by cases hr; exact gd 341 rfl rfl) rfl rfl (Or.inl ⟨_, rfl⟩) ?_
  refine Rn.B (ls2 := [some (.ref 5), none]) (st2 := [.ref 5]) b_X10_init_17_18 rfl (fun hd => ?_)
  refine Rn.newT (ci := 7) (N := 2) 8 hd (by decide) (fun r hr => by cases hr; rfl) rfl rfl (Nat.le_of_ble_eq_true rfl) (Nat.le_of_ble_eq_true rfl) ?_
  refine Rn.B (ls2 := [some (.ref 5), none]) (st2 := [.int 60, .ref 8, .ref 8, .ref 5]) b_X10_init_21_24 rfl (fun hd => ?_)
  refine Rn.callI (M2 := mX7_init) (As := [.int 60]) (rest := [.ref 8, .ref 5]) hd lk_10_11 okX7_init rfl (by decide) (ct_8 E L S (gset G 5 (upf (dfl 10) 0 (.ref 6))) (fun a h1 h2 => by rw [gset_ne (show a ≠ 5 by omega)]; exact hG a (by omega) (by omega))) (by decide) rfl rfl (Nat.le_of_ble_eq_true rfl) (Nat.le_of_ble_eq_true rfl) (Nat.le_of_ble_eq_true rfl) ?_
  rintro r1 sh1 G1 ⟨rfl, rfl, rfl⟩
  refine Rn.B (ls2 := [some (.ref 5), none]) (st2 := [.ref 8, .ref 5]) b_X10_init_27_27 rfl (fun hd => ?_)
  refine Rn.putFT (a := 10) (b := 1) hd (by decide) (fun r hr => by cases hr; exact ⟨rfl, rfl⟩) (fun r hr => by cases hr; exact gd 342 rfl rfl) rfl rfl (Or.inl ⟨_, rfl⟩) ?_
  refine Rn.B (ls2 := [some (.ref 5), none]) (st2 := [.ref 5]) b_X10_init_30_31 rfl (fun hd => ?_)
  refine Rn.newT (ci := 0) (N := 7) 10 hd (by decide) (fun r hr => by cases hr; rfl) rfl rfl (Nat.le_of_ble_eq_true rfl) (Nat.le_of_ble_eq_true rfl) ?_
  refine Rn.B (ls2 := [some (.ref 5), none]) (st2 := [.ref 10, .ref 10, .ref 5]) b_X10_init_34_35 rfl (fun hd => ?_)
  refine Rn.callI (M2 := mX0_init) (As := []) (rest := [.ref 10, .ref 5]) hd lk_10_23 okX0_init rfl (by decide) (ct_10 E L S (gset G 5 (upf (upf (dfl 10) 0 (.ref 6)) 1 (.ref 8))) (fun a h1 h2 => by rw [gset_ne (show a ≠ 5 by omega)]; exact hG a (by omega) (by omega))) (by decide) rfl rfl (Nat.le_of_ble_eq_true rfl) (Nat.le_of_ble_eq_true rfl) (Nat.le_of_ble_eq_true rfl) ?_
  rintro r1 sh1 G1 ⟨rfl, rfl, rfl⟩
  refine Rn.B (ls2 := [some (.ref 5), none]) (st2 := [.ref 10, .ref 5]) b_X10_init_38_38 rfl (fun hd => ?_)
  refine Rn.putFT (a := 10) (b := 2) hd (by decide) (fun r hr => by cases hr; exact ⟨rfl, rfl⟩) (fun r hr => by cases hr; exact gd 343 rfl rfl) rfl rfl (Or.inl ⟨_, rfl⟩) ?_
  refine Rn.B (ls2 := [some (.ref 5), none]) (st2 := [.ref 5]) b_X10_init_41_42 rfl (fun hd => ?_)
  refine Rn.newT (ci := 2) (N := 2) 16 hd (by decide) (fun r hr => by cases hr; rfl) rfl rfl (Nat.le_of_ble_eq_true rfl) (Nat.le_of_ble_eq_true rfl) ?_
  refine Rn.B (ls2 := [some (.ref 5), none]) (st2 := [.ref 10, .ref 16, .ref 16, .ref 5]) b_X10_init_45_50 rfl (fun hd => ?_)
  refine Rn.callI (M2 := mX2_init) (As := [.ref 10]) (rest := [.ref 16, .ref 5]) hd lk_10_30 okX2_init rfl (by decide) (ct_16 E L S (gset G 5 (upf (upf (upf (dfl 10) 0 (.ref 6)) 1 (.ref 8)) 2 (.ref 10))) (fun a h1 h2 => by rw [gset_ne (show a ≠ 5 by omega)]; exact hG a (by omega) (by omega))) (by decide) rfl rfl (Nat.le_of_ble_eq_true rfl) (Nat.le_of_ble_eq_true rfl) (Nat.le_of_ble_eq_true rfl) ?_
  rintro r1 sh1 G1 ⟨rfl, rfl, rfl⟩
  refine Rn.B (ls2 := [some (.ref 5), none]) (st2 := [.ref 16, .ref 5]) b_X10_init_53_53 rfl (fun hd => ?_)
  refine Rn.putFT (a := 10) (b := 3) hd (by decide) (fun r hr => by cases hr; exact ⟨rfl, rfl⟩) (fun r hr => by cases hr; exact gd 344 rfl rfl) rfl rfl (Or.inl ⟨_, rfl⟩) ?_
  refine Rn.B (ls2 := [some (.ref 5), none]) (st2 := [.ref 5]) b_X10_init_56_57 rfl (fun hd => ?_)
  refine Rn.newT (ci := 1) (N := 5) 18 hd (by decide) (fun r hr => by cases hr; rfl) rfl rfl (Nat.le_of_ble_eq_true rfl) (Nat.le_of_ble_eq_true rfl) ?_
  refine Rn.B (ls2 := [some (.ref 5), none]) (st2 := [.ref 18, .ref 18, .ref 5]) b_X10_init_60_61 rfl (fun hd => ?_)
  refine Rn.callI (M2 := mX1_init) (As := []) (rest := [.ref 18, .ref 5]) hd lk_10_39 okX1_init rfl (by decide) (ct_18 E L S (gset G 5 (upf (upf (upf (upf (dfl 10) 0 (.ref 6)) 1 (.ref 8)) 2 (.ref 10)) 3 (.ref 16))) (fun a h1 h2 => by rw [gset_ne (show a ≠ 5 by omega)]; exact hG a (by omega) (by omega))) (by decide) rfl rfl (Nat.le_of_ble_eq_true rfl) (Nat.le_of_ble_eq_true rfl) (Nat.le_of_ble_eq_true rfl) ?_
  rintro r1 sh1 G1 ⟨rfl, rfl, rfl⟩
  refine Rn.B (ls2 := [some (.ref 5), none]) (st2 := [.ref 18, .ref 5]) b_X10_init_64_64 rfl (fun hd => ?_)
  refine Rn.putFT (a := 10) (b := 4) hd (by decide) (fun r hr => by cases hr; exact ⟨rfl, rfl⟩) (fun r hr => by cases hr; exact gd 345 rfl rfl) rfl rfl (Or.inl ⟨_, rfl⟩) ?_
  refine Rn.B (ls2 := [some (.ref 5), none]) (st2 := [.ref 5]) b_X10_init_67_68 rfl (fun hd => ?_)
  refine Rn.newT (ci := 8) (N := 6) 22 hd (by decide) (fun r hr => by cases hr; rfl) rfl rfl (Nat.le_of_ble_eq_true rfl) (Nat.le_of_ble_eq_true rfl) ?_
  refine Rn.B (ls2 := [some (.ref 5), none]) (st2 := [.ref 16, .ref 22, .ref 22, .ref 5]) b_X10_init_71_76 rfl (fun hd => ?_)
  refine Rn.callI (M2 := mX8_init) (As := [.ref 16]) (rest := [.ref 22, .ref 5]) hd lk_10_46 okX8_init rfl (by decide) (ct_22 E L S (gset G 5 (upf (upf (upf (upf (upf (dfl 10) 0 (.ref 6)) 1 (.ref 8)) 2 (.ref 10)) 3 (.ref 16)) 4 (.ref 18))) (fun a h1 h2 => by rw [gset_ne (show a ≠ 5 by omega)]; exact hG a (by omega) (by omega))) (by decide) rfl rfl (Nat.le_of_ble_eq_true rfl) (Nat.le_of_ble_eq_true rfl) (Nat.le_of_ble_eq_true rfl) ?_
  rintro r1 sh1 G1 ⟨rfl, rfl, rfl⟩
  refine Rn.B (ls2 := [some (.ref 5), none]) (st2 := [.ref 22, .ref 5]) b_X10_init_79_79 rfl (fun hd => ?_)
  refine Rn.putFT (a := 10) (b := 5) hd (by decide) (fun r hr => by cases hr; exact ⟨rfl, rfl⟩) (fun r hr => by cases hr; exact gd 346 rfl rfl) rfl rfl (Or.inl ⟨_, rfl⟩) ?_
  refine Rn.B (ls2 := [some (.ref 5), none]) (st2 := [.ref 5]) b_X10_init_82_83 rfl (fun hd => ?_)
  refine Rn.newT (ci := 3) (N := 6) 25 hd (by decide) (fun r hr => by cases hr; rfl) rfl rfl (Nat.le_of_ble_eq_true rfl) (Nat.le_of_ble_eq_true rfl) ?_
  refine Rn.B (ls2 := [some (.ref 5), none]) (st2 := [.ref 16, .ref 25, .ref 25, .ref 5]) b_X10_init_86_91 rfl (fun hd => ?_)
  refine Rn.callI (M2 := mX3_init) (As := [.ref 16]) (rest := [.ref 25, .ref 5]) hd lk_10_55 okX3_init rfl (by decide) (ct_25 E L S (gset G 5 (upf (upf (upf (upf (upf (upf (dfl 10) 0 (.ref 6)) 1 (.ref 8)) 2 (.ref 10)) 3 (.ref 16)) 4 (.ref 18)) 5 (.ref 22))) (fun a h1 h2 => by rw [gset_ne (show a ≠ 5 by omega)]; exact hG a (by omega) (by omega))) (by decide) rfl rfl (Nat.le_of_ble_eq_true rfl) (Nat.le_of_ble_eq_true rfl) (Nat.le_of_ble_eq_true rfl) ?_
  rintro r1 sh1 G1 ⟨rfl, rfl, rfl⟩
  refine Rn.B (ls2 := [some (.ref 5), none]) (st2 := [.ref 25, .ref 5]) b_X10_init_94_94 rfl (fun hd => ?_)
  refine Rn.putFT (a := 10) (b := 6) hd (by decide) (fun r hr => by cases hr; exact ⟨rfl, rfl⟩) (fun r hr => by cases hr; exact gd 347 rfl rfl) rfl rfl (Or.inl ⟨_, rfl⟩) ?_
  refine Rn.B (ls2 := [some (.ref 5), none]) (st2 := [.ref 5]) b_X10_init_97_98 rfl (fun hd => ?_)
  refine Rn.newT (ci := 9) (N := 5) 29 hd (by decide) (fun r hr => by cases hr; rfl) rfl rfl (Nat.le_of_ble_eq_true rfl) (Nat.le_of_ble_eq_true rfl) ?_
  refine Rn.B (ls2 := [some (.ref 5), none]) (st2 := [.ref 16, .ref 29, .ref 29, .ref 5]) b_X10_init_101_106 rfl (fun hd => ?_)
  refine Rn.callI (M2 := mX9_init) (As := [.ref 16]) (rest := [.ref 29, .ref 5]) hd lk_10_62 okX9_init rfl (by decide) (ct_29 E L S (gset G 5 (upf (upf (upf (upf (upf (upf (upf (dfl 10) 0 (.ref 6)) 1 (.ref 8)) 2 (.ref 10)) 3 (.ref 16)) 4 (.ref 18)) 5 (.ref 22)) 6 (.ref 25))) (fun a h1 h2 => by rw [gset_ne (show a ≠ 5 by omega)]; exact hG a (by omega) (by omega))) (by decide) rfl rfl (Nat.le_of_ble_eq_true rfl) (Nat.le_of_ble_eq_true rfl) (Nat.le_of_ble_eq_true rfl) ?_
  rintro r1 sh1 G1 ⟨rfl, rfl, rfl⟩
  refine Rn.B (ls2 := [some (.ref 5), none]) (st2 := [.ref 29, .ref 5]) b_X10_init_109_109 rfl (fun hd => ?_)
  refine Rn.putFT (a := 10) (b := 7) hd (by decide) (fun r hr => by cases hr; exact ⟨rfl, rfl⟩) (fun r hr => by cases hr; exact gd 348 rfl rfl) rfl rfl (Or.inl ⟨_, rfl⟩) ?_
  refine Rn.B (ls2 := [some (.ref 5), none]) (st2 := [.ref 5]) b_X10_init_112_113 rfl (fun hd => ?_)
  refine Rn.newT (ci := 4) (N := 2) 33 hd (by decide) (fun r hr => by cases hr; rfl) rfl rfl (Nat.le_of_ble_eq_true rfl) (Nat.le_of_ble_eq_true rfl) ?_
  refine Rn.B (ls2 := [some (.ref 5), none]) (st2 := [.ref 33, .ref 33, .ref 5]) b_X10_init_116_117 rfl (fun hd => ?_)
  refine Rn.callI (M2 := mX4_init) (As := []) (rest := [.ref 33, .ref 5]) hd lk_10_69 okX4_init rfl (by decide) (ct_33 E L S (gset G 5 (upf (upf (upf (upf (upf (upf (upf (upf (dfl 10) 0 (.ref 6)) 1 (.ref 8)) 2 (.ref 10)) 3 (.ref 16)) 4 (.ref 18)) 5 (.ref 22)) 6 (.ref 25)) 7 (.ref 29))) (fun a h1 h2 => by rw [gset_ne (show a ≠ 5 by omega)]; exact hG a (by omega) (by omega))) (by decide) rfl rfl (Nat.le_of_ble_eq_true rfl) (Nat.le_of_ble_eq_true rfl) (Nat.le_of_ble_eq_true rfl) ?_
  rintro r1 sh1 G1 ⟨rfl, rfl, rfl⟩
  refine Rn.B (ls2 := [some (.ref 5), none]) (st2 := [.ref 33, .ref 5]) b_X10_init_120_120 rfl (fun hd => ?_)
  refine Rn.putFT (a := 10) (b := 8) hd (by decide) (fun r hr => by cases hr; exact ⟨rfl, rfl⟩) (fun r hr => by cases hr; exact gd 349 rfl rfl) rfl rfl (Or.inl ⟨_, rfl⟩) ?_
  refine Rn.B (ls2 := [some (.ref 5), none]) (st2 := [.ref 5]) b_X10_init_123_124 rfl (fun hd => ?_)
  refine Rn.newT (ci := 6) (N := 6) 35 hd (by decide) (fun r hr => by cases hr; rfl) rfl rfl (Nat.le_of_ble_eq_true rfl) (Nat.le_of_ble_eq_true rfl) ?_
  refine Rn.B (ls2 := [some (.ref 5), none]) (st2 := [.ref 16, .ref 35, .ref 35, .ref 5]) b_X10_init_127_132 rfl (fun hd => ?_)
  refine Rn.callI (M2 := mX6_init) (As := [.ref 16]) (rest := [.ref 35, .ref 5]) hd lk_10_76 okX6_init rfl (by decide) (ct_35 E L S (gset G 5 (upf (upf (upf (upf (upf (upf (upf (upf (upf (dfl 10) 0 (.ref 6)) 1 (.ref 8)) 2 (.ref 10)) 3 (.ref 16)) 4 (.ref 18)) 5 (.ref 22)) 6 (.ref 25)) 7 (.ref 29)) 8 (.ref 33))) (fun a h1 h2 => by rw [gset_ne (show a ≠ 5 by omega)]; exact hG a (by omega) (by omega))) (by decide) rfl rfl (Nat.le_of_ble_eq_true rfl) (Nat.le_of_ble_eq_true rfl) (Nat.le_of_ble_eq_true rfl) ?_
  rintro r1 sh1 G1 ⟨rfl, rfl, rfl⟩
  refine Rn.B (ls2 := [some (.ref 5), none]) (st2 := [.ref 35, .ref 5]) b_X10_init_135_135 rfl (fun hd => ?_)
  refine Rn.putFT (a := 10) (b := 9) hd (by decide) (fun r hr => by cases hr; exact ⟨rfl, rfl⟩) (fun r hr => by cases hr; exact gd 350 rfl rfl) rfl rfl (Or.inl ⟨_, rfl⟩) ?_
  refine Rn.B (ls2 := [some (.ref 5), none]) (st2 := [.int 4, .ref 5]) b_X10_init_138_140 rfl (fun hd => ?_)
  refine Rn.anewI (N := 4) 39 hd (by decide) rfl (by decide) rfl rfl (Nat.le_of_ble_eq_true rfl) (Nat.le_of_ble_eq_true rfl) (by decide) ?_
  refine Rn.B (ls2 := [some (.ref 5), none]) (st2 := [.ref 39, .ref 5]) b_X10_init_143_143 rfl (fun hd => ?_)
  refine Rn.putFT (a := 10) (b := 10) hd (by decide) (fun r hr => by cases hr; exact ⟨rfl, rfl⟩) (fun r hr => by cases hr; exact gd 351 rfl rfl) rfl rfl (Or.inr ⟨_, rfl⟩) ?_
  refine Rn.B (ls2 := [some (.ref 5), some (.int 0)]) (st2 := [.int 4, .int 0]) b_X10_init_146_150 rfl (fun hd => ?_)
  refine Rn.icmp_ge 172 hd (by decide) (fun c => absurd c (by decide)) (fun c => ?_)
  refine Rn.B (ls2 := [some (.ref 5), some (.int 0)]) (st2 := [.int 0, .ref 39]) b_X10_init_153_158 rfl (fun hd => ?_)
  refine Rn.newT (ci := 5) (N := 4) 40 hd (by decide) (fun r hr => by cases hr; rfl) rfl rfl (Nat.le_of_ble_eq_true rfl) (Nat.le_of_ble_eq_true rfl) ?_
  refine Rn.B (ls2 := [some (.ref 5), some (.int 0)]) (st2 := [.ref 40, .ref 40, .int 0, .ref 39]) b_X10_init_161_162 rfl (fun hd => ?_)
  refine Rn.callI (M2 := mX5_init) (As := []) (rest := [.ref 40, .int 0, .ref 39]) hd lk_10_87 okX5_init rfl (by decide) (ct_40 E L S (gset (gset G 39 (fun _ => .null)) 5 (upf (upf (upf (upf (upf (upf (upf (upf (upf (upf (upf (dfl 10) 0 (.ref 6)) 1 (.ref 8)) 2 (.ref 10)) 3 (.ref 16)) 4 (.ref 18)) 5 (.ref 22)) 6 (.ref 25)) 7 (.ref 29)) 8 (.ref 33)) 9 (.ref 35)) 10 (.ref 39))) (fun a h1 h2 => by rw [gset_ne (show a ≠ 5 by omega), gset_ne (show a ≠ 39 by omega)]; exact hG a (by omega) (by omega))) (by decide) rfl rfl (Nat.le_of_ble_eq_true rfl) (Nat.le_of_ble_eq_true rfl) (Nat.le_of_ble_eq_true rfl) ?_
  rintro r1 sh1 G1 ⟨rfl, rfl, rfl⟩
  refine Rn.B (ls2 := [some (.ref 5), some (.int 0)]) (st2 := [.ref 40, .int 0, .ref 39]) b_X10_init_165_165 rfl (fun hd => ?_)
  refine Rn.aastI 0 rfl hd (by decide) rfl rfl (by decide) (by decide) (by decide) ?_
  refine Rn.B (ls2 := [some (.ref 5), some (.int (0 + 1))]) (st2 := [.int 4, .int (0 + 1)]) b_X10_init_166_150 rfl (fun hd => ?_)
  rw [show (0 + 1 : Int32) = 1 from by decide]
  refine Rn.icmp_ge 172 hd (by decide) (fun c => absurd c (by decide)) (fun c => ?_)
  refine Rn.B (ls2 := [some (.ref 5), some (.int 1)]) (st2 := [.int 1, .ref 39]) b_X10_init_153_158 rfl (fun hd => ?_)
  refine Rn.newT (ci := 5) (N := 4) 42 hd (by decide) (fun r hr => by cases hr; rfl) rfl rfl (Nat.le_of_ble_eq_true rfl) (Nat.le_of_ble_eq_true rfl) ?_
  refine Rn.B (ls2 := [some (.ref 5), some (.int 1)]) (st2 := [.ref 42, .ref 42, .int 1, .ref 39]) b_X10_init_161_162 rfl (fun hd => ?_)
  refine Rn.callI (M2 := mX5_init) (As := []) (rest := [.ref 42, .int 1, .ref 39]) hd lk_10_87 okX5_init rfl (by decide) (ct_42 E L S (gset (gset G 39 (upf (fun _ => .null) 0 (.ref 40))) 5 (upf (upf (upf (upf (upf (upf (upf (upf (upf (upf (upf (dfl 10) 0 (.ref 6)) 1 (.ref 8)) 2 (.ref 10)) 3 (.ref 16)) 4 (.ref 18)) 5 (.ref 22)) 6 (.ref 25)) 7 (.ref 29)) 8 (.ref 33)) 9 (.ref 35)) 10 (.ref 39))) (fun a h1 h2 => by rw [gset_ne (show a ≠ 5 by omega), gset_ne (show a ≠ 39 by omega)]; exact hG a (by omega) (by omega))) (by decide) rfl rfl (Nat.le_of_ble_eq_true rfl) (Nat.le_of_ble_eq_true rfl) (Nat.le_of_ble_eq_true rfl) ?_
  rintro r1 sh1 G1 ⟨rfl, rfl, rfl⟩
  refine Rn.B (ls2 := [some (.ref 5), some (.int 1)]) (st2 := [.ref 42, .int 1, .ref 39]) b_X10_init_165_165 rfl (fun hd => ?_)
  refine Rn.aastI 1 rfl hd (by decide) rfl rfl (by decide) (by decide) (by decide) ?_
  refine Rn.B (ls2 := [some (.ref 5), some (.int (1 + 1))]) (st2 := [.int 4, .int (1 + 1)]) b_X10_init_166_150 rfl (fun hd => ?_)
  rw [show (1 + 1 : Int32) = 2 from by decide]
  refine Rn.icmp_ge 172 hd (by decide) (fun c => absurd c (by decide)) (fun c => ?_)
  refine Rn.B (ls2 := [some (.ref 5), some (.int 2)]) (st2 := [.int 2, .ref 39]) b_X10_init_153_158 rfl (fun hd => ?_)
  refine Rn.newT (ci := 5) (N := 4) 44 hd (by decide) (fun r hr => by cases hr; rfl) rfl rfl (Nat.le_of_ble_eq_true rfl) (Nat.le_of_ble_eq_true rfl) ?_
  refine Rn.B (ls2 := [some (.ref 5), some (.int 2)]) (st2 := [.ref 44, .ref 44, .int 2, .ref 39]) b_X10_init_161_162 rfl (fun hd => ?_)
  refine Rn.callI (M2 := mX5_init) (As := []) (rest := [.ref 44, .int 2, .ref 39]) hd lk_10_87 okX5_init rfl (by decide) (ct_44 E L S (gset (gset G 39 (upf (upf (fun _ => .null) 0 (.ref 40)) 1 (.ref 42))) 5 (upf (upf (upf (upf (upf (upf (upf (upf (upf (upf (upf (dfl 10) 0 (.ref 6)) 1 (.ref 8)) 2 (.ref 10)) 3 (.ref 16)) 4 (.ref 18)) 5 (.ref 22)) 6 (.ref 25)) 7 (.ref 29)) 8 (.ref 33)) 9 (.ref 35)) 10 (.ref 39))) (fun a h1 h2 => by rw [gset_ne (show a ≠ 5 by omega), gset_ne (show a ≠ 39 by omega)]; exact hG a (by omega) (by omega))) (by decide) rfl rfl (Nat.le_of_ble_eq_true rfl) (Nat.le_of_ble_eq_true rfl) (Nat.le_of_ble_eq_true rfl) ?_
  rintro r1 sh1 G1 ⟨rfl, rfl, rfl⟩
  refine Rn.B (ls2 := [some (.ref 5), some (.int 2)]) (st2 := [.ref 44, .int 2, .ref 39]) b_X10_init_165_165 rfl (fun hd => ?_)
  refine Rn.aastI 2 rfl hd (by decide) rfl rfl (by decide) (by decide) (by decide) ?_
  refine Rn.B (ls2 := [some (.ref 5), some (.int (2 + 1))]) (st2 := [.int 4, .int (2 + 1)]) b_X10_init_166_150 rfl (fun hd => ?_)
  rw [show (2 + 1 : Int32) = 3 from by decide]
  refine Rn.icmp_ge 172 hd (by decide) (fun c => absurd c (by decide)) (fun c => ?_)
  refine Rn.B (ls2 := [some (.ref 5), some (.int 3)]) (st2 := [.int 3, .ref 39]) b_X10_init_153_158 rfl (fun hd => ?_)
  refine Rn.newT (ci := 5) (N := 4) 46 hd (by decide) (fun r hr => by cases hr; rfl) rfl rfl (Nat.le_of_ble_eq_true rfl) (Nat.le_of_ble_eq_true rfl) ?_
  refine Rn.B (ls2 := [some (.ref 5), some (.int 3)]) (st2 := [.ref 46, .ref 46, .int 3, .ref 39]) b_X10_init_161_162 rfl (fun hd => ?_)
  refine Rn.callI (M2 := mX5_init) (As := []) (rest := [.ref 46, .int 3, .ref 39]) hd lk_10_87 okX5_init rfl (by decide) (ct_46 E L S (gset (gset G 39 (upf (upf (upf (fun _ => .null) 0 (.ref 40)) 1 (.ref 42)) 2 (.ref 44))) 5 (upf (upf (upf (upf (upf (upf (upf (upf (upf (upf (upf (dfl 10) 0 (.ref 6)) 1 (.ref 8)) 2 (.ref 10)) 3 (.ref 16)) 4 (.ref 18)) 5 (.ref 22)) 6 (.ref 25)) 7 (.ref 29)) 8 (.ref 33)) 9 (.ref 35)) 10 (.ref 39))) (fun a h1 h2 => by rw [gset_ne (show a ≠ 5 by omega), gset_ne (show a ≠ 39 by omega)]; exact hG a (by omega) (by omega))) (by decide) rfl rfl (Nat.le_of_ble_eq_true rfl) (Nat.le_of_ble_eq_true rfl) (Nat.le_of_ble_eq_true rfl) ?_
  rintro r1 sh1 G1 ⟨rfl, rfl, rfl⟩
  refine Rn.B (ls2 := [some (.ref 5), some (.int 3)]) (st2 := [.ref 46, .int 3, .ref 39]) b_X10_init_165_165 rfl (fun hd => ?_)
  refine Rn.aastI 3 rfl hd (by decide) rfl rfl (by decide) (by decide) (by decide) ?_
  refine Rn.B (ls2 := [some (.ref 5), some (.int (3 + 1))]) (st2 := [.int 4, .int (3 + 1)]) b_X10_init_166_150 rfl (fun hd => ?_)
  rw [show (3 + 1 : Int32) = 4 from by decide]
  refine Rn.icmp_ge 172 hd (by decide) (fun c => ?_) (fun c => absurd (by decide) c)
  refine Rn.B (ls2 := [some (.ref 5), some (.int 4)]) (st2 := [.int 0, .ref 5]) b_X10_init_172_174 rfl (fun hd => ?_)
  refine Rn.putfT (a := 10) (b := 11) hd (by decide) (fun r hr => by cases hr; rfl) rfl rfl rfl ?_
  refine Rn.B (ls2 := [some (.ref 5), some (.int 4)]) (st2 := []) b_X10_init_177_177 rfl (fun hd => ?_)
  refine Rn.cell (G2 := (gset G 5 (upf (upf (upf (upf (upf (upf (upf (upf (upf (upf (upf (upf (dfl 10) 0 (.ref 6)) 1 (.ref 8)) 2 (.ref 10)) 3 (.ref 16)) 4 (.ref 18)) 5 (.ref 22)) 6 (.ref 25)) 7 (.ref 29)) 8 (.ref 33)) 9 (.ref 35)) 10 (.ref 39)) 11 (.int 0)))) 39 (by decide) rfl (fun a ha => ?_) (fun j hj => ?_) ?_
  · by_cases hb : a = 5
    · rw [hb, gset_eq, gset_eq]
    · rw [gset_ne hb, gset_ne hb, gset_ne ha]
  · rw [gset_ne (show 39 ≠ 5 by decide), hG 39 (by decide) (by decide)]
    exact match j, hj with | 0, _ => rfl | 1, _ => rfl | 2, _ => rfl | 3, _ => rfl | x + 4, h => absurd (show x + 4 < 4 from h) (by omega)
  refine Rn.cell (G2 := G) 5 (by decide) rfl (fun a ha => (gset_ne ha).symm) (fun j hj => ?_) ?_
  · rw [hG 5 (by decide) (by decide)]
    exact match j, hj with | 0, _ => rfl | 1, _ => rfl | 2, _ => rfl | 3, _ => rfl | 4, _ => rfl | 5, _ => rfl | 6, _ => rfl | 7, _ => rfl | 8, _ => rfl | 9, _ => rfl | 10, _ => rfl | 11, _ => rfl | x + 12, h => absurd (show x + 12 < 12 from h) (by omega)
  exact Rn.ret (r := none) hd trivial rfl (Nat.le_of_ble_eq_true rfl) (Nat.le_of_ble_eq_true rfl) ⟨rfl, rfl, rfl⟩
theorem b_X11_init_0_1 : bl2 mX11_init 0 [(.aload_n 0, 1, 0, 0, .null)] 1 (.invokespecial 1) 3 = true := by decide +kernel
theorem b_X11_init_4_6 : bl2 mX11_init 4 [(.aload_n 0, 1, 0, 0, .null), (.iconst 2, 1, 0, 0, .int 2)] 6 (.newarray .int) 2 = true := by decide +kernel
theorem b_X11_init_8_8 : bl2 mX11_init 8 [] 8 (.putfield 7) 3 = true := by decide +kernel
theorem b_X11_init_11_15 : bl2 mX11_init 11 [(.aload_n 0, 1, 0, 0, .null), (.sipush 180, 3, 0, 0, .int 180)] 15 (.newarray .int) 2 = true := by decide +kernel
theorem b_X11_init_17_17 : bl2 mX11_init 17 [] 17 (.putfield 13) 3 = true := by decide +kernel
theorem b_X11_init_20_22 : bl2 mX11_init 20 [(.aload_n 0, 1, 0, 0, .null), (.iconst 3, 1, 0, 0, .int 3)] 22 (.newarray .int) 2 = true := by decide +kernel
theorem b_X11_init_24_24 : bl2 mX11_init 24 [] 24 (.putfield 16) 3 = true := by decide +kernel
theorem b_X11_init_27_30 : bl2 mX11_init 27 [(.aload_n 0, 1, 0, 0, .null), (.bipush 11, 2, 0, 0, .int 11)] 30 (.newarray .int) 2 = true := by decide +kernel
theorem b_X11_init_32_32 : bl2 mX11_init 32 [] 32 (.putfield 19) 3 = true := by decide +kernel
theorem b_X11_init_35_38 : bl2 mX11_init 35 [(.aload_n 0, 1, 0, 0, .null), (.bipush 11, 2, 0, 0, .int 11)] 38 (.newarray .int) 2 = true := by decide +kernel
theorem b_X11_init_40_40 : bl2 mX11_init 40 [] 40 (.putfield 22) 3 = true := by decide +kernel
theorem b_X11_init_43_46 : bl2 mX11_init 43 [(.aload_n 0, 1, 0, 0, .null), (.bipush 11, 2, 0, 0, .int 11)] 46 (.newarray .int) 2 = true := by decide +kernel
theorem b_X11_init_48_48 : bl2 mX11_init 48 [] 48 (.putfield 25) 3 = true := by decide +kernel
theorem b_X11_init_51_54 : bl2 mX11_init 51 [(.aload_n 0, 1, 0, 0, .null), (.bipush 11, 2, 0, 0, .int 11)] 54 (.newarray .int) 2 = true := by decide +kernel
theorem b_X11_init_56_56 : bl2 mX11_init 56 [] 56 (.putfield 28) 3 = true := by decide +kernel
theorem b_X11_init_59_62 : bl2 mX11_init 59 [(.aload_n 0, 1, 0, 0, .null), (.bipush 11, 2, 0, 0, .int 11)] 62 (.newarray .int) 2 = true := by decide +kernel
theorem b_X11_init_64_64 : bl2 mX11_init 64 [] 64 (.putfield 31) 3 = true := by decide +kernel
theorem b_X11_init_67_70 : bl2 mX11_init 67 [(.aload_n 0, 1, 0, 0, .null), (.bipush 11, 2, 0, 0, .int 11)] 70 (.newarray .int) 2 = true := by decide +kernel
theorem b_X11_init_72_72 : bl2 mX11_init 72 [] 72 (.putfield 34) 3 = true := by decide +kernel
theorem b_X11_init_75_78 : bl2 mX11_init 75 [(.aload_n 0, 1, 0, 0, .null), (.bipush 32, 2, 0, 0, .int 32)] 78 (.newarray .int) 2 = true := by decide +kernel
theorem b_X11_init_80_80 : bl2 mX11_init 80 [] 80 (.putfield 37) 3 = true := by decide +kernel
theorem b_X11_init_83_86 : bl2 mX11_init 83 [(.aload_n 0, 1, 0, 0, .null), (.bipush 32, 2, 0, 0, .int 32)] 86 (.newarray .int) 2 = true := by decide +kernel
theorem b_X11_init_88_88 : bl2 mX11_init 88 [] 88 (.putfield 40) 3 = true := by decide +kernel
theorem b_X11_init_91_94 : bl2 mX11_init 91 [(.aload_n 0, 1, 0, 0, .null), (.bipush 32, 2, 0, 0, .int 32)] 94 (.newarray .int) 2 = true := by decide +kernel
theorem b_X11_init_96_96 : bl2 mX11_init 96 [] 96 (.putfield 43) 3 = true := by decide +kernel
theorem b_X11_init_99_103 : bl2 mX11_init 99 [(.aload_n 0, 1, 0, 0, .null), (.sipush 1024, 3, 0, 0, .int 1024)] 103 (.newarray .int) 2 = true := by decide +kernel
theorem b_X11_init_105_105 : bl2 mX11_init 105 [] 105 (.putfield 46) 3 = true := by decide +kernel
theorem b_X11_init_108_111 : bl2 mX11_init 108 [(.aload_n 0, 1, 0, 0, .null), (.bipush 11, 2, 0, 0, .int 11)] 111 (.newarray .int) 2 = true := by decide +kernel
theorem b_X11_init_113_113 : bl2 mX11_init 113 [] 113 (.putfield 49) 3 = true := by decide +kernel
theorem b_X11_init_116_120 : bl2 mX11_init 116 [(.aload_n 0, 1, 0, 0, .null), (.sipush 1024, 3, 0, 0, .int 1024)] 120 (.newarray .int) 2 = true := by decide +kernel
theorem b_X11_init_122_122 : bl2 mX11_init 122 [] 122 (.putfield 52) 3 = true := by decide +kernel
theorem b_X11_init_125_129 : bl2 mX11_init 125 [(.aload_n 0, 1, 0, 0, .null), (.sipush 1024, 3, 0, 0, .int 1024)] 129 (.newarray .int) 2 = true := by decide +kernel
theorem b_X11_init_131_131 : bl2 mX11_init 131 [] 131 (.putfield 55) 3 = true := by decide +kernel
theorem b_X11_init_134_137 : bl2 mX11_init 134 [(.aload_n 0, 1, 0, 0, .null), (.bipush 8, 2, 0, 0, .int 8)] 137 (.newarray .int) 2 = true := by decide +kernel
theorem b_X11_init_139_139 : bl2 mX11_init 139 [] 139 (.putfield 58) 3 = true := by decide +kernel
theorem b_X11_init_142_145 : bl2 mX11_init 142 [(.aload_n 0, 1, 0, 0, .null), (.bipush 11, 2, 0, 0, .int 11)] 145 (.newarray .int) 2 = true := by decide +kernel
theorem b_X11_init_147_147 : bl2 mX11_init 147 [] 147 (.putfield 61) 3 = true := by decide +kernel
theorem b_X11_init_150_152 : bl2 mX11_init 150 [(.aload_n 0, 1, 0, 0, .null), (.iconst 4, 1, 0, 0, .int 4)] 152 (.newarray .int) 2 = true := by decide +kernel
theorem b_X11_init_154_154 : bl2 mX11_init 154 [] 154 (.putfield 64) 3 = true := by decide +kernel
theorem b_X11_init_157_159 : bl2 mX11_init 157 [(.aload_n 0, 1, 0, 0, .null), (.iconst 4, 1, 0, 0, .int 4)] 159 (.newarray .int) 2 = true := by decide +kernel
theorem b_X11_init_161_161 : bl2 mX11_init 161 [] 161 (.putfield 67) 3 = true := by decide +kernel
theorem b_X11_init_164_166 : bl2 mX11_init 164 [(.aload_n 0, 1, 0, 0, .null), (.iconst 4, 1, 0, 0, .int 4)] 166 (.newarray .boolean) 2 = true := by decide +kernel
theorem b_X11_init_168_168 : bl2 mX11_init 168 [] 168 (.putfield 70) 3 = true := by decide +kernel
theorem b_X11_init_171_173 : bl2 mX11_init 171 [(.aload_n 0, 1, 0, 0, .null), (.iconst 4, 1, 0, 0, .int 4)] 173 (.newarray .int) 2 = true := by decide +kernel
theorem b_X11_init_175_175 : bl2 mX11_init 175 [] 175 (.putfield 74) 3 = true := by decide +kernel
theorem b_X11_init_178_180 : bl2 mX11_init 178 [(.aload_n 0, 1, 0, 0, .null), (.iconst 4, 1, 0, 0, .int 4)] 180 (.newarray .int) 2 = true := by decide +kernel
theorem b_X11_init_182_182 : bl2 mX11_init 182 [] 182 (.putfield 77) 3 = true := by decide +kernel
theorem b_X11_init_185_189 : bl2 mX11_init 185 [(.aload_n 0, 1, 0, 0, .null), (.sipush 240, 3, 0, 0, .int 240)] 189 (.newarray .int) 2 = true := by decide +kernel
theorem b_X11_init_191_191 : bl2 mX11_init 191 [] 191 (.putfield 80) 3 = true := by decide +kernel
theorem b_X11_init_194_197 : bl2 mX11_init 194 [(.aload_n 0, 1, 0, 0, .null), (.bipush 60, 2, 0, 0, .int 60)] 197 (.newarray .int) 2 = true := by decide +kernel
theorem b_X11_init_199_199 : bl2 mX11_init 199 [] 199 (.putfield 83) 3 = true := by decide +kernel
theorem b_X11_init_202_209 : bl2 mX11_init 202 [(.aload_n 0, 1, 0, 0, .null), (.getfield 16, 3, 11, 2, .null), (.iconst 0, 1, 0, 0, .int 0), (.bipush 22, 2, 0, 0, .int 22)] 209 (.iastore) 1 = true := by decide +kernel
theorem b_X11_init_210_217 : bl2 mX11_init 210 [(.aload_n 0, 1, 0, 0, .null), (.getfield 16, 3, 11, 2, .null), (.iconst 1, 1, 0, 0, .int 1), (.bipush 18, 2, 0, 0, .int 18)] 217 (.iastore) 1 = true := by decide +kernel
theorem b_X11_init_218_224 : bl2 mX11_init 218 [(.aload_n 0, 1, 0, 0, .null), (.getfield 16, 3, 11, 2, .null), (.iconst 2, 1, 0, 0, .int 2), (.iconst 2, 1, 0, 0, .int 2)] 224 (.iastore) 1 = true := by decide +kernel
theorem b_X11_init_225_225 : bl2 mX11_init 225 [] 225 (.return_) 1 = true := by decide +kernel
set_option maxRecDepth 20000 in
set_option maxHeartbeats 1000000 in
theorem ct_48 (E : EE) (L : Nat) (S : FF) (G : GG) (hG : ∀ a, 48 ≤ a → a < 74 → G a = gl (F00 S) a) : Ev E 3 mX11_init [.ref 48] (tk L 49) (gset G 48 (dfl 11)) 25 3769 (QC L 74 G) := by
  refine Ev.of okX11_init.2.2.1 (Nat.le_of_ble_eq_true rfl) ?_
  show Rn E mX11_init 3 25 3769 0 0 0 [some (.ref 48)] [] _ _ _
  refine Rn.B (ls2 := [some (.ref 48)]) (st2 := [.ref 48]) b_X11_init_0_1 rfl (fun hd => ?_)
  refine Rn.objI hd oi_11_1 (Nat.le_of_ble_eq_true rfl) (Nat.le_of_ble_eq_true rfl) ?_
  refine Rn.B (ls2 := [some (.ref 48)]) (st2 := [.int 2, .ref 48]) b_X11_init_4_6 rfl (fun hd => ?_)
  refine Rn.newz (ty := .int) (N := 2) 49 hd rfl (Or.inl rfl) rfl (by decide) rfl rfl (Nat.le_of_ble_eq_true rfl) (Nat.le_of_ble_eq_true rfl) ((hG 49 (by decide) (by decide)).trans rfl) ?_
  refine Rn.B (ls2 := [some (.ref 48)]) (st2 := [.ref 49, .ref 48]) b_X11_init_8_8 rfl (fun hd => ?_)
  refine Rn.putFT (a := 11) (b := 0) hd (by decide) (fun r hr => by cases hr; exact ⟨rfl, rfl⟩) (fun r hr => by cases hr; exact gd 856 rfl rfl) rfl rfl (Or.inr ⟨_, rfl⟩) ?_
  refine Rn.B (ls2 := [some (.ref 48)]) (st2 := [.int 180, .ref 48]) b_X11_init_11_15 rfl (fun hd => ?_)
  refine Rn.newz (ty := .int) (N := 180) 50 hd rfl (Or.inl rfl) rfl (by decide) rfl rfl (Nat.le_of_ble_eq_true rfl) (Nat.le_of_ble_eq_true rfl) ((hG 50 (by decide) (by decide)).trans rfl) ?_
  refine Rn.B (ls2 := [some (.ref 48)]) (st2 := [.ref 50, .ref 48]) b_X11_init_17_17 rfl (fun hd => ?_)
  refine Rn.putFT (a := 11) (b := 1) hd (by decide) (fun r hr => by cases hr; exact ⟨rfl, rfl⟩) (fun r hr => by cases hr; exact gd 857 rfl rfl) rfl rfl (Or.inr ⟨_, rfl⟩) ?_
  refine Rn.B (ls2 := [some (.ref 48)]) (st2 := [.int 3, .ref 48]) b_X11_init_20_22 rfl (fun hd => ?_)
  refine Rn.newI (ty := .int) (N := 3) 51 hd rfl (Or.inl rfl) rfl (by decide) rfl rfl (Nat.le_of_ble_eq_true rfl) (Nat.le_of_ble_eq_true rfl) (by decide) ?_
  refine Rn.B (ls2 := [some (.ref 48)]) (st2 := [.ref 51, .ref 48]) b_X11_init_24_24 rfl (fun hd => ?_)
  refine Rn.putFT (a := 11) (b := 2) hd (by decide) (fun r hr => by cases hr; exact ⟨rfl, rfl⟩) (fun r hr => by cases hr; exact gd 858 rfl rfl) rfl rfl (Or.inr ⟨_, rfl⟩) ?_
  refine Rn.B (ls2 := [some (.ref 48)]) (st2 := [.int 11, .ref 48]) b_X11_init_27_30 rfl (fun hd => ?_)
  refine Rn.newz (ty := .int) (N := 11) 52 hd rfl (Or.inl rfl) rfl (by decide) rfl rfl (Nat.le_of_ble_eq_true rfl) (Nat.le_of_ble_eq_true rfl) ((hG 52 (by decide) (by decide)).trans rfl) ?_
  refine Rn.B (ls2 := [some (.ref 48)]) (st2 := [.ref 52, .ref 48]) b_X11_init_32_32 rfl (fun hd => ?_)
  refine Rn.putFT (a := 11) (b := 4) hd (by decide) (fun r hr => by cases hr; exact ⟨rfl, rfl⟩) (fun r hr => by cases hr; exact gd 860 rfl rfl) rfl rfl (Or.inr ⟨_, rfl⟩) ?_
  refine Rn.B (ls2 := [some (.ref 48)]) (st2 := [.int 11, .ref 48]) b_X11_init_35_38 rfl (fun hd => ?_)
  refine Rn.newz (ty := .int) (N := 11) 53 hd rfl (Or.inl rfl) rfl (by decide) rfl rfl (Nat.le_of_ble_eq_true rfl) (Nat.le_of_ble_eq_true rfl) ((hG 53 (by decide) (by decide)).trans rfl) ?_
  refine Rn.B (ls2 := [some (.ref 48)]) (st2 := [.ref 53, .ref 48]) b_X11_init_40_40 rfl (fun hd => ?_)
  refine Rn.putFT (a := 11) (b := 5) hd (by decide) (fun r hr => by cases hr; exact ⟨rfl, rfl⟩) (fun r hr => by cases hr; exact gd 861 rfl rfl) rfl rfl (Or.inr ⟨_, rfl⟩) ?_
  refine Rn.B (ls2 := [some (.ref 48)]) (st2 := [.int 11, .ref 48]) b_X11_init_43_46 rfl (fun hd => ?_)
  refine Rn.newz (ty := .int) (N := 11) 54 hd rfl (Or.inl rfl) rfl (by decide) rfl rfl (Nat.le_of_ble_eq_true rfl) (Nat.le_of_ble_eq_true rfl) ((hG 54 (by decide) (by decide)).trans rfl) ?_
  refine Rn.B (ls2 := [some (.ref 48)]) (st2 := [.ref 54, .ref 48]) b_X11_init_48_48 rfl (fun hd => ?_)
  refine Rn.putFT (a := 11) (b := 6) hd (by decide) (fun r hr => by cases hr; exact ⟨rfl, rfl⟩) (fun r hr => by cases hr; exact gd 862 rfl rfl) rfl rfl (Or.inr ⟨_, rfl⟩) ?_
  refine Rn.B (ls2 := [some (.ref 48)]) (st2 := [.int 11, .ref 48]) b_X11_init_51_54 rfl (fun hd => ?_)
  refine Rn.newz (ty := .int) (N := 11) 55 hd rfl (Or.inl rfl) rfl (by decide) rfl rfl (Nat.le_of_ble_eq_true rfl) (Nat.le_of_ble_eq_true rfl) ((hG 55 (by decide) (by decide)).trans rfl) ?_
  refine Rn.B (ls2 := [some (.ref 48)]) (st2 := [.ref 55, .ref 48]) b_X11_init_56_56 rfl (fun hd => ?_)
  refine Rn.putFT (a := 11) (b := 7) hd (by decide) (fun r hr => by cases hr; exact ⟨rfl, rfl⟩) (fun r hr => by cases hr; exact gd 863 rfl rfl) rfl rfl (Or.inr ⟨_, rfl⟩) ?_
  refine Rn.B (ls2 := [some (.ref 48)]) (st2 := [.int 11, .ref 48]) b_X11_init_59_62 rfl (fun hd => ?_)
  refine Rn.newz (ty := .int) (N := 11) 56 hd rfl (Or.inl rfl) rfl (by decide) rfl rfl (Nat.le_of_ble_eq_true rfl) (Nat.le_of_ble_eq_true rfl) ((hG 56 (by decide) (by decide)).trans rfl) ?_
  refine Rn.B (ls2 := [some (.ref 48)]) (st2 := [.ref 56, .ref 48]) b_X11_init_64_64 rfl (fun hd => ?_)
  refine Rn.putFT (a := 11) (b := 8) hd (by decide) (fun r hr => by cases hr; exact ⟨rfl, rfl⟩) (fun r hr => by cases hr; exact gd 864 rfl rfl) rfl rfl (Or.inr ⟨_, rfl⟩) ?_
  refine Rn.B (ls2 := [some (.ref 48)]) (st2 := [.int 11, .ref 48]) b_X11_init_67_70 rfl (fun hd => ?_)
  refine Rn.newz (ty := .int) (N := 11) 57 hd rfl (Or.inl rfl) rfl (by decide) rfl rfl (Nat.le_of_ble_eq_true rfl) (Nat.le_of_ble_eq_true rfl) ((hG 57 (by decide) (by decide)).trans rfl) ?_
  refine Rn.B (ls2 := [some (.ref 48)]) (st2 := [.ref 57, .ref 48]) b_X11_init_72_72 rfl (fun hd => ?_)
  refine Rn.putFT (a := 11) (b := 9) hd (by decide) (fun r hr => by cases hr; exact ⟨rfl, rfl⟩) (fun r hr => by cases hr; exact gd 865 rfl rfl) rfl rfl (Or.inr ⟨_, rfl⟩) ?_
  refine Rn.B (ls2 := [some (.ref 48)]) (st2 := [.int 32, .ref 48]) b_X11_init_75_78 rfl (fun hd => ?_)
  refine Rn.newz (ty := .int) (N := 32) 58 hd rfl (Or.inl rfl) rfl (by decide) rfl rfl (Nat.le_of_ble_eq_true rfl) (Nat.le_of_ble_eq_true rfl) ((hG 58 (by decide) (by decide)).trans rfl) ?_
  refine Rn.B (ls2 := [some (.ref 48)]) (st2 := [.ref 58, .ref 48]) b_X11_init_80_80 rfl (fun hd => ?_)
  refine Rn.putFT (a := 11) (b := 11) hd (by decide) (fun r hr => by cases hr; exact ⟨rfl, rfl⟩) (fun r hr => by cases hr; exact gd 867 rfl rfl) rfl rfl (Or.inr ⟨_, rfl⟩) ?_
  refine Rn.B (ls2 := [some (.ref 48)]) (st2 := [.int 32, .ref 48]) b_X11_init_83_86 rfl (fun hd => ?_)
  refine Rn.newz (ty := .int) (N := 32) 59 hd rfl (Or.inl rfl) rfl (by decide) rfl rfl (Nat.le_of_ble_eq_true rfl) (Nat.le_of_ble_eq_true rfl) ((hG 59 (by decide) (by decide)).trans rfl) ?_
  refine Rn.B (ls2 := [some (.ref 48)]) (st2 := [.ref 59, .ref 48]) b_X11_init_88_88 rfl (fun hd => ?_)
  refine Rn.putFT (a := 11) (b := 12) hd (by decide) (fun r hr => by cases hr; exact ⟨rfl, rfl⟩) (fun r hr => by cases hr; exact gd 868 rfl rfl) rfl rfl (Or.inr ⟨_, rfl⟩) ?_
  refine Rn.B (ls2 := [some (.ref 48)]) (st2 := [.int 32, .ref 48]) b_X11_init_91_94 rfl (fun hd => ?_)
  refine Rn.newz (ty := .int) (N := 32) 60 hd rfl (Or.inl rfl) rfl (by decide) rfl rfl (Nat.le_of_ble_eq_true rfl) (Nat.le_of_ble_eq_true rfl) ((hG 60 (by decide) (by decide)).trans rfl) ?_
  refine Rn.B (ls2 := [some (.ref 48)]) (st2 := [.ref 60, .ref 48]) b_X11_init_96_96 rfl (fun hd => ?_)
  refine Rn.putFT (a := 11) (b := 13) hd (by decide) (fun r hr => by cases hr; exact ⟨rfl, rfl⟩) (fun r hr => by cases hr; exact gd 869 rfl rfl) rfl rfl (Or.inr ⟨_, rfl⟩) ?_
  refine Rn.B (ls2 := [some (.ref 48)]) (st2 := [.int 1024, .ref 48]) b_X11_init_99_103 rfl (fun hd => ?_)
  refine Rn.newz (ty := .int) (N := 1024) 61 hd rfl (Or.inl rfl) rfl (by decide) rfl rfl (Nat.le_of_ble_eq_true rfl) (Nat.le_of_ble_eq_true rfl) ((hG 61 (by decide) (by decide)).trans rfl) ?_
  refine Rn.B (ls2 := [some (.ref 48)]) (st2 := [.ref 61, .ref 48]) b_X11_init_105_105 rfl (fun hd => ?_)
  refine Rn.putFT (a := 11) (b := 14) hd (by decide) (fun r hr => by cases hr; exact ⟨rfl, rfl⟩) (fun r hr => by cases hr; exact gd 870 rfl rfl) rfl rfl (Or.inr ⟨_, rfl⟩) ?_
  refine Rn.B (ls2 := [some (.ref 48)]) (st2 := [.int 11, .ref 48]) b_X11_init_108_111 rfl (fun hd => ?_)
  refine Rn.newz (ty := .int) (N := 11) 62 hd rfl (Or.inl rfl) rfl (by decide) rfl rfl (Nat.le_of_ble_eq_true rfl) (Nat.le_of_ble_eq_true rfl) ((hG 62 (by decide) (by decide)).trans rfl) ?_
  refine Rn.B (ls2 := [some (.ref 48)]) (st2 := [.ref 62, .ref 48]) b_X11_init_113_113 rfl (fun hd => ?_)
  refine Rn.putFT (a := 11) (b := 15) hd (by decide) (fun r hr => by cases hr; exact ⟨rfl, rfl⟩) (fun r hr => by cases hr; exact gd 871 rfl rfl) rfl rfl (Or.inr ⟨_, rfl⟩) ?_
  refine Rn.B (ls2 := [some (.ref 48)]) (st2 := [.int 1024, .ref 48]) b_X11_init_116_120 rfl (fun hd => ?_)
  refine Rn.newz (ty := .int) (N := 1024) 63 hd rfl (Or.inl rfl) rfl (by decide) rfl rfl (Nat.le_of_ble_eq_true rfl) (Nat.le_of_ble_eq_true rfl) ((hG 63 (by decide) (by decide)).trans rfl) ?_
  refine Rn.B (ls2 := [some (.ref 48)]) (st2 := [.ref 63, .ref 48]) b_X11_init_122_122 rfl (fun hd => ?_)
  refine Rn.putFT (a := 11) (b := 19) hd (by decide) (fun r hr => by cases hr; exact ⟨rfl, rfl⟩) (fun r hr => by cases hr; exact gd 875 rfl rfl) rfl rfl (Or.inr ⟨_, rfl⟩) ?_
  refine Rn.B (ls2 := [some (.ref 48)]) (st2 := [.int 1024, .ref 48]) b_X11_init_125_129 rfl (fun hd => ?_)
  refine Rn.newz (ty := .int) (N := 1024) 64 hd rfl (Or.inl rfl) rfl (by decide) rfl rfl (Nat.le_of_ble_eq_true rfl) (Nat.le_of_ble_eq_true rfl) ((hG 64 (by decide) (by decide)).trans rfl) ?_
  refine Rn.B (ls2 := [some (.ref 48)]) (st2 := [.ref 64, .ref 48]) b_X11_init_131_131 rfl (fun hd => ?_)
  refine Rn.putFT (a := 11) (b := 20) hd (by decide) (fun r hr => by cases hr; exact ⟨rfl, rfl⟩) (fun r hr => by cases hr; exact gd 876 rfl rfl) rfl rfl (Or.inr ⟨_, rfl⟩) ?_
  refine Rn.B (ls2 := [some (.ref 48)]) (st2 := [.int 8, .ref 48]) b_X11_init_134_137 rfl (fun hd => ?_)
  refine Rn.newz (ty := .int) (N := 8) 65 hd rfl (Or.inl rfl) rfl (by decide) rfl rfl (Nat.le_of_ble_eq_true rfl) (Nat.le_of_ble_eq_true rfl) ((hG 65 (by decide) (by decide)).trans rfl) ?_
  refine Rn.B (ls2 := [some (.ref 48)]) (st2 := [.ref 65, .ref 48]) b_X11_init_139_139 rfl (fun hd => ?_)
  refine Rn.putFT (a := 11) (b := 22) hd (by decide) (fun r hr => by cases hr; exact ⟨rfl, rfl⟩) (fun r hr => by cases hr; exact gd 878 rfl rfl) rfl rfl (Or.inr ⟨_, rfl⟩) ?_
  refine Rn.B (ls2 := [some (.ref 48)]) (st2 := [.int 11, .ref 48]) b_X11_init_142_145 rfl (fun hd => ?_)
  refine Rn.newz (ty := .int) (N := 11) 66 hd rfl (Or.inl rfl) rfl (by decide) rfl rfl (Nat.le_of_ble_eq_true rfl) (Nat.le_of_ble_eq_true rfl) ((hG 66 (by decide) (by decide)).trans rfl) ?_
  refine Rn.B (ls2 := [some (.ref 48)]) (st2 := [.ref 66, .ref 48]) b_X11_init_147_147 rfl (fun hd => ?_)
  refine Rn.putFT (a := 11) (b := 23) hd (by decide) (fun r hr => by cases hr; exact ⟨rfl, rfl⟩) (fun r hr => by cases hr; exact gd 879 rfl rfl) rfl rfl (Or.inr ⟨_, rfl⟩) ?_
  refine Rn.B (ls2 := [some (.ref 48)]) (st2 := [.int 4, .ref 48]) b_X11_init_150_152 rfl (fun hd => ?_)
  refine Rn.newz (ty := .int) (N := 4) 67 hd rfl (Or.inl rfl) rfl (by decide) rfl rfl (Nat.le_of_ble_eq_true rfl) (Nat.le_of_ble_eq_true rfl) ((hG 67 (by decide) (by decide)).trans rfl) ?_
  refine Rn.B (ls2 := [some (.ref 48)]) (st2 := [.ref 67, .ref 48]) b_X11_init_154_154 rfl (fun hd => ?_)
  refine Rn.putFT (a := 11) (b := 24) hd (by decide) (fun r hr => by cases hr; exact ⟨rfl, rfl⟩) (fun r hr => by cases hr; exact gd 880 rfl rfl) rfl rfl (Or.inr ⟨_, rfl⟩) ?_
  refine Rn.B (ls2 := [some (.ref 48)]) (st2 := [.int 4, .ref 48]) b_X11_init_157_159 rfl (fun hd => ?_)
  refine Rn.newz (ty := .int) (N := 4) 68 hd rfl (Or.inl rfl) rfl (by decide) rfl rfl (Nat.le_of_ble_eq_true rfl) (Nat.le_of_ble_eq_true rfl) ((hG 68 (by decide) (by decide)).trans rfl) ?_
  refine Rn.B (ls2 := [some (.ref 48)]) (st2 := [.ref 68, .ref 48]) b_X11_init_161_161 rfl (fun hd => ?_)
  refine Rn.putFT (a := 11) (b := 25) hd (by decide) (fun r hr => by cases hr; exact ⟨rfl, rfl⟩) (fun r hr => by cases hr; exact gd 881 rfl rfl) rfl rfl (Or.inr ⟨_, rfl⟩) ?_
  refine Rn.B (ls2 := [some (.ref 48)]) (st2 := [.int 4, .ref 48]) b_X11_init_164_166 rfl (fun hd => ?_)
  refine Rn.newz (ty := .boolean) (N := 4) 69 hd rfl (Or.inr rfl) rfl (by decide) rfl rfl (Nat.le_of_ble_eq_true rfl) (Nat.le_of_ble_eq_true rfl) ((hG 69 (by decide) (by decide)).trans rfl) ?_
  refine Rn.B (ls2 := [some (.ref 48)]) (st2 := [.ref 69, .ref 48]) b_X11_init_168_168 rfl (fun hd => ?_)
  refine Rn.putFT (a := 11) (b := 26) hd (by decide) (fun r hr => by cases hr; exact ⟨rfl, rfl⟩) (fun r hr => by cases hr; exact gd 882 rfl rfl) rfl rfl (Or.inr ⟨_, rfl⟩) ?_
  refine Rn.B (ls2 := [some (.ref 48)]) (st2 := [.int 4, .ref 48]) b_X11_init_171_173 rfl (fun hd => ?_)
  refine Rn.newz (ty := .int) (N := 4) 70 hd rfl (Or.inl rfl) rfl (by decide) rfl rfl (Nat.le_of_ble_eq_true rfl) (Nat.le_of_ble_eq_true rfl) ((hG 70 (by decide) (by decide)).trans rfl) ?_
  refine Rn.B (ls2 := [some (.ref 48)]) (st2 := [.ref 70, .ref 48]) b_X11_init_175_175 rfl (fun hd => ?_)
  refine Rn.putFT (a := 11) (b := 27) hd (by decide) (fun r hr => by cases hr; exact ⟨rfl, rfl⟩) (fun r hr => by cases hr; exact gd 883 rfl rfl) rfl rfl (Or.inr ⟨_, rfl⟩) ?_
  refine Rn.B (ls2 := [some (.ref 48)]) (st2 := [.int 4, .ref 48]) b_X11_init_178_180 rfl (fun hd => ?_)
  refine Rn.newz (ty := .int) (N := 4) 71 hd rfl (Or.inl rfl) rfl (by decide) rfl rfl (Nat.le_of_ble_eq_true rfl) (Nat.le_of_ble_eq_true rfl) ((hG 71 (by decide) (by decide)).trans rfl) ?_
  refine Rn.B (ls2 := [some (.ref 48)]) (st2 := [.ref 71, .ref 48]) b_X11_init_182_182 rfl (fun hd => ?_)
  refine Rn.putFT (a := 11) (b := 28) hd (by decide) (fun r hr => by cases hr; exact ⟨rfl, rfl⟩) (fun r hr => by cases hr; exact gd 884 rfl rfl) rfl rfl (Or.inr ⟨_, rfl⟩) ?_
  refine Rn.B (ls2 := [some (.ref 48)]) (st2 := [.int 240, .ref 48]) b_X11_init_185_189 rfl (fun hd => ?_)
  refine Rn.newz (ty := .int) (N := 240) 72 hd rfl (Or.inl rfl) rfl (by decide) rfl rfl (Nat.le_of_ble_eq_true rfl) (Nat.le_of_ble_eq_true rfl) ((hG 72 (by decide) (by decide)).trans rfl) ?_
  refine Rn.B (ls2 := [some (.ref 48)]) (st2 := [.ref 72, .ref 48]) b_X11_init_191_191 rfl (fun hd => ?_)
  refine Rn.putFT (a := 11) (b := 29) hd (by decide) (fun r hr => by cases hr; exact ⟨rfl, rfl⟩) (fun r hr => by cases hr; exact gd 885 rfl rfl) rfl rfl (Or.inr ⟨_, rfl⟩) ?_
  refine Rn.B (ls2 := [some (.ref 48)]) (st2 := [.int 60, .ref 48]) b_X11_init_194_197 rfl (fun hd => ?_)
  refine Rn.newz (ty := .int) (N := 60) 73 hd rfl (Or.inl rfl) rfl (by decide) rfl rfl (Nat.le_of_ble_eq_true rfl) (Nat.le_of_ble_eq_true rfl) ((hG 73 (by decide) (by decide)).trans rfl) ?_
  refine Rn.B (ls2 := [some (.ref 48)]) (st2 := [.ref 73, .ref 48]) b_X11_init_199_199 rfl (fun hd => ?_)
  refine Rn.putFT (a := 11) (b := 30) hd (by decide) (fun r hr => by cases hr; exact ⟨rfl, rfl⟩) (fun r hr => by cases hr; exact gd 886 rfl rfl) rfl rfl (Or.inr ⟨_, rfl⟩) ?_
  refine Rn.B (ls2 := [some (.ref 48)]) (st2 := [.int 22, .int 0, .ref 51]) b_X11_init_202_209 rfl (fun hd => ?_)
  refine Rn.iastI 0 rfl hd (by decide) rfl (by decide) (by decide) (by decide) ?_
  refine Rn.B (ls2 := [some (.ref 48)]) (st2 := [.int 18, .int 1, .ref 51]) b_X11_init_210_217 rfl (fun hd => ?_)
  refine Rn.iastI 1 rfl hd (by decide) rfl (by decide) (by decide) (by decide) ?_
  refine Rn.B (ls2 := [some (.ref 48)]) (st2 := [.int 2, .int 2, .ref 51]) b_X11_init_218_224 rfl (fun hd => ?_)
  refine Rn.iastI 2 rfl hd (by decide) rfl (by decide) (by decide) (by decide) ?_
  refine Rn.B (ls2 := [some (.ref 48)]) (st2 := []) b_X11_init_225_225 rfl (fun hd => ?_)
  refine Rn.cell (G2 := (gset G 48 (upf (upf (upf (upf (upf (upf (upf (upf (upf (upf (upf (upf (upf (upf (upf (upf (upf (upf (upf (upf (upf (upf (upf (upf (upf (dfl 11) 0 (.ref 49)) 1 (.ref 50)) 2 (.ref 51)) 4 (.ref 52)) 5 (.ref 53)) 6 (.ref 54)) 7 (.ref 55)) 8 (.ref 56)) 9 (.ref 57)) 11 (.ref 58)) 12 (.ref 59)) 13 (.ref 60)) 14 (.ref 61)) 15 (.ref 62)) 19 (.ref 63)) 20 (.ref 64)) 22 (.ref 65)) 23 (.ref 66)) 24 (.ref 67)) 25 (.ref 68)) 26 (.ref 69)) 27 (.ref 70)) 28 (.ref 71)) 29 (.ref 72)) 30 (.ref 73)))) 51 (by decide) rfl (fun a ha => ?_) (fun j hj => ?_) ?_
  · by_cases hb : a = 48
    · rw [hb, gset_eq, gset_eq]
    · rw [gset_ne hb, gset_ne hb, gset_ne ha]
  · rw [gset_ne (show 51 ≠ 48 by decide), hG 51 (by decide) (by decide)]
    exact match j, hj with | 0, _ => rfl | 1, _ => rfl | 2, _ => rfl | x + 3, h => absurd (show x + 3 < 3 from h) (by omega)
  refine Rn.cell (G2 := G) 48 (by decide) rfl (fun a ha => (gset_ne ha).symm) (fun j hj => ?_) ?_
  · rw [hG 48 (by decide) (by decide)]
    exact match j, hj with | 0, _ => rfl | 1, _ => rfl | 2, _ => rfl | 3, _ => rfl | 4, _ => rfl | 5, _ => rfl | 6, _ => rfl | 7, _ => rfl | 8, _ => rfl | 9, _ => rfl | 10, _ => rfl | 11, _ => rfl | 12, _ => rfl | 13, _ => rfl | 14, _ => rfl | 15, _ => rfl | 16, _ => rfl | 17, _ => rfl | 18, _ => rfl | 19, _ => rfl | 20, _ => rfl | 21, _ => rfl | 22, _ => rfl | 23, _ => rfl | 24, _ => rfl | 25, _ => rfl | 26, _ => rfl | 27, _ => rfl | 28, _ => rfl | 29, _ => rfl | 30, _ => rfl | 31, _ => rfl | x + 32, h => absurd (show x + 32 < 32 from h) (by omega)
  exact Rn.ret (r := none) hd trivial rfl (Nat.le_of_ble_eq_true rfl) (Nat.le_of_ble_eq_true rfl) ⟨rfl, rfl, rfl⟩
