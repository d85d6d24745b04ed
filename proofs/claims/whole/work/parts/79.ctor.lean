/-! The constructors, one by one. Printed by wip/whole/gen/spec30.py. -/
theorem b_X7_init_0_1 : bl2 mX7_init 0 [(.aload_n 0, 1, 0, 0, .null)] 1 (.invokespecial 3) 3 = true := by decide +kernel
theorem b_X7_init_4_7 : bl2 mX7_init 4 [(.aload_n 0, 1, 0, 0, .null), (.iload_n 1, 1, 1, 0, .null), (.iconst 0, 1, 0, 0, .int 0)] 7 (.invokestatic 9) 3 = true := by decide +kernel
theorem b_X7_init_10_10 : bl2 mX7_init 10 [] 10 (.newarray .int) 2 = true := by decide +kernel
theorem b_X7_init_12_12 : bl2 mX7_init 12 [] 12 (.putfield 15) 3 = true := by decide +kernel
theorem b_X7_init_15_17 : bl2 mX7_init 15 [(.aload_n 0, 1, 0, 0, .null), (.iconst 0, 1, 0, 0, .int 0)] 17 (.putfield 21) 3 = true := by decide +kernel
theorem b_X7_init_20_20 : bl2 mX7_init 20 [] 20 (.return_) 1 = true := by decide +kernel
set_option maxRecDepth 20000 in
set_option maxHeartbeats 1000000 in
theorem ct_6 (E : EE) (L : Nat) (S : FF) (G : GG) (hG : ∀ a, 6 ≤ a → a < 8 → G a = gl (F00 S) a) : Ev E 2 mX7_init [.ref 6, .int 90] (tk L 7) (gset G 6 (dfl 7)) 1 90 (QC L 8 G) := by
  refine Ev.of okX7_init.2.2.1 (Nat.le_of_ble_eq_true rfl) ?_
  show Rn E mX7_init 2 1 90 0 0 0 [some (.ref 6), some (.int 90)] [] _ _ _
  refine Rn.B (ls2 := [some (.ref 6), some (.int 90)]) (st2 := [.ref 6]) b_X7_init_0_1 rfl (fun hd => ?_)
  refine Rn.objI hd oi_7_3 (Nat.le_of_ble_eq_true rfl) (Nat.le_of_ble_eq_true rfl) ?_
  refine Rn.B (ls2 := [some (.ref 6), some (.int 90)]) (st2 := [.int 0, .int 90, .ref 6]) b_X7_init_4_7 rfl (fun hd => ?_)
  refine Rn.mmax hd ma_7_9 (Nat.le_of_ble_eq_true rfl) (Nat.le_of_ble_eq_true rfl) (Nat.le_of_ble_eq_true rfl) (Nat.le_of_ble_eq_true rfl) ?_
  refine Rn.B (ls2 := [some (.ref 6), some (.int 90)]) (st2 := [.int (if 90 < 0 then 0 else 90), .ref 6]) b_X7_init_10_10 rfl (fun hd => ?_)
  refine Rn.newz (ty := .int) (N := 90) 7 hd rfl (Or.inl rfl) (by decide) (by decide) rfl rfl (Nat.le_of_ble_eq_true rfl) (Nat.le_of_ble_eq_true rfl) ((hG 7 (by decide) (by decide)).trans rfl) ?_
  refine Rn.B (ls2 := [some (.ref 6), some (.int 90)]) (st2 := [.ref 7, .ref 6]) b_X7_init_12_12 rfl (fun hd => ?_)
  refine Rn.putFT (a := 7) (b := 0) hd (by decide) (fun r hr => by cases hr; exact ⟨rfl, rfl⟩) (fun r hr => by cases hr; exact gd 99 rfl rfl) rfl rfl (Or.inr ⟨_, rfl⟩) ?_
  refine Rn.B (ls2 := [some (.ref 6), some (.int 90)]) (st2 := [.int 0, .ref 6]) b_X7_init_15_17 rfl (fun hd => ?_)
  refine Rn.putfT (a := 7) (b := 1) hd (by decide) (fun r hr => by cases hr; rfl) rfl rfl rfl ?_
  refine Rn.B (ls2 := [some (.ref 6), some (.int 90)]) (st2 := []) b_X7_init_20_20 rfl (fun hd => ?_)
  refine Rn.cell (G2 := G) 6 (by decide) rfl (fun a ha => (gset_ne ha).symm) (fun j hj => ?_) ?_
  · rw [hG 6 (by decide) (by decide)]
    exact match j, hj with | 0, _ => rfl | 1, _ => rfl | x + 2, h => absurd (show x + 2 < 2 from h) (by omega)
  exact Rn.ret (r := none) hd trivial rfl (Nat.le_of_ble_eq_true rfl) (Nat.le_of_ble_eq_true rfl) ⟨rfl, rfl, rfl⟩
set_option maxRecDepth 20000 in
set_option maxHeartbeats 1000000 in
theorem ct_8 (E : EE) (L : Nat) (S : FF) (G : GG) (hG : ∀ a, 8 ≤ a → a < 10 → G a = gl (F00 S) a) : Ev E 2 mX7_init [.ref 8, .int 60] (tk L 9) (gset G 8 (dfl 7)) 1 60 (QC L 10 G) := by
  refine Ev.of okX7_init.2.2.1 (Nat.le_of_ble_eq_true rfl) ?_
  show Rn E mX7_init 2 1 60 0 0 0 [some (.ref 8), some (.int 60)] [] _ _ _
  refine Rn.B (ls2 := [some (.ref 8), some (.int 60)]) (st2 := [.ref 8]) b_X7_init_0_1 rfl (fun hd => ?_)
  refine Rn.objI hd oi_7_3 (Nat.le_of_ble_eq_true rfl) (Nat.le_of_ble_eq_true rfl) ?_
  refine Rn.B (ls2 := [some (.ref 8), some (.int 60)]) (st2 := [.int 0, .int 60, .ref 8]) b_X7_init_4_7 rfl (fun hd => ?_)
  refine Rn.mmax hd ma_7_9 (Nat.le_of_ble_eq_true rfl) (Nat.le_of_ble_eq_true rfl) (Nat.le_of_ble_eq_true rfl) (Nat.le_of_ble_eq_true rfl) ?_
  refine Rn.B (ls2 := [some (.ref 8), some (.int 60)]) (st2 := [.int (if 60 < 0 then 0 else 60), .ref 8]) b_X7_init_10_10 rfl (fun hd => ?_)
  refine Rn.newz (ty := .int) (N := 60) 9 hd rfl (Or.inl rfl) (by decide) (by decide) rfl rfl (Nat.le_of_ble_eq_true rfl) (Nat.le_of_ble_eq_true rfl) ((hG 9 (by decide) (by decide)).trans rfl) ?_
  refine Rn.B (ls2 := [some (.ref 8), some (.int 60)]) (st2 := [.ref 9, .ref 8]) b_X7_init_12_12 rfl (fun hd => ?_)
  refine Rn.putFT (a := 7) (b := 0) hd (by decide) (fun r hr => by cases hr; exact ⟨rfl, rfl⟩) (fun r hr => by cases hr; exact gd 99 rfl rfl) rfl rfl (Or.inr ⟨_, rfl⟩) ?_
  refine Rn.B (ls2 := [some (.ref 8), some (.int 60)]) (st2 := [.int 0, .ref 8]) b_X7_init_15_17 rfl (fun hd => ?_)
  refine Rn.putfT (a := 7) (b := 1) hd (by decide) (fun r hr => by cases hr; rfl) rfl rfl rfl ?_
  refine Rn.B (ls2 := [some (.ref 8), some (.int 60)]) (st2 := []) b_X7_init_20_20 rfl (fun hd => ?_)
  refine Rn.cell (G2 := G) 8 (by decide) rfl (fun a ha => (gset_ne ha).symm) (fun j hj => ?_) ?_
  · rw [hG 8 (by decide) (by decide)]
    exact match j, hj with | 0, _ => rfl | 1, _ => rfl | x + 2, h => absurd (show x + 2 < 2 from h) (by omega)
  exact Rn.ret (r := none) hd trivial rfl (Nat.le_of_ble_eq_true rfl) (Nat.le_of_ble_eq_true rfl) ⟨rfl, rfl, rfl⟩
theorem b_X0_init_0_1 : bl2 mX0_init 0 [(.aload_n 0, 1, 0, 0, .null)] 1 (.invokespecial 3) 3 = true := by decide +kernel
theorem b_X0_init_4_7 : bl2 mX0_init 4 [(.aload_n 0, 1, 0, 0, .null), (.bipush 10, 2, 0, 0, .int 10)] 7 (.newarray .int) 2 = true := by decide +kernel
theorem b_X0_init_9_9 : bl2 mX0_init 9 [] 9 (.putfield 9) 3 = true := by decide +kernel
theorem b_X0_init_12_15 : bl2 mX0_init 12 [(.aload_n 0, 1, 0, 0, .null), (.bipush 10, 2, 0, 0, .int 10)] 15 (.newarray .int) 2 = true := by decide +kernel
theorem b_X0_init_17_17 : bl2 mX0_init 17 [] 17 (.putfield 15) 3 = true := by decide +kernel
theorem b_X0_init_20_23 : bl2 mX0_init 20 [(.aload_n 0, 1, 0, 0, .null), (.bipush 10, 2, 0, 0, .int 10)] 23 (.newarray .int) 2 = true := by decide +kernel
theorem b_X0_init_25_25 : bl2 mX0_init 25 [] 25 (.putfield 18) 3 = true := by decide +kernel
theorem b_X0_init_28_31 : bl2 mX0_init 28 [(.aload_n 0, 1, 0, 0, .null), (.bipush 10, 2, 0, 0, .int 10)] 31 (.newarray .int) 2 = true := by decide +kernel
theorem b_X0_init_33_33 : bl2 mX0_init 33 [] 33 (.putfield 21) 3 = true := by decide +kernel
theorem b_X0_init_36_39 : bl2 mX0_init 36 [(.aload_n 0, 1, 0, 0, .null), (.bipush 10, 2, 0, 0, .int 10)] 39 (.newarray .int) 2 = true := by decide +kernel
theorem b_X0_init_41_41 : bl2 mX0_init 41 [] 41 (.putfield 24) 3 = true := by decide +kernel
theorem b_X0_init_44_46 : bl2 mX0_init 44 [(.aload_n 0, 1, 0, 0, .null), (.iconst 0, 1, 0, 0, .int 0)] 46 (.putfield 27) 3 = true := by decide +kernel
theorem b_X0_init_49_51 : bl2 mX0_init 49 [(.aload_n 0, 1, 0, 0, .null), (.iconst (-1), 1, 0, 0, .int (-1))] 51 (.putfield 31) 3 = true := by decide +kernel
theorem b_X0_init_54_54 : bl2 mX0_init 54 [] 54 (.return_) 1 = true := by decide +kernel
set_option maxRecDepth 20000 in
set_option maxHeartbeats 1000000 in
theorem ct_10 (E : EE) (L : Nat) (S : FF) (G : GG) (hG : ∀ a, 10 ≤ a → a < 16 → G a = gl (F00 S) a) : Ev E 2 mX0_init [.ref 10] (tk L 11) (gset G 10 (dfl 0)) 5 50 (QC L 16 G) := by
  refine Ev.of okX0_init.2.2.1 (Nat.le_of_ble_eq_true rfl) ?_
  show Rn E mX0_init 2 5 50 0 0 0 [some (.ref 10)] [] _ _ _
  refine Rn.B (ls2 := [some (.ref 10)]) (st2 := [.ref 10]) b_X0_init_0_1 rfl (fun hd => ?_)
  refine Rn.objI hd oi_0_3 (Nat.le_of_ble_eq_true rfl) (Nat.le_of_ble_eq_true rfl) ?_
  refine Rn.B (ls2 := [some (.ref 10)]) (st2 := [.int 10, .ref 10]) b_X0_init_4_7 rfl (fun hd => ?_)
  refine Rn.newz (ty := .int) (N := 10) 11 hd rfl (Or.inl rfl) rfl (by decide) rfl rfl (Nat.le_of_ble_eq_true rfl) (Nat.le_of_ble_eq_true rfl) ((hG 11 (by decide) (by decide)).trans rfl) ?_
  refine Rn.B (ls2 := [some (.ref 10)]) (st2 := [.ref 11, .ref 10]) b_X0_init_9_9 rfl (fun hd => ?_)
  refine Rn.putFT (a := 0) (b := 0) hd (by decide) (fun r hr => by cases hr; exact ⟨rfl, rfl⟩) (fun r hr => by cases hr; exact gd 113 rfl rfl) rfl rfl (Or.inr ⟨_, rfl⟩) ?_
  refine Rn.B (ls2 := [some (.ref 10)]) (st2 := [.int 10, .ref 10]) b_X0_init_12_15 rfl (fun hd => ?_)
  refine Rn.newz (ty := .int) (N := 10) 12 hd rfl (Or.inl rfl) rfl (by decide) rfl rfl (Nat.le_of_ble_eq_true rfl) (Nat.le_of_ble_eq_true rfl) ((hG 12 (by decide) (by decide)).trans rfl) ?_
  refine Rn.B (ls2 := [some (.ref 10)]) (st2 := [.ref 12, .ref 10]) b_X0_init_17_17 rfl (fun hd => ?_)
  refine Rn.putFT (a := 0) (b := 1) hd (by decide) (fun r hr => by cases hr; exact ⟨rfl, rfl⟩) (fun r hr => by cases hr; exact gd 116 rfl rfl) rfl rfl (Or.inr ⟨_, rfl⟩) ?_
  refine Rn.B (ls2 := [some (.ref 10)]) (st2 := [.int 10, .ref 10]) b_X0_init_20_23 rfl (fun hd => ?_)
  refine Rn.newz (ty := .int) (N := 10) 13 hd rfl (Or.inl rfl) rfl (by decide) rfl rfl (Nat.le_of_ble_eq_true rfl) (Nat.le_of_ble_eq_true rfl) ((hG 13 (by decide) (by decide)).trans rfl) ?_
  refine Rn.B (ls2 := [some (.ref 10)]) (st2 := [.ref 13, .ref 10]) b_X0_init_25_25 rfl (fun hd => ?_)
  refine Rn.putFT (a := 0) (b := 2) hd (by decide) (fun r hr => by cases hr; exact ⟨rfl, rfl⟩) (fun r hr => by cases hr; exact gd 119 rfl rfl) rfl rfl (Or.inr ⟨_, rfl⟩) ?_
  refine Rn.B (ls2 := [some (.ref 10)]) (st2 := [.int 10, .ref 10]) b_X0_init_28_31 rfl (fun hd => ?_)
  refine Rn.newz (ty := .int) (N := 10) 14 hd rfl (Or.inl rfl) rfl (by decide) rfl rfl (Nat.le_of_ble_eq_true rfl) (Nat.le_of_ble_eq_true rfl) ((hG 14 (by decide) (by decide)).trans rfl) ?_
  refine Rn.B (ls2 := [some (.ref 10)]) (st2 := [.ref 14, .ref 10]) b_X0_init_33_33 rfl (fun hd => ?_)
  refine Rn.putFT (a := 0) (b := 3) hd (by decide) (fun r hr => by cases hr; exact ⟨rfl, rfl⟩) (fun r hr => by cases hr; exact gd 122 rfl rfl) rfl rfl (Or.inr ⟨_, rfl⟩) ?_
  refine Rn.B (ls2 := [some (.ref 10)]) (st2 := [.int 10, .ref 10]) b_X0_init_36_39 rfl (fun hd => ?_)
  refine Rn.newz (ty := .int) (N := 10) 15 hd rfl (Or.inl rfl) rfl (by decide) rfl rfl (Nat.le_of_ble_eq_true rfl) (Nat.le_of_ble_eq_true rfl) ((hG 15 (by decide) (by decide)).trans rfl) ?_
  refine Rn.B (ls2 := [some (.ref 10)]) (st2 := [.ref 15, .ref 10]) b_X0_init_41_41 rfl (fun hd => ?_)
  refine Rn.putFT (a := 0) (b := 4) hd (by decide) (fun r hr => by cases hr; exact ⟨rfl, rfl⟩) (fun r hr => by cases hr; exact gd 123 rfl rfl) rfl rfl (Or.inr ⟨_, rfl⟩) ?_
  refine Rn.B (ls2 := [some (.ref 10)]) (st2 := [.int 0, .ref 10]) b_X0_init_44_46 rfl (fun hd => ?_)
  refine Rn.putfT (a := 0) (b := 5) hd (by decide) (fun r hr => by cases hr; rfl) rfl rfl rfl ?_
  refine Rn.B (ls2 := [some (.ref 10)]) (st2 := [.int (-1), .ref 10]) b_X0_init_49_51 rfl (fun hd => ?_)
  refine Rn.putfT (a := 0) (b := 6) hd (by decide) (fun r hr => by cases hr; rfl) rfl rfl rfl ?_
  refine Rn.B (ls2 := [some (.ref 10)]) (st2 := []) b_X0_init_54_54 rfl (fun hd => ?_)
  refine Rn.cell (G2 := G) 10 (by decide) rfl (fun a ha => (gset_ne ha).symm) (fun j hj => ?_) ?_
  · rw [hG 10 (by decide) (by decide)]
    exact match j, hj with | 0, _ => rfl | 1, _ => rfl | 2, _ => rfl | 3, _ => rfl | 4, _ => rfl | 5, _ => rfl | 6, _ => rfl | x + 7, h => absurd (show x + 7 < 7 from h) (by omega)
  exact Rn.ret (r := none) hd trivial rfl (Nat.le_of_ble_eq_true rfl) (Nat.le_of_ble_eq_true rfl) ⟨rfl, rfl, rfl⟩
theorem b_X2_init_0_1 : bl2 mX2_init 0 [(.aload_n 0, 1, 0, 0, .null)] 1 (.invokespecial 3) 3 = true := by decide +kernel
theorem b_X2_init_4_6 : bl2 mX2_init 4 [(.aload_n 0, 1, 0, 0, .null), (.iconst 3, 1, 0, 0, .int 3)] 6 (.newarray .int) 2 = true := by decide +kernel
theorem b_X2_init_8_12 : bl2 mX2_init 8 [(.dup, 1, 0, 0, .null), (.iconst 0, 1, 0, 0, .int 0), (.bipush 22, 2, 0, 0, .int 22)] 12 (.iastore) 1 = true := by decide +kernel
theorem b_X2_init_13_17 : bl2 mX2_init 13 [(.dup, 1, 0, 0, .null), (.iconst 1, 1, 0, 0, .int 1), (.bipush 18, 2, 0, 0, .int 18)] 17 (.iastore) 1 = true := by decide +kernel
theorem b_X2_init_18_21 : bl2 mX2_init 18 [(.dup, 1, 0, 0, .null), (.iconst 2, 1, 0, 0, .int 2), (.iconst 2, 1, 0, 0, .int 2)] 21 (.iastore) 1 = true := by decide +kernel
theorem b_X2_init_22_22 : bl2 mX2_init 22 [] 22 (.putfield 9) 3 = true := by decide +kernel
theorem b_X2_init_25_27 : bl2 mX2_init 25 [(.aload_n 0, 1, 0, 0, .null), (.aload_n 1, 1, 1, 0, .null)] 27 (.putfield 15) 3 = true := by decide +kernel
theorem b_X2_init_30_30 : bl2 mX2_init 30 [] 30 (.return_) 1 = true := by decide +kernel
set_option maxRecDepth 20000 in
set_option maxHeartbeats 1000000 in
theorem ct_16 (E : EE) (L : Nat) (S : FF) (G : GG) (hG : ∀ a, 16 ≤ a → a < 18 → G a = gl (F00 S) a) : Ev E 2 mX2_init [.ref 16, .ref 10] (tk L 17) (gset G 16 (dfl 2)) 1 3 (QC L 18 G) := by
  refine Ev.of okX2_init.2.2.1 (Nat.le_of_ble_eq_true rfl) ?_
  show Rn E mX2_init 2 1 3 0 0 0 [some (.ref 16), some (.ref 10)] [] _ _ _
  refine Rn.B (ls2 := [some (.ref 16), some (.ref 10)]) (st2 := [.ref 16]) b_X2_init_0_1 rfl (fun hd => ?_)
  refine Rn.objI hd oi_2_3 (Nat.le_of_ble_eq_true rfl) (Nat.le_of_ble_eq_true rfl) ?_
  refine Rn.B (ls2 := [some (.ref 16), some (.ref 10)]) (st2 := [.int 3, .ref 16]) b_X2_init_4_6 rfl (fun hd => ?_)
  refine Rn.newI (ty := .int) (N := 3) 17 hd rfl (Or.inl rfl) rfl (by decide) rfl rfl (Nat.le_of_ble_eq_true rfl) (Nat.le_of_ble_eq_true rfl) (by decide) ?_
  refine Rn.B (ls2 := [some (.ref 16), some (.ref 10)]) (st2 := [.int 22, .int 0, .ref 17, .ref 17, .ref 16]) b_X2_init_8_12 rfl (fun hd => ?_)
  refine Rn.iastI 0 rfl hd (by decide) rfl (by decide) (by decide) (by decide) ?_
  refine Rn.B (ls2 := [some (.ref 16), some (.ref 10)]) (st2 := [.int 18, .int 1, .ref 17, .ref 17, .ref 16]) b_X2_init_13_17 rfl (fun hd => ?_)
  refine Rn.iastI 1 rfl hd (by decide) rfl (by decide) (by decide) (by decide) ?_
  refine Rn.B (ls2 := [some (.ref 16), some (.ref 10)]) (st2 := [.int 2, .int 2, .ref 17, .ref 17, .ref 16]) b_X2_init_18_21 rfl (fun hd => ?_)
  refine Rn.iastI 2 rfl hd (by decide) rfl (by decide) (by decide) (by decide) ?_
  refine Rn.B (ls2 := [some (.ref 16), some (.ref 10)]) (st2 := [.ref 17, .ref 16]) b_X2_init_22_22 rfl (fun hd => ?_)
  refine Rn.putFT (a := 2) (b := 1) hd (by decide) (fun r hr => by cases hr; exact ⟨rfl, rfl⟩) (fun r hr => by cases hr; exact gd 164 rfl rfl) rfl rfl (Or.inr ⟨_, rfl⟩) ?_
  refine Rn.B (ls2 := [some (.ref 16), some (.ref 10)]) (st2 := [.ref 10, .ref 16]) b_X2_init_25_27 rfl (fun hd => ?_)
  refine Rn.putFT (a := 2) (b := 0) hd (by decide) (fun r hr => by cases hr; exact ⟨rfl, rfl⟩) (fun r hr => by cases hr; exact gd 159 rfl rfl) rfl rfl (Or.inl ⟨_, rfl⟩) ?_
  refine Rn.B (ls2 := [some (.ref 16), some (.ref 10)]) (st2 := []) b_X2_init_30_30 rfl (fun hd => ?_)
  refine Rn.cell (G2 := (gset G 16 (upf (upf (dfl 2) 1 (.ref 17)) 0 (.ref 10)))) 17 (by decide) rfl (fun a ha => ?_) (fun j hj => ?_) ?_
  · by_cases hb : a = 16
    · rw [hb, gset_eq, gset_eq]
    · rw [gset_ne hb, gset_ne hb, gset_ne ha]
  · rw [gset_ne (show 17 ≠ 16 by decide), hG 17 (by decide) (by decide)]
    exact match j, hj with | 0, _ => rfl | 1, _ => rfl | 2, _ => rfl | x + 3, h => absurd (show x + 3 < 3 from h) (by omega)
  refine Rn.cell (G2 := G) 16 (by decide) rfl (fun a ha => (gset_ne ha).symm) (fun j hj => ?_) ?_
  · rw [hG 16 (by decide) (by decide)]
    exact match j, hj with | 0, _ => rfl | 1, _ => rfl | x + 2, h => absurd (show x + 2 < 2 from h) (by omega)
  exact Rn.ret (r := none) hd trivial rfl (Nat.le_of_ble_eq_true rfl) (Nat.le_of_ble_eq_true rfl) ⟨rfl, rfl, rfl⟩
theorem b_X1_init_0_1 : bl2 mX1_init 0 [(.aload_n 0, 1, 0, 0, .null)] 1 (.invokespecial 3) 3 = true := by decide +kernel
theorem b_X1_init_4_7 : bl2 mX1_init 4 [(.aload_n 0, 1, 0, 0, .null), (.bipush 20, 2, 0, 0, .int 20)] 7 (.newarray .boolean) 2 = true := by decide +kernel
theorem b_X1_init_9_9 : bl2 mX1_init 9 [] 9 (.putfield 9) 3 = true := by decide +kernel
theorem b_X1_init_12_15 : bl2 mX1_init 12 [(.aload_n 0, 1, 0, 0, .null), (.bipush 20, 2, 0, 0, .int 20)] 15 (.newarray .int) 2 = true := by decide +kernel
theorem b_X1_init_17_17 : bl2 mX1_init 17 [] 17 (.putfield 15) 3 = true := by decide +kernel
theorem b_X1_init_20_23 : bl2 mX1_init 20 [(.aload_n 0, 1, 0, 0, .null), (.bipush 20, 2, 0, 0, .int 20)] 23 (.newarray .int) 2 = true := by decide +kernel
theorem b_X1_init_25_25 : bl2 mX1_init 25 [] 25 (.putfield 19) 3 = true := by decide +kernel
theorem b_X1_init_28_30 : bl2 mX1_init 28 [(.aload_n 0, 1, 0, 0, .null), (.iconst 0, 1, 0, 0, .int 0)] 30 (.putfield 22) 3 = true := by decide +kernel
theorem b_X1_init_33_35 : bl2 mX1_init 33 [(.aload_n 0, 1, 0, 0, .null), (.iconst (-1), 1, 0, 0, .int (-1))] 35 (.putfield 26) 3 = true := by decide +kernel
theorem b_X1_init_38_38 : bl2 mX1_init 38 [] 38 (.return_) 1 = true := by decide +kernel
set_option maxRecDepth 20000 in
set_option maxHeartbeats 1000000 in
theorem ct_18 (E : EE) (L : Nat) (S : FF) (G : GG) (hG : ∀ a, 18 ≤ a → a < 22 → G a = gl (F00 S) a) : Ev E 2 mX1_init [.ref 18] (tk L 19) (gset G 18 (dfl 1)) 3 60 (QC L 22 G) := by
  refine Ev.of okX1_init.2.2.1 (Nat.le_of_ble_eq_true rfl) ?_
  show Rn E mX1_init 2 3 60 0 0 0 [some (.ref 18)] [] _ _ _
  refine Rn.B (ls2 := [some (.ref 18)]) (st2 := [.ref 18]) b_X1_init_0_1 rfl (fun hd => ?_)
  refine Rn.objI hd oi_1_3 (Nat.le_of_ble_eq_true rfl) (Nat.le_of_ble_eq_true rfl) ?_
  refine Rn.B (ls2 := [some (.ref 18)]) (st2 := [.int 20, .ref 18]) b_X1_init_4_7 rfl (fun hd => ?_)
  refine Rn.newz (ty := .boolean) (N := 20) 19 hd rfl (Or.inr rfl) rfl (by decide) rfl rfl (Nat.le_of_ble_eq_true rfl) (Nat.le_of_ble_eq_true rfl) ((hG 19 (by decide) (by decide)).trans rfl) ?_
  refine Rn.B (ls2 := [some (.ref 18)]) (st2 := [.ref 19, .ref 18]) b_X1_init_9_9 rfl (fun hd => ?_)
  refine Rn.putFT (a := 1) (b := 0) hd (by decide) (fun r hr => by cases hr; exact ⟨rfl, rfl⟩) (fun r hr => by cases hr; exact gd 177 rfl rfl) rfl rfl (Or.inr ⟨_, rfl⟩) ?_
  refine Rn.B (ls2 := [some (.ref 18)]) (st2 := [.int 20, .ref 18]) b_X1_init_12_15 rfl (fun hd => ?_)
  refine Rn.newz (ty := .int) (N := 20) 20 hd rfl (Or.inl rfl) rfl (by decide) rfl rfl (Nat.le_of_ble_eq_true rfl) (Nat.le_of_ble_eq_true rfl) ((hG 20 (by decide) (by decide)).trans rfl) ?_
  refine Rn.B (ls2 := [some (.ref 18)]) (st2 := [.ref 20, .ref 18]) b_X1_init_17_17 rfl (fun hd => ?_)
  refine Rn.putFT (a := 1) (b := 1) hd (by decide) (fun r hr => by cases hr; exact ⟨rfl, rfl⟩) (fun r hr => by cases hr; exact gd 179 rfl rfl) rfl rfl (Or.inr ⟨_, rfl⟩) ?_
  refine Rn.B (ls2 := [some (.ref 18)]) (st2 := [.int 20, .ref 18]) b_X1_init_20_23 rfl (fun hd => ?_)
  refine Rn.newz (ty := .int) (N := 20) 21 hd rfl (Or.inl rfl) rfl (by decide) rfl rfl (Nat.le_of_ble_eq_true rfl) (Nat.le_of_ble_eq_true rfl) ((hG 21 (by decide) (by decide)).trans rfl) ?_
  refine Rn.B (ls2 := [some (.ref 18)]) (st2 := [.ref 21, .ref 18]) b_X1_init_25_25 rfl (fun hd => ?_)
  refine Rn.putFT (a := 1) (b := 2) hd (by decide) (fun r hr => by cases hr; exact ⟨rfl, rfl⟩) (fun r hr => by cases hr; exact gd 181 rfl rfl) rfl rfl (Or.inr ⟨_, rfl⟩) ?_
  refine Rn.B (ls2 := [some (.ref 18)]) (st2 := [.int 0, .ref 18]) b_X1_init_28_30 rfl (fun hd => ?_)
  refine Rn.putfT (a := 1) (b := 3) hd (by decide) (fun r hr => by cases hr; rfl) rfl rfl rfl ?_
  refine Rn.B (ls2 := [some (.ref 18)]) (st2 := [.int (-1), .ref 18]) b_X1_init_33_35 rfl (fun hd => ?_)
  refine Rn.putfT (a := 1) (b := 4) hd (by decide) (fun r hr => by cases hr; rfl) rfl rfl rfl ?_
  refine Rn.B (ls2 := [some (.ref 18)]) (st2 := []) b_X1_init_38_38 rfl (fun hd => ?_)
  refine Rn.cell (G2 := G) 18 (by decide) rfl (fun a ha => (gset_ne ha).symm) (fun j hj => ?_) ?_
  · rw [hG 18 (by decide) (by decide)]
    exact match j, hj with | 0, _ => rfl | 1, _ => rfl | 2, _ => rfl | 3, _ => rfl | 4, _ => rfl | x + 5, h => absurd (show x + 5 < 5 from h) (by omega)
  exact Rn.ret (r := none) hd trivial rfl (Nat.le_of_ble_eq_true rfl) (Nat.le_of_ble_eq_true rfl) ⟨rfl, rfl, rfl⟩
theorem b_X8_init_0_1 : bl2 mX8_init 0 [(.aload_n 0, 1, 0, 0, .null)] 1 (.invokespecial 3) 3 = true := by decide +kernel
theorem b_X8_init_4_7 : bl2 mX8_init 4 [(.aload_n 0, 1, 0, 0, .null), (.bipush 10, 2, 0, 0, .int 10)] 7 (.newarray .int) 2 = true := by decide +kernel
theorem b_X8_init_9_9 : bl2 mX8_init 9 [] 9 (.putfield 9) 3 = true := by decide +kernel
theorem b_X8_init_12_15 : bl2 mX8_init 12 [(.aload_n 0, 1, 0, 0, .null), (.bipush 10, 2, 0, 0, .int 10)] 15 (.newarray .boolean) 2 = true := by decide +kernel
theorem b_X8_init_17_17 : bl2 mX8_init 17 [] 17 (.putfield 15) 3 = true := by decide +kernel
theorem b_X8_init_20_22 : bl2 mX8_init 20 [(.aload_n 0, 1, 0, 0, .null), (.iconst (-1), 1, 0, 0, .int (-1))] 22 (.putfield 19) 3 = true := by decide +kernel
theorem b_X8_init_25_27 : bl2 mX8_init 25 [(.aload_n 0, 1, 0, 0, .null), (.iconst 0, 1, 0, 0, .int 0)] 27 (.putfield 23) 3 = true := by decide +kernel
theorem b_X8_init_30_32 : bl2 mX8_init 30 [(.aload_n 0, 1, 0, 0, .null), (.iconst 0, 1, 0, 0, .int 0)] 32 (.putfield 26) 3 = true := by decide +kernel
theorem b_X8_init_35_37 : bl2 mX8_init 35 [(.aload_n 0, 1, 0, 0, .null), (.aload_n 1, 1, 1, 0, .null)] 37 (.putfield 29) 3 = true := by decide +kernel
theorem b_X8_init_40_40 : bl2 mX8_init 40 [] 40 (.return_) 1 = true := by decide +kernel
set_option maxRecDepth 20000 in
set_option maxHeartbeats 1000000 in
theorem ct_22 (E : EE) (L : Nat) (S : FF) (G : GG) (hG : ∀ a, 22 ≤ a → a < 25 → G a = gl (F00 S) a) : Ev E 2 mX8_init [.ref 22, .ref 16] (tk L 23) (gset G 22 (dfl 8)) 2 20 (QC L 25 G) := by
  refine Ev.of okX8_init.2.2.1 (Nat.le_of_ble_eq_true rfl) ?_
  show Rn E mX8_init 2 2 20 0 0 0 [some (.ref 22), some (.ref 16)] [] _ _ _
  refine Rn.B (ls2 := [some (.ref 22), some (.ref 16)]) (st2 := [.ref 22]) b_X8_init_0_1 rfl (fun hd => ?_)
  refine Rn.objI hd oi_8_3 (Nat.le_of_ble_eq_true rfl) (Nat.le_of_ble_eq_true rfl) ?_
  refine Rn.B (ls2 := [some (.ref 22), some (.ref 16)]) (st2 := [.int 10, .ref 22]) b_X8_init_4_7 rfl (fun hd => ?_)
  refine Rn.newz (ty := .int) (N := 10) 23 hd rfl (Or.inl rfl) rfl (by decide) rfl rfl (Nat.le_of_ble_eq_true rfl) (Nat.le_of_ble_eq_true rfl) ((hG 23 (by decide) (by decide)).trans rfl) ?_
  refine Rn.B (ls2 := [some (.ref 22), some (.ref 16)]) (st2 := [.ref 23, .ref 22]) b_X8_init_9_9 rfl (fun hd => ?_)
  refine Rn.putFT (a := 8) (b := 1) hd (by decide) (fun r hr => by cases hr; exact ⟨rfl, rfl⟩) (fun r hr => by cases hr; exact gd 207 rfl rfl) rfl rfl (Or.inr ⟨_, rfl⟩) ?_
  refine Rn.B (ls2 := [some (.ref 22), some (.ref 16)]) (st2 := [.int 10, .ref 22]) b_X8_init_12_15 rfl (fun hd => ?_)
  refine Rn.newz (ty := .boolean) (N := 10) 24 hd rfl (Or.inr rfl) rfl (by decide) rfl rfl (Nat.le_of_ble_eq_true rfl) (Nat.le_of_ble_eq_true rfl) ((hG 24 (by decide) (by decide)).trans rfl) ?_
  refine Rn.B (ls2 := [some (.ref 22), some (.ref 16)]) (st2 := [.ref 24, .ref 22]) b_X8_init_17_17 rfl (fun hd => ?_)
  refine Rn.putFT (a := 8) (b := 2) hd (by decide) (fun r hr => by cases hr; exact ⟨rfl, rfl⟩) (fun r hr => by cases hr; exact gd 209 rfl rfl) rfl rfl (Or.inr ⟨_, rfl⟩) ?_
  refine Rn.B (ls2 := [some (.ref 22), some (.ref 16)]) (st2 := [.int (-1), .ref 22]) b_X8_init_20_22 rfl (fun hd => ?_)
  refine Rn.putfT (a := 8) (b := 3) hd (by decide) (fun r hr => by cases hr; rfl) rfl rfl rfl ?_
  refine Rn.B (ls2 := [some (.ref 22), some (.ref 16)]) (st2 := [.int 0, .ref 22]) b_X8_init_25_27 rfl (fun hd => ?_)
  refine Rn.putfT (a := 8) (b := 4) hd (by decide) (fun r hr => by cases hr; rfl) rfl rfl rfl ?_
  refine Rn.B (ls2 := [some (.ref 22), some (.ref 16)]) (st2 := [.int 0, .ref 22]) b_X8_init_30_32 rfl (fun hd => ?_)
  refine Rn.putfT (a := 8) (b := 5) hd (by decide) (fun r hr => by cases hr; rfl) rfl rfl rfl ?_
  refine Rn.B (ls2 := [some (.ref 22), some (.ref 16)]) (st2 := [.ref 16, .ref 22]) b_X8_init_35_37 rfl (fun hd => ?_)
  refine Rn.putFT (a := 8) (b := 0) hd (by decide) (fun r hr => by cases hr; exact ⟨rfl, rfl⟩) (fun r hr => by cases hr; exact gd 206 rfl rfl) rfl rfl (Or.inl ⟨_, rfl⟩) ?_
  refine Rn.B (ls2 := [some (.ref 22), some (.ref 16)]) (st2 := []) b_X8_init_40_40 rfl (fun hd => ?_)
  refine Rn.cell (G2 := G) 22 (by decide) rfl (fun a ha => (gset_ne ha).symm) (fun j hj => ?_) ?_
  · rw [hG 22 (by decide) (by decide)]
    exact match j, hj with | 0, _ => rfl | 1, _ => rfl | 2, _ => rfl | 3, _ => rfl | 4, _ => rfl | 5, _ => rfl | x + 6, h => absurd (show x + 6 < 6 from h) (by omega)
  exact Rn.ret (r := none) hd trivial rfl (Nat.le_of_ble_eq_true rfl) (Nat.le_of_ble_eq_true rfl) ⟨rfl, rfl, rfl⟩
theorem b_X3_init_0_1 : bl2 mX3_init 0 [(.aload_n 0, 1, 0, 0, .null)] 1 (.invokespecial 3) 3 = true := by decide +kernel
theorem b_X3_init_4_7 : bl2 mX3_init 4 [(.aload_n 0, 1, 0, 0, .null), (.bipush 100, 2, 0, 0, .int 100)] 7 (.newarray .boolean) 2 = true := by decide +kernel
theorem b_X3_init_9_9 : bl2 mX3_init 9 [] 9 (.putfield 9) 3 = true := by decide +kernel
theorem b_X3_init_12_15 : bl2 mX3_init 12 [(.aload_n 0, 1, 0, 0, .null), (.bipush 10, 2, 0, 0, .int 10)] 15 (.newarray .int) 2 = true := by decide +kernel
theorem b_X3_init_17_17 : bl2 mX3_init 17 [] 17 (.putfield 15) 3 = true := by decide +kernel
theorem b_X3_init_20_23 : bl2 mX3_init 20 [(.aload_n 0, 1, 0, 0, .null), (.bipush 10, 2, 0, 0, .int 10)] 23 (.newarray .int) 2 = true := by decide +kernel
theorem b_X3_init_25_25 : bl2 mX3_init 25 [] 25 (.putfield 19) 3 = true := by decide +kernel
theorem b_X3_init_28_30 : bl2 mX3_init 28 [(.aload_n 0, 1, 0, 0, .null), (.iconst 0, 1, 0, 0, .int 0)] 30 (.putfield 22) 3 = true := by decide +kernel
theorem b_X3_init_33_35 : bl2 mX3_init 33 [(.aload_n 0, 1, 0, 0, .null), (.iconst 0, 1, 0, 0, .int 0)] 35 (.putfield 26) 3 = true := by decide +kernel
theorem b_X3_init_38_40 : bl2 mX3_init 38 [(.aload_n 0, 1, 0, 0, .null), (.aload_n 1, 1, 1, 0, .null)] 40 (.putfield 29) 3 = true := by decide +kernel
theorem b_X3_init_43_43 : bl2 mX3_init 43 [] 43 (.return_) 1 = true := by decide +kernel
set_option maxRecDepth 20000 in
set_option maxHeartbeats 1000000 in
theorem ct_25 (E : EE) (L : Nat) (S : FF) (G : GG) (hG : ∀ a, 25 ≤ a → a < 29 → G a = gl (F00 S) a) : Ev E 2 mX3_init [.ref 25, .ref 16] (tk L 26) (gset G 25 (dfl 3)) 3 120 (QC L 29 G) := by
  refine Ev.of okX3_init.2.2.1 (Nat.le_of_ble_eq_true rfl) ?_
  show Rn E mX3_init 2 3 120 0 0 0 [some (.ref 25), some (.ref 16)] [] _ _ _
  refine Rn.B (ls2 := [some (.ref 25), some (.ref 16)]) (st2 := [.ref 25]) b_X3_init_0_1 rfl (fun hd => ?_)
  refine Rn.objI hd oi_3_3 (Nat.le_of_ble_eq_true rfl) (Nat.le_of_ble_eq_true rfl) ?_
  refine Rn.B (ls2 := [some (.ref 25), some (.ref 16)]) (st2 := [.int 100, .ref 25]) b_X3_init_4_7 rfl (fun hd => ?_)
  refine Rn.newz (ty := .boolean) (N := 100) 26 hd rfl (Or.inr rfl) rfl (by decide) rfl rfl (Nat.le_of_ble_eq_true rfl) (Nat.le_of_ble_eq_true rfl) ((hG 26 (by decide) (by decide)).trans rfl) ?_
  refine Rn.B (ls2 := [some (.ref 25), some (.ref 16)]) (st2 := [.ref 26, .ref 25]) b_X3_init_9_9 rfl (fun hd => ?_)
  refine Rn.putFT (a := 3) (b := 1) hd (by decide) (fun r hr => by cases hr; exact ⟨rfl, rfl⟩) (fun r hr => by cases hr; exact gd 233 rfl rfl) rfl rfl (Or.inr ⟨_, rfl⟩) ?_
  refine Rn.B (ls2 := [some (.ref 25), some (.ref 16)]) (st2 := [.int 10, .ref 25]) b_X3_init_12_15 rfl (fun hd => ?_)
  refine Rn.newz (ty := .int) (N := 10) 27 hd rfl (Or.inl rfl) rfl (by decide) rfl rfl (Nat.le_of_ble_eq_true rfl) (Nat.le_of_ble_eq_true rfl) ((hG 27 (by decide) (by decide)).trans rfl) ?_
  refine Rn.B (ls2 := [some (.ref 25), some (.ref 16)]) (st2 := [.ref 27, .ref 25]) b_X3_init_17_17 rfl (fun hd => ?_)
  refine Rn.putFT (a := 3) (b := 2) hd (by decide) (fun r hr => by cases hr; exact ⟨rfl, rfl⟩) (fun r hr => by cases hr; exact gd 234 rfl rfl) rfl rfl (Or.inr ⟨_, rfl⟩) ?_
  refine Rn.B (ls2 := [some (.ref 25), some (.ref 16)]) (st2 := [.int 10, .ref 25]) b_X3_init_20_23 rfl (fun hd => ?_)
  refine Rn.newz (ty := .int) (N := 10) 28 hd rfl (Or.inl rfl) rfl (by decide) rfl rfl (Nat.le_of_ble_eq_true rfl) (Nat.le_of_ble_eq_true rfl) ((hG 28 (by decide) (by decide)).trans rfl) ?_
  refine Rn.B (ls2 := [some (.ref 25), some (.ref 16)]) (st2 := [.ref 28, .ref 25]) b_X3_init_25_25 rfl (fun hd => ?_)
  refine Rn.putFT (a := 3) (b := 3) hd (by decide) (fun r hr => by cases hr; exact ⟨rfl, rfl⟩) (fun r hr => by cases hr; exact gd 235 rfl rfl) rfl rfl (Or.inr ⟨_, rfl⟩) ?_
  refine Rn.B (ls2 := [some (.ref 25), some (.ref 16)]) (st2 := [.int 0, .ref 25]) b_X3_init_28_30 rfl (fun hd => ?_)
  refine Rn.putfT (a := 3) (b := 4) hd (by decide) (fun r hr => by cases hr; rfl) rfl rfl rfl ?_
  refine Rn.B (ls2 := [some (.ref 25), some (.ref 16)]) (st2 := [.int 0, .ref 25]) b_X3_init_33_35 rfl (fun hd => ?_)
  refine Rn.putfT (a := 3) (b := 5) hd (by decide) (fun r hr => by cases hr; rfl) rfl rfl rfl ?_
  refine Rn.B (ls2 := [some (.ref 25), some (.ref 16)]) (st2 := [.ref 16, .ref 25]) b_X3_init_38_40 rfl (fun hd => ?_)
  refine Rn.putFT (a := 3) (b := 0) hd (by decide) (fun r hr => by cases hr; exact ⟨rfl, rfl⟩) (fun r hr => by cases hr; exact gd 232 rfl rfl) rfl rfl (Or.inl ⟨_, rfl⟩) ?_
  refine Rn.B (ls2 := [some (.ref 25), some (.ref 16)]) (st2 := []) b_X3_init_43_43 rfl (fun hd => ?_)
  refine Rn.cell (G2 := G) 25 (by decide) rfl (fun a ha => (gset_ne ha).symm) (fun j hj => ?_) ?_
  · rw [hG 25 (by decide) (by decide)]
    exact match j, hj with | 0, _ => rfl | 1, _ => rfl | 2, _ => rfl | 3, _ => rfl | 4, _ => rfl | 5, _ => rfl | x + 6, h => absurd (show x + 6 < 6 from h) (by omega)
  exact Rn.ret (r := none) hd trivial rfl (Nat.le_of_ble_eq_true rfl) (Nat.le_of_ble_eq_true rfl) ⟨rfl, rfl, rfl⟩
theorem b_X9_init_0_1 : bl2 mX9_init 0 [(.aload_n 0, 1, 0, 0, .null)] 1 (.invokespecial 3) 3 = true := by decide +kernel
theorem b_X9_init_4_7 : bl2 mX9_init 4 [(.aload_n 0, 1, 0, 0, .null), (.bipush 10, 2, 0, 0, .int 10)] 7 (.newarray .int) 2 = true := by decide +kernel
theorem b_X9_init_9_9 : bl2 mX9_init 9 [] 9 (.putfield 9) 3 = true := by decide +kernel
theorem b_X9_init_12_16 : bl2 mX9_init 12 [(.aload_n 0, 1, 0, 0, .null), (.sipush 1024, 3, 0, 0, .int 1024)] 16 (.newarray .int) 2 = true := by decide +kernel
theorem b_X9_init_18_18 : bl2 mX9_init 18 [] 18 (.putfield 15) 3 = true := by decide +kernel
theorem b_X9_init_21_25 : bl2 mX9_init 21 [(.aload_n 0, 1, 0, 0, .null), (.sipush 1024, 3, 0, 0, .int 1024)] 25 (.newarray .int) 2 = true := by decide +kernel
theorem b_X9_init_27_27 : bl2 mX9_init 27 [] 27 (.putfield 18) 3 = true := by decide +kernel
theorem b_X9_init_30_32 : bl2 mX9_init 30 [(.aload_n 0, 1, 0, 0, .null), (.iconst 0, 1, 0, 0, .int 0)] 32 (.putfield 21) 3 = true := by decide +kernel
theorem b_X9_init_35_37 : bl2 mX9_init 35 [(.aload_n 0, 1, 0, 0, .null), (.aload_n 1, 1, 1, 0, .null)] 37 (.putfield 25) 3 = true := by decide +kernel
theorem b_X9_init_40_40 : bl2 mX9_init 40 [] 40 (.return_) 1 = true := by decide +kernel
set_option maxRecDepth 20000 in
set_option maxHeartbeats 1000000 in
theorem ct_29 (E : EE) (L : Nat) (S : FF) (G : GG) (hG : ∀ a, 29 ≤ a → a < 33 → G a = gl (F00 S) a) : Ev E 2 mX9_init [.ref 29, .ref 16] (tk L 30) (gset G 29 (dfl 9)) 3 2058 (QC L 33 G) := by
  refine Ev.of okX9_init.2.2.1 (Nat.le_of_ble_eq_true rfl) ?_
  show Rn E mX9_init 2 3 2058 0 0 0 [some (.ref 29), some (.ref 16)] [] _ _ _
  refine Rn.B (ls2 := [some (.ref 29), some (.ref 16)]) (st2 := [.ref 29]) b_X9_init_0_1 rfl (fun hd => ?_)
  refine Rn.objI hd oi_9_3 (Nat.le_of_ble_eq_true rfl) (Nat.le_of_ble_eq_true rfl) ?_
  refine Rn.B (ls2 := [some (.ref 29), some (.ref 16)]) (st2 := [.int 10, .ref 29]) b_X9_init_4_7 rfl (fun hd => ?_)
  refine Rn.newz (ty := .int) (N := 10) 30 hd rfl (Or.inl rfl) rfl (by decide) rfl rfl (Nat.le_of_ble_eq_true rfl) (Nat.le_of_ble_eq_true rfl) ((hG 30 (by decide) (by decide)).trans rfl) ?_
  refine Rn.B (ls2 := [some (.ref 29), some (.ref 16)]) (st2 := [.ref 30, .ref 29]) b_X9_init_9_9 rfl (fun hd => ?_)
  refine Rn.putFT (a := 9) (b := 1) hd (by decide) (fun r hr => by cases hr; exact ⟨rfl, rfl⟩) (fun r hr => by cases hr; exact gd 261 rfl rfl) rfl rfl (Or.inr ⟨_, rfl⟩) ?_
  refine Rn.B (ls2 := [some (.ref 29), some (.ref 16)]) (st2 := [.int 1024, .ref 29]) b_X9_init_12_16 rfl (fun hd => ?_)
  refine Rn.newz (ty := .int) (N := 1024) 31 hd rfl (Or.inl rfl) rfl (by decide) rfl rfl (Nat.le_of_ble_eq_true rfl) (Nat.le_of_ble_eq_true rfl) ((hG 31 (by decide) (by decide)).trans rfl) ?_
  refine Rn.B (ls2 := [some (.ref 29), some (.ref 16)]) (st2 := [.ref 31, .ref 29]) b_X9_init_18_18 rfl (fun hd => ?_)
  refine Rn.putFT (a := 9) (b := 2) hd (by decide) (fun r hr => by cases hr; exact ⟨rfl, rfl⟩) (fun r hr => by cases hr; exact gd 262 rfl rfl) rfl rfl (Or.inr ⟨_, rfl⟩) ?_
  refine Rn.B (ls2 := [some (.ref 29), some (.ref 16)]) (st2 := [.int 1024, .ref 29]) b_X9_init_21_25 rfl (fun hd => ?_)
  refine Rn.newz (ty := .int) (N := 1024) 32 hd rfl (Or.inl rfl) rfl (by decide) rfl rfl (Nat.le_of_ble_eq_true rfl) (Nat.le_of_ble_eq_true rfl) ((hG 32 (by decide) (by decide)).trans rfl) ?_
  refine Rn.B (ls2 := [some (.ref 29), some (.ref 16)]) (st2 := [.ref 32, .ref 29]) b_X9_init_27_27 rfl (fun hd => ?_)
  refine Rn.putFT (a := 9) (b := 3) hd (by decide) (fun r hr => by cases hr; exact ⟨rfl, rfl⟩) (fun r hr => by cases hr; exact gd 263 rfl rfl) rfl rfl (Or.inr ⟨_, rfl⟩) ?_
  refine Rn.B (ls2 := [some (.ref 29), some (.ref 16)]) (st2 := [.int 0, .ref 29]) b_X9_init_30_32 rfl (fun hd => ?_)
  refine Rn.putfT (a := 9) (b := 4) hd (by decide) (fun r hr => by cases hr; rfl) rfl rfl rfl ?_
  refine Rn.B (ls2 := [some (.ref 29), some (.ref 16)]) (st2 := [.ref 16, .ref 29]) b_X9_init_35_37 rfl (fun hd => ?_)
  refine Rn.putFT (a := 9) (b := 0) hd (by decide) (fun r hr => by cases hr; exact ⟨rfl, rfl⟩) (fun r hr => by cases hr; exact gd 260 rfl rfl) rfl rfl (Or.inl ⟨_, rfl⟩) ?_
  refine Rn.B (ls2 := [some (.ref 29), some (.ref 16)]) (st2 := []) b_X9_init_40_40 rfl (fun hd => ?_)
  refine Rn.cell (G2 := G) 29 (by decide) rfl (fun a ha => (gset_ne ha).symm) (fun j hj => ?_) ?_
  · rw [hG 29 (by decide) (by decide)]
    exact match j, hj with | 0, _ => rfl | 1, _ => rfl | 2, _ => rfl | 3, _ => rfl | 4, _ => rfl | x + 5, h => absurd (show x + 5 < 5 from h) (by omega)
  exact Rn.ret (r := none) hd trivial rfl (Nat.le_of_ble_eq_true rfl) (Nat.le_of_ble_eq_true rfl) ⟨rfl, rfl, rfl⟩
theorem b_X4_init_0_1 : bl2 mX4_init 0 [(.aload_n 0, 1, 0, 0, .null)] 1 (.invokespecial 3) 3 = true := by decide +kernel
theorem b_X4_init_4_7 : bl2 mX4_init 4 [(.aload_n 0, 1, 0, 0, .null), (.bipush 8, 2, 0, 0, .int 8)] 7 (.newarray .int) 2 = true := by decide +kernel
theorem b_X4_init_9_9 : bl2 mX4_init 9 [] 9 (.putfield 9) 3 = true := by decide +kernel
theorem b_X4_init_12_14 : bl2 mX4_init 12 [(.aload_n 0, 1, 0, 0, .null), (.iconst 0, 1, 0, 0, .int 0)] 14 (.putfield 15) 3 = true := by decide +kernel
theorem b_X4_init_17_17 : bl2 mX4_init 17 [] 17 (.return_) 1 = true := by decide +kernel
set_option maxRecDepth 20000 in
set_option maxHeartbeats 1000000 in
theorem ct_33 (E : EE) (L : Nat) (S : FF) (G : GG) (hG : ∀ a, 33 ≤ a → a < 35 → G a = gl (F00 S) a) : Ev E 2 mX4_init [.ref 33] (tk L 34) (gset G 33 (dfl 4)) 1 8 (QC L 35 G) := by
  refine Ev.of okX4_init.2.2.1 (Nat.le_of_ble_eq_true rfl) ?_
  show Rn E mX4_init 2 1 8 0 0 0 [some (.ref 33)] [] _ _ _
  refine Rn.B (ls2 := [some (.ref 33)]) (st2 := [.ref 33]) b_X4_init_0_1 rfl (fun hd => ?_)
  refine Rn.objI hd oi_4_3 (Nat.le_of_ble_eq_true rfl) (Nat.le_of_ble_eq_true rfl) ?_
  refine Rn.B (ls2 := [some (.ref 33)]) (st2 := [.int 8, .ref 33]) b_X4_init_4_7 rfl (fun hd => ?_)
  refine Rn.newz (ty := .int) (N := 8) 34 hd rfl (Or.inl rfl) rfl (by decide) rfl rfl (Nat.le_of_ble_eq_true rfl) (Nat.le_of_ble_eq_true rfl) ((hG 34 (by decide) (by decide)).trans rfl) ?_
  refine Rn.B (ls2 := [some (.ref 33)]) (st2 := [.ref 34, .ref 33]) b_X4_init_9_9 rfl (fun hd => ?_)
  refine Rn.putFT (a := 4) (b := 0) hd (by decide) (fun r hr => by cases hr; exact ⟨rfl, rfl⟩) (fun r hr => by cases hr; exact gd 282 rfl rfl) rfl rfl (Or.inr ⟨_, rfl⟩) ?_
  refine Rn.B (ls2 := [some (.ref 33)]) (st2 := [.int 0, .ref 33]) b_X4_init_12_14 rfl (fun hd => ?_)
  refine Rn.putfT (a := 4) (b := 1) hd (by decide) (fun r hr => by cases hr; rfl) rfl rfl rfl ?_
  refine Rn.B (ls2 := [some (.ref 33)]) (st2 := []) b_X4_init_17_17 rfl (fun hd => ?_)
  refine Rn.cell (G2 := G) 33 (by decide) rfl (fun a ha => (gset_ne ha).symm) (fun j hj => ?_) ?_
  · rw [hG 33 (by decide) (by decide)]
    exact match j, hj with | 0, _ => rfl | 1, _ => rfl | x + 2, h => absurd (show x + 2 < 2 from h) (by omega)
  exact Rn.ret (r := none) hd trivial rfl (Nat.le_of_ble_eq_true rfl) (Nat.le_of_ble_eq_true rfl) ⟨rfl, rfl, rfl⟩
theorem b_X6_init_0_1 : bl2 mX6_init 0 [(.aload_n 0, 1, 0, 0, .null)] 1 (.invokespecial 3) 3 = true := by decide +kernel
theorem b_X6_init_4_7 : bl2 mX6_init 4 [(.aload_n 0, 1, 0, 0, .null), (.bipush 10, 2, 0, 0, .int 10)] 7 (.newarray .boolean) 2 = true := by decide +kernel
theorem b_X6_init_9_9 : bl2 mX6_init 9 [] 9 (.putfield 9) 3 = true := by decide +kernel
theorem b_X6_init_12_14 : bl2 mX6_init 12 [(.aload_n 0, 1, 0, 0, .null), (.iconst 4, 1, 0, 0, .int 4)] 14 (.newarray .int) 2 = true := by decide +kernel
theorem b_X6_init_16_16 : bl2 mX6_init 16 [] 16 (.putfield 15) 3 = true := by decide +kernel
theorem b_X6_init_19_21 : bl2 mX6_init 19 [(.aload_n 0, 1, 0, 0, .null), (.iconst 4, 1, 0, 0, .int 4)] 21 (.newarray .int) 2 = true := by decide +kernel
theorem b_X6_init_23_23 : bl2 mX6_init 23 [] 23 (.putfield 19) 3 = true := by decide +kernel
theorem b_X6_init_26_28 : bl2 mX6_init 26 [(.aload_n 0, 1, 0, 0, .null), (.iconst (-1), 1, 0, 0, .int (-1))] 28 (.putfield 22) 3 = true := by decide +kernel
theorem b_X6_init_31_33 : bl2 mX6_init 31 [(.aload_n 0, 1, 0, 0, .null), (.iconst 0, 1, 0, 0, .int 0)] 33 (.putfield 26) 3 = true := by decide +kernel
theorem b_X6_init_36_38 : bl2 mX6_init 36 [(.aload_n 0, 1, 0, 0, .null), (.aload_n 1, 1, 1, 0, .null)] 38 (.putfield 29) 3 = true := by decide +kernel
theorem b_X6_init_41_41 : bl2 mX6_init 41 [] 41 (.return_) 1 = true := by decide +kernel
set_option maxRecDepth 20000 in
set_option maxHeartbeats 1000000 in
theorem ct_35 (E : EE) (L : Nat) (S : FF) (G : GG) (hG : ∀ a, 35 ≤ a → a < 39 → G a = gl (F00 S) a) : Ev E 2 mX6_init [.ref 35, .ref 16] (tk L 36) (gset G 35 (dfl 6)) 3 18 (QC L 39 G) := by
  refine Ev.of okX6_init.2.2.1 (Nat.le_of_ble_eq_true rfl) ?_
  show Rn E mX6_init 2 3 18 0 0 0 [some (.ref 35), some (.ref 16)] [] _ _ _
  refine Rn.B (ls2 := [some (.ref 35), some (.ref 16)]) (st2 := [.ref 35]) b_X6_init_0_1 rfl (fun hd => ?_)
  refine Rn.objI hd oi_6_3 (Nat.le_of_ble_eq_true rfl) (Nat.le_of_ble_eq_true rfl) ?_
  refine Rn.B (ls2 := [some (.ref 35), some (.ref 16)]) (st2 := [.int 10, .ref 35]) b_X6_init_4_7 rfl (fun hd => ?_)
  refine Rn.newz (ty := .boolean) (N := 10) 36 hd rfl (Or.inr rfl) rfl (by decide) rfl rfl (Nat.le_of_ble_eq_true rfl) (Nat.le_of_ble_eq_true rfl) ((hG 36 (by decide) (by decide)).trans rfl) ?_
  refine Rn.B (ls2 := [some (.ref 35), some (.ref 16)]) (st2 := [.ref 36, .ref 35]) b_X6_init_9_9 rfl (fun hd => ?_)
  refine Rn.putFT (a := 6) (b := 1) hd (by decide) (fun r hr => by cases hr; exact ⟨rfl, rfl⟩) (fun r hr => by cases hr; exact gd 297 rfl rfl) rfl rfl (Or.inr ⟨_, rfl⟩) ?_
  refine Rn.B (ls2 := [some (.ref 35), some (.ref 16)]) (st2 := [.int 4, .ref 35]) b_X6_init_12_14 rfl (fun hd => ?_)
  refine Rn.newz (ty := .int) (N := 4) 37 hd rfl (Or.inl rfl) rfl (by decide) rfl rfl (Nat.le_of_ble_eq_true rfl) (Nat.le_of_ble_eq_true rfl) ((hG 37 (by decide) (by decide)).trans rfl) ?_
  refine Rn.B (ls2 := [some (.ref 35), some (.ref 16)]) (st2 := [.ref 37, .ref 35]) b_X6_init_16_16 rfl (fun hd => ?_)
  refine Rn.putFT (a := 6) (b := 2) hd (by decide) (fun r hr => by cases hr; exact ⟨rfl, rfl⟩) (fun r hr => by cases hr; exact gd 298 rfl rfl) rfl rfl (Or.inr ⟨_, rfl⟩) ?_
  refine Rn.B (ls2 := [some (.ref 35), some (.ref 16)]) (st2 := [.int 4, .ref 35]) b_X6_init_19_21 rfl (fun hd => ?_)
  refine Rn.newz (ty := .int) (N := 4) 38 hd rfl (Or.inl rfl) rfl (by decide) rfl rfl (Nat.le_of_ble_eq_true rfl) (Nat.le_of_ble_eq_true rfl) ((hG 38 (by decide) (by decide)).trans rfl) ?_
  refine Rn.B (ls2 := [some (.ref 35), some (.ref 16)]) (st2 := [.ref 38, .ref 35]) b_X6_init_23_23 rfl (fun hd => ?_)
  refine Rn.putFT (a := 6) (b := 3) hd (by decide) (fun r hr => by cases hr; exact ⟨rfl, rfl⟩) (fun r hr => by cases hr; exact gd 299 rfl rfl) rfl rfl (Or.inr ⟨_, rfl⟩) ?_
  refine Rn.B (ls2 := [some (.ref 35), some (.ref 16)]) (st2 := [.int (-1), .ref 35]) b_X6_init_26_28 rfl (fun hd => ?_)
  refine Rn.putfT (a := 6) (b := 4) hd (by decide) (fun r hr => by cases hr; rfl) rfl rfl rfl ?_
  refine Rn.B (ls2 := [some (.ref 35), some (.ref 16)]) (st2 := [.int 0, .ref 35]) b_X6_init_31_33 rfl (fun hd => ?_)
  refine Rn.putfT (a := 6) (b := 5) hd (by decide) (fun r hr => by cases hr; rfl) rfl rfl rfl ?_
  refine Rn.B (ls2 := [some (.ref 35), some (.ref 16)]) (st2 := [.ref 16, .ref 35]) b_X6_init_36_38 rfl (fun hd => ?_)
  refine Rn.putFT (a := 6) (b := 0) hd (by decide) (fun r hr => by cases hr; exact ⟨rfl, rfl⟩) (fun r hr => by cases hr; exact gd 296 rfl rfl) rfl rfl (Or.inl ⟨_, rfl⟩) ?_
  refine Rn.B (ls2 := [some (.ref 35), some (.ref 16)]) (st2 := []) b_X6_init_41_41 rfl (fun hd => ?_)
  refine Rn.cell (G2 := G) 35 (by decide) rfl (fun a ha => (gset_ne ha).symm) (fun j hj => ?_) ?_
  · rw [hG 35 (by decide) (by decide)]
    exact match j, hj with | 0, _ => rfl | 1, _ => rfl | 2, _ => rfl | 3, _ => rfl | 4, _ => rfl | 5, _ => rfl | x + 6, h => absurd (show x + 6 < 6 from h) (by omega)
  exact Rn.ret (r := none) hd trivial rfl (Nat.le_of_ble_eq_true rfl) (Nat.le_of_ble_eq_true rfl) ⟨rfl, rfl, rfl⟩
theorem b_X5_init_0_1 : bl2 mX5_init 0 [(.aload_n 0, 1, 0, 0, .null)] 1 (.invokespecial 3) 3 = true := by decide +kernel
theorem b_X5_init_4_7 : bl2 mX5_init 4 [(.aload_n 0, 1, 0, 0, .null), (.bipush 60, 2, 0, 0, .int 60)] 7 (.newarray .int) 2 = true := by decide +kernel
theorem b_X5_init_9_9 : bl2 mX5_init 9 [] 9 (.putfield 9) 3 = true := by decide +kernel
theorem b_X5_init_12_14 : bl2 mX5_init 12 [(.aload_n 0, 1, 0, 0, .null), (.iconst 1, 1, 0, 0, .int 1)] 14 (.putfield 15) 3 = true := by decide +kernel
theorem b_X5_init_17_19 : bl2 mX5_init 17 [(.aload_n 0, 1, 0, 0, .null), (.iconst 0, 1, 0, 0, .int 0)] 19 (.putfield 19) 3 = true := by decide +kernel
theorem b_X5_init_22_24 : bl2 mX5_init 22 [(.aload_n 0, 1, 0, 0, .null), (.iconst 0, 1, 0, 0, .int 0)] 24 (.putfield 23) 3 = true := by decide +kernel
theorem b_X5_init_27_27 : bl2 mX5_init 27 [] 27 (.return_) 1 = true := by decide +kernel
set_option maxRecDepth 20000 in
set_option maxHeartbeats 1000000 in
theorem ct_40 (E : EE) (L : Nat) (S : FF) (G : GG) (hG : ∀ a, 40 ≤ a → a < 42 → G a = gl (F00 S) a) : Ev E 2 mX5_init [.ref 40] (tk L 41) (gset G 40 (dfl 5)) 1 60 (QC L 42 G) := by
  refine Ev.of okX5_init.2.2.1 (Nat.le_of_ble_eq_true rfl) ?_
  show Rn E mX5_init 2 1 60 0 0 0 [some (.ref 40)] [] _ _ _
  refine Rn.B (ls2 := [some (.ref 40)]) (st2 := [.ref 40]) b_X5_init_0_1 rfl (fun hd => ?_)
  refine Rn.objI hd oi_5_3 (Nat.le_of_ble_eq_true rfl) (Nat.le_of_ble_eq_true rfl) ?_
  refine Rn.B (ls2 := [some (.ref 40)]) (st2 := [.int 60, .ref 40]) b_X5_init_4_7 rfl (fun hd => ?_)
  refine Rn.newz (ty := .int) (N := 60) 41 hd rfl (Or.inl rfl) rfl (by decide) rfl rfl (Nat.le_of_ble_eq_true rfl) (Nat.le_of_ble_eq_true rfl) ((hG 41 (by decide) (by decide)).trans rfl) ?_
  refine Rn.B (ls2 := [some (.ref 40)]) (st2 := [.ref 41, .ref 40]) b_X5_init_9_9 rfl (fun hd => ?_)
  refine Rn.putFT (a := 5) (b := 0) hd (by decide) (fun r hr => by cases hr; exact ⟨rfl, rfl⟩) (fun r hr => by cases hr; exact gd 324 rfl rfl) rfl rfl (Or.inr ⟨_, rfl⟩) ?_
  refine Rn.B (ls2 := [some (.ref 40)]) (st2 := [.int 1, .ref 40]) b_X5_init_12_14 rfl (fun hd => ?_)
  refine Rn.putfT (a := 5) (b := 1) hd (by decide) (fun r hr => by cases hr; rfl) rfl rfl rfl ?_
  refine Rn.B (ls2 := [some (.ref 40)]) (st2 := [.int 0, .ref 40]) b_X5_init_17_19 rfl (fun hd => ?_)
  refine Rn.putfT (a := 5) (b := 2) hd (by decide) (fun r hr => by cases hr; rfl) rfl rfl rfl ?_
  refine Rn.B (ls2 := [some (.ref 40)]) (st2 := [.int 0, .ref 40]) b_X5_init_22_24 rfl (fun hd => ?_)
  refine Rn.putfT (a := 5) (b := 3) hd (by decide) (fun r hr => by cases hr; rfl) rfl rfl rfl ?_
  refine Rn.B (ls2 := [some (.ref 40)]) (st2 := []) b_X5_init_27_27 rfl (fun hd => ?_)
  refine Rn.cell (G2 := G) 40 (by decide) rfl (fun a ha => (gset_ne ha).symm) (fun j hj => ?_) ?_
  · rw [hG 40 (by decide) (by decide)]
    exact match j, hj with | 0, _ => rfl | 1, _ => rfl | 2, _ => rfl | 3, _ => rfl | x + 4, h => absurd (show x + 4 < 4 from h) (by omega)
  exact Rn.ret (r := none) hd trivial rfl (Nat.le_of_ble_eq_true rfl) (Nat.le_of_ble_eq_true rfl) ⟨rfl, rfl, rfl⟩
set_option maxRecDepth 20000 in
set_option maxHeartbeats 1000000 in
theorem ct_42 (E : EE) (L : Nat) (S : FF) (G : GG) (hG : ∀ a, 42 ≤ a → a < 44 → G a = gl (F00 S) a) : Ev E 2 mX5_init [.ref 42] (tk L 43) (gset G 42 (dfl 5)) 1 60 (QC L 44 G) := by
  refine Ev.of okX5_init.2.2.1 (Nat.le_of_ble_eq_true rfl) ?_
  show Rn E mX5_init 2 1 60 0 0 0 [some (.ref 42)] [] _ _ _
  refine Rn.B (ls2 := [some (.ref 42)]) (st2 := [.ref 42]) b_X5_init_0_1 rfl (fun hd => ?_)
  refine Rn.objI hd oi_5_3 (Nat.le_of_ble_eq_true rfl) (Nat.le_of_ble_eq_true rfl) ?_
  refine Rn.B (ls2 := [some (.ref 42)]) (st2 := [.int 60, .ref 42]) b_X5_init_4_7 rfl (fun hd => ?_)
  refine Rn.newz (ty := .int) (N := 60) 43 hd rfl (Or.inl rfl) rfl (by decide) rfl rfl (Nat.le_of_ble_eq_true rfl) (Nat.le_of_ble_eq_true rfl) ((hG 43 (by decide) (by decide)).trans rfl) ?_
  refine Rn.B (ls2 := [some (.ref 42)]) (st2 := [.ref 43, .ref 42]) b_X5_init_9_9 rfl (fun hd => ?_)
  refine Rn.putFT (a := 5) (b := 0) hd (by decide) (fun r hr => by cases hr; exact ⟨rfl, rfl⟩) (fun r hr => by cases hr; exact gd 324 rfl rfl) rfl rfl (Or.inr ⟨_, rfl⟩) ?_
  refine Rn.B (ls2 := [some (.ref 42)]) (st2 := [.int 1, .ref 42]) b_X5_init_12_14 rfl (fun hd => ?_)
  refine Rn.putfT (a := 5) (b := 1) hd (by decide) (fun r hr => by cases hr; rfl) rfl rfl rfl ?_
  refine Rn.B (ls2 := [some (.ref 42)]) (st2 := [.int 0, .ref 42]) b_X5_init_17_19 rfl (fun hd => ?_)
  refine Rn.putfT (a := 5) (b := 2) hd (by decide) (fun r hr => by cases hr; rfl) rfl rfl rfl ?_
  refine Rn.B (ls2 := [some (.ref 42)]) (st2 := [.int 0, .ref 42]) b_X5_init_22_24 rfl (fun hd => ?_)
  refine Rn.putfT (a := 5) (b := 3) hd (by decide) (fun r hr => by cases hr; rfl) rfl rfl rfl ?_
  refine Rn.B (ls2 := [some (.ref 42)]) (st2 := []) b_X5_init_27_27 rfl (fun hd => ?_)
  refine Rn.cell (G2 := G) 42 (by decide) rfl (fun a ha => (gset_ne ha).symm) (fun j hj => ?_) ?_
  · rw [hG 42 (by decide) (by decide)]
    exact match j, hj with | 0, _ => rfl | 1, _ => rfl | 2, _ => rfl | 3, _ => rfl | x + 4, h => absurd (show x + 4 < 4 from h) (by omega)
  exact Rn.ret (r := none) hd trivial rfl (Nat.le_of_ble_eq_true rfl) (Nat.le_of_ble_eq_true rfl) ⟨rfl, rfl, rfl⟩
set_option maxRecDepth 20000 in
set_option maxHeartbeats 1000000 in
theorem ct_44 (E : EE) (L : Nat) (S : FF) (G : GG) (hG : ∀ a, 44 ≤ a → a < 46 → G a = gl (F00 S) a) : Ev E 2 mX5_init [.ref 44] (tk L 45) (gset G 44 (dfl 5)) 1 60 (QC L 46 G) := by
  refine Ev.of okX5_init.2.2.1 (Nat.le_of_ble_eq_true rfl) ?_
  show Rn E mX5_init 2 1 60 0 0 0 [some (.ref 44)] [] _ _ _
  refine Rn.B (ls2 := [some (.ref 44)]) (st2 := [.ref 44]) b_X5_init_0_1 rfl (fun hd => ?_)
  refine Rn.objI hd oi_5_3 (Nat.le_of_ble_eq_true rfl) (Nat.le_of_ble_eq_true rfl) ?_
  refine Rn.B (ls2 := [some (.ref 44)]) (st2 := [.int 60, .ref 44]) b_X5_init_4_7 rfl (fun hd => ?_)
  refine Rn.newz (ty := .int) (N := 60) 45 hd rfl (Or.inl rfl) rfl (by decide) rfl rfl (Nat.le_of_ble_eq_true rfl) (Nat.le_of_ble_eq_true rfl) ((hG 45 (by decide) (by decide)).trans rfl) ?_
  refine Rn.B (ls2 := [some (.ref 44)]) (st2 := [.ref 45, .ref 44]) b_X5_init_9_9 rfl (fun hd => ?_)
  refine Rn.putFT (a := 5) (b := 0) hd (by decide) (fun r hr => by cases hr; exact ⟨rfl, rfl⟩) (fun r hr => by cases hr; exact gd 324 rfl rfl) rfl rfl (Or.inr ⟨_, rfl⟩) ?_
  refine Rn.B (ls2 := [some (.ref 44)]) (st2 := [.int 1, .ref 44]) b_X5_init_12_14 rfl (fun hd => ?_)
  refine Rn.putfT (a := 5) (b := 1) hd (by decide) (fun r hr => by cases hr; rfl) rfl rfl rfl ?_
  refine Rn.B (ls2 := [some (.ref 44)]) (st2 := [.int 0, .ref 44]) b_X5_init_17_19 rfl (fun hd => ?_)
  refine Rn.putfT (a := 5) (b := 2) hd (by decide) (fun r hr => by cases hr; rfl) rfl rfl rfl ?_
  refine Rn.B (ls2 := [some (.ref 44)]) (st2 := [.int 0, .ref 44]) b_X5_init_22_24 rfl (fun hd => ?_)
  refine Rn.putfT (a := 5) (b := 3) hd (by decide) (fun r hr => by cases hr; rfl) rfl rfl rfl ?_
  refine Rn.B (ls2 := [some (.ref 44)]) (st2 := []) b_X5_init_27_27 rfl (fun hd => ?_)
  refine Rn.cell (G2 := G) 44 (by decide) rfl (fun a ha => (gset_ne ha).symm) (fun j hj => ?_) ?_
  · rw [hG 44 (by decide) (by decide)]
    exact match j, hj with | 0, _ => rfl | 1, _ => rfl | 2, _ => rfl | 3, _ => rfl | x + 4, h => absurd (show x + 4 < 4 from h) (by omega)
  exact Rn.ret (r := none) hd trivial rfl (Nat.le_of_ble_eq_true rfl) (Nat.le_of_ble_eq_true rfl) ⟨rfl, rfl, rfl⟩
set_option maxRecDepth 20000 in
set_option maxHeartbeats 1000000 in
theorem ct_46 (E : EE) (L : Nat) (S : FF) (G : GG) (hG : ∀ a, 46 ≤ a → a < 48 → G a = gl (F00 S) a) : Ev E 2 mX5_init [.ref 46] (tk L 47) (gset G 46 (dfl 5)) 1 60 (QC L 48 G) := by
  refine Ev.of okX5_init.2.2.1 (Nat.le_of_ble_eq_true rfl) ?_
  show Rn E mX5_init 2 1 60 0 0 0 [some (.ref 46)] [] _ _ _
  refine Rn.B (ls2 := [some (.ref 46)]) (st2 := [.ref 46]) b_X5_init_0_1 rfl (fun hd => ?_)
  refine Rn.objI hd oi_5_3 (Nat.le_of_ble_eq_true rfl) (Nat.le_of_ble_eq_true rfl) ?_
  refine Rn.B (ls2 := [some (.ref 46)]) (st2 := [.int 60, .ref 46]) b_X5_init_4_7 rfl (fun hd => ?_)
  refine Rn.newz (ty := .int) (N := 60) 47 hd rfl (Or.inl rfl) rfl (by decide) rfl rfl (Nat.le_of_ble_eq_true rfl) (Nat.le_of_ble_eq_true rfl) ((hG 47 (by decide) (by decide)).trans rfl) ?_
  refine Rn.B (ls2 := [some (.ref 46)]) (st2 := [.ref 47, .ref 46]) b_X5_init_9_9 rfl (fun hd => ?_)
  refine Rn.putFT (a := 5) (b := 0) hd (by decide) (fun r hr => by cases hr; exact ⟨rfl, rfl⟩) (fun r hr => by cases hr; exact gd 324 rfl rfl) rfl rfl (Or.inr ⟨_, rfl⟩) ?_
  refine Rn.B (ls2 := [some (.ref 46)]) (st2 := [.int 1, .ref 46]) b_X5_init_12_14 rfl (fun hd => ?_)
  refine Rn.putfT (a := 5) (b := 1) hd (by decide) (fun r hr => by cases hr; rfl) rfl rfl rfl ?_
  refine Rn.B (ls2 := [some (.ref 46)]) (st2 := [.int 0, .ref 46]) b_X5_init_17_19 rfl (fun hd => ?_)
  refine Rn.putfT (a := 5) (b := 2) hd (by decide) (fun r hr => by cases hr; rfl) rfl rfl rfl ?_
  refine Rn.B (ls2 := [some (.ref 46)]) (st2 := [.int 0, .ref 46]) b_X5_init_22_24 rfl (fun hd => ?_)
  refine Rn.putfT (a := 5) (b := 3) hd (by decide) (fun r hr => by cases hr; rfl) rfl rfl rfl ?_
  refine Rn.B (ls2 := [some (.ref 46)]) (st2 := []) b_X5_init_27_27 rfl (fun hd => ?_)
  refine Rn.cell (G2 := G) 46 (by decide) rfl (fun a ha => (gset_ne ha).symm) (fun j hj => ?_) ?_
  · rw [hG 46 (by decide) (by decide)]
    exact match j, hj with | 0, _ => rfl | 1, _ => rfl | 2, _ => rfl | 3, _ => rfl | x + 4, h => absurd (show x + 4 < 4 from h) (by omega)
  exact Rn.ret (r := none) hd trivial rfl (Nat.le_of_ble_eq_true rfl) (Nat.le_of_ble_eq_true rfl) ⟨rfl, rfl, rfl⟩
