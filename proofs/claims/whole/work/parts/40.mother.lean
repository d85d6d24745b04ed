theorem b_X11_otherOf_13_16 : bl2 mX11_otherOf 13 [(.iload 6, 2, 6, 0, .null), (.iload_n 2, 1, 2, 0, .null)] 16 (.if_icmp .gt 49) 3 = true := by decide +kernel
theorem b_X11_otherOf_65_66 : bl2 mX11_otherOf 65 [(.iload_n 3, 1, 3, 0, .null)] 66 (.ifCond .ne 8) 3 = true := by decide +kernel
theorem b_X11_otherOf_74_76 : bl2 mX11_otherOf 74 [(.iload 5, 2, 5, 0, .null)] 76 (.ireturn) 1 = true := by decide +kernel
theorem b_X11_otherOf_69_76 : bl2 mX11_otherOf 69 [(.iload 4, 2, 4, 0, .null), (.goto 5, 3, 76, 0, .null)] 76 (.ireturn) 1 = true := by decide +kernel
theorem b_X11_otherOf_19_22 : bl2 mX11_otherOf 19 [(.aload_n 0, 1, 0, 0, .null), (.iload 6, 2, 6, 0, .null)] 22 (.invokevirtual 179) 3 = true := by decide +kernel
theorem b_X11_otherOf_25_31 : bl2 mX11_otherOf 25 [(.istore 7, 2, 7, 0, .null), (.iload 7, 2, 7, 0, .null), (.iload 5, 2, 5, 0, .null)] 31 (.if_icmp .le 8) 3 = true := by decide +kernel
theorem b_X11_otherOf_39_47 : bl2 mX11_otherOf 39 [(.iload 4, 2, 4, 0, .null), (.istore 4, 2, 4, 0, .null), (.iload 7, 2, 7, 0, .null), (.iload 5, 2, 5, 0, .null)] 47 (.if_icmp .le 8) 3 = true := by decide +kernel
theorem b_X11_otherOf_55_13 : bl2 mX11_otherOf 55 [(.iload 5, 2, 5, 0, .null), (.istore 5, 2, 5, 0, .null), (.iinc 6 1, 3, 6, 0, .int 1), (.goto (-49), 3, 13, 0, .null)] 13 (.iload 6) 2 = true := by decide +kernel
theorem b_X11_otherOf_50_13 : bl2 mX11_otherOf 50 [(.iload 7, 2, 7, 0, .null), (.goto 5, 3, 57, 0, .null), (.istore 5, 2, 5, 0, .null), (.iinc 6 1, 3, 6, 0, .int 1), (.goto (-49), 3, 13, 0, .null)] 13 (.iload 6) 2 = true := by decide +kernel
theorem b_X11_otherOf_34_47 : bl2 mX11_otherOf 34 [(.iload 6, 2, 6, 0, .null), (.goto 5, 3, 41, 0, .null), (.istore 4, 2, 4, 0, .null), (.iload 7, 2, 7, 0, .null), (.iload 5, 2, 5, 0, .null)] 47 (.if_icmp .le 8) 3 = true := by decide +kernel
set_option maxRecDepth 20000 in
set_option maxHeartbeats 2000000 in
theorem ml_ot (E : EE) (L : Nat) (F : FF) (n : Nat) (hn : F 48 3 = nI n) (hn10 : n ≤ 10) (t : Nat) (ht : t ≤ 90) (wh : Int32) : ∀ (k : Nat) (j : Nat) (best most : Int32), j + k = t + 1 → R2 E L mX11_otherOf 6 13 [some (.ref 48), none, some (.int (nI t)), some (.int wh), some (.int best), some (.int most), some (.int (nI j)), none] [] F (fun r' F' => r' = some (.int (if wh = 0 then (brL (fun j => sumB (gMP F n (nI j)) n 0 0) k j best most).1 else (brL (fun j => sumB (gMP F n (nI j)) n 0 0) k j best most).2)) ∧ F' = F) := by
  intro k
  induction k with
  | zero =>
    intro j best most hi
    refine R2.B (ls2 := [some (.ref 48), none, some (.int (nI t)), some (.int wh), some (.int best), some (.int most), some (.int (nI j)), none]) (st2 := [.int (nI t), .int (nI j)]) b_X11_otherOf_13_16 rfl (fun hd => ?_)
    refine R2.icmp_gt 65 hd (by decide) (fun c16 => ?_) (fun c16 => absurd (nI_lt (by omega) (by omega)) c16)
    refine R2.B (ls2 := [some (.ref 48), none, some (.int (nI t)), some (.int wh), some (.int best), some (.int most), some (.int (nI j)), none]) (st2 := [.int wh]) b_X11_otherOf_65_66 rfl (fun hd => ?_)
    refine R2.if_ne 74 hd (by decide) (fun c66 => ?_) (fun c66 => ?_)
    · refine R2.B (ls2 := [some (.ref 48), none, some (.int (nI t)), some (.int wh), some (.int best), some (.int most), some (.int (nI j)), none]) (st2 := [.int most]) b_X11_otherOf_74_76 rfl (fun hd => ?_)
      exact R2.ret3 (r := some (.int most)) hd trivial rfl (congrArg (fun z => some (Value.int z)) (by clear hd; simp only [brL]; grind)) rfl
    · refine R2.B (ls2 := [some (.ref 48), none, some (.int (nI t)), some (.int wh), some (.int best), some (.int most), some (.int (nI j)), none]) (st2 := [.int best]) b_X11_otherOf_69_76 rfl (fun hd => ?_)
      exact R2.ret3 (r := some (.int best)) hd trivial rfl (congrArg (fun z => some (Value.int z)) (by clear hd; simp only [brL]; grind)) rfl
  | succ k ih =>
    intro j best most hi
    refine R2.B (ls2 := [some (.ref 48), none, some (.int (nI t)), some (.int wh), some (.int best), some (.int most), some (.int (nI j)), none]) (st2 := [.int (nI t), .int (nI j)]) b_X11_otherOf_13_16 rfl (fun hd => ?_)
    refine R2.icmp_gt 65 hd (by decide) (fun c16 => absurd c16 ((fun z => Int32.not_lt.mpr (nI_le (by omega) (by omega)) z))) (fun c16 => ?_)
    refine R2.B (ls2 := [some (.ref 48), none, some (.int (nI t)), some (.int wh), some (.int best), some (.int most), some (.int (nI j)), none]) (st2 := [.int (nI j), .ref 48]) b_X11_otherOf_19_22 rfl (fun hd => ?_)
    refine R2.callV3 (M2 := mX11_pairsBy) (As := [.int (nI j)]) (rest := []) hd lk_11_179 okX11_pairsBy (by decide) rfl (me_pairsBy E L F n hn hn10 (nI j)) (by decide) rfl rfl (Nat.le_of_ble_eq_true rfl) ?_
    refine R2.B (ls2 := [some (.ref 48), none, some (.int (nI t)), some (.int wh), some (.int best), some (.int most), some (.int (nI j)), some (.int (sumB (gMP F n (nI j)) n 0 0))]) (st2 := [.int most, .int (sumB (gMP F n (nI j)) n 0 0)]) b_X11_otherOf_25_31 rfl (fun hd => ?_)
    refine R2.icmp_le 39 hd (by decide) (fun c31 => ?_) (fun c31 => ?_)
    · refine R2.B (ls2 := [some (.ref 48), none, some (.int (nI t)), some (.int wh), some (.int best), some (.int most), some (.int (nI j)), some (.int (sumB (gMP F n (nI j)) n 0 0))]) (st2 := [.int most, .int (sumB (gMP F n (nI j)) n 0 0)]) b_X11_otherOf_39_47 rfl (fun hd => ?_)
      refine R2.icmp_le 55 hd (by decide) (fun c47 => ?_) (fun c47 => ?_)
      · refine R2.B (ls2 := [some (.ref 48), none, some (.int (nI t)), some (.int wh), some (.int best), some (.int most), some (.int ((nI j) + 1)), some (.int (sumB (gMP F n (nI j)) n 0 0))]) (st2 := []) b_X11_otherOf_55_13 rfl (fun hd => ?_)
        rw [show ((nI j) + 1 : Int32) = nI (j + 1) from nI_add j 1]
        have e : brL (fun j => sumB (gMP F n (nI j)) n 0 0) (k + 1) j best most = brL (fun j => sumB (gMP F n (nI j)) n 0 0) k (j + 1) best most := by
          simp only [brL]; rw [if_neg (Int32.not_lt.mpr c31)]
        rw [e]
        refine R2.forget (ls2 := [some (.ref 48), none, some (.int (nI t)), some (.int wh), some (.int best), some (.int most), some (.int (nI (j + 1))), none]) ⟨rfl, ⟨rfl, ⟨rfl, ⟨rfl, ⟨rfl, ⟨rfl, trivial⟩⟩⟩⟩⟩⟩ ?_
        exact ih (j + 1) _ _ (by omega)
      · refine R2.B (ls2 := [some (.ref 48), none, some (.int (nI t)), some (.int wh), some (.int best), some (.int (sumB (gMP F n (nI j)) n 0 0)), some (.int ((nI j) + 1)), some (.int (sumB (gMP F n (nI j)) n 0 0))]) (st2 := []) b_X11_otherOf_50_13 rfl (fun hd => ?_)
        rw [show ((nI j) + 1 : Int32) = nI (j + 1) from nI_add j 1]
        exact absurd c31 c47
    · refine R2.B (ls2 := [some (.ref 48), none, some (.int (nI t)), some (.int wh), some (.int (nI j)), some (.int most), some (.int (nI j)), some (.int (sumB (gMP F n (nI j)) n 0 0))]) (st2 := [.int most, .int (sumB (gMP F n (nI j)) n 0 0)]) b_X11_otherOf_34_47 rfl (fun hd => ?_)
      refine R2.icmp_le 55 hd (by decide) (fun c47 => ?_) (fun c47 => ?_)
      · refine R2.B (ls2 := [some (.ref 48), none, some (.int (nI t)), some (.int wh), some (.int (nI j)), some (.int most), some (.int ((nI j) + 1)), some (.int (sumB (gMP F n (nI j)) n 0 0))]) (st2 := []) b_X11_otherOf_55_13 rfl (fun hd => ?_)
        rw [show ((nI j) + 1 : Int32) = nI (j + 1) from nI_add j 1]
        exact absurd c47 c31
      · refine R2.B (ls2 := [some (.ref 48), none, some (.int (nI t)), some (.int wh), some (.int (nI j)), some (.int (sumB (gMP F n (nI j)) n 0 0)), some (.int ((nI j) + 1)), some (.int (sumB (gMP F n (nI j)) n 0 0))]) (st2 := []) b_X11_otherOf_50_13 rfl (fun hd => ?_)
        rw [show ((nI j) + 1 : Int32) = nI (j + 1) from nI_add j 1]
        have e : brL (fun j => sumB (gMP F n (nI j)) n 0 0) (k + 1) j best most = brL (fun j => sumB (gMP F n (nI j)) n 0 0) k (j + 1) (nI j) (sumB (gMP F n (nI j)) n 0 0) := by
          simp only [brL]; rw [if_pos (Int32.not_le.mp c31)]
        rw [e]
        refine R2.forget (ls2 := [some (.ref 48), none, some (.int (nI t)), some (.int wh), some (.int (nI j)), some (.int (sumB (gMP F n (nI j)) n 0 0)), some (.int (nI (j + 1))), none]) ⟨rfl, ⟨rfl, ⟨rfl, ⟨rfl, ⟨rfl, ⟨rfl, trivial⟩⟩⟩⟩⟩⟩ ?_
        exact ih (j + 1) _ _ (by omega)
theorem b_X11_otherOf_0_1 : bl2 mX11_otherOf 0 [(.aload_n 0, 1, 0, 0, .null)] 1 (.invokevirtual 140) 3 = true := by decide +kernel
theorem b_X11_otherOf_4_13 : bl2 mX11_otherOf 4 [(.iload_n 1, 1, 1, 0, .null), (.istore 4, 2, 4, 0, .null), (.iconst (-1), 1, 0, 0, .int (-1)), (.istore 5, 2, 5, 0, .null), (.iload_n 1, 1, 1, 0, .null), (.istore 6, 2, 6, 0, .null)] 13 (.iload 6) 2 = true := by decide +kernel
set_option maxRecDepth 20000 in
set_option maxHeartbeats 1000000 in
theorem me_otherOf (E : EE) (L : Nat) (F : FF) (l n : Nat) (hm : MR F l n) (f t : Nat) (hf : f ≤ t) (ht : t ≤ 90) (wh : Int32) : Ev3 E L 6 mX11_otherOf [.ref 48, .int (nI f), .int (nI t), .int wh] F (some (.int (if wh = 0 then (brL (fun j => sumB (gMP (ly F n) n (nI j)) n 0 0) (t + 1 - f) f (nI f) (-1)).1 else (brL (fun j => sumB (gMP (ly F n) n (nI j)) n 0 0) (t + 1 - f) f (nI f) (-1)).2))) (ly F n) := by
  refine Ev3.of okX11_otherOf.2.2.1 (Nat.le_of_ble_eq_true rfl) ?_
  show R2 E L mX11_otherOf 6 0 [some (.ref 48), some (.int (nI f)), some (.int (nI t)), some (.int wh), none, none, none, none] [] F _
  refine R2.B (ls2 := [some (.ref 48), some (.int (nI f)), some (.int (nI t)), some (.int wh), none, none, none, none]) (st2 := [.ref 48]) b_X11_otherOf_0_1 rfl (fun hd => ?_)
  refine R2.callV3 (M2 := mX11_lays) (As := []) (rest := []) hd lk_11_140 okX11_lays (by decide) rfl (me_lays E L F l n hm) (by decide) rfl rfl (Nat.le_of_ble_eq_true rfl) ?_
  refine R2.B (ls2 := [some (.ref 48), some (.int (nI f)), some (.int (nI t)), some (.int wh), some (.int (nI f)), some (.int (-1)), some (.int (nI f)), none]) (st2 := []) b_X11_otherOf_4_13 rfl (fun hd => ?_)
  refine R2.forget (ls2 := [some (.ref 48), none, some (.int (nI t)), some (.int wh), some (.int (nI f)), some (.int (-1)), some (.int (nI f)), none]) ⟨rfl, ⟨rfl, ⟨rfl, ⟨rfl, ⟨rfl, ⟨rfl, trivial⟩⟩⟩⟩⟩⟩ ?_
  exact ml_ot E L _ n ((congrFun (ly_row (by decide)) 3).trans hm.2.2.2.1) hm.2.2.1 t ht wh (t + 1 - f) f _ _ (by omega)
theorem b_X11_both_47_52 : bl2 mX11_both 47 [(.iload 5, 2, 5, 0, .null), (.sipush 1024, 3, 0, 0, .int 1024)] 52 (.if_icmp .ge 51) 3 = true := by decide +kernel
theorem b_X11_both_103_105 : bl2 mX11_both 103 [(.iload_n 3, 1, 3, 0, .null), (.iconst (-1), 1, 0, 0, .int (-1))] 105 (.if_icmp .ne 8) 3 = true := by decide +kernel
theorem b_X11_both_113_114 : bl2 mX11_both 113 [(.iconst (-1), 1, 0, 0, .int (-1))] 114 (.ireturn) 1 = true := by decide +kernel
theorem b_X11_both_108_114 : bl2 mX11_both 108 [(.iload 4, 2, 4, 0, .null), (.goto 4, 3, 114, 0, .null)] 114 (.ireturn) 1 = true := by decide +kernel
theorem b_X11_both_55_63 : bl2 mX11_both 55 [(.aload_n 0, 1, 0, 0, .null), (.iload 5, 2, 5, 0, .null), (.aload_n 0, 1, 0, 0, .null), (.getfield 58, 3, 11, 22, .null), (.iload_n 1, 1, 1, 0, .null)] 63 (.iaload) 1 = true := by decide +kernel
theorem b_X11_both_64_64 : bl2 mX11_both 64 [] 64 (.invokevirtual 229) 3 = true := by decide +kernel
theorem b_X11_both_67_67 : bl2 mX11_both 67 [] 67 (.ifCond .eq 30) 3 = true := by decide +kernel
theorem b_X11_both_97_47 : bl2 mX11_both 97 [(.iinc 5 1, 3, 5, 0, .int 1), (.goto (-53), 3, 47, 0, .null)] 47 (.iload 5) 2 = true := by decide +kernel
theorem b_X11_both_70_78 : bl2 mX11_both 70 [(.aload_n 0, 1, 0, 0, .null), (.iload 5, 2, 5, 0, .null), (.aload_n 0, 1, 0, 0, .null), (.getfield 58, 3, 11, 22, .null), (.iload_n 2, 1, 2, 0, .null)] 78 (.iaload) 1 = true := by decide +kernel
theorem b_X11_both_79_79 : bl2 mX11_both 79 [] 79 (.invokevirtual 229) 3 = true := by decide +kernel
theorem b_X11_both_82_82 : bl2 mX11_both 82 [] 82 (.ifCond .eq 15) 3 = true := by decide +kernel
theorem b_X11_both_85_88 : bl2 mX11_both 85 [(.iload 4, 2, 4, 0, .null), (.iload_n 3, 1, 3, 0, .null)] 88 (.if_icmp .ne 6) 3 = true := by decide +kernel
theorem b_X11_both_94_47 : bl2 mX11_both 94 [(.iinc 4 1, 3, 4, 0, .int 1), (.iinc 5 1, 3, 5, 0, .int 1), (.goto (-53), 3, 47, 0, .null)] 47 (.iload 5) 2 = true := by decide +kernel
theorem b_X11_both_91_93 : bl2 mX11_both 91 [(.iload 5, 2, 5, 0, .null)] 93 (.ireturn) 1 = true := by decide +kernel
set_option maxRecDepth 20000 in
set_option maxHeartbeats 2000000 in
theorem ml_both (E : EE) (L : Nat) (F : FF) (a b : Nat) (ha : a < 8) (hb : b < 8) (iv : Int32) : ∀ (k : Nat) (w : Nat) (c : Int32), w + k = 1024 → R2 E L mX11_both 4 47 [some (.ref 48), some (.int (nI a)), some (.int (nI b)), some (.int iv), some (.int c), some (.int (nI w))] [] F (fun r' F' => r' = some (.int (mbL F a b iv k w c)) ∧ F' = F) := by
  intro k
  induction k with
  | zero =>
    intro w c hi
    refine R2.B (ls2 := [some (.ref 48), some (.int (nI a)), some (.int (nI b)), some (.int iv), some (.int c), some (.int (nI w))]) (st2 := [.int 1024, .int (nI w)]) b_X11_both_47_52 rfl (fun hd => ?_)
    refine R2.icmp_ge 103 hd (by decide) (fun c52 => ?_) (fun c52 => absurd (nI_le (a := 1024) (by omega) (by omega)) c52)
    refine R2.B (ls2 := [some (.ref 48), some (.int (nI a)), some (.int (nI b)), some (.int iv), some (.int c), some (.int (nI w))]) (st2 := [.int (-1), .int iv]) b_X11_both_103_105 rfl (fun hd => ?_)
    refine R2.icmp_ne 113 hd (by decide) (fun c105 => ?_) (fun c105 => ?_)
    · refine R2.B (ls2 := [some (.ref 48), some (.int (nI a)), some (.int (nI b)), some (.int iv), some (.int c), some (.int (nI w))]) (st2 := [.int (-1)]) b_X11_both_113_114 rfl (fun hd => ?_)
      exact R2.ret3 (r := some (.int (-1))) hd trivial rfl (congrArg (fun z => some (Value.int z)) (by clear hd; simp only [mbL]; grind)) rfl
    · refine R2.B (ls2 := [some (.ref 48), some (.int (nI a)), some (.int (nI b)), some (.int iv), some (.int c), some (.int (nI w))]) (st2 := [.int c]) b_X11_both_108_114 rfl (fun hd => ?_)
      exact R2.ret3 (r := some (.int c)) hd trivial rfl (congrArg (fun z => some (Value.int z)) (by clear hd; simp only [mbL]; grind)) rfl
  | succ k ih =>
    intro w c hi
    refine R2.B (ls2 := [some (.ref 48), some (.int (nI a)), some (.int (nI b)), some (.int iv), some (.int c), some (.int (nI w))]) (st2 := [.int 1024, .int (nI w)]) b_X11_both_47_52 rfl (fun hd => ?_)
    refine R2.icmp_ge 103 hd (by decide) (fun c52 => absurd c52 (nI_ge (b := 1024) (by omega) (by omega))) (fun c52 => ?_)
    refine R2.B (ls2 := [some (.ref 48), some (.int (nI a)), some (.int (nI b)), some (.int iv), some (.int c), some (.int (nI w))]) (st2 := [.int (nI a), .ref 65, .int (nI w), .ref 48]) b_X11_both_55_63 rfl (fun hd => ?_)
    refine R2.iald a rfl hd rfl (fun _ => rfl) (by decide) (by omega) ?_
    refine R2.B (ls2 := [some (.ref 48), some (.int (nI a)), some (.int (nI b)), some (.int iv), some (.int c), some (.int (nI w))]) (st2 := [.int (F 65 a), .int (nI w), .ref 48]) b_X11_both_64_64 rfl (fun hd => ?_)
    refine R2.callV3 (M2 := mX11_isDue) (As := [.int (nI w), .int (F 65 a)]) (rest := []) hd lk_11_229 okX11_isDue (by decide) rfl (me_isDue E L F (nI w) (F 65 a)) (by decide) rfl rfl (Nat.le_of_ble_eq_true rfl) ?_
    refine R2.B (ls2 := [some (.ref 48), some (.int (nI a)), some (.int (nI b)), some (.int iv), some (.int c), some (.int (nI w))]) (st2 := [.int (b2i (awy (nI w) (F 65 a) = F 51 0 * F 51 0))]) b_X11_both_67_67 rfl (fun hd => ?_)
    refine R2.if_eq 97 hd (by decide) (fun c67 => ?_) (fun c67 => ?_)
    · have nc67 : ¬ (awy (nI w) (F 65 a) = F 51 0 * F 51 0) := b2i_zero.mp c67
      refine R2.B (ls2 := [some (.ref 48), some (.int (nI a)), some (.int (nI b)), some (.int iv), some (.int c), some (.int ((nI w) + 1))]) (st2 := []) b_X11_both_97_47 rfl (fun hd => ?_)
      rw [show ((nI w) + 1 : Int32) = nI (w + 1) from nI_add w 1]
      have e : mbL F a b iv (k + 1) w c = mbL F a b iv k (w + 1) c := by
        clear hd ih; simp only [mbL]; grind
      rw [e]
      exact ih (w + 1) _ (by omega)
    · have nc67 : awy (nI w) (F 65 a) = F 51 0 * F 51 0 := b2i_nz.mp c67
      refine R2.B (ls2 := [some (.ref 48), some (.int (nI a)), some (.int (nI b)), some (.int iv), some (.int c), some (.int (nI w))]) (st2 := [.int (nI b), .ref 65, .int (nI w), .ref 48]) b_X11_both_70_78 rfl (fun hd => ?_)
      refine R2.iald b rfl hd rfl (fun _ => rfl) (by decide) (by omega) ?_
      refine R2.B (ls2 := [some (.ref 48), some (.int (nI a)), some (.int (nI b)), some (.int iv), some (.int c), some (.int (nI w))]) (st2 := [.int (F 65 b), .int (nI w), .ref 48]) b_X11_both_79_79 rfl (fun hd => ?_)
      refine R2.callV3 (M2 := mX11_isDue) (As := [.int (nI w), .int (F 65 b)]) (rest := []) hd lk_11_229 okX11_isDue (by decide) rfl (me_isDue E L F (nI w) (F 65 b)) (by decide) rfl rfl (Nat.le_of_ble_eq_true rfl) ?_
      refine R2.B (ls2 := [some (.ref 48), some (.int (nI a)), some (.int (nI b)), some (.int iv), some (.int c), some (.int (nI w))]) (st2 := [.int (b2i (awy (nI w) (F 65 b) = F 51 0 * F 51 0))]) b_X11_both_82_82 rfl (fun hd => ?_)
      refine R2.if_eq 97 hd (by decide) (fun c82 => ?_) (fun c82 => ?_)
      · have nc82 : ¬ (awy (nI w) (F 65 b) = F 51 0 * F 51 0) := b2i_zero.mp c82
        refine R2.B (ls2 := [some (.ref 48), some (.int (nI a)), some (.int (nI b)), some (.int iv), some (.int c), some (.int ((nI w) + 1))]) (st2 := []) b_X11_both_97_47 rfl (fun hd => ?_)
        rw [show ((nI w) + 1 : Int32) = nI (w + 1) from nI_add w 1]
        have e : mbL F a b iv (k + 1) w c = mbL F a b iv k (w + 1) c := by
          clear hd ih; simp only [mbL]; grind
        rw [e]
        exact ih (w + 1) _ (by omega)
      · have nc82 : awy (nI w) (F 65 b) = F 51 0 * F 51 0 := b2i_nz.mp c82
        refine R2.B (ls2 := [some (.ref 48), some (.int (nI a)), some (.int (nI b)), some (.int iv), some (.int c), some (.int (nI w))]) (st2 := [.int iv, .int c]) b_X11_both_85_88 rfl (fun hd => ?_)
        refine R2.icmp_ne 94 hd (by decide) (fun c88 => ?_) (fun c88 => ?_)
        · refine R2.B (ls2 := [some (.ref 48), some (.int (nI a)), some (.int (nI b)), some (.int iv), some (.int (c + 1)), some (.int ((nI w) + 1))]) (st2 := []) b_X11_both_94_47 rfl (fun hd => ?_)
          rw [show ((nI w) + 1 : Int32) = nI (w + 1) from nI_add w 1]
          have e : mbL F a b iv (k + 1) w c = mbL F a b iv k (w + 1) (c + 1) := by
            clear hd ih; simp only [mbL]; grind
          rw [e]
          exact ih (w + 1) _ (by omega)
        · refine R2.B (ls2 := [some (.ref 48), some (.int (nI a)), some (.int (nI b)), some (.int iv), some (.int c), some (.int (nI w))]) (st2 := [.int (nI w)]) b_X11_both_91_93 rfl (fun hd => ?_)
          exact R2.ret3 (r := some (.int (nI w))) hd trivial rfl (congrArg (fun z => some (Value.int z)) (by clear hd ih; simp only [mbL]; grind)) rfl
