/-! The public methods, second half. Printed by wip/whole/gen/spec12.py. -/
theorem two_t {F : FF} {n a b : Nat} (hn : F 10 5 = nI n) (hn10 : n ≤ 10) (ha : a < n) (hb : b < n) (hab : a ≠ b) : 0 ≤ nI a ∧ nI a < F 10 5 ∧ 0 ≤ nI b ∧ nI b < F 10 5 ∧ ¬ nI a = nI b := by
  obtain ⟨x1, x2⟩ := per_t hn hn10 ha
  obtain ⟨y1, y2⟩ := per_t hn hn10 hb
  exact ⟨x1, x2, y1, y2, fun z => hab ((nI_eq (by omega) (by omega)).mp z)⟩
theorem dir_of {x : Int32} (h : 0 ≤ x ∧ x < 8) : ∃ d, d < 8 ∧ x = nI d := by
  rcases pk_ix x (n := 8) (by decide) with q | q | ⟨j, h1, h2⟩
  · exact absurd h.1 (Int32.not_le.mpr q)
  · exact absurd h.2 (Int32.not_lt.mpr q)
  · exact ⟨j, h1, h2⟩
theorem idx_of {x : Int32} {s : Nat} (hs : s ≤ 60) (h0 : ¬ x < 0) (h1 : x < nI s) : ∃ j, j < s ∧ x = nI j := by
  rcases pk_ix x (n := s) (by omega) with q | q | ⟨j, h3, h4⟩
  · exact absurd q h0
  · exact absurd h1 (Int32.not_lt.mpr q)
  · exact ⟨j, h3, h4⟩
theorem rng_of {f x : Int32} {s : Nat} (hs : s ≤ 60) (h : 0 ≤ f ∧ 0 ≤ x ∧ f ≤ nI s - x) : ∃ a b, f = nI a ∧ x = nI b ∧ a + b ≤ s := by
  obtain ⟨h1, h2, h3⟩ := h
  obtain ⟨a, ha, ea⟩ := nI_of (x := f) (Int32.not_lt.mpr h1)
  obtain ⟨b, hb, eb⟩ := nI_of (x := x) (Int32.not_lt.mpr h2)
  subst ea; subst eb
  refine ⟨a, b, rfl, rfl, ?_⟩
  have e1 : (nI a).toInt = a := nI_toInt ha
  have e2 : (nI b).toInt = b := nI_toInt hb
  have e3 : (nI s).toInt = s := nI_toInt (by omega)
  have h4 := Int32.le_iff_toInt_le.mp h3
  have e4 : (nI s - nI b).toInt = (s : Int) - b := by
    rw [Int32.toInt_sub, e3, e2, Int.bmod_eq_of_le (by omega) (by omega)]
  rw [e1, e4] at h4
  omega
theorem min2 {a b : Nat} (ha : a < 1000) (hb : b < 1000) : (if nI b < nI a then nI b else nI a) = nI (if b < a then b else a) := by
  by_cases h : b < a
  · rw [if_pos h, if_pos (nI_lt h (by omega))]
  · rw [if_neg h, if_neg (nI_nlt (by omega) (by omega))]
theorem fnd0 {lo fo sz f x : Int32} (h : fndA lo fo sz f x = 0) : lo = 0 ∧ f = fo ∧ ¬ x < 0 ∧ x < sz := by unfold fndA at h; grind
def rdL (n a P : Nat) : Nat → Nat → FF → Nat × FF
  | 0, j, F => (j, F)
  | k + 1, j, F => if 0 ≤ F (P + 1) j ∧ F (P + 1) j < 8 then
      (if lawS (F 15) a (F (P + 1) j).toNatClampNeg (F 17 2 * F 17 2) n = -1 then (j, F)
       else rdL n a P k (j + 1) (up2 F 15 a (lawS (F 15) a (F (P + 1) j).toNatClampNeg (F 17 2 * F 17 2) n)))
      else (j, F)
def wrL (P : Nat) : Nat → Nat → FF → FF
  | 0, _, F => F
  | k + 1, j, F => wrL P k (j + 1) (up2 F (P + 1) j (nrw (F P 2) (F 15 j)))
theorem b_X10_home_0_4 : bl2 mX10_home 0 [(.aload_n 0, 1, 0, 0, .null), (.getfield 24, 3, 10, 2, .null)] 4 (.invokevirtual 170) 3 = true := by decide +kernel
theorem b_X10_home_7_7 : bl2 mX10_home 7 [] 7 (.ireturn) 1 = true := by decide +kernel
set_option maxRecDepth 20000 in
set_option maxHeartbeats 1000000 in
theorem x_home (E : EE) (L : Nat) (F : FF) (n : Nat) (hn : F 10 5 = nI n) (hn10 : n ≤ 10) : Ev3 E L 16 mX10_home [.ref 5] F (some (.int (homeL n 0 0 F).1)) (homeL n 0 0 F).2 := by
  refine Ev3.of okX10_home.2.2.1 (Nat.le_of_ble_eq_true rfl) ?_
  show R2 E L mX10_home 16 0 [some (.ref 5)] [] F _
  refine R2.B (ls2 := [some (.ref 5)]) (st2 := [.ref 10]) b_X10_home_0_4 rfl (fun hd => ?_)
  refine R2.callV3 (M2 := mX0_goHome) (As := []) (rest := []) hd lk_10_170 okX0_goHome (by decide) rfl (ev_goHome E L F n hn hn10) (by decide) rfl rfl (Nat.le_of_ble_eq_true rfl) ?_
  refine R2.B (ls2 := [some (.ref 5)]) (st2 := [.int ((homeL n 0 0 F).1)]) b_X10_home_7_7 rfl (fun hd => ?_)
  exact R2.ret3 (r := some (.int ((homeL n 0 0 F).1))) hd trivial rfl rfl rfl
theorem b_X10_away_0_2 : bl2 mX10_away 0 [(.aload_n 0, 1, 0, 0, .null), (.iload_n 1, 1, 1, 0, .null)] 2 (.invokevirtual 131) 3 = true := by decide +kernel
theorem b_X10_away_5_5 : bl2 mX10_away 5 [] 5 (.ifCond .eq 11) 3 = true := by decide +kernel
theorem b_X10_away_16_18 : bl2 mX10_away 16 [(.bipush (-2), 2, 0, 0, .int (-2))] 18 (.ireturn) 1 = true := by decide +kernel
theorem b_X10_away_8_10 : bl2 mX10_away 8 [(.aload_n 0, 1, 0, 0, .null), (.iload_n 2, 1, 2, 0, .null)] 10 (.invokevirtual 131) 3 = true := by decide +kernel
theorem b_X10_away_13_13 : bl2 mX10_away 13 [] 13 (.ifCond .ne 6) 3 = true := by decide +kernel
theorem b_X10_away_19_19 : bl2 mX10_away 19 [] 19 (.aload_n 0) 1 = true := by decide +kernel
set_option maxRecDepth 20000 in
set_option maxHeartbeats 1000000 in
theorem x_away_bad (E : EE) (L : Nat) (F : FF) (p q : Int32) (h : ¬ (0 ≤ p ∧ p < F 10 5) ∨ ¬ (0 ≤ q ∧ q < F 10 5)) : Ev3 E L 16 mX10_away [.ref 5, .int p, .int q] F (some (.int (-2))) F := by
  refine Ev3.of okX10_away.2.2.1 (Nat.le_of_ble_eq_true rfl) ?_
  show R2 E L mX10_away 16 0 [some (.ref 5), some (.int p), some (.int q)] [] F _
  refine R2.B (ls2 := [some (.ref 5), some (.int p), some (.int q)]) (st2 := [.int p, .ref 5]) b_X10_away_0_2 rfl (fun hd => ?_)
  refine R2.callV3 (M2 := mX10_isPerson) (As := [.int p]) (rest := []) hd lk_10_131 okX10_isPerson (by decide) rfl (ev_isPerson E L F p) (by decide) rfl rfl (Nat.le_of_ble_eq_true rfl) ?_
  refine R2.B (ls2 := [some (.ref 5), some (.int p), some (.int q)]) (st2 := [.int (b2i (0 ≤ p ∧ p < F 10 5))]) b_X10_away_5_5 rfl (fun hd => ?_)
  refine R2.if_eq 16 hd (by decide) (fun c5 => ?_) (fun c5 => ?_)
  · have nc5 : ¬ (0 ≤ p ∧ p < F 10 5) := b2i_zero.mp c5
    refine R2.B (ls2 := [some (.ref 5), some (.int p), some (.int q)]) (st2 := [.int (-2)]) b_X10_away_16_18 rfl (fun hd => ?_)
    exact R2.ret3 (r := some (.int (-2))) hd trivial rfl rfl rfl
  · have nc5 : 0 ≤ p ∧ p < F 10 5 := b2i_nz.mp c5
    refine R2.B (ls2 := [some (.ref 5), some (.int p), some (.int q)]) (st2 := [.int q, .ref 5]) b_X10_away_8_10 rfl (fun hd => ?_)
    refine R2.callV3 (M2 := mX10_isPerson) (As := [.int q]) (rest := []) hd lk_10_131 okX10_isPerson (by decide) rfl (ev_isPerson E L F q) (by decide) rfl rfl (Nat.le_of_ble_eq_true rfl) ?_
    refine R2.B (ls2 := [some (.ref 5), some (.int p), some (.int q)]) (st2 := [.int (b2i (0 ≤ q ∧ q < F 10 5))]) b_X10_away_13_13 rfl (fun hd => ?_)
    refine R2.if_ne 19 hd (by decide) (fun c13 => ?_) (fun c13 => ?_)
    · have nc13 : 0 ≤ q ∧ q < F 10 5 := b2i_nz.mp c13
      refine R2.B (ls2 := [some (.ref 5), some (.int p), some (.int q)]) (st2 := []) b_X10_away_19_19 rfl (fun hd => ?_)
      exact False.elim (by clear hd; grind)
    · have nc13 : ¬ (0 ≤ q ∧ q < F 10 5) := b2i_zero.mp c13
      refine R2.B (ls2 := [some (.ref 5), some (.int p), some (.int q)]) (st2 := [.int (-2)]) b_X10_away_16_18 rfl (fun hd => ?_)
      exact R2.ret3 (r := some (.int (-2))) hd trivial rfl rfl rfl
theorem b_X10_away_19_27 : bl2 mX10_away 19 [(.aload_n 0, 1, 0, 0, .null), (.getfield 24, 3, 10, 2, .null), (.getfield 143, 3, 0, 4, .null), (.iload_n 1, 1, 1, 0, .null)] 27 (.iaload) 1 = true := by decide +kernel
theorem b_X10_away_28_36 : bl2 mX10_away 28 [(.aload_n 0, 1, 0, 0, .null), (.getfield 24, 3, 10, 2, .null), (.getfield 143, 3, 0, 4, .null), (.iload_n 2, 1, 2, 0, .null)] 36 (.iaload) 1 = true := by decide +kernel
theorem b_X10_away_37_37 : bl2 mX10_away 37 [] 37 (.invokestatic 173) 3 = true := by decide +kernel
theorem b_X10_away_40_40 : bl2 mX10_away 40 [] 40 (.ireturn) 1 = true := by decide +kernel
set_option maxRecDepth 20000 in
set_option maxHeartbeats 1000000 in
theorem x_away (E : EE) (L : Nat) (F : FF) (n : Nat) (hn : F 10 5 = nI n) (hn10 : n ≤ 10) (a b : Nat) (ha : a < n) (hb : b < n) : Ev3 E L 16 mX10_away [.ref 5, .int (nI a), .int (nI b)] F (some (.int (awy (F 15 a) (F 15 b)))) F := by
  refine Ev3.of okX10_away.2.2.1 (Nat.le_of_ble_eq_true rfl) ?_
  show R2 E L mX10_away 16 0 [some (.ref 5), some (.int (nI a)), some (.int (nI b))] [] F _
  refine R2.B (ls2 := [some (.ref 5), some (.int (nI a)), some (.int (nI b))]) (st2 := [.int (nI a), .ref 5]) b_X10_away_0_2 rfl (fun hd => ?_)
  refine R2.callV3 (M2 := mX10_isPerson) (As := [.int (nI a)]) (rest := []) hd lk_10_131 okX10_isPerson (by decide) rfl (ev_isPerson E L F (nI a)) (by decide) rfl rfl (Nat.le_of_ble_eq_true rfl) ?_
  refine R2.B (ls2 := [some (.ref 5), some (.int (nI a)), some (.int (nI b))]) (st2 := [.int (b2i (0 ≤ (nI a) ∧ (nI a) < F 10 5))]) b_X10_away_5_5 rfl (fun hd => ?_)
  refine R2.if_eq 16 hd (by decide) (fun c5 => absurd c5 (b2i_nz.mpr (per_t hn hn10 ha))) (fun c5 => ?_)
  refine R2.B (ls2 := [some (.ref 5), some (.int (nI a)), some (.int (nI b))]) (st2 := [.int (nI b), .ref 5]) b_X10_away_8_10 rfl (fun hd => ?_)
  refine R2.callV3 (M2 := mX10_isPerson) (As := [.int (nI b)]) (rest := []) hd lk_10_131 okX10_isPerson (by decide) rfl (ev_isPerson E L F (nI b)) (by decide) rfl rfl (Nat.le_of_ble_eq_true rfl) ?_
  refine R2.B (ls2 := [some (.ref 5), some (.int (nI a)), some (.int (nI b))]) (st2 := [.int (b2i (0 ≤ (nI b) ∧ (nI b) < F 10 5))]) b_X10_away_13_13 rfl (fun hd => ?_)
  refine R2.if_ne 19 hd (by decide) (fun c13 => ?_) (fun c13 => absurd c13 (b2i_nz.mpr (per_t hn hn10 hb)))
  refine R2.B (ls2 := [some (.ref 5), some (.int (nI a)), some (.int (nI b))]) (st2 := [.int (nI a), .ref 15]) b_X10_away_19_27 rfl (fun hd => ?_)
  refine R2.iald a rfl hd rfl (fun _ => rfl) (by decide) (by omega) ?_
  refine R2.B (ls2 := [some (.ref 5), some (.int (nI a)), some (.int (nI b))]) (st2 := [.int (nI b), .ref 15, .int (F 15 a)]) b_X10_away_28_36 rfl (fun hd => ?_)
  refine R2.iald b rfl hd rfl (fun _ => rfl) (by decide) (by omega) ?_
  refine R2.B (ls2 := [some (.ref 5), some (.int (nI a)), some (.int (nI b))]) (st2 := [.int (F 15 b), .int (F 15 a)]) b_X10_away_37_37 rfl (fun hd => ?_)
  refine R2.callS3 (M2 := mX10_between) (As := [.int (F 15 a), .int (F 15 b)]) (rest := []) hd lk_10_173 okX10_between (by decide) (ev_between E L F (F 15 a) (F 15 b)) (by decide) rfl rfl (Nat.le_of_ble_eq_true rfl) ?_
  refine R2.B (ls2 := [some (.ref 5), some (.int (nI a)), some (.int (nI b))]) (st2 := [.int (awy (F 15 a) (F 15 b))]) b_X10_away_40_40 rfl (fun hd => ?_)
  exact R2.ret3 (r := some (.int (awy (F 15 a) (F 15 b)))) hd trivial rfl rfl rfl
theorem b_X10_binds_0_3 : bl2 mX10_binds 0 [(.aload_n 0, 1, 0, 0, .null), (.iload_n 1, 1, 1, 0, .null), (.iload_n 2, 1, 2, 0, .null)] 3 (.invokevirtual 177) 3 = true := by decide +kernel
theorem b_X10_binds_6_6 : bl2 mX10_binds 6 [] 6 (.ifCond .eq 12) 3 = true := by decide +kernel
theorem b_X10_binds_18_20 : bl2 mX10_binds 18 [(.bipush (-2), 2, 0, 0, .int (-2))] 20 (.ireturn) 1 = true := by decide +kernel
theorem b_X10_binds_9_10 : bl2 mX10_binds 9 [(.iload_n 3, 1, 3, 0, .null)] 10 (.ifCond .lt 8) 3 = true := by decide +kernel
theorem b_X10_binds_13_15 : bl2 mX10_binds 13 [(.iload_n 3, 1, 3, 0, .null), (.iconst 3, 1, 0, 0, .int 3)] 15 (.if_icmp .le 6) 3 = true := by decide +kernel
theorem b_X10_binds_21_21 : bl2 mX10_binds 21 [] 21 (.iload_n 3) 1 = true := by decide +kernel
set_option maxRecDepth 20000 in
set_option maxHeartbeats 1000000 in
theorem x_binds_bad (E : EE) (L : Nat) (F : FF) (p q w : Int32) (h : ¬ (0 ≤ p ∧ p < F 10 5 ∧ 0 ≤ q ∧ q < F 10 5 ∧ ¬ p = q) ∨ w < 0 ∨ 3 < w) : Ev3 E L 16 mX10_binds [.ref 5, .int p, .int q, .int w] F (some (.int (-2))) F := by
  refine Ev3.of okX10_binds.2.2.1 (Nat.le_of_ble_eq_true rfl) ?_
  show R2 E L mX10_binds 16 0 [some (.ref 5), some (.int p), some (.int q), some (.int w), none] [] F _
  refine R2.B (ls2 := [some (.ref 5), some (.int p), some (.int q), some (.int w), none]) (st2 := [.int q, .int p, .ref 5]) b_X10_binds_0_3 rfl (fun hd => ?_)
  refine R2.callV3 (M2 := mX10_areTwo) (As := [.int p, .int q]) (rest := []) hd lk_10_177 okX10_areTwo (by decide) rfl (ev_areTwo E L F p q) (by decide) rfl rfl (Nat.le_of_ble_eq_true rfl) ?_
  refine R2.B (ls2 := [some (.ref 5), some (.int p), some (.int q), some (.int w), none]) (st2 := [.int (b2i (0 ≤ p ∧ p < F 10 5 ∧ 0 ≤ q ∧ q < F 10 5 ∧ ¬ p = q))]) b_X10_binds_6_6 rfl (fun hd => ?_)
  refine R2.if_eq 18 hd (by decide) (fun c6 => ?_) (fun c6 => ?_)
  · have nc6 : ¬ (0 ≤ p ∧ p < F 10 5 ∧ 0 ≤ q ∧ q < F 10 5 ∧ ¬ p = q) := b2i_zero.mp c6
    refine R2.B (ls2 := [some (.ref 5), some (.int p), some (.int q), some (.int w), none]) (st2 := [.int (-2)]) b_X10_binds_18_20 rfl (fun hd => ?_)
    exact R2.ret3 (r := some (.int (-2))) hd trivial rfl rfl rfl
  · have nc6 : 0 ≤ p ∧ p < F 10 5 ∧ 0 ≤ q ∧ q < F 10 5 ∧ ¬ p = q := b2i_nz.mp c6
    refine R2.B (ls2 := [some (.ref 5), some (.int p), some (.int q), some (.int w), none]) (st2 := [.int w]) b_X10_binds_9_10 rfl (fun hd => ?_)
    refine R2.if_lt 18 hd (by decide) (fun c10 => ?_) (fun c10 => ?_)
    · refine R2.B (ls2 := [some (.ref 5), some (.int p), some (.int q), some (.int w), none]) (st2 := [.int (-2)]) b_X10_binds_18_20 rfl (fun hd => ?_)
      exact R2.ret3 (r := some (.int (-2))) hd trivial rfl rfl rfl
    · refine R2.B (ls2 := [some (.ref 5), some (.int p), some (.int q), some (.int w), none]) (st2 := [.int 3, .int w]) b_X10_binds_13_15 rfl (fun hd => ?_)
      refine R2.icmp_le 21 hd (by decide) (fun c15 => ?_) (fun c15 => ?_)
      · refine R2.B (ls2 := [some (.ref 5), some (.int p), some (.int q), some (.int w), none]) (st2 := []) b_X10_binds_21_21 rfl (fun hd => ?_)
        exact False.elim (by clear hd; grind)
      · refine R2.B (ls2 := [some (.ref 5), some (.int p), some (.int q), some (.int w), none]) (st2 := [.int (-2)]) b_X10_binds_18_20 rfl (fun hd => ?_)
        exact R2.ret3 (r := some (.int (-2))) hd trivial rfl rfl rfl
theorem b_X10_binds_21_23 : bl2 mX10_binds 21 [(.iload_n 3, 1, 3, 0, .null), (.iconst 1, 1, 0, 0, .int 1)] 23 (.if_icmp .ne 21) 3 = true := by decide +kernel
theorem b_X10_binds_44_58 : bl2 mX10_binds 44 [(.aload_n 0, 1, 0, 0, .null), (.getfield 33, 3, 10, 3, .null), (.aload_n 0, 1, 0, 0, .null), (.getfield 24, 3, 10, 2, .null), (.getfield 143, 3, 0, 4, .null), (.iload_n 1, 1, 1, 0, .null), (.iload_n 2, 1, 2, 0, .null), (.iconst (-1), 1, 0, 0, .int (-1))] 58 (.invokevirtual 184) 3 = true := by decide +kernel
theorem b_X10_binds_61_64 : bl2 mX10_binds 61 [(.istore 4, 2, 4, 0, .null), (.iload_n 3, 1, 3, 0, .null)] 64 (.ifCond .ne 6) 3 = true := by decide +kernel
theorem b_X10_binds_67_69 : bl2 mX10_binds 67 [(.iload 4, 2, 4, 0, .null)] 69 (.ireturn) 1 = true := by decide +kernel
set_option maxRecDepth 20000 in
set_option maxHeartbeats 1000000 in
theorem x_binds0 (E : EE) (L : Nat) (F : FF) (n : Nat) (hn : F 10 5 = nI n) (hn10 : n ≤ 10) (a b : Nat) (ha : a < n) (hb : b < n) (hab : a ≠ b) : Ev3 E L 16 mX10_binds [.ref 5, .int (nI a), .int (nI b), .int 0] F (some (.int (cvd F (F 15) n (F 17 0) (-1) a b))) F := by
  refine Ev3.of okX10_binds.2.2.1 (Nat.le_of_ble_eq_true rfl) ?_
  show R2 E L mX10_binds 16 0 [some (.ref 5), some (.int (nI a)), some (.int (nI b)), some (.int 0), none] [] F _
  refine R2.B (ls2 := [some (.ref 5), some (.int (nI a)), some (.int (nI b)), some (.int 0), none]) (st2 := [.int (nI b), .int (nI a), .ref 5]) b_X10_binds_0_3 rfl (fun hd => ?_)
  refine R2.callV3 (M2 := mX10_areTwo) (As := [.int (nI a), .int (nI b)]) (rest := []) hd lk_10_177 okX10_areTwo (by decide) rfl (ev_areTwo E L F (nI a) (nI b)) (by decide) rfl rfl (Nat.le_of_ble_eq_true rfl) ?_
  refine R2.B (ls2 := [some (.ref 5), some (.int (nI a)), some (.int (nI b)), some (.int 0), none]) (st2 := [.int (b2i (0 ≤ (nI a) ∧ (nI a) < F 10 5 ∧ 0 ≤ (nI b) ∧ (nI b) < F 10 5 ∧ ¬ (nI a) = (nI b)))]) b_X10_binds_6_6 rfl (fun hd => ?_)
  refine R2.if_eq 18 hd (by decide) (fun c6 => absurd c6 (b2i_nz.mpr (two_t hn hn10 ha hb hab))) (fun c6 => ?_)
  refine R2.B (ls2 := [some (.ref 5), some (.int (nI a)), some (.int (nI b)), some (.int 0), none]) (st2 := [.int 0]) b_X10_binds_9_10 rfl (fun hd => ?_)
  refine R2.if_lt 18 hd (by decide) (fun c10 => absurd c10 (by decide)) (fun c10 => ?_)
  refine R2.B (ls2 := [some (.ref 5), some (.int (nI a)), some (.int (nI b)), some (.int 0), none]) (st2 := [.int 3, .int 0]) b_X10_binds_13_15 rfl (fun hd => ?_)
  refine R2.icmp_le 21 hd (by decide) (fun c15 => ?_) (fun c15 => absurd (by decide) c15)
  refine R2.B (ls2 := [some (.ref 5), some (.int (nI a)), some (.int (nI b)), some (.int 0), none]) (st2 := [.int 1, .int 0]) b_X10_binds_21_23 rfl (fun hd => ?_)
  refine R2.icmp_ne 44 hd (by decide) (fun c23 => ?_) (fun c23 => absurd c23 (by decide))
  refine R2.B (ls2 := [some (.ref 5), some (.int (nI a)), some (.int (nI b)), some (.int 0), none]) (st2 := [.int (-1), .int (nI b), .int (nI a), .ref 15, .ref 16]) b_X10_binds_44_58 rfl (fun hd => ?_)
  refine R2.callV3 (M2 := mX2_verdict) (As := [.ref 15, .int (nI a), .int (nI b), .int (-1)]) (rest := []) hd lk_10_184 okX2_verdict (by decide) rfl (ev_verdict E L F n hn hn10 15 rfl (fun _ => rfl) a b (-1) (by omega) (by omega)) (by decide) rfl rfl (Nat.le_of_ble_eq_true rfl) ?_
  refine R2.B (ls2 := [some (.ref 5), some (.int (nI a)), some (.int (nI b)), some (.int 0), some (.int (cvd F (F 15) n (F 17 0) (-1) a b))]) (st2 := [.int 0]) b_X10_binds_61_64 rfl (fun hd => ?_)
  refine R2.if_ne 70 hd (by decide) (fun c64 => absurd (by decide) c64) (fun c64 => ?_)
  refine R2.B (ls2 := [some (.ref 5), some (.int (nI a)), some (.int (nI b)), some (.int 0), some (.int (cvd F (F 15) n (F 17 0) (-1) a b))]) (st2 := [.int (cvd F (F 15) n (F 17 0) (-1) a b)]) b_X10_binds_67_69 rfl (fun hd => ?_)
  exact R2.ret3 (r := some (.int (cvd F (F 15) n (F 17 0) (-1) a b))) hd trivial rfl rfl rfl
theorem b_X10_binds_26_40 : bl2 mX10_binds 26 [(.aload_n 0, 1, 0, 0, .null), (.getfield 33, 3, 10, 3, .null), (.aload_n 0, 1, 0, 0, .null), (.getfield 24, 3, 10, 2, .null), (.getfield 143, 3, 0, 4, .null), (.iload_n 1, 1, 1, 0, .null), (.iload_n 2, 1, 2, 0, .null), (.iconst (-1), 1, 0, 0, .int (-1))] 40 (.invokevirtual 180) 3 = true := by decide +kernel
theorem b_X10_binds_43_43 : bl2 mX10_binds 43 [] 43 (.ireturn) 1 = true := by decide +kernel
set_option maxRecDepth 20000 in
set_option maxHeartbeats 1000000 in
theorem x_binds1 (E : EE) (L : Nat) (F : FF) (n : Nat) (hn : F 10 5 = nI n) (hn10 : n ≤ 10) (a b : Nat) (ha : a < n) (hb : b < n) (hab : a ≠ b) : Ev3 E L 16 mX10_binds [.ref 5, .int (nI a), .int (nI b), .int 1] F (some (.int (fnr (F 15) a b (-1) (F 17 1 * F 17 1) n 0))) F := by
  refine Ev3.of okX10_binds.2.2.1 (Nat.le_of_ble_eq_true rfl) ?_
  show R2 E L mX10_binds 16 0 [some (.ref 5), some (.int (nI a)), some (.int (nI b)), some (.int 1), none] [] F _
  refine R2.B (ls2 := [some (.ref 5), some (.int (nI a)), some (.int (nI b)), some (.int 1), none]) (st2 := [.int (nI b), .int (nI a), .ref 5]) b_X10_binds_0_3 rfl (fun hd => ?_)
  refine R2.callV3 (M2 := mX10_areTwo) (As := [.int (nI a), .int (nI b)]) (rest := []) hd lk_10_177 okX10_areTwo (by decide) rfl (ev_areTwo E L F (nI a) (nI b)) (by decide) rfl rfl (Nat.le_of_ble_eq_true rfl) ?_
  refine R2.B (ls2 := [some (.ref 5), some (.int (nI a)), some (.int (nI b)), some (.int 1), none]) (st2 := [.int (b2i (0 ≤ (nI a) ∧ (nI a) < F 10 5 ∧ 0 ≤ (nI b) ∧ (nI b) < F 10 5 ∧ ¬ (nI a) = (nI b)))]) b_X10_binds_6_6 rfl (fun hd => ?_)
  refine R2.if_eq 18 hd (by decide) (fun c6 => absurd c6 (b2i_nz.mpr (two_t hn hn10 ha hb hab))) (fun c6 => ?_)
  refine R2.B (ls2 := [some (.ref 5), some (.int (nI a)), some (.int (nI b)), some (.int 1), none]) (st2 := [.int 1]) b_X10_binds_9_10 rfl (fun hd => ?_)
  refine R2.if_lt 18 hd (by decide) (fun c10 => absurd c10 (by decide)) (fun c10 => ?_)
  refine R2.B (ls2 := [some (.ref 5), some (.int (nI a)), some (.int (nI b)), some (.int 1), none]) (st2 := [.int 3, .int 1]) b_X10_binds_13_15 rfl (fun hd => ?_)
  refine R2.icmp_le 21 hd (by decide) (fun c15 => ?_) (fun c15 => absurd (by decide) c15)
  refine R2.B (ls2 := [some (.ref 5), some (.int (nI a)), some (.int (nI b)), some (.int 1), none]) (st2 := [.int 1, .int 1]) b_X10_binds_21_23 rfl (fun hd => ?_)
  refine R2.icmp_ne 44 hd (by decide) (fun c23 => absurd (by decide) c23) (fun c23 => ?_)
  refine R2.B (ls2 := [some (.ref 5), some (.int (nI a)), some (.int (nI b)), some (.int 1), none]) (st2 := [.int (-1), .int (nI b), .int (nI a), .ref 15, .ref 16]) b_X10_binds_26_40 rfl (fun hd => ?_)
  refine R2.callV3 (M2 := mX2_firstNearer) (As := [.ref 15, .int (nI a), .int (nI b), .int (-1)]) (rest := []) hd lk_10_180 okX2_firstNearer (by decide) rfl (ev_firstNearer E L F n hn hn10 15 rfl (fun _ => rfl) a b (-1) (by omega) (by omega)) (by decide) rfl rfl (Nat.le_of_ble_eq_true rfl) ?_
  refine R2.B (ls2 := [some (.ref 5), some (.int (nI a)), some (.int (nI b)), some (.int 1), none]) (st2 := [.int (fnr (F 15) a b (-1) ((F 17 1) * (F 17 1)) n 0)]) b_X10_binds_43_43 rfl (fun hd => ?_)
  exact R2.ret3 (r := some (.int (fnr (F 15) a b (-1) ((F 17 1) * (F 17 1)) n 0))) hd trivial rfl rfl rfl
theorem b_X10_binds_70_72 : bl2 mX10_binds 70 [(.iload 4, 2, 4, 0, .null)] 72 (.ifCond .eq 6) 3 = true := by decide +kernel
theorem b_X10_binds_78_80 : bl2 mX10_binds 78 [(.iload_n 3, 1, 3, 0, .null), (.iconst 2, 1, 0, 0, .int 2)] 80 (.if_icmp .ne 15) 3 = true := by decide +kernel
theorem b_X10_binds_83_89 : bl2 mX10_binds 83 [(.aload_n 0, 1, 0, 0, .null), (.getfield 24, 3, 10, 2, .null), (.iload_n 1, 1, 1, 0, .null), (.iload_n 2, 1, 2, 0, .null)] 89 (.invokevirtual 187) 3 = true := by decide +kernel
theorem b_X10_binds_92_116 : bl2 mX10_binds 92 [(.goto 24, 3, 116, 0, .null)] 116 (.ireturn) 1 = true := by decide +kernel
theorem b_X10_binds_75_77 : bl2 mX10_binds 75 [(.bipush (-3), 2, 0, 0, .int (-3))] 77 (.ireturn) 1 = true := by decide +kernel
set_option maxRecDepth 20000 in
set_option maxHeartbeats 1000000 in
theorem x_binds2 (E : EE) (L : Nat) (F : FF) (n : Nat) (hn : F 10 5 = nI n) (hn10 : n ≤ 10) (a b : Nat) (ha : a < n) (hb : b < n) (hab : a ≠ b) : Ev3 E L 16 mX10_binds [.ref 5, .int (nI a), .int (nI b), .int 2] F (some (.int (if cvd F (F 15) n (F 17 0) (-1) a b = 0 then gan (F 11) (F 13) a b else -3))) F := by
  refine Ev3.of okX10_binds.2.2.1 (Nat.le_of_ble_eq_true rfl) ?_
  show R2 E L mX10_binds 16 0 [some (.ref 5), some (.int (nI a)), some (.int (nI b)), some (.int 2), none] [] F _
  refine R2.B (ls2 := [some (.ref 5), some (.int (nI a)), some (.int (nI b)), some (.int 2), none]) (st2 := [.int (nI b), .int (nI a), .ref 5]) b_X10_binds_0_3 rfl (fun hd => ?_)
  refine R2.callV3 (M2 := mX10_areTwo) (As := [.int (nI a), .int (nI b)]) (rest := []) hd lk_10_177 okX10_areTwo (by decide) rfl (ev_areTwo E L F (nI a) (nI b)) (by decide) rfl rfl (Nat.le_of_ble_eq_true rfl) ?_
  refine R2.B (ls2 := [some (.ref 5), some (.int (nI a)), some (.int (nI b)), some (.int 2), none]) (st2 := [.int (b2i (0 ≤ (nI a) ∧ (nI a) < F 10 5 ∧ 0 ≤ (nI b) ∧ (nI b) < F 10 5 ∧ ¬ (nI a) = (nI b)))]) b_X10_binds_6_6 rfl (fun hd => ?_)
  refine R2.if_eq 18 hd (by decide) (fun c6 => absurd c6 (b2i_nz.mpr (two_t hn hn10 ha hb hab))) (fun c6 => ?_)
  refine R2.B (ls2 := [some (.ref 5), some (.int (nI a)), some (.int (nI b)), some (.int 2), none]) (st2 := [.int 2]) b_X10_binds_9_10 rfl (fun hd => ?_)
  refine R2.if_lt 18 hd (by decide) (fun c10 => absurd c10 (by decide)) (fun c10 => ?_)
  refine R2.B (ls2 := [some (.ref 5), some (.int (nI a)), some (.int (nI b)), some (.int 2), none]) (st2 := [.int 3, .int 2]) b_X10_binds_13_15 rfl (fun hd => ?_)
  refine R2.icmp_le 21 hd (by decide) (fun c15 => ?_) (fun c15 => absurd (by decide) c15)
  refine R2.B (ls2 := [some (.ref 5), some (.int (nI a)), some (.int (nI b)), some (.int 2), none]) (st2 := [.int 1, .int 2]) b_X10_binds_21_23 rfl (fun hd => ?_)
  refine R2.icmp_ne 44 hd (by decide) (fun c23 => ?_) (fun c23 => absurd c23 (by decide))
  refine R2.B (ls2 := [some (.ref 5), some (.int (nI a)), some (.int (nI b)), some (.int 2), none]) (st2 := [.int (-1), .int (nI b), .int (nI a), .ref 15, .ref 16]) b_X10_binds_44_58 rfl (fun hd => ?_)
  refine R2.callV3 (M2 := mX2_verdict) (As := [.ref 15, .int (nI a), .int (nI b), .int (-1)]) (rest := []) hd lk_10_184 okX2_verdict (by decide) rfl (ev_verdict E L F n hn hn10 15 rfl (fun _ => rfl) a b (-1) (by omega) (by omega)) (by decide) rfl rfl (Nat.le_of_ble_eq_true rfl) ?_
  refine R2.B (ls2 := [some (.ref 5), some (.int (nI a)), some (.int (nI b)), some (.int 2), some (.int (cvd F (F 15) n (F 17 0) (-1) a b))]) (st2 := [.int 2]) b_X10_binds_61_64 rfl (fun hd => ?_)
  refine R2.if_ne 70 hd (by decide) (fun c64 => ?_) (fun c64 => absurd c64 (by decide))
  refine R2.B (ls2 := [some (.ref 5), some (.int (nI a)), some (.int (nI b)), some (.int 2), some (.int (cvd F (F 15) n (F 17 0) (-1) a b))]) (st2 := [.int (cvd F (F 15) n (F 17 0) (-1) a b)]) b_X10_binds_70_72 rfl (fun hd => ?_)
  refine R2.if_eq 78 hd (by decide) (fun c72 => ?_) (fun c72 => ?_)
  · refine R2.B (ls2 := [some (.ref 5), some (.int (nI a)), some (.int (nI b)), some (.int 2), some (.int (cvd F (F 15) n (F 17 0) (-1) a b))]) (st2 := [.int 2, .int 2]) b_X10_binds_78_80 rfl (fun hd => ?_)
    refine R2.icmp_ne 95 hd (by decide) (fun c80 => absurd (by decide) c80) (fun c80 => ?_)
    refine R2.B (ls2 := [some (.ref 5), some (.int (nI a)), some (.int (nI b)), some (.int 2), some (.int (cvd F (F 15) n (F 17 0) (-1) a b))]) (st2 := [.int (nI b), .int (nI a), .ref 10]) b_X10_binds_83_89 rfl (fun hd => ?_)
    refine R2.callV3 (M2 := mX0_gain) (As := [.int (nI a), .int (nI b)]) (rest := []) hd lk_10_187 okX0_gain (by decide) rfl (ev_gain E L F a b (by omega) (by omega)) (by decide) rfl rfl (Nat.le_of_ble_eq_true rfl) ?_
    refine R2.B (ls2 := [some (.ref 5), some (.int (nI a)), some (.int (nI b)), some (.int 2), some (.int (cvd F (F 15) n (F 17 0) (-1) a b))]) (st2 := [.int (gan (F 11) (F 13) a b)]) b_X10_binds_92_116 rfl (fun hd => ?_)
    exact R2.ret3 (r := some (.int (gan (F 11) (F 13) a b))) hd trivial rfl (congrArg (fun z => some (Value.int z)) (by clear hd; grind)) rfl
  · refine R2.B (ls2 := [some (.ref 5), some (.int (nI a)), some (.int (nI b)), some (.int 2), some (.int (cvd F (F 15) n (F 17 0) (-1) a b))]) (st2 := [.int (-3)]) b_X10_binds_75_77 rfl (fun hd => ?_)
    exact R2.ret3 (r := some (.int (-3))) hd trivial rfl (congrArg (fun z => some (Value.int z)) (by clear hd; grind)) rfl
theorem b_X10_binds_95_103 : bl2 mX10_binds 95 [(.aload_n 0, 1, 0, 0, .null), (.getfield 24, 3, 10, 2, .null), (.getfield 140, 3, 0, 2, .null), (.iload_n 1, 1, 1, 0, .null)] 103 (.iaload) 1 = true := by decide +kernel
theorem b_X10_binds_104_112 : bl2 mX10_binds 104 [(.aload_n 0, 1, 0, 0, .null), (.getfield 24, 3, 10, 2, .null), (.getfield 140, 3, 0, 2, .null), (.iload_n 2, 1, 2, 0, .null)] 112 (.iaload) 1 = true := by decide +kernel
theorem b_X10_binds_113_115 : bl2 mX10_binds 113 [(.iadd, 1, 0, 0, .null), (.iconst 2, 1, 0, 0, .int 2)] 115 (.idiv) 1 = true := by decide +kernel
theorem b_X10_binds_116_116 : bl2 mX10_binds 116 [] 116 (.ireturn) 1 = true := by decide +kernel
set_option maxRecDepth 20000 in
set_option maxHeartbeats 1000000 in
theorem x_binds3 (E : EE) (L : Nat) (F : FF) (n : Nat) (hn : F 10 5 = nI n) (hn10 : n ≤ 10) (a b : Nat) (ha : a < n) (hb : b < n) (hab : a ≠ b) : Ev3 E L 16 mX10_binds [.ref 5, .int (nI a), .int (nI b), .int 3] F (some (.int (if cvd F (F 15) n (F 17 0) (-1) a b = 0 then (F 13 a + F 13 b) / 2 else -3))) F := by
  refine Ev3.of okX10_binds.2.2.1 (Nat.le_of_ble_eq_true rfl) ?_
  show R2 E L mX10_binds 16 0 [some (.ref 5), some (.int (nI a)), some (.int (nI b)), some (.int 3), none] [] F _
  refine R2.B (ls2 := [some (.ref 5), some (.int (nI a)), some (.int (nI b)), some (.int 3), none]) (st2 := [.int (nI b), .int (nI a), .ref 5]) b_X10_binds_0_3 rfl (fun hd => ?_)
  refine R2.callV3 (M2 := mX10_areTwo) (As := [.int (nI a), .int (nI b)]) (rest := []) hd lk_10_177 okX10_areTwo (by decide) rfl (ev_areTwo E L F (nI a) (nI b)) (by decide) rfl rfl (Nat.le_of_ble_eq_true rfl) ?_
  refine R2.B (ls2 := [some (.ref 5), some (.int (nI a)), some (.int (nI b)), some (.int 3), none]) (st2 := [.int (b2i (0 ≤ (nI a) ∧ (nI a) < F 10 5 ∧ 0 ≤ (nI b) ∧ (nI b) < F 10 5 ∧ ¬ (nI a) = (nI b)))]) b_X10_binds_6_6 rfl (fun hd => ?_)
  refine R2.if_eq 18 hd (by decide) (fun c6 => absurd c6 (b2i_nz.mpr (two_t hn hn10 ha hb hab))) (fun c6 => ?_)
  refine R2.B (ls2 := [some (.ref 5), some (.int (nI a)), some (.int (nI b)), some (.int 3), none]) (st2 := [.int 3]) b_X10_binds_9_10 rfl (fun hd => ?_)
  refine R2.if_lt 18 hd (by decide) (fun c10 => absurd c10 (by decide)) (fun c10 => ?_)
  refine R2.B (ls2 := [some (.ref 5), some (.int (nI a)), some (.int (nI b)), some (.int 3), none]) (st2 := [.int 3, .int 3]) b_X10_binds_13_15 rfl (fun hd => ?_)
  refine R2.icmp_le 21 hd (by decide) (fun c15 => ?_) (fun c15 => absurd (by decide) c15)
  refine R2.B (ls2 := [some (.ref 5), some (.int (nI a)), some (.int (nI b)), some (.int 3), none]) (st2 := [.int 1, .int 3]) b_X10_binds_21_23 rfl (fun hd => ?_)
  refine R2.icmp_ne 44 hd (by decide) (fun c23 => ?_) (fun c23 => absurd c23 (by decide))
  refine R2.B (ls2 := [some (.ref 5), some (.int (nI a)), some (.int (nI b)), some (.int 3), none]) (st2 := [.int (-1), .int (nI b), .int (nI a), .ref 15, .ref 16]) b_X10_binds_44_58 rfl (fun hd => ?_)
  refine R2.callV3 (M2 := mX2_verdict) (As := [.ref 15, .int (nI a), .int (nI b), .int (-1)]) (rest := []) hd lk_10_184 okX2_verdict (by decide) rfl (ev_verdict E L F n hn hn10 15 rfl (fun _ => rfl) a b (-1) (by omega) (by omega)) (by decide) rfl rfl (Nat.le_of_ble_eq_true rfl) ?_
  refine R2.B (ls2 := [some (.ref 5), some (.int (nI a)), some (.int (nI b)), some (.int 3), some (.int (cvd F (F 15) n (F 17 0) (-1) a b))]) (st2 := [.int 3]) b_X10_binds_61_64 rfl (fun hd => ?_)
  refine R2.if_ne 70 hd (by decide) (fun c64 => ?_) (fun c64 => absurd c64 (by decide))
  refine R2.B (ls2 := [some (.ref 5), some (.int (nI a)), some (.int (nI b)), some (.int 3), some (.int (cvd F (F 15) n (F 17 0) (-1) a b))]) (st2 := [.int (cvd F (F 15) n (F 17 0) (-1) a b)]) b_X10_binds_70_72 rfl (fun hd => ?_)
  refine R2.if_eq 78 hd (by decide) (fun c72 => ?_) (fun c72 => ?_)
  · refine R2.B (ls2 := [some (.ref 5), some (.int (nI a)), some (.int (nI b)), some (.int 3), some (.int (cvd F (F 15) n (F 17 0) (-1) a b))]) (st2 := [.int 2, .int 3]) b_X10_binds_78_80 rfl (fun hd => ?_)
    refine R2.icmp_ne 95 hd (by decide) (fun c80 => ?_) (fun c80 => absurd c80 (by decide))
    refine R2.B (ls2 := [some (.ref 5), some (.int (nI a)), some (.int (nI b)), some (.int 3), some (.int (cvd F (F 15) n (F 17 0) (-1) a b))]) (st2 := [.int (nI a), .ref 13]) b_X10_binds_95_103 rfl (fun hd => ?_)
    refine R2.iald a rfl hd rfl (fun _ => rfl) (by decide) (by omega) ?_
    refine R2.B (ls2 := [some (.ref 5), some (.int (nI a)), some (.int (nI b)), some (.int 3), some (.int (cvd F (F 15) n (F 17 0) (-1) a b))]) (st2 := [.int (nI b), .ref 13, .int (F 13 a)]) b_X10_binds_104_112 rfl (fun hd => ?_)
    refine R2.iald b rfl hd rfl (fun _ => rfl) (by decide) (by omega) ?_
    refine R2.B (ls2 := [some (.ref 5), some (.int (nI a)), some (.int (nI b)), some (.int 3), some (.int (cvd F (F 15) n (F 17 0) (-1) a b))]) (st2 := [.int 2, .int ((F 13 a) + (F 13 b))]) b_X10_binds_113_115 rfl (fun hd => ?_)
    refine R2.idiv hd (by decide) ?_
    refine R2.B (ls2 := [some (.ref 5), some (.int (nI a)), some (.int (nI b)), some (.int 3), some (.int (cvd F (F 15) n (F 17 0) (-1) a b))]) (st2 := [.int (((F 13 a) + (F 13 b)) / 2)]) b_X10_binds_116_116 rfl (fun hd => ?_)
    exact R2.ret3 (r := some (.int (((F 13 a) + (F 13 b)) / 2))) hd trivial rfl (congrArg (fun z => some (Value.int z)) (by clear hd; grind)) rfl
  · refine R2.B (ls2 := [some (.ref 5), some (.int (nI a)), some (.int (nI b)), some (.int 3), some (.int (cvd F (F 15) n (F 17 0) (-1) a b))]) (st2 := [.int (-3)]) b_X10_binds_75_77 rfl (fun hd => ?_)
    exact R2.ret3 (r := some (.int (-3))) hd trivial rfl (congrArg (fun z => some (Value.int z)) (by clear hd; grind)) rfl
theorem b_X10_pairs_0_12 : bl2 mX10_pairs 0 [(.aload_n 0, 1, 0, 0, .null), (.getfield 33, 3, 10, 3, .null), (.aload_n 0, 1, 0, 0, .null), (.getfield 33, 3, 10, 3, .null), (.getfield 128, 3, 2, 1, .null), (.iconst 0, 1, 0, 0, .int 0)] 12 (.iaload) 1 = true := by decide +kernel
theorem b_X10_pairs_13_13 : bl2 mX10_pairs 13 [] 13 (.invokevirtual 190) 3 = true := by decide +kernel
theorem b_X10_pairs_16_16 : bl2 mX10_pairs 16 [] 16 (.ireturn) 1 = true := by decide +kernel
set_option maxRecDepth 20000 in
set_option maxHeartbeats 1000000 in
theorem x_pairs (E : EE) (L : Nat) (F : FF) (n : Nat) (hn : F 10 5 = nI n) (hn10 : n ≤ 10) : Ev3 E L 16 mX10_pairs [.ref 5] F (some (.int (cBP F n (F 17 0)))) F := by
  refine Ev3.of okX10_pairs.2.2.1 (Nat.le_of_ble_eq_true rfl) ?_
  show R2 E L mX10_pairs 16 0 [some (.ref 5)] [] F _
  refine R2.B (ls2 := [some (.ref 5)]) (st2 := [.int 0, .ref 17, .ref 16]) b_X10_pairs_0_12 rfl (fun hd => ?_)
  refine R2.iald 0 rfl hd rfl (fun _ => rfl) (by decide) (by omega) ?_
  refine R2.B (ls2 := [some (.ref 5)]) (st2 := [.int (F 17 0), .ref 16]) b_X10_pairs_13_13 rfl (fun hd => ?_)
  refine R2.callV3 (M2 := mX2_bindingPairs) (As := [.int (F 17 0)]) (rest := []) hd lk_10_190 okX2_bindingPairs (by decide) rfl (ev_bindingPairs E L F n hn hn10 (F 17 0)) (by decide) rfl rfl (Nat.le_of_ble_eq_true rfl) ?_
  refine R2.B (ls2 := [some (.ref 5)]) (st2 := [.int (cBP F n (F 17 0))]) b_X10_pairs_16_16 rfl (fun hd => ?_)
  exact R2.ret3 (r := some (.int (cBP F n (F 17 0)))) hd trivial rfl rfl rfl
theorem b_X10_once_0_2 : bl2 mX10_once 0 [(.iload_n 1, 1, 1, 0, .null), (.iconst (-1), 1, 0, 0, .int (-1))] 2 (.if_icmp .eq 14) 3 = true := by decide +kernel
theorem b_X10_once_16_16 : bl2 mX10_once 16 [] 16 (.aload_n 0) 1 = true := by decide +kernel
theorem b_X10_once_5_7 : bl2 mX10_once 5 [(.aload_n 0, 1, 0, 0, .null), (.iload_n 1, 1, 1, 0, .null)] 7 (.invokevirtual 131) 3 = true := by decide +kernel
theorem b_X10_once_10_10 : bl2 mX10_once 10 [] 10 (.ifCond .ne 6) 3 = true := by decide +kernel
theorem b_X10_once_13_15 : bl2 mX10_once 13 [(.bipush (-2), 2, 0, 0, .int (-2))] 15 (.ireturn) 1 = true := by decide +kernel
set_option maxRecDepth 20000 in
set_option maxHeartbeats 1000000 in
theorem x_once_bad (E : EE) (L : Nat) (F : FF) (p : Int32) (h : ¬ (0 ≤ p ∧ p < F 10 5)) (h1 : ¬ p = -1) : Ev3 E L 16 mX10_once [.ref 5, .int p] F (some (.int (-2))) F := by
  refine Ev3.of okX10_once.2.2.1 (Nat.le_of_ble_eq_true rfl) ?_
  show R2 E L mX10_once 16 0 [some (.ref 5), some (.int p)] [] F _
  refine R2.B (ls2 := [some (.ref 5), some (.int p)]) (st2 := [.int (-1), .int p]) b_X10_once_0_2 rfl (fun hd => ?_)
  refine R2.icmp_eq 16 hd (by decide) (fun c2 => ?_) (fun c2 => ?_)
  · refine R2.B (ls2 := [some (.ref 5), some (.int p)]) (st2 := []) b_X10_once_16_16 rfl (fun hd => ?_)
    exact False.elim (by clear hd; grind)
  · refine R2.B (ls2 := [some (.ref 5), some (.int p)]) (st2 := [.int p, .ref 5]) b_X10_once_5_7 rfl (fun hd => ?_)
    refine R2.callV3 (M2 := mX10_isPerson) (As := [.int p]) (rest := []) hd lk_10_131 okX10_isPerson (by decide) rfl (ev_isPerson E L F p) (by decide) rfl rfl (Nat.le_of_ble_eq_true rfl) ?_
    refine R2.B (ls2 := [some (.ref 5), some (.int p)]) (st2 := [.int (b2i (0 ≤ p ∧ p < F 10 5))]) b_X10_once_10_10 rfl (fun hd => ?_)
    refine R2.if_ne 16 hd (by decide) (fun c10 => ?_) (fun c10 => ?_)
    · have nc10 : 0 ≤ p ∧ p < F 10 5 := b2i_nz.mp c10
      refine R2.B (ls2 := [some (.ref 5), some (.int p)]) (st2 := []) b_X10_once_16_16 rfl (fun hd => ?_)
      exact False.elim (by clear hd; grind)
    · have nc10 : ¬ (0 ≤ p ∧ p < F 10 5) := b2i_zero.mp c10
      refine R2.B (ls2 := [some (.ref 5), some (.int p)]) (st2 := [.int (-2)]) b_X10_once_13_15 rfl (fun hd => ?_)
      exact R2.ret3 (r := some (.int (-2))) hd trivial rfl rfl rfl
theorem b_X10_once_16_20 : bl2 mX10_once 16 [(.aload_n 0, 1, 0, 0, .null), (.getfield 56, 3, 10, 6, .null)] 20 (.invokevirtual 193) 3 = true := by decide +kernel
theorem b_X10_once_23_25 : bl2 mX10_once 23 [(.iload_n 1, 1, 1, 0, .null), (.iconst (-1), 1, 0, 0, .int (-1))] 25 (.if_icmp .ne 13) 3 = true := by decide +kernel
theorem b_X10_once_28_47 : bl2 mX10_once 28 [(.aload_n 0, 1, 0, 0, .null), (.getfield 56, 3, 10, 6, .null), (.getfield 196, 3, 3, 4, .null), (.goto 12, 3, 47, 0, .null)] 47 (.ireturn) 1 = true := by decide +kernel
set_option maxRecDepth 20000 in
set_option maxHeartbeats 1000000 in
theorem x_once_none (E : EE) (L : Nat) (F : FF) (n : Nat) (hn : F 10 5 = nI n) (hn10 : n ≤ 10) : Ev3 E L 16 mX10_once [.ref 5, .int (-1)] F (some (.int (solF F n 25 4))) (solF F n) := by
  refine Ev3.of okX10_once.2.2.1 (Nat.le_of_ble_eq_true rfl) ?_
  show R2 E L mX10_once 16 0 [some (.ref 5), some (.int (-1))] [] F _
  refine R2.B (ls2 := [some (.ref 5), some (.int (-1))]) (st2 := [.int (-1), .int (-1)]) b_X10_once_0_2 rfl (fun hd => ?_)
  refine R2.icmp_eq 16 hd (by decide) (fun c2 => ?_) (fun c2 => absurd (by decide) c2)
  refine R2.B (ls2 := [some (.ref 5), some (.int (-1))]) (st2 := [.ref 25]) b_X10_once_16_20 rfl (fun hd => ?_)
  refine R2.callV3 (M2 := mX3_solve) (As := []) (rest := []) hd lk_10_193 okX3_solve (by decide) rfl (ev_solve E L F n hn hn10) (by decide) rfl rfl (Nat.le_of_ble_eq_true rfl) ?_
  refine R2.B (ls2 := [some (.ref 5), some (.int (-1))]) (st2 := [.int (-1), .int (-1)]) b_X10_once_23_25 rfl (fun hd => ?_)
  refine R2.icmp_ne 38 hd (by decide) (fun c25 => absurd (by decide) c25) (fun c25 => ?_)
  refine R2.B (ls2 := [some (.ref 5), some (.int (-1))]) (st2 := [.int ((solF F n) 25 4)]) b_X10_once_28_47 rfl (fun hd => ?_)
  exact R2.ret3 (r := some (.int ((solF F n) 25 4))) hd trivial rfl rfl rfl
theorem b_X10_once_38_46 : bl2 mX10_once 38 [(.aload_n 0, 1, 0, 0, .null), (.getfield 56, 3, 10, 6, .null), (.getfield 199, 3, 3, 3, .null), (.iload_n 1, 1, 1, 0, .null)] 46 (.iaload) 1 = true := by decide +kernel
theorem b_X10_once_47_47 : bl2 mX10_once 47 [] 47 (.ireturn) 1 = true := by decide +kernel
set_option maxRecDepth 20000 in
set_option maxHeartbeats 1000000 in
theorem x_once (E : EE) (L : Nat) (F : FF) (n : Nat) (hn : F 10 5 = nI n) (hn10 : n ≤ 10) (a : Nat) (ha : a < n) : Ev3 E L 16 mX10_once [.ref 5, .int (nI a)] F (some (.int (solF F n 28 a))) (solF F n) := by
  refine Ev3.of okX10_once.2.2.1 (Nat.le_of_ble_eq_true rfl) ?_
  show R2 E L mX10_once 16 0 [some (.ref 5), some (.int (nI a))] [] F _
  refine R2.B (ls2 := [some (.ref 5), some (.int (nI a))]) (st2 := [.int (-1), .int (nI a)]) b_X10_once_0_2 rfl (fun hd => ?_)
  refine R2.icmp_eq 16 hd (by decide) (fun c2 => absurd c2 (nI_m1 (by omega))) (fun c2 => ?_)
  refine R2.B (ls2 := [some (.ref 5), some (.int (nI a))]) (st2 := [.int (nI a), .ref 5]) b_X10_once_5_7 rfl (fun hd => ?_)
  refine R2.callV3 (M2 := mX10_isPerson) (As := [.int (nI a)]) (rest := []) hd lk_10_131 okX10_isPerson (by decide) rfl (ev_isPerson E L F (nI a)) (by decide) rfl rfl (Nat.le_of_ble_eq_true rfl) ?_
  refine R2.B (ls2 := [some (.ref 5), some (.int (nI a))]) (st2 := [.int (b2i (0 ≤ (nI a) ∧ (nI a) < F 10 5))]) b_X10_once_10_10 rfl (fun hd => ?_)
  refine R2.if_ne 16 hd (by decide) (fun c10 => ?_) (fun c10 => absurd c10 (b2i_nz.mpr (per_t hn hn10 ha)))
  refine R2.B (ls2 := [some (.ref 5), some (.int (nI a))]) (st2 := [.ref 25]) b_X10_once_16_20 rfl (fun hd => ?_)
  refine R2.callV3 (M2 := mX3_solve) (As := []) (rest := []) hd lk_10_193 okX3_solve (by decide) rfl (ev_solve E L F n hn hn10) (by decide) rfl rfl (Nat.le_of_ble_eq_true rfl) ?_
  refine R2.B (ls2 := [some (.ref 5), some (.int (nI a))]) (st2 := [.int (-1), .int (nI a)]) b_X10_once_23_25 rfl (fun hd => ?_)
  refine R2.icmp_ne 38 hd (by decide) (fun c25 => ?_) (fun c25 => absurd c25 (nI_m1 (by omega)))
  refine R2.B (ls2 := [some (.ref 5), some (.int (nI a))]) (st2 := [.int (nI a), .ref 28]) b_X10_once_38_46 rfl (fun hd => ?_)
  refine R2.iald a rfl hd rfl (fun _ => rfl) (by decide) (by omega) ?_
  refine R2.B (ls2 := [some (.ref 5), some (.int (nI a))]) (st2 := [.int ((solF F n) 28 a)]) b_X10_once_47_47 rfl (fun hd => ?_)
  exact R2.ret3 (r := some (.int ((solF F n) 28 a))) hd trivial rfl rfl rfl
theorem b_X10_worth_0_4 : bl2 mX10_worth 0 [(.aload_n 0, 1, 0, 0, .null), (.getfield 56, 3, 10, 6, .null)] 4 (.invokevirtual 193) 3 = true := by decide +kernel
theorem b_X10_worth_7_14 : bl2 mX10_worth 7 [(.aload_n 0, 1, 0, 0, .null), (.getfield 56, 3, 10, 6, .null), (.getfield 202, 3, 3, 5, .null)] 14 (.ireturn) 1 = true := by decide +kernel
set_option maxRecDepth 20000 in
set_option maxHeartbeats 1000000 in
theorem x_worth (E : EE) (L : Nat) (F : FF) (n : Nat) (hn : F 10 5 = nI n) (hn10 : n ≤ 10) : Ev3 E L 16 mX10_worth [.ref 5] F (some (.int (solF F n 25 5))) (solF F n) := by
  refine Ev3.of okX10_worth.2.2.1 (Nat.le_of_ble_eq_true rfl) ?_
  show R2 E L mX10_worth 16 0 [some (.ref 5)] [] F _
  refine R2.B (ls2 := [some (.ref 5)]) (st2 := [.ref 25]) b_X10_worth_0_4 rfl (fun hd => ?_)
  refine R2.callV3 (M2 := mX3_solve) (As := []) (rest := []) hd lk_10_193 okX3_solve (by decide) rfl (ev_solve E L F n hn hn10) (by decide) rfl rfl (Nat.le_of_ble_eq_true rfl) ?_
  refine R2.B (ls2 := [some (.ref 5)]) (st2 := [.int ((solF F n) 25 5)]) b_X10_worth_7_14 rfl (fun hd => ?_)
  exact R2.ret3 (r := some (.int ((solF F n) 25 5))) hd trivial rfl rfl rfl
theorem b_X10_judged_0_1 : bl2 mX10_judged 0 [(.iload_n 1, 1, 1, 0, .null)] 1 (.ifCond .lt 8) 3 = true := by decide +kernel
theorem b_X10_judged_9_11 : bl2 mX10_judged 9 [(.bipush (-2), 2, 0, 0, .int (-2))] 11 (.ireturn) 1 = true := by decide +kernel
theorem b_X10_judged_4_6 : bl2 mX10_judged 4 [(.iload_n 1, 1, 1, 0, .null), (.iconst 2, 1, 0, 0, .int 2)] 6 (.if_icmp .le 6) 3 = true := by decide +kernel
theorem b_X10_judged_12_12 : bl2 mX10_judged 12 [] 12 (.aload_n 0) 1 = true := by decide +kernel
set_option maxRecDepth 20000 in
set_option maxHeartbeats 1000000 in
theorem x_judged_bad (E : EE) (L : Nat) (F : FF) (w : Int32) (h : w < 0 ∨ 2 < w) : Ev3 E L 16 mX10_judged [.ref 5, .int w] F (some (.int (-2))) F := by
  refine Ev3.of okX10_judged.2.2.1 (Nat.le_of_ble_eq_true rfl) ?_
  show R2 E L mX10_judged 16 0 [some (.ref 5), some (.int w)] [] F _
  refine R2.B (ls2 := [some (.ref 5), some (.int w)]) (st2 := [.int w]) b_X10_judged_0_1 rfl (fun hd => ?_)
  refine R2.if_lt 9 hd (by decide) (fun c1 => ?_) (fun c1 => ?_)
  · refine R2.B (ls2 := [some (.ref 5), some (.int w)]) (st2 := [.int (-2)]) b_X10_judged_9_11 rfl (fun hd => ?_)
    exact R2.ret3 (r := some (.int (-2))) hd trivial rfl rfl rfl
  · refine R2.B (ls2 := [some (.ref 5), some (.int w)]) (st2 := [.int 2, .int w]) b_X10_judged_4_6 rfl (fun hd => ?_)
    refine R2.icmp_le 12 hd (by decide) (fun c6 => ?_) (fun c6 => ?_)
    · refine R2.B (ls2 := [some (.ref 5), some (.int w)]) (st2 := []) b_X10_judged_12_12 rfl (fun hd => ?_)
      exact False.elim (by clear hd; grind)
    · refine R2.B (ls2 := [some (.ref 5), some (.int w)]) (st2 := [.int (-2)]) b_X10_judged_9_11 rfl (fun hd => ?_)
      exact R2.ret3 (r := some (.int (-2))) hd trivial rfl rfl rfl
theorem b_X10_judged_12_20 : bl2 mX10_judged 12 [(.aload_n 0, 1, 0, 0, .null), (.getfield 49, 3, 10, 5, .null), (.aload_n 0, 1, 0, 0, .null), (.getfield 40, 3, 10, 4, .null)] 20 (.invokevirtual 205) 3 = true := by decide +kernel
theorem b_X10_judged_23_28 : bl2 mX10_judged 23 [(.aload_n 0, 1, 0, 0, .null), (.getfield 49, 3, 10, 5, .null), (.iload_n 1, 1, 1, 0, .null)] 28 (.invokevirtual 209) 3 = true := by decide +kernel
theorem b_X10_judged_31_31 : bl2 mX10_judged 31 [] 31 (.ireturn) 1 = true := by decide +kernel
set_option maxRecDepth 20000 in
set_option maxHeartbeats 1000000 in
theorem x_judged0 (E : EE) (L : Nat) (F : FF) (hc : CST F) (n : Nat) (hn : F 10 5 = nI n) (hn10 : n ≤ 10) (s : Nat) (hf : FairOK F n s) : Ev3 E L 16 mX10_judged [.ref 5, .int 0] F (some (.int (jgF F n s 22 3))) (jgF F n s) := by
  refine Ev3.of okX10_judged.2.2.1 (Nat.le_of_ble_eq_true rfl) ?_
  show R2 E L mX10_judged 16 0 [some (.ref 5), some (.int 0)] [] F _
  refine R2.B (ls2 := [some (.ref 5), some (.int 0)]) (st2 := [.int 0]) b_X10_judged_0_1 rfl (fun hd => ?_)
  refine R2.if_lt 9 hd (by decide) (fun c1 => absurd c1 (by decide)) (fun c1 => ?_)
  refine R2.B (ls2 := [some (.ref 5), some (.int 0)]) (st2 := [.int 2, .int 0]) b_X10_judged_4_6 rfl (fun hd => ?_)
  refine R2.icmp_le 12 hd (by decide) (fun c6 => ?_) (fun c6 => absurd (by decide) c6)
  refine R2.B (ls2 := [some (.ref 5), some (.int 0)]) (st2 := [.ref 18, .ref 22]) b_X10_judged_12_20 rfl (fun hd => ?_)
  refine R2.callV3 (M2 := mX8_judge) (As := [.ref 18]) (rest := []) hd lk_10_205 okX8_judge (by decide) rfl (ev_judge E L F hc n hn hn10 s hf) (by decide) rfl rfl (Nat.le_of_ble_eq_true rfl) ?_
  refine R2.B (ls2 := [some (.ref 5), some (.int 0)]) (st2 := [.int 0, .ref 22]) b_X10_judged_23_28 rfl (fun hd => ?_)
  refine R2.callV3 (M2 := mX8_result) (As := [.int 0]) (rest := []) hd lk_10_209 okX8_result (by decide) rfl (ev_result E L (jgF F n s) 0) (by decide) rfl rfl (Nat.le_of_ble_eq_true rfl) ?_
  refine R2.B (ls2 := [some (.ref 5), some (.int 0)]) (st2 := [.int (jgF F n s 22 3)]) b_X10_judged_31_31 rfl (fun hd => ?_)
  exact R2.ret3 (r := some (.int (jgF F n s 22 3))) hd trivial rfl rfl rfl
set_option maxRecDepth 20000 in
set_option maxHeartbeats 1000000 in
theorem x_judged1 (E : EE) (L : Nat) (F : FF) (hc : CST F) (n : Nat) (hn : F 10 5 = nI n) (hn10 : n ≤ 10) (s : Nat) (hf : FairOK F n s) : Ev3 E L 16 mX10_judged [.ref 5, .int 1] F (some (.int (jgF F n s 22 4))) (jgF F n s) := by
  refine Ev3.of okX10_judged.2.2.1 (Nat.le_of_ble_eq_true rfl) ?_
  show R2 E L mX10_judged 16 0 [some (.ref 5), some (.int 1)] [] F _
  refine R2.B (ls2 := [some (.ref 5), some (.int 1)]) (st2 := [.int 1]) b_X10_judged_0_1 rfl (fun hd => ?_)
  refine R2.if_lt 9 hd (by decide) (fun c1 => absurd c1 (by decide)) (fun c1 => ?_)
  refine R2.B (ls2 := [some (.ref 5), some (.int 1)]) (st2 := [.int 2, .int 1]) b_X10_judged_4_6 rfl (fun hd => ?_)
  refine R2.icmp_le 12 hd (by decide) (fun c6 => ?_) (fun c6 => absurd (by decide) c6)
  refine R2.B (ls2 := [some (.ref 5), some (.int 1)]) (st2 := [.ref 18, .ref 22]) b_X10_judged_12_20 rfl (fun hd => ?_)
  refine R2.callV3 (M2 := mX8_judge) (As := [.ref 18]) (rest := []) hd lk_10_205 okX8_judge (by decide) rfl (ev_judge E L F hc n hn hn10 s hf) (by decide) rfl rfl (Nat.le_of_ble_eq_true rfl) ?_
  refine R2.B (ls2 := [some (.ref 5), some (.int 1)]) (st2 := [.int 1, .ref 22]) b_X10_judged_23_28 rfl (fun hd => ?_)
  refine R2.callV3 (M2 := mX8_result) (As := [.int 1]) (rest := []) hd lk_10_209 okX8_result (by decide) rfl (ev_result E L (jgF F n s) 1) (by decide) rfl rfl (Nat.le_of_ble_eq_true rfl) ?_
  refine R2.B (ls2 := [some (.ref 5), some (.int 1)]) (st2 := [.int (jgF F n s 22 4)]) b_X10_judged_31_31 rfl (fun hd => ?_)
  exact R2.ret3 (r := some (.int (jgF F n s 22 4))) hd trivial rfl rfl rfl
set_option maxRecDepth 20000 in
set_option maxHeartbeats 1000000 in
theorem x_judged2 (E : EE) (L : Nat) (F : FF) (hc : CST F) (n : Nat) (hn : F 10 5 = nI n) (hn10 : n ≤ 10) (s : Nat) (hf : FairOK F n s) : Ev3 E L 16 mX10_judged [.ref 5, .int 2] F (some (.int (jgF F n s 22 5))) (jgF F n s) := by
  refine Ev3.of okX10_judged.2.2.1 (Nat.le_of_ble_eq_true rfl) ?_
  show R2 E L mX10_judged 16 0 [some (.ref 5), some (.int 2)] [] F _
  refine R2.B (ls2 := [some (.ref 5), some (.int 2)]) (st2 := [.int 2]) b_X10_judged_0_1 rfl (fun hd => ?_)
  refine R2.if_lt 9 hd (by decide) (fun c1 => absurd c1 (by decide)) (fun c1 => ?_)
  refine R2.B (ls2 := [some (.ref 5), some (.int 2)]) (st2 := [.int 2, .int 2]) b_X10_judged_4_6 rfl (fun hd => ?_)
  refine R2.icmp_le 12 hd (by decide) (fun c6 => ?_) (fun c6 => absurd (by decide) c6)
  refine R2.B (ls2 := [some (.ref 5), some (.int 2)]) (st2 := [.ref 18, .ref 22]) b_X10_judged_12_20 rfl (fun hd => ?_)
  refine R2.callV3 (M2 := mX8_judge) (As := [.ref 18]) (rest := []) hd lk_10_205 okX8_judge (by decide) rfl (ev_judge E L F hc n hn hn10 s hf) (by decide) rfl rfl (Nat.le_of_ble_eq_true rfl) ?_
  refine R2.B (ls2 := [some (.ref 5), some (.int 2)]) (st2 := [.int 2, .ref 22]) b_X10_judged_23_28 rfl (fun hd => ?_)
  refine R2.callV3 (M2 := mX8_result) (As := [.int 2]) (rest := []) hd lk_10_209 okX8_result (by decide) rfl (ev_result E L (jgF F n s) 2) (by decide) rfl rfl (Nat.le_of_ble_eq_true rfl) ?_
  refine R2.B (ls2 := [some (.ref 5), some (.int 2)]) (st2 := [.int (jgF F n s 22 5)]) b_X10_judged_31_31 rfl (fun hd => ?_)
  exact R2.ret3 (r := some (.int (jgF F n s 22 5))) hd trivial rfl rfl rfl
theorem b_X10_ends_0_2 : bl2 mX10_ends 0 [(.aload_n 0, 1, 0, 0, .null), (.iload_n 1, 1, 1, 0, .null)] 2 (.invokevirtual 131) 3 = true := by decide +kernel
theorem b_X10_ends_5_5 : bl2 mX10_ends 5 [] 5 (.ifCond .ne 6) 3 = true := by decide +kernel
theorem b_X10_ends_11_11 : bl2 mX10_ends 11 [] 11 (.aload_n 0) 1 = true := by decide +kernel
theorem b_X10_ends_8_10 : bl2 mX10_ends 8 [(.bipush (-2), 2, 0, 0, .int (-2))] 10 (.ireturn) 1 = true := by decide +kernel
set_option maxRecDepth 20000 in
set_option maxHeartbeats 1000000 in
theorem x_ends_bad (E : EE) (L : Nat) (F : FF) (p : Int32) (h : ¬ (0 ≤ p ∧ p < F 10 5)) : Ev3 E L 16 mX10_ends [.ref 5, .int p] F (some (.int (-2))) F := by
  refine Ev3.of okX10_ends.2.2.1 (Nat.le_of_ble_eq_true rfl) ?_
  show R2 E L mX10_ends 16 0 [some (.ref 5), some (.int p)] [] F _
  refine R2.B (ls2 := [some (.ref 5), some (.int p)]) (st2 := [.int p, .ref 5]) b_X10_ends_0_2 rfl (fun hd => ?_)
  refine R2.callV3 (M2 := mX10_isPerson) (As := [.int p]) (rest := []) hd lk_10_131 okX10_isPerson (by decide) rfl (ev_isPerson E L F p) (by decide) rfl rfl (Nat.le_of_ble_eq_true rfl) ?_
  refine R2.B (ls2 := [some (.ref 5), some (.int p)]) (st2 := [.int (b2i (0 ≤ p ∧ p < F 10 5))]) b_X10_ends_5_5 rfl (fun hd => ?_)
  refine R2.if_ne 11 hd (by decide) (fun c5 => ?_) (fun c5 => ?_)
  · have nc5 : 0 ≤ p ∧ p < F 10 5 := b2i_nz.mp c5
    refine R2.B (ls2 := [some (.ref 5), some (.int p)]) (st2 := []) b_X10_ends_11_11 rfl (fun hd => ?_)
    exact False.elim (by clear hd; grind)
  · have nc5 : ¬ (0 ≤ p ∧ p < F 10 5) := b2i_zero.mp c5
    refine R2.B (ls2 := [some (.ref 5), some (.int p)]) (st2 := [.int (-2)]) b_X10_ends_8_10 rfl (fun hd => ?_)
    exact R2.ret3 (r := some (.int (-2))) hd trivial rfl rfl rfl
theorem b_X10_ends_11_19 : bl2 mX10_ends 11 [(.aload_n 0, 1, 0, 0, .null), (.getfield 49, 3, 10, 5, .null), (.aload_n 0, 1, 0, 0, .null), (.getfield 40, 3, 10, 4, .null)] 19 (.invokevirtual 205) 3 = true := by decide +kernel
theorem b_X10_ends_22_30 : bl2 mX10_ends 22 [(.aload_n 0, 1, 0, 0, .null), (.getfield 49, 3, 10, 5, .null), (.getfield 212, 3, 8, 1, .null), (.iload_n 1, 1, 1, 0, .null)] 30 (.iaload) 1 = true := by decide +kernel
theorem b_X10_ends_31_31 : bl2 mX10_ends 31 [] 31 (.ireturn) 1 = true := by decide +kernel
set_option maxRecDepth 20000 in
set_option maxHeartbeats 1000000 in
theorem x_ends (E : EE) (L : Nat) (F : FF) (hc : CST F) (n : Nat) (hn : F 10 5 = nI n) (hn10 : n ≤ 10) (s : Nat) (hf : FairOK F n s) (a : Nat) (ha : a < n) : Ev3 E L 16 mX10_ends [.ref 5, .int (nI a)] F (some (.int (jgF F n s 23 a))) (jgF F n s) := by
  refine Ev3.of okX10_ends.2.2.1 (Nat.le_of_ble_eq_true rfl) ?_
  show R2 E L mX10_ends 16 0 [some (.ref 5), some (.int (nI a))] [] F _
  refine R2.B (ls2 := [some (.ref 5), some (.int (nI a))]) (st2 := [.int (nI a), .ref 5]) b_X10_ends_0_2 rfl (fun hd => ?_)
  refine R2.callV3 (M2 := mX10_isPerson) (As := [.int (nI a)]) (rest := []) hd lk_10_131 okX10_isPerson (by decide) rfl (ev_isPerson E L F (nI a)) (by decide) rfl rfl (Nat.le_of_ble_eq_true rfl) ?_
  refine R2.B (ls2 := [some (.ref 5), some (.int (nI a))]) (st2 := [.int (b2i (0 ≤ (nI a) ∧ (nI a) < F 10 5))]) b_X10_ends_5_5 rfl (fun hd => ?_)
  refine R2.if_ne 11 hd (by decide) (fun c5 => ?_) (fun c5 => absurd c5 (b2i_nz.mpr (per_t hn hn10 ha)))
  refine R2.B (ls2 := [some (.ref 5), some (.int (nI a))]) (st2 := [.ref 18, .ref 22]) b_X10_ends_11_19 rfl (fun hd => ?_)
  refine R2.callV3 (M2 := mX8_judge) (As := [.ref 18]) (rest := []) hd lk_10_205 okX8_judge (by decide) rfl (ev_judge E L F hc n hn hn10 s hf) (by decide) rfl rfl (Nat.le_of_ble_eq_true rfl) ?_
  refine R2.B (ls2 := [some (.ref 5), some (.int (nI a))]) (st2 := [.int (nI a), .ref 23]) b_X10_ends_22_30 rfl (fun hd => ?_)
  refine R2.iald a rfl hd rfl (fun _ => rfl) (by decide) (by omega) ?_
  refine R2.B (ls2 := [some (.ref 5), some (.int (nI a))]) (st2 := [.int ((jgF F n s) 23 a)]) b_X10_ends_31_31 rfl (fun hd => ?_)
  exact R2.ret3 (r := some (.int ((jgF F n s) 23 a))) hd trivial rfl rfl rfl
theorem b_X10_comes_0_3 : bl2 mX10_comes 0 [(.aload_n 0, 1, 0, 0, .null), (.iload_n 1, 1, 1, 0, .null), (.iload_n 2, 1, 2, 0, .null)] 3 (.invokevirtual 177) 3 = true := by decide +kernel
theorem b_X10_comes_6_6 : bl2 mX10_comes 6 [] 6 (.ifCond .ne 6) 3 = true := by decide +kernel
theorem b_X10_comes_12_12 : bl2 mX10_comes 12 [] 12 (.aload_n 0) 1 = true := by decide +kernel
theorem b_X10_comes_9_11 : bl2 mX10_comes 9 [(.bipush (-2), 2, 0, 0, .int (-2))] 11 (.ireturn) 1 = true := by decide +kernel
set_option maxRecDepth 20000 in
set_option maxHeartbeats 1000000 in
theorem x_comes_bad (E : EE) (L : Nat) (F : FF) (p q : Int32) (h : ¬ (0 ≤ p ∧ p < F 10 5 ∧ 0 ≤ q ∧ q < F 10 5 ∧ ¬ p = q)) : Ev3 E L 16 mX10_comes [.ref 5, .int p, .int q] F (some (.int (-2))) F := by
  refine Ev3.of okX10_comes.2.2.1 (Nat.le_of_ble_eq_true rfl) ?_
  show R2 E L mX10_comes 16 0 [some (.ref 5), some (.int p), some (.int q)] [] F _
  refine R2.B (ls2 := [some (.ref 5), some (.int p), some (.int q)]) (st2 := [.int q, .int p, .ref 5]) b_X10_comes_0_3 rfl (fun hd => ?_)
  refine R2.callV3 (M2 := mX10_areTwo) (As := [.int p, .int q]) (rest := []) hd lk_10_177 okX10_areTwo (by decide) rfl (ev_areTwo E L F p q) (by decide) rfl rfl (Nat.le_of_ble_eq_true rfl) ?_
  refine R2.B (ls2 := [some (.ref 5), some (.int p), some (.int q)]) (st2 := [.int (b2i (0 ≤ p ∧ p < F 10 5 ∧ 0 ≤ q ∧ q < F 10 5 ∧ ¬ p = q))]) b_X10_comes_6_6 rfl (fun hd => ?_)
  refine R2.if_ne 12 hd (by decide) (fun c6 => ?_) (fun c6 => ?_)
  · have nc6 : 0 ≤ p ∧ p < F 10 5 ∧ 0 ≤ q ∧ q < F 10 5 ∧ ¬ p = q := b2i_nz.mp c6
    refine R2.B (ls2 := [some (.ref 5), some (.int p), some (.int q)]) (st2 := []) b_X10_comes_12_12 rfl (fun hd => ?_)
    exact False.elim (by clear hd; grind)
  · have nc6 : ¬ (0 ≤ p ∧ p < F 10 5 ∧ 0 ≤ q ∧ q < F 10 5 ∧ ¬ p = q) := b2i_zero.mp c6
    refine R2.B (ls2 := [some (.ref 5), some (.int p), some (.int q)]) (st2 := [.int (-2)]) b_X10_comes_9_11 rfl (fun hd => ?_)
    exact R2.ret3 (r := some (.int (-2))) hd trivial rfl rfl rfl
theorem b_X10_comes_12_18 : bl2 mX10_comes 12 [(.aload_n 0, 1, 0, 0, .null), (.getfield 63, 3, 10, 7, .null), (.iload_n 1, 1, 1, 0, .null), (.iload_n 2, 1, 2, 0, .null)] 18 (.invokevirtual 213) 3 = true := by decide +kernel
theorem b_X10_comes_21_21 : bl2 mX10_comes 21 [] 21 (.ireturn) 1 = true := by decide +kernel
set_option maxRecDepth 20000 in
set_option maxHeartbeats 1000000 in
theorem x_comes0 (E : EE) (L : Nat) (F : FF) (hc : CST F) (n : Nat) (hn : F 10 5 = nI n) (hn10 : n ≤ 10) (a b : Nat) (ha : a < n) (hb : b < n) (hab : a ≠ b) (s0 : Nat) (hs : F 15 a = nI s0) (hs0 : s0 < 1024) (ht : ¬ trd (F 11) (F 12) (F 13) a b) : Ev3 E L 16 mX10_comes [.ref 5, .int (nI a), .int (nI b)] F (some (.int ((-1)))) F := by
  refine Ev3.of okX10_comes.2.2.1 (Nat.le_of_ble_eq_true rfl) ?_
  show R2 E L mX10_comes 16 0 [some (.ref 5), some (.int (nI a)), some (.int (nI b))] [] F _
  refine R2.B (ls2 := [some (.ref 5), some (.int (nI a)), some (.int (nI b))]) (st2 := [.int (nI b), .int (nI a), .ref 5]) b_X10_comes_0_3 rfl (fun hd => ?_)
  refine R2.callV3 (M2 := mX10_areTwo) (As := [.int (nI a), .int (nI b)]) (rest := []) hd lk_10_177 okX10_areTwo (by decide) rfl (ev_areTwo E L F (nI a) (nI b)) (by decide) rfl rfl (Nat.le_of_ble_eq_true rfl) ?_
  refine R2.B (ls2 := [some (.ref 5), some (.int (nI a)), some (.int (nI b))]) (st2 := [.int (b2i (0 ≤ (nI a) ∧ (nI a) < F 10 5 ∧ 0 ≤ (nI b) ∧ (nI b) < F 10 5 ∧ ¬ (nI a) = (nI b)))]) b_X10_comes_6_6 rfl (fun hd => ?_)
  refine R2.if_ne 12 hd (by decide) (fun c6 => ?_) (fun c6 => absurd c6 (b2i_nz.mpr (two_t hn hn10 ha hb hab)))
  refine R2.B (ls2 := [some (.ref 5), some (.int (nI a)), some (.int (nI b))]) (st2 := [.int (nI b), .int (nI a), .ref 29]) b_X10_comes_12_18 rfl (fun hd => ?_)
  refine R2.callV3 (M2 := mX9_search) (As := [.int (nI a), .int (nI b)]) (rest := []) hd lk_10_213 okX9_search (by decide) rfl (ev_search0 E L F a b (by omega) (by omega) ht) (by decide) rfl rfl (Nat.le_of_ble_eq_true rfl) ?_
  refine R2.B (ls2 := [some (.ref 5), some (.int (nI a)), some (.int (nI b))]) (st2 := [.int (-1)]) b_X10_comes_21_21 rfl (fun hd => ?_)
  exact R2.ret3 (r := some (.int (-1))) hd trivial rfl rfl rfl
set_option maxRecDepth 20000 in
set_option maxHeartbeats 1000000 in
theorem x_comes1 (E : EE) (L : Nat) (F : FF) (hc : CST F) (n : Nat) (hn : F 10 5 = nI n) (hn10 : n ≤ 10) (a b : Nat) (ha : a < n) (hb : b < n) (hab : a ≠ b) (s0 : Nat) (hs : F 15 a = nI s0) (hs0 : s0 < 1024) (ht : trd (F 11) (F 12) (F 13) a b) : Ev3 E L 16 mX10_comes [.ref 5, .int (nI a), .int (nI b)] F (some (.int (srch F n a b s0 31 s0))) (srch F n a b s0) := by
  refine Ev3.of okX10_comes.2.2.1 (Nat.le_of_ble_eq_true rfl) ?_
  show R2 E L mX10_comes 16 0 [some (.ref 5), some (.int (nI a)), some (.int (nI b))] [] F _
  refine R2.B (ls2 := [some (.ref 5), some (.int (nI a)), some (.int (nI b))]) (st2 := [.int (nI b), .int (nI a), .ref 5]) b_X10_comes_0_3 rfl (fun hd => ?_)
  refine R2.callV3 (M2 := mX10_areTwo) (As := [.int (nI a), .int (nI b)]) (rest := []) hd lk_10_177 okX10_areTwo (by decide) rfl (ev_areTwo E L F (nI a) (nI b)) (by decide) rfl rfl (Nat.le_of_ble_eq_true rfl) ?_
  refine R2.B (ls2 := [some (.ref 5), some (.int (nI a)), some (.int (nI b))]) (st2 := [.int (b2i (0 ≤ (nI a) ∧ (nI a) < F 10 5 ∧ 0 ≤ (nI b) ∧ (nI b) < F 10 5 ∧ ¬ (nI a) = (nI b)))]) b_X10_comes_6_6 rfl (fun hd => ?_)
  refine R2.if_ne 12 hd (by decide) (fun c6 => ?_) (fun c6 => absurd c6 (b2i_nz.mpr (two_t hn hn10 ha hb hab)))
  refine R2.B (ls2 := [some (.ref 5), some (.int (nI a)), some (.int (nI b))]) (st2 := [.int (nI b), .int (nI a), .ref 29]) b_X10_comes_12_18 rfl (fun hd => ?_)
  refine R2.callV3 (M2 := mX9_search) (As := [.int (nI a), .int (nI b)]) (rest := []) hd lk_10_213 okX9_search (by decide) rfl (ev_search1 E L F hc n hn hn10 a b s0 (by omega) (by omega) hs hs0 ht) (by decide) rfl rfl (Nat.le_of_ble_eq_true rfl) ?_
  refine R2.B (ls2 := [some (.ref 5), some (.int (nI a)), some (.int (nI b))]) (st2 := [.int (srch F n a b s0 31 s0)]) b_X10_comes_21_21 rfl (fun hd => ?_)
  exact R2.ret3 (r := some (.int (srch F n a b s0 31 s0))) hd trivial rfl rfl rfl
theorem b_X10_way_0_3 : bl2 mX10_way 0 [(.aload_n 0, 1, 0, 0, .null), (.iload_n 1, 1, 1, 0, .null), (.iload_n 2, 1, 2, 0, .null)] 3 (.invokevirtual 177) 3 = true := by decide +kernel
theorem b_X10_way_6_6 : bl2 mX10_way 6 [] 6 (.ifCond .eq 7) 3 = true := by decide +kernel
theorem b_X10_way_13_15 : bl2 mX10_way 13 [(.bipush (-2), 2, 0, 0, .int (-2))] 15 (.ireturn) 1 = true := by decide +kernel
theorem b_X10_way_9_10 : bl2 mX10_way 9 [(.iload_n 3, 1, 3, 0, .null)] 10 (.ifCond .ge 6) 3 = true := by decide +kernel
theorem b_X10_way_16_16 : bl2 mX10_way 16 [] 16 (.aload_n 0) 1 = true := by decide +kernel
set_option maxRecDepth 20000 in
set_option maxHeartbeats 1000000 in
theorem x_way_bad (E : EE) (L : Nat) (F : FF) (p q x : Int32) (h : ¬ (0 ≤ p ∧ p < F 10 5 ∧ 0 ≤ q ∧ q < F 10 5 ∧ ¬ p = q) ∨ x < 0) : Ev3 E L 16 mX10_way [.ref 5, .int p, .int q, .int x] F (some (.int (-2))) F := by
  refine Ev3.of okX10_way.2.2.1 (Nat.le_of_ble_eq_true rfl) ?_
  show R2 E L mX10_way 16 0 [some (.ref 5), some (.int p), some (.int q), some (.int x), none] [] F _
  refine R2.B (ls2 := [some (.ref 5), some (.int p), some (.int q), some (.int x), none]) (st2 := [.int q, .int p, .ref 5]) b_X10_way_0_3 rfl (fun hd => ?_)
  refine R2.callV3 (M2 := mX10_areTwo) (As := [.int p, .int q]) (rest := []) hd lk_10_177 okX10_areTwo (by decide) rfl (ev_areTwo E L F p q) (by decide) rfl rfl (Nat.le_of_ble_eq_true rfl) ?_
  refine R2.B (ls2 := [some (.ref 5), some (.int p), some (.int q), some (.int x), none]) (st2 := [.int (b2i (0 ≤ p ∧ p < F 10 5 ∧ 0 ≤ q ∧ q < F 10 5 ∧ ¬ p = q))]) b_X10_way_6_6 rfl (fun hd => ?_)
  refine R2.if_eq 13 hd (by decide) (fun c6 => ?_) (fun c6 => ?_)
  · have nc6 : ¬ (0 ≤ p ∧ p < F 10 5 ∧ 0 ≤ q ∧ q < F 10 5 ∧ ¬ p = q) := b2i_zero.mp c6
    refine R2.B (ls2 := [some (.ref 5), some (.int p), some (.int q), some (.int x), none]) (st2 := [.int (-2)]) b_X10_way_13_15 rfl (fun hd => ?_)
    exact R2.ret3 (r := some (.int (-2))) hd trivial rfl rfl rfl
  · have nc6 : 0 ≤ p ∧ p < F 10 5 ∧ 0 ≤ q ∧ q < F 10 5 ∧ ¬ p = q := b2i_nz.mp c6
    refine R2.B (ls2 := [some (.ref 5), some (.int p), some (.int q), some (.int x), none]) (st2 := [.int x]) b_X10_way_9_10 rfl (fun hd => ?_)
    refine R2.if_ge 16 hd (by decide) (fun c10 => ?_) (fun c10 => ?_)
    · refine R2.B (ls2 := [some (.ref 5), some (.int p), some (.int q), some (.int x), none]) (st2 := []) b_X10_way_16_16 rfl (fun hd => ?_)
      exact False.elim (by clear hd; grind)
    · refine R2.B (ls2 := [some (.ref 5), some (.int p), some (.int q), some (.int x), none]) (st2 := [.int (-2)]) b_X10_way_13_15 rfl (fun hd => ?_)
      exact R2.ret3 (r := some (.int (-2))) hd trivial rfl rfl rfl
theorem b_X10_way_16_22 : bl2 mX10_way 16 [(.aload_n 0, 1, 0, 0, .null), (.getfield 63, 3, 10, 7, .null), (.iload_n 1, 1, 1, 0, .null), (.iload_n 2, 1, 2, 0, .null)] 22 (.invokevirtual 213) 3 = true := by decide +kernel
theorem b_X10_way_25_30 : bl2 mX10_way 25 [(.istore 4, 2, 4, 0, .null), (.iload_n 3, 1, 3, 0, .null), (.iload 4, 2, 4, 0, .null)] 30 (.if_icmp .ge 23) 3 = true := by decide +kernel
theorem b_X10_way_53_54 : bl2 mX10_way 53 [(.iconst (-1), 1, 0, 0, .int (-1))] 54 (.ireturn) 1 = true := by decide +kernel
set_option maxRecDepth 20000 in
set_option maxHeartbeats 1000000 in
theorem x_way0 (E : EE) (L : Nat) (F : FF) (hc : CST F) (n : Nat) (hn : F 10 5 = nI n) (hn10 : n ≤ 10) (a b : Nat) (ha : a < n) (hb : b < n) (hab : a ≠ b) (iN : Nat) (hiN : iN < 2147483648) (ht : ¬ trd (F 11) (F 12) (F 13) a b) : Ev3 E L 16 mX10_way [.ref 5, .int (nI a), .int (nI b), .int (nI iN)] F (some (.int (-1))) F := by
  refine Ev3.of okX10_way.2.2.1 (Nat.le_of_ble_eq_true rfl) ?_
  show R2 E L mX10_way 16 0 [some (.ref 5), some (.int (nI a)), some (.int (nI b)), some (.int (nI iN)), none] [] F _
  refine R2.B (ls2 := [some (.ref 5), some (.int (nI a)), some (.int (nI b)), some (.int (nI iN)), none]) (st2 := [.int (nI b), .int (nI a), .ref 5]) b_X10_way_0_3 rfl (fun hd => ?_)
  refine R2.callV3 (M2 := mX10_areTwo) (As := [.int (nI a), .int (nI b)]) (rest := []) hd lk_10_177 okX10_areTwo (by decide) rfl (ev_areTwo E L F (nI a) (nI b)) (by decide) rfl rfl (Nat.le_of_ble_eq_true rfl) ?_
  refine R2.B (ls2 := [some (.ref 5), some (.int (nI a)), some (.int (nI b)), some (.int (nI iN)), none]) (st2 := [.int (b2i (0 ≤ (nI a) ∧ (nI a) < F 10 5 ∧ 0 ≤ (nI b) ∧ (nI b) < F 10 5 ∧ ¬ (nI a) = (nI b)))]) b_X10_way_6_6 rfl (fun hd => ?_)
  refine R2.if_eq 13 hd (by decide) (fun c6 => absurd c6 (b2i_nz.mpr (two_t hn hn10 ha hb hab))) (fun c6 => ?_)
  refine R2.B (ls2 := [some (.ref 5), some (.int (nI a)), some (.int (nI b)), some (.int (nI iN)), none]) (st2 := [.int (nI iN)]) b_X10_way_9_10 rfl (fun hd => ?_)
  refine R2.if_ge 16 hd (by decide) (fun c10 => ?_) (fun c10 => absurd (nI_pos' (by omega)) c10)
  refine R2.B (ls2 := [some (.ref 5), some (.int (nI a)), some (.int (nI b)), some (.int (nI iN)), none]) (st2 := [.int (nI b), .int (nI a), .ref 29]) b_X10_way_16_22 rfl (fun hd => ?_)
  refine R2.callV3 (M2 := mX9_search) (As := [.int (nI a), .int (nI b)]) (rest := []) hd lk_10_213 okX9_search (by decide) rfl (ev_search0 E L F a b (by omega) (by omega) ht) (by decide) rfl rfl (Nat.le_of_ble_eq_true rfl) ?_
  refine R2.B (ls2 := [some (.ref 5), some (.int (nI a)), some (.int (nI b)), some (.int (nI iN)), some (.int (-1))]) (st2 := [.int (-1), .int (nI iN)]) b_X10_way_25_30 rfl (fun hd => ?_)
  refine R2.icmp_ge 53 hd (by decide) (fun c30 => ?_) (fun c30 => absurd (by rw [Int32.le_iff_toInt_le, nI_toInt (by omega)]; exact Int.le_trans (by decide) (Int.natCast_nonneg iN)) c30)
  refine R2.B (ls2 := [some (.ref 5), some (.int (nI a)), some (.int (nI b)), some (.int (nI iN)), some (.int (-1))]) (st2 := [.int (-1)]) b_X10_way_53_54 rfl (fun hd => ?_)
  exact R2.ret3 (r := some (.int (-1))) hd trivial rfl rfl rfl
theorem srch_row {F : FF} {n a b s0 x : Nat} (h0 : x ≠ 29) (h1 : x ≠ 30) (h2 : x ≠ 31) (h3 : x ≠ 32) : srch F n a b s0 x = F x := by
  have hs : ∀ (k h : Nat) (F : FF), srL n a s0 k h F x = F x := by
    intro k
    induction k with
    | zero => intro h F; rfl
    | succ k ih =>
      intro h F
      simp only [srL]
      split
      · rw [ih, qnL_row h0 h2 h3]
      · rfl
  unfold srch
  rw [hs, qgL_row h1 h0 h2 h3]
  funext j
  simp [up2, fillF, cpyF, h0, h1, h2]
theorem b_X10_way_33_45 : bl2 mX10_way 33 [(.aload_n 0, 1, 0, 0, .null), (.getfield 63, 3, 10, 7, .null), (.aload_n 0, 1, 0, 0, .null), (.getfield 24, 3, 10, 2, .null), (.getfield 143, 3, 0, 4, .null), (.iload_n 1, 1, 1, 0, .null)] 45 (.iaload) 1 = true := by decide +kernel
theorem b_X10_way_46_47 : bl2 mX10_way 46 [(.iload_n 3, 1, 3, 0, .null)] 47 (.invokevirtual 216) 3 = true := by decide +kernel
theorem b_X10_way_50_54 : bl2 mX10_way 50 [(.goto 4, 3, 54, 0, .null)] 54 (.ireturn) 1 = true := by decide +kernel
set_option maxRecDepth 20000 in
set_option maxHeartbeats 1000000 in
theorem x_way1 (E : EE) (L : Nat) (F : FF) (hc : CST F) (n : Nat) (hn : F 10 5 = nI n) (hn10 : n ≤ 10) (a b : Nat) (ha : a < n) (hb : b < n) (hab : a ≠ b) (s0 : Nat) (hs : F 15 a = nI s0) (hs0 : s0 < 1024) (iN : Nat) (hiN : iN < 2147483648) (ht : trd (F 11) (F 12) (F 13) a b) : Ev3 E L 16 mX10_way [.ref 5, .int (nI a), .int (nI b), .int (nI iN)] F (some (.int (if srch F n a b s0 31 s0 ≤ nI iN then -1 else drL (srch F n a b s0 31) iN 1024 0 s0 (-1)))) (srch F n a b s0) := by
  refine Ev3.of okX10_way.2.2.1 (Nat.le_of_ble_eq_true rfl) ?_
  show R2 E L mX10_way 16 0 [some (.ref 5), some (.int (nI a)), some (.int (nI b)), some (.int (nI iN)), none] [] F _
  refine R2.B (ls2 := [some (.ref 5), some (.int (nI a)), some (.int (nI b)), some (.int (nI iN)), none]) (st2 := [.int (nI b), .int (nI a), .ref 5]) b_X10_way_0_3 rfl (fun hd => ?_)
  refine R2.callV3 (M2 := mX10_areTwo) (As := [.int (nI a), .int (nI b)]) (rest := []) hd lk_10_177 okX10_areTwo (by decide) rfl (ev_areTwo E L F (nI a) (nI b)) (by decide) rfl rfl (Nat.le_of_ble_eq_true rfl) ?_
  refine R2.B (ls2 := [some (.ref 5), some (.int (nI a)), some (.int (nI b)), some (.int (nI iN)), none]) (st2 := [.int (b2i (0 ≤ (nI a) ∧ (nI a) < F 10 5 ∧ 0 ≤ (nI b) ∧ (nI b) < F 10 5 ∧ ¬ (nI a) = (nI b)))]) b_X10_way_6_6 rfl (fun hd => ?_)
  refine R2.if_eq 13 hd (by decide) (fun c6 => absurd c6 (b2i_nz.mpr (two_t hn hn10 ha hb hab))) (fun c6 => ?_)
  refine R2.B (ls2 := [some (.ref 5), some (.int (nI a)), some (.int (nI b)), some (.int (nI iN)), none]) (st2 := [.int (nI iN)]) b_X10_way_9_10 rfl (fun hd => ?_)
  refine R2.if_ge 16 hd (by decide) (fun c10 => ?_) (fun c10 => absurd (nI_pos' (by omega)) c10)
  refine R2.B (ls2 := [some (.ref 5), some (.int (nI a)), some (.int (nI b)), some (.int (nI iN)), none]) (st2 := [.int (nI b), .int (nI a), .ref 29]) b_X10_way_16_22 rfl (fun hd => ?_)
  refine R2.callV3 (M2 := mX9_search) (As := [.int (nI a), .int (nI b)]) (rest := []) hd lk_10_213 okX9_search (by decide) rfl (ev_search1 E L F hc n hn hn10 a b s0 (by omega) (by omega) hs hs0 ht) (by decide) rfl rfl (Nat.le_of_ble_eq_true rfl) ?_
  refine R2.B (ls2 := [some (.ref 5), some (.int (nI a)), some (.int (nI b)), some (.int (nI iN)), some (.int (srch F n a b s0 31 s0))]) (st2 := [.int (srch F n a b s0 31 s0), .int (nI iN)]) b_X10_way_25_30 rfl (fun hd => ?_)
  refine R2.icmp_ge 53 hd (by decide) (fun c30 => ?_) (fun c30 => ?_)
  · refine R2.B (ls2 := [some (.ref 5), some (.int (nI a)), some (.int (nI b)), some (.int (nI iN)), some (.int (srch F n a b s0 31 s0))]) (st2 := [.int (-1)]) b_X10_way_53_54 rfl (fun hd => ?_)
    exact R2.ret3 (r := some (.int (-1))) hd trivial rfl (congrArg (fun z => some (Value.int z)) (by clear hd; grind)) rfl
  · refine R2.B (ls2 := [some (.ref 5), some (.int (nI a)), some (.int (nI b)), some (.int (nI iN)), some (.int (srch F n a b s0 31 s0))]) (st2 := [.int (nI a), .ref 15, .ref 29]) b_X10_way_33_45 rfl (fun hd => ?_)
    refine R2.iald a rfl hd rfl (fun _ => rfl) (by decide) (by omega) ?_
    refine R2.top (show ((srch F n a b s0) 15 a : Int32) = nI s0 from (by rw [srch_row (by decide) (by decide) (by decide) (by decide)]; exact hs)) ?_
    refine R2.B (ls2 := [some (.ref 5), some (.int (nI a)), some (.int (nI b)), some (.int (nI iN)), some (.int (srch F n a b s0 31 s0))]) (st2 := [.int (nI iN), .int (nI s0), .ref 29]) b_X10_way_46_47 rfl (fun hd => ?_)
    refine R2.callV3 (M2 := mX9_direction) (As := [.int (nI s0), .int (nI iN)]) (rest := []) hd lk_10_216 okX9_direction (by decide) rfl (ev_direction E L (srch F n a b s0) (hc.of (srch_row (by decide) (by decide) (by decide) (by decide)) (srch_row (by decide) (by decide) (by decide) (by decide)) (srch_row (by decide) (by decide) (by decide) (by decide)) (srch_row (by decide) (by decide) (by decide) (by decide))) s0 hs0 iN hiN) (by decide) rfl rfl (Nat.le_of_ble_eq_true rfl) ?_
    refine R2.B (ls2 := [some (.ref 5), some (.int (nI a)), some (.int (nI b)), some (.int (nI iN)), some (.int (srch F n a b s0 31 s0))]) (st2 := [.int (drL (srch F n a b s0 31) iN 1024 0 s0 (-1))]) b_X10_way_50_54 rfl (fun hd => ?_)
    exact R2.ret3 (r := some (.int (drL (srch F n a b s0 31) iN 1024 0 s0 (-1)))) hd trivial rfl (congrArg (fun z => some (Value.int z)) (by clear hd; grind)) rfl
theorem b_X10_hinders_0_2 : bl2 mX10_hinders 0 [(.aload_n 0, 1, 0, 0, .null), (.iload_n 1, 1, 1, 0, .null)] 2 (.invokevirtual 131) 3 = true := by decide +kernel
theorem b_X10_hinders_5_5 : bl2 mX10_hinders 5 [] 5 (.ifCond .eq 12) 3 = true := by decide +kernel
theorem b_X10_hinders_17_19 : bl2 mX10_hinders 17 [(.bipush (-2), 2, 0, 0, .int (-2))] 19 (.ireturn) 1 = true := by decide +kernel
theorem b_X10_hinders_8_9 : bl2 mX10_hinders 8 [(.iload_n 2, 1, 2, 0, .null)] 9 (.ifCond .lt 8) 3 = true := by decide +kernel
theorem b_X10_hinders_12_14 : bl2 mX10_hinders 12 [(.iload_n 2, 1, 2, 0, .null), (.iconst 1, 1, 0, 0, .int 1)] 14 (.if_icmp .le 6) 3 = true := by decide +kernel
theorem b_X10_hinders_20_20 : bl2 mX10_hinders 20 [] 20 (.aload_n 0) 1 = true := by decide +kernel
set_option maxRecDepth 20000 in
set_option maxHeartbeats 1000000 in
theorem x_hinders_bad (E : EE) (L : Nat) (F : FF) (p w : Int32) (h : ¬ (0 ≤ p ∧ p < F 10 5) ∨ w < 0 ∨ 1 < w) : Ev3 E L 16 mX10_hinders [.ref 5, .int p, .int w] F (some (.int (-2))) F := by
  refine Ev3.of okX10_hinders.2.2.1 (Nat.le_of_ble_eq_true rfl) ?_
  show R2 E L mX10_hinders 16 0 [some (.ref 5), some (.int p), some (.int w)] [] F _
  refine R2.B (ls2 := [some (.ref 5), some (.int p), some (.int w)]) (st2 := [.int p, .ref 5]) b_X10_hinders_0_2 rfl (fun hd => ?_)
  refine R2.callV3 (M2 := mX10_isPerson) (As := [.int p]) (rest := []) hd lk_10_131 okX10_isPerson (by decide) rfl (ev_isPerson E L F p) (by decide) rfl rfl (Nat.le_of_ble_eq_true rfl) ?_
  refine R2.B (ls2 := [some (.ref 5), some (.int p), some (.int w)]) (st2 := [.int (b2i (0 ≤ p ∧ p < F 10 5))]) b_X10_hinders_5_5 rfl (fun hd => ?_)
  refine R2.if_eq 17 hd (by decide) (fun c5 => ?_) (fun c5 => ?_)
  · have nc5 : ¬ (0 ≤ p ∧ p < F 10 5) := b2i_zero.mp c5
    refine R2.B (ls2 := [some (.ref 5), some (.int p), some (.int w)]) (st2 := [.int (-2)]) b_X10_hinders_17_19 rfl (fun hd => ?_)
    exact R2.ret3 (r := some (.int (-2))) hd trivial rfl rfl rfl
  · have nc5 : 0 ≤ p ∧ p < F 10 5 := b2i_nz.mp c5
    refine R2.B (ls2 := [some (.ref 5), some (.int p), some (.int w)]) (st2 := [.int w]) b_X10_hinders_8_9 rfl (fun hd => ?_)
    refine R2.if_lt 17 hd (by decide) (fun c9 => ?_) (fun c9 => ?_)
    · refine R2.B (ls2 := [some (.ref 5), some (.int p), some (.int w)]) (st2 := [.int (-2)]) b_X10_hinders_17_19 rfl (fun hd => ?_)
      exact R2.ret3 (r := some (.int (-2))) hd trivial rfl rfl rfl
    · refine R2.B (ls2 := [some (.ref 5), some (.int p), some (.int w)]) (st2 := [.int 1, .int w]) b_X10_hinders_12_14 rfl (fun hd => ?_)
      refine R2.icmp_le 20 hd (by decide) (fun c14 => ?_) (fun c14 => ?_)
      · refine R2.B (ls2 := [some (.ref 5), some (.int p), some (.int w)]) (st2 := []) b_X10_hinders_20_20 rfl (fun hd => ?_)
        exact False.elim (by clear hd; grind)
      · refine R2.B (ls2 := [some (.ref 5), some (.int p), some (.int w)]) (st2 := [.int (-2)]) b_X10_hinders_17_19 rfl (fun hd => ?_)
        exact R2.ret3 (r := some (.int (-2))) hd trivial rfl rfl rfl
theorem b_X10_hinders_20_27 : bl2 mX10_hinders 20 [(.aload_n 0, 1, 0, 0, .null), (.getfield 33, 3, 10, 3, .null), (.iload_n 1, 1, 1, 0, .null), (.iload_n 2, 1, 2, 0, .null), (.iconst 1, 1, 0, 0, .int 1)] 27 (.if_icmp .ne 7) 3 = true := by decide +kernel
theorem b_X10_hinders_34_35 : bl2 mX10_hinders 34 [(.iconst 0, 1, 0, 0, .int 0)] 35 (.invokevirtual 219) 3 = true := by decide +kernel
theorem b_X10_hinders_38_38 : bl2 mX10_hinders 38 [] 38 (.ireturn) 1 = true := by decide +kernel
set_option maxRecDepth 20000 in
set_option maxHeartbeats 1000000 in
theorem x_hinders0 (E : EE) (L : Nat) (F : FF) (n : Nat) (hn : F 10 5 = nI n) (hn10 : n ≤ 10) (a : Nat) (ha : a < n) : Ev3 E L 16 mX10_hinders [.ref 5, .int (nI a), .int 0] F (some (.int (cHN F n a 0))) F := by
  refine Ev3.of okX10_hinders.2.2.1 (Nat.le_of_ble_eq_true rfl) ?_
  show R2 E L mX10_hinders 16 0 [some (.ref 5), some (.int (nI a)), some (.int 0)] [] F _
  refine R2.B (ls2 := [some (.ref 5), some (.int (nI a)), some (.int 0)]) (st2 := [.int (nI a), .ref 5]) b_X10_hinders_0_2 rfl (fun hd => ?_)
  refine R2.callV3 (M2 := mX10_isPerson) (As := [.int (nI a)]) (rest := []) hd lk_10_131 okX10_isPerson (by decide) rfl (ev_isPerson E L F (nI a)) (by decide) rfl rfl (Nat.le_of_ble_eq_true rfl) ?_
  refine R2.B (ls2 := [some (.ref 5), some (.int (nI a)), some (.int 0)]) (st2 := [.int (b2i (0 ≤ (nI a) ∧ (nI a) < F 10 5))]) b_X10_hinders_5_5 rfl (fun hd => ?_)
  refine R2.if_eq 17 hd (by decide) (fun c5 => absurd c5 (b2i_nz.mpr (per_t hn hn10 ha))) (fun c5 => ?_)
  refine R2.B (ls2 := [some (.ref 5), some (.int (nI a)), some (.int 0)]) (st2 := [.int 0]) b_X10_hinders_8_9 rfl (fun hd => ?_)
  refine R2.if_lt 17 hd (by decide) (fun c9 => absurd c9 (by decide)) (fun c9 => ?_)
  refine R2.B (ls2 := [some (.ref 5), some (.int (nI a)), some (.int 0)]) (st2 := [.int 1, .int 0]) b_X10_hinders_12_14 rfl (fun hd => ?_)
  refine R2.icmp_le 20 hd (by decide) (fun c14 => ?_) (fun c14 => absurd (by decide) c14)
  refine R2.B (ls2 := [some (.ref 5), some (.int (nI a)), some (.int 0)]) (st2 := [.int 1, .int 0, .int (nI a), .ref 16]) b_X10_hinders_20_27 rfl (fun hd => ?_)
  refine R2.icmp_ne 34 hd (by decide) (fun c27 => ?_) (fun c27 => absurd c27 (by decide))
  refine R2.B (ls2 := [some (.ref 5), some (.int (nI a)), some (.int 0)]) (st2 := [.int 0, .int (nI a), .ref 16]) b_X10_hinders_34_35 rfl (fun hd => ?_)
  refine R2.callV3 (M2 := mX2_hindered) (As := [.int (nI a), .int 0]) (rest := []) hd lk_10_219 okX2_hindered (by decide) rfl (ev_hindered E L F n hn hn10 a 0 (by omega)) (by decide) rfl rfl (Nat.le_of_ble_eq_true rfl) ?_
  refine R2.B (ls2 := [some (.ref 5), some (.int (nI a)), some (.int 0)]) (st2 := [.int (cHN F n a 0)]) b_X10_hinders_38_38 rfl (fun hd => ?_)
  exact R2.ret3 (r := some (.int (cHN F n a 0))) hd trivial rfl rfl rfl
theorem b_X10_hinders_30_35 : bl2 mX10_hinders 30 [(.iconst 1, 1, 0, 0, .int 1), (.goto 4, 3, 35, 0, .null)] 35 (.invokevirtual 219) 3 = true := by decide +kernel
set_option maxRecDepth 20000 in
set_option maxHeartbeats 1000000 in
theorem x_hinders1 (E : EE) (L : Nat) (F : FF) (n : Nat) (hn : F 10 5 = nI n) (hn10 : n ≤ 10) (a : Nat) (ha : a < n) : Ev3 E L 16 mX10_hinders [.ref 5, .int (nI a), .int 1] F (some (.int (cHN F n a 1))) F := by
  refine Ev3.of okX10_hinders.2.2.1 (Nat.le_of_ble_eq_true rfl) ?_
  show R2 E L mX10_hinders 16 0 [some (.ref 5), some (.int (nI a)), some (.int 1)] [] F _
  refine R2.B (ls2 := [some (.ref 5), some (.int (nI a)), some (.int 1)]) (st2 := [.int (nI a), .ref 5]) b_X10_hinders_0_2 rfl (fun hd => ?_)
  refine R2.callV3 (M2 := mX10_isPerson) (As := [.int (nI a)]) (rest := []) hd lk_10_131 okX10_isPerson (by decide) rfl (ev_isPerson E L F (nI a)) (by decide) rfl rfl (Nat.le_of_ble_eq_true rfl) ?_
  refine R2.B (ls2 := [some (.ref 5), some (.int (nI a)), some (.int 1)]) (st2 := [.int (b2i (0 ≤ (nI a) ∧ (nI a) < F 10 5))]) b_X10_hinders_5_5 rfl (fun hd => ?_)
  refine R2.if_eq 17 hd (by decide) (fun c5 => absurd c5 (b2i_nz.mpr (per_t hn hn10 ha))) (fun c5 => ?_)
  refine R2.B (ls2 := [some (.ref 5), some (.int (nI a)), some (.int 1)]) (st2 := [.int 1]) b_X10_hinders_8_9 rfl (fun hd => ?_)
  refine R2.if_lt 17 hd (by decide) (fun c9 => absurd c9 (by decide)) (fun c9 => ?_)
  refine R2.B (ls2 := [some (.ref 5), some (.int (nI a)), some (.int 1)]) (st2 := [.int 1, .int 1]) b_X10_hinders_12_14 rfl (fun hd => ?_)
  refine R2.icmp_le 20 hd (by decide) (fun c14 => ?_) (fun c14 => absurd (by decide) c14)
  refine R2.B (ls2 := [some (.ref 5), some (.int (nI a)), some (.int 1)]) (st2 := [.int 1, .int 1, .int (nI a), .ref 16]) b_X10_hinders_20_27 rfl (fun hd => ?_)
  refine R2.icmp_ne 34 hd (by decide) (fun c27 => absurd (by decide) c27) (fun c27 => ?_)
  refine R2.B (ls2 := [some (.ref 5), some (.int (nI a)), some (.int 1)]) (st2 := [.int 1, .int (nI a), .ref 16]) b_X10_hinders_30_35 rfl (fun hd => ?_)
  refine R2.callV3 (M2 := mX2_hindered) (As := [.int (nI a), .int 1]) (rest := []) hd lk_10_219 okX2_hindered (by decide) rfl (ev_hindered E L F n hn hn10 a 1 (by omega)) (by decide) rfl rfl (Nat.le_of_ble_eq_true rfl) ?_
  refine R2.B (ls2 := [some (.ref 5), some (.int (nI a)), some (.int 1)]) (st2 := [.int (cHN F n a 1)]) b_X10_hinders_38_38 rfl (fun hd => ?_)
  exact R2.ret3 (r := some (.int (cHN F n a 1))) hd trivial rfl rfl rfl
theorem b_X10_post_0_1 : bl2 mX10_post 0 [(.iload_n 1, 1, 1, 0, .null)] 1 (.invokestatic 223) 3 = true := by decide +kernel
theorem b_X10_post_4_4 : bl2 mX10_post 4 [] 4 (.ifCond .ne 6) 3 = true := by decide +kernel
theorem b_X10_post_10_10 : bl2 mX10_post 10 [] 10 (.aload_n 0) 1 = true := by decide +kernel
theorem b_X10_post_7_9 : bl2 mX10_post 7 [(.bipush (-2), 2, 0, 0, .int (-2))] 9 (.ireturn) 1 = true := by decide +kernel
set_option maxRecDepth 20000 in
set_option maxHeartbeats 1000000 in
theorem x_post_bad (E : EE) (L : Nat) (F : FF) (x : Int32) (h : ¬ (0 ≤ x ∧ x < 1024)) : Ev3 E L 16 mX10_post [.ref 5, .int x] F (some (.int (-2))) F := by
  refine Ev3.of okX10_post.2.2.1 (Nat.le_of_ble_eq_true rfl) ?_
  show R2 E L mX10_post 16 0 [some (.ref 5), some (.int x)] [] F _
  refine R2.B (ls2 := [some (.ref 5), some (.int x)]) (st2 := [.int x]) b_X10_post_0_1 rfl (fun hd => ?_)
  refine R2.callS3 (M2 := mX10_isSpot) (As := [.int x]) (rest := []) hd lk_10_223 okX10_isSpot (by decide) (ev_isSpot E L F x) (by decide) rfl rfl (Nat.le_of_ble_eq_true rfl) ?_
  refine R2.B (ls2 := [some (.ref 5), some (.int x)]) (st2 := [.int (b2i (0 ≤ x ∧ x < 1024))]) b_X10_post_4_4 rfl (fun hd => ?_)
  refine R2.if_ne 10 hd (by decide) (fun c4 => ?_) (fun c4 => ?_)
  · have nc4 : 0 ≤ x ∧ x < 1024 := b2i_nz.mp c4
    refine R2.B (ls2 := [some (.ref 5), some (.int x)]) (st2 := []) b_X10_post_10_10 rfl (fun hd => ?_)
    exact False.elim (by clear hd; grind)
  · have nc4 : ¬ (0 ≤ x ∧ x < 1024) := b2i_zero.mp c4
    refine R2.B (ls2 := [some (.ref 5), some (.int x)]) (st2 := [.int (-2)]) b_X10_post_7_9 rfl (fun hd => ?_)
    exact R2.ret3 (r := some (.int (-2))) hd trivial rfl rfl rfl
theorem b_X10_post_10_14 : bl2 mX10_post 10 [(.aload_n 0, 1, 0, 0, .null), (.getfield 70, 3, 10, 8, .null)] 14 (.invokevirtual 226) 3 = true := by decide +kernel
theorem b_X10_post_17_17 : bl2 mX10_post 17 [] 17 (.ifCond .eq 8) 3 = true := by decide +kernel
theorem b_X10_post_20_33 : bl2 mX10_post 20 [(.bipush (-4), 2, 0, 0, .int (-4)), (.goto 11, 3, 33, 0, .null)] 33 (.ireturn) 1 = true := by decide +kernel
set_option maxRecDepth 20000 in
set_option maxHeartbeats 1000000 in
theorem x_post_full (E : EE) (L : Nat) (F : FF) (x : Int32) (h : 0 ≤ x ∧ x < 1024) (hf : ¬ F 33 1 < 8) : Ev3 E L 16 mX10_post [.ref 5, .int x] F (some (.int (-4))) F := by
  refine Ev3.of okX10_post.2.2.1 (Nat.le_of_ble_eq_true rfl) ?_
  show R2 E L mX10_post 16 0 [some (.ref 5), some (.int x)] [] F _
  refine R2.B (ls2 := [some (.ref 5), some (.int x)]) (st2 := [.int x]) b_X10_post_0_1 rfl (fun hd => ?_)
  refine R2.callS3 (M2 := mX10_isSpot) (As := [.int x]) (rest := []) hd lk_10_223 okX10_isSpot (by decide) (ev_isSpot E L F x) (by decide) rfl rfl (Nat.le_of_ble_eq_true rfl) ?_
  refine R2.B (ls2 := [some (.ref 5), some (.int x)]) (st2 := [.int (b2i (0 ≤ x ∧ x < 1024))]) b_X10_post_4_4 rfl (fun hd => ?_)
  refine R2.if_ne 10 hd (by decide) (fun c4 => ?_) (fun c4 => ?_)
  · have nc4 : 0 ≤ x ∧ x < 1024 := b2i_nz.mp c4
    refine R2.B (ls2 := [some (.ref 5), some (.int x)]) (st2 := [.ref 33]) b_X10_post_10_14 rfl (fun hd => ?_)
    refine R2.callV3 (M2 := mX4_isFull) (As := []) (rest := []) hd lk_10_226 okX4_isFull (by decide) rfl (ev_pFull E L _) (by decide) rfl rfl (Nat.le_of_ble_eq_true rfl) ?_
    refine R2.B (ls2 := [some (.ref 5), some (.int x)]) (st2 := [.int (b2i (¬ F 33 1 < 8))]) b_X10_post_17_17 rfl (fun hd => ?_)
    refine R2.if_eq 25 hd (by decide) (fun c17 => absurd c17 (b2i_nz.mpr hf)) (fun c17 => ?_)
    refine R2.B (ls2 := [some (.ref 5), some (.int x)]) (st2 := [.int (-4)]) b_X10_post_20_33 rfl (fun hd => ?_)
    exact R2.ret3 (r := some (.int (-4))) hd trivial rfl rfl rfl
  · have nc4 : ¬ (0 ≤ x ∧ x < 1024) := b2i_zero.mp c4
    refine R2.B (ls2 := [some (.ref 5), some (.int x)]) (st2 := [.int (-2)]) b_X10_post_7_9 rfl (fun hd => ?_)
    exact False.elim (by clear hd; grind)
theorem b_X10_post_25_30 : bl2 mX10_post 25 [(.aload_n 0, 1, 0, 0, .null), (.getfield 70, 3, 10, 8, .null), (.iload_n 1, 1, 1, 0, .null)] 30 (.invokevirtual 227) 3 = true := by decide +kernel
theorem b_X10_post_33_33 : bl2 mX10_post 33 [] 33 (.ireturn) 1 = true := by decide +kernel
set_option maxRecDepth 20000 in
set_option maxHeartbeats 1000000 in
theorem x_post (E : EE) (L : Nat) (F : FF) (x : Int32) (h : 0 ≤ x ∧ x < 1024) (m : Nat) (hm : F 33 1 = nI m) (hm8 : m < 8) : Ev3 E L 16 mX10_post [.ref 5, .int x] F (some (.int (nI m))) (up2 (up2 F 34 m x) 33 1 (nI (m + 1))) := by
  refine Ev3.of okX10_post.2.2.1 (Nat.le_of_ble_eq_true rfl) ?_
  show R2 E L mX10_post 16 0 [some (.ref 5), some (.int x)] [] F _
  refine R2.B (ls2 := [some (.ref 5), some (.int x)]) (st2 := [.int x]) b_X10_post_0_1 rfl (fun hd => ?_)
  refine R2.callS3 (M2 := mX10_isSpot) (As := [.int x]) (rest := []) hd lk_10_223 okX10_isSpot (by decide) (ev_isSpot E L F x) (by decide) rfl rfl (Nat.le_of_ble_eq_true rfl) ?_
  refine R2.B (ls2 := [some (.ref 5), some (.int x)]) (st2 := [.int (b2i (0 ≤ x ∧ x < 1024))]) b_X10_post_4_4 rfl (fun hd => ?_)
  refine R2.if_ne 10 hd (by decide) (fun c4 => ?_) (fun c4 => ?_)
  · have nc4 : 0 ≤ x ∧ x < 1024 := b2i_nz.mp c4
    refine R2.B (ls2 := [some (.ref 5), some (.int x)]) (st2 := [.ref 33]) b_X10_post_10_14 rfl (fun hd => ?_)
    refine R2.callV3 (M2 := mX4_isFull) (As := []) (rest := []) hd lk_10_226 okX4_isFull (by decide) rfl (ev_pFull E L _) (by decide) rfl rfl (Nat.le_of_ble_eq_true rfl) ?_
    refine R2.B (ls2 := [some (.ref 5), some (.int x)]) (st2 := [.int (b2i (¬ F 33 1 < 8))]) b_X10_post_17_17 rfl (fun hd => ?_)
    refine R2.if_eq 25 hd (by decide) (fun c17 => ?_) (fun c17 => absurd (b2i_zero.mpr (fun z => z (by rw [hm]; exact nI_lt (b := 8) hm8 (by decide)))) c17)
    refine R2.B (ls2 := [some (.ref 5), some (.int x)]) (st2 := [.int x, .ref 33]) b_X10_post_25_30 rfl (fun hd => ?_)
    refine R2.callV3 (M2 := mX4_add) (As := [.int x]) (rest := []) hd lk_10_227 okX4_add (by decide) rfl (ev_pAdd E L F m hm hm8 x) (by decide) rfl rfl (Nat.le_of_ble_eq_true rfl) ?_
    refine R2.B (ls2 := [some (.ref 5), some (.int x)]) (st2 := [.int (nI m)]) b_X10_post_33_33 rfl (fun hd => ?_)
    exact R2.ret3 (r := some (.int (nI m))) hd trivial rfl rfl rfl
  · have nc4 : ¬ (0 ≤ x ∧ x < 1024) := b2i_zero.mp c4
    refine R2.B (ls2 := [some (.ref 5), some (.int x)]) (st2 := [.int (-2)]) b_X10_post_7_9 rfl (fun hd => ?_)
    exact False.elim (by clear hd; grind)
theorem b_X10_gone_0_4 : bl2 mX10_gone 0 [(.aload_n 0, 1, 0, 0, .null), (.getfield 70, 3, 10, 8, .null)] 4 (.invokevirtual 229) 3 = true := by decide +kernel
theorem b_X10_gone_7_7 : bl2 mX10_gone 7 [] 7 (.ireturn) 1 = true := by decide +kernel
set_option maxRecDepth 20000 in
set_option maxHeartbeats 1000000 in
theorem x_gone (E : EE) (L : Nat) (F : FF) : Ev3 E L 16 mX10_gone [.ref 5] F (some (.int (F 33 1))) (up2 F 33 1 0) := by
  refine Ev3.of okX10_gone.2.2.1 (Nat.le_of_ble_eq_true rfl) ?_
  show R2 E L mX10_gone 16 0 [some (.ref 5)] [] F _
  refine R2.B (ls2 := [some (.ref 5)]) (st2 := [.ref 33]) b_X10_gone_0_4 rfl (fun hd => ?_)
  refine R2.callV3 (M2 := mX4_clear) (As := []) (rest := []) hd lk_10_229 okX4_clear (by decide) rfl (ev_pClear E L F) (by decide) rfl rfl (Nat.le_of_ble_eq_true rfl) ?_
  refine R2.B (ls2 := [some (.ref 5)]) (st2 := [.int (F 33 1)]) b_X10_gone_7_7 rfl (fun hd => ?_)
  exact R2.ret3 (r := some (.int (F 33 1))) hd trivial rfl rfl rfl
theorem b_X10_sees_0_9 : bl2 mX10_sees 0 [(.aload_n 0, 1, 0, 0, .null), (.getfield 70, 3, 10, 8, .null), (.aload_n 0, 1, 0, 0, .null), (.getfield 33, 3, 10, 3, .null), (.iconst 0, 1, 0, 0, .int 0)] 9 (.invokevirtual 230) 3 = true := by decide +kernel
theorem b_X10_sees_12_12 : bl2 mX10_sees 12 [] 12 (.invokevirtual 233) 3 = true := by decide +kernel
theorem b_X10_sees_15_15 : bl2 mX10_sees 15 [] 15 (.ireturn) 1 = true := by decide +kernel
set_option maxRecDepth 20000 in
set_option maxHeartbeats 1000000 in
theorem x_sees (E : EE) (L : Nat) (F : FF) (m : Nat) (hm : F 33 1 = nI m) (hm8 : m ≤ 8) : Ev3 E L 16 mX10_sees [.ref 5] F (some (.int (sumO (gPA (F 34) (F 17 0 * F 17 0)) m m 0 0))) F := by
  refine Ev3.of okX10_sees.2.2.1 (Nat.le_of_ble_eq_true rfl) ?_
  show R2 E L mX10_sees 16 0 [some (.ref 5)] [] F _
  refine R2.B (ls2 := [some (.ref 5)]) (st2 := [.int 0, .ref 16, .ref 33]) b_X10_sees_0_9 rfl (fun hd => ?_)
  refine R2.callV3 (M2 := mX2_square) (As := [.int 0]) (rest := [.ref 33]) hd lk_10_230 okX2_square (by decide) rfl (ev_square E L F 0 (by decide)) (by decide) rfl rfl (Nat.le_of_ble_eq_true rfl) ?_
  refine R2.B (ls2 := [some (.ref 5)]) (st2 := [.int ((F 17 0) * (F 17 0)), .ref 33]) b_X10_sees_12_12 rfl (fun hd => ?_)
  refine R2.callV3 (M2 := mX4_pairsAt) (As := [.int ((F 17 0) * (F 17 0))]) (rest := []) hd lk_10_233 okX4_pairsAt (by decide) rfl (ev_pairsAt E L F m hm hm8 ((F 17 0) * (F 17 0))) (by decide) rfl rfl (Nat.le_of_ble_eq_true rfl) ?_
  refine R2.B (ls2 := [some (.ref 5)]) (st2 := [.int (sumO (gPA (F 34) ((F 17 0) * (F 17 0))) m m 0 0)]) b_X10_sees_15_15 rfl (fun hd => ?_)
  exact R2.ret3 (r := some (.int (sumO (gPA (F 34) ((F 17 0) * (F 17 0))) m m 0 0))) hd trivial rfl rfl rfl
theorem b_X10_more_0_1 : bl2 mX10_more 0 [(.iload_n 1, 1, 1, 0, .null)] 1 (.ifCond .lt 8) 3 = true := by decide +kernel
theorem b_X10_more_9_11 : bl2 mX10_more 9 [(.bipush (-2), 2, 0, 0, .int (-2))] 11 (.ireturn) 1 = true := by decide +kernel
theorem b_X10_more_4_6 : bl2 mX10_more 4 [(.iload_n 1, 1, 1, 0, .null), (.iconst 1, 1, 0, 0, .int 1)] 6 (.if_icmp .le 6) 3 = true := by decide +kernel
theorem b_X10_more_12_12 : bl2 mX10_more 12 [] 12 (.aload_n 0) 1 = true := by decide +kernel
set_option maxRecDepth 20000 in
set_option maxHeartbeats 1000000 in
theorem x_more_bad (E : EE) (L : Nat) (F : FF) (w : Int32) (h : w < 0 ∨ 1 < w) : Ev3 E L 16 mX10_more [.ref 5, .int w] F (some (.int (-2))) F := by
  refine Ev3.of okX10_more.2.2.1 (Nat.le_of_ble_eq_true rfl) ?_
  show R2 E L mX10_more 16 0 [some (.ref 5), some (.int w), none] [] F _
  refine R2.B (ls2 := [some (.ref 5), some (.int w), none]) (st2 := [.int w]) b_X10_more_0_1 rfl (fun hd => ?_)
  refine R2.if_lt 9 hd (by decide) (fun c1 => ?_) (fun c1 => ?_)
  · refine R2.B (ls2 := [some (.ref 5), some (.int w), none]) (st2 := [.int (-2)]) b_X10_more_9_11 rfl (fun hd => ?_)
    exact R2.ret3 (r := some (.int (-2))) hd trivial rfl rfl rfl
  · refine R2.B (ls2 := [some (.ref 5), some (.int w), none]) (st2 := [.int 1, .int w]) b_X10_more_4_6 rfl (fun hd => ?_)
    refine R2.icmp_le 12 hd (by decide) (fun c6 => ?_) (fun c6 => ?_)
    · refine R2.B (ls2 := [some (.ref 5), some (.int w), none]) (st2 := []) b_X10_more_12_12 rfl (fun hd => ?_)
      exact False.elim (by clear hd; grind)
    · refine R2.B (ls2 := [some (.ref 5), some (.int w), none]) (st2 := [.int (-2)]) b_X10_more_9_11 rfl (fun hd => ?_)
      exact R2.ret3 (r := some (.int (-2))) hd trivial rfl rfl rfl
theorem b_X10_more_12_21 : bl2 mX10_more 12 [(.aload_n 0, 1, 0, 0, .null), (.getfield 70, 3, 10, 8, .null), (.aload_n 0, 1, 0, 0, .null), (.getfield 33, 3, 10, 3, .null), (.iconst 0, 1, 0, 0, .int 0)] 21 (.invokevirtual 230) 3 = true := by decide +kernel
theorem b_X10_more_24_24 : bl2 mX10_more 24 [] 24 (.invokevirtual 236) 3 = true := by decide +kernel
theorem b_X10_more_27_29 : bl2 mX10_more 27 [(.istore_n 2, 1, 2, 0, .null), (.iload_n 1, 1, 1, 0, .null)] 29 (.ifCond .ne 7) 3 = true := by decide +kernel
theorem b_X10_more_32_52 : bl2 mX10_more 32 [(.iload_n 2, 1, 2, 0, .null), (.goto 19, 3, 52, 0, .null)] 52 (.ireturn) 1 = true := by decide +kernel
set_option maxRecDepth 20000 in
set_option maxHeartbeats 1000000 in
theorem x_more0 (E : EE) (L : Nat) (F : FF) (m : Nat) (hm : F 33 1 = nI m) (hm8 : m ≤ 8) : Ev3 E L 16 mX10_more [.ref 5, .int 0] F (some (.int (nI (bdL (fun w => seenS (F 34) m (nI w) (F 17 0 * F 17 0)) 1024 0 0 0)))) F := by
  refine Ev3.of okX10_more.2.2.1 (Nat.le_of_ble_eq_true rfl) ?_
  show R2 E L mX10_more 16 0 [some (.ref 5), some (.int 0), none] [] F _
  refine R2.B (ls2 := [some (.ref 5), some (.int 0), none]) (st2 := [.int 0]) b_X10_more_0_1 rfl (fun hd => ?_)
  refine R2.if_lt 9 hd (by decide) (fun c1 => absurd c1 (by decide)) (fun c1 => ?_)
  refine R2.B (ls2 := [some (.ref 5), some (.int 0), none]) (st2 := [.int 1, .int 0]) b_X10_more_4_6 rfl (fun hd => ?_)
  refine R2.icmp_le 12 hd (by decide) (fun c6 => ?_) (fun c6 => absurd (by decide) c6)
  refine R2.B (ls2 := [some (.ref 5), some (.int 0), none]) (st2 := [.int 0, .ref 16, .ref 33]) b_X10_more_12_21 rfl (fun hd => ?_)
  refine R2.callV3 (M2 := mX2_square) (As := [.int 0]) (rest := [.ref 33]) hd lk_10_230 okX2_square (by decide) rfl (ev_square E L F 0 (by decide)) (by decide) rfl rfl (Nat.le_of_ble_eq_true rfl) ?_
  refine R2.B (ls2 := [some (.ref 5), some (.int 0), none]) (st2 := [.int ((F 17 0) * (F 17 0)), .ref 33]) b_X10_more_24_24 rfl (fun hd => ?_)
  refine R2.callV3 (M2 := mX4_bestSpot) (As := [.int ((F 17 0) * (F 17 0))]) (rest := []) hd lk_10_236 okX4_bestSpot (by decide) rfl (ev_bestSpot E L F m hm hm8 ((F 17 0) * (F 17 0))) (by decide) rfl rfl (Nat.le_of_ble_eq_true rfl) ?_
  refine R2.B (ls2 := [some (.ref 5), some (.int 0), some (.int (nI (bdL (fun w => seenS (F 34) m (nI w) ((F 17 0) * (F 17 0))) 1024 0 0 0)))]) (st2 := [.int 0]) b_X10_more_27_29 rfl (fun hd => ?_)
  refine R2.if_ne 36 hd (by decide) (fun c29 => absurd (by decide) c29) (fun c29 => ?_)
  refine R2.B (ls2 := [some (.ref 5), some (.int 0), some (.int (nI (bdL (fun w => seenS (F 34) m (nI w) ((F 17 0) * (F 17 0))) 1024 0 0 0)))]) (st2 := [.int (nI (bdL (fun w => seenS (F 34) m (nI w) ((F 17 0) * (F 17 0))) 1024 0 0 0))]) b_X10_more_32_52 rfl (fun hd => ?_)
  exact R2.ret3 (r := some (.int (nI (bdL (fun w => seenS (F 34) m (nI w) ((F 17 0) * (F 17 0))) 1024 0 0 0)))) hd trivial rfl rfl rfl
theorem b_X10_more_36_46 : bl2 mX10_more 36 [(.aload_n 0, 1, 0, 0, .null), (.getfield 70, 3, 10, 8, .null), (.iload_n 2, 1, 2, 0, .null), (.aload_n 0, 1, 0, 0, .null), (.getfield 33, 3, 10, 3, .null), (.iconst 0, 1, 0, 0, .int 0)] 46 (.invokevirtual 230) 3 = true := by decide +kernel
theorem b_X10_more_49_49 : bl2 mX10_more 49 [] 49 (.invokevirtual 239) 3 = true := by decide +kernel
theorem b_X10_more_52_52 : bl2 mX10_more 52 [] 52 (.ireturn) 1 = true := by decide +kernel
set_option maxRecDepth 20000 in
set_option maxHeartbeats 1000000 in
theorem x_more1 (E : EE) (L : Nat) (F : FF) (m : Nat) (hm : F 33 1 = nI m) (hm8 : m ≤ 8) : Ev3 E L 16 mX10_more [.ref 5, .int 1] F (some (.int (seenS (F 34) m (nI (bdL (fun w => seenS (F 34) m (nI w) (F 17 0 * F 17 0)) 1024 0 0 0)) (F 17 0 * F 17 0)))) F := by
  refine Ev3.of okX10_more.2.2.1 (Nat.le_of_ble_eq_true rfl) ?_
  show R2 E L mX10_more 16 0 [some (.ref 5), some (.int 1), none] [] F _
  refine R2.B (ls2 := [some (.ref 5), some (.int 1), none]) (st2 := [.int 1]) b_X10_more_0_1 rfl (fun hd => ?_)
  refine R2.if_lt 9 hd (by decide) (fun c1 => absurd c1 (by decide)) (fun c1 => ?_)
  refine R2.B (ls2 := [some (.ref 5), some (.int 1), none]) (st2 := [.int 1, .int 1]) b_X10_more_4_6 rfl (fun hd => ?_)
  refine R2.icmp_le 12 hd (by decide) (fun c6 => ?_) (fun c6 => absurd (by decide) c6)
  refine R2.B (ls2 := [some (.ref 5), some (.int 1), none]) (st2 := [.int 0, .ref 16, .ref 33]) b_X10_more_12_21 rfl (fun hd => ?_)
  refine R2.callV3 (M2 := mX2_square) (As := [.int 0]) (rest := [.ref 33]) hd lk_10_230 okX2_square (by decide) rfl (ev_square E L F 0 (by decide)) (by decide) rfl rfl (Nat.le_of_ble_eq_true rfl) ?_
  refine R2.B (ls2 := [some (.ref 5), some (.int 1), none]) (st2 := [.int ((F 17 0) * (F 17 0)), .ref 33]) b_X10_more_24_24 rfl (fun hd => ?_)
  refine R2.callV3 (M2 := mX4_bestSpot) (As := [.int ((F 17 0) * (F 17 0))]) (rest := []) hd lk_10_236 okX4_bestSpot (by decide) rfl (ev_bestSpot E L F m hm hm8 ((F 17 0) * (F 17 0))) (by decide) rfl rfl (Nat.le_of_ble_eq_true rfl) ?_
  refine R2.B (ls2 := [some (.ref 5), some (.int 1), some (.int (nI (bdL (fun w => seenS (F 34) m (nI w) ((F 17 0) * (F 17 0))) 1024 0 0 0)))]) (st2 := [.int 1]) b_X10_more_27_29 rfl (fun hd => ?_)
  refine R2.if_ne 36 hd (by decide) (fun c29 => ?_) (fun c29 => absurd c29 (by decide))
  refine R2.B (ls2 := [some (.ref 5), some (.int 1), some (.int (nI (bdL (fun w => seenS (F 34) m (nI w) ((F 17 0) * (F 17 0))) 1024 0 0 0)))]) (st2 := [.int 0, .ref 16, .int (nI (bdL (fun w => seenS (F 34) m (nI w) ((F 17 0) * (F 17 0))) 1024 0 0 0)), .ref 33]) b_X10_more_36_46 rfl (fun hd => ?_)
  refine R2.callV3 (M2 := mX2_square) (As := [.int 0]) (rest := [.int (nI (bdL (fun w => seenS (F 34) m (nI w) ((F 17 0) * (F 17 0))) 1024 0 0 0)), .ref 33]) hd lk_10_230 okX2_square (by decide) rfl (ev_square E L F 0 (by decide)) (by decide) rfl rfl (Nat.le_of_ble_eq_true rfl) ?_
  refine R2.B (ls2 := [some (.ref 5), some (.int 1), some (.int (nI (bdL (fun w => seenS (F 34) m (nI w) ((F 17 0) * (F 17 0))) 1024 0 0 0)))]) (st2 := [.int ((F 17 0) * (F 17 0)), .int (nI (bdL (fun w => seenS (F 34) m (nI w) ((F 17 0) * (F 17 0))) 1024 0 0 0)), .ref 33]) b_X10_more_49_49 rfl (fun hd => ?_)
  refine R2.callV3 (M2 := mX4_seenFrom) (As := [.int (nI (bdL (fun w => seenS (F 34) m (nI w) ((F 17 0) * (F 17 0))) 1024 0 0 0)), .int ((F 17 0) * (F 17 0))]) (rest := []) hd lk_10_239 okX4_seenFrom (by decide) rfl (ev_seenFrom E L F m hm hm8 (nI (bdL (fun w => seenS (F 34) m (nI w) ((F 17 0) * (F 17 0))) 1024 0 0 0)) ((F 17 0) * (F 17 0))) (by decide) rfl rfl (Nat.le_of_ble_eq_true rfl) ?_
  refine R2.B (ls2 := [some (.ref 5), some (.int 1), some (.int (nI (bdL (fun w => seenS (F 34) m (nI w) ((F 17 0) * (F 17 0))) 1024 0 0 0)))]) (st2 := [.int (seenS (F 34) m (nI (bdL (fun w => seenS (F 34) m (nI w) ((F 17 0) * (F 17 0))) 1024 0 0 0)) ((F 17 0) * (F 17 0)))]) b_X10_more_52_52 rfl (fun hd => ?_)
  exact R2.ret3 (r := some (.int (seenS (F 34) m (nI (bdL (fun w => seenS (F 34) m (nI w) ((F 17 0) * (F 17 0))) 1024 0 0 0)) ((F 17 0) * (F 17 0))))) hd trivial rfl rfl rfl
theorem b_X10_both_0_5 : bl2 mX10_both 0 [(.aload_n 0, 1, 0, 0, .null), (.getfield 70, 3, 10, 8, .null), (.iload_n 1, 1, 1, 0, .null)] 5 (.invokevirtual 242) 3 = true := by decide +kernel
theorem b_X10_both_8_8 : bl2 mX10_both 8 [] 8 (.ifCond .eq 24) 3 = true := by decide +kernel
theorem b_X10_both_32_34 : bl2 mX10_both 32 [(.bipush (-2), 2, 0, 0, .int (-2))] 34 (.ireturn) 1 = true := by decide +kernel
theorem b_X10_both_11_16 : bl2 mX10_both 11 [(.aload_n 0, 1, 0, 0, .null), (.getfield 70, 3, 10, 8, .null), (.iload_n 2, 1, 2, 0, .null)] 16 (.invokevirtual 242) 3 = true := by decide +kernel
theorem b_X10_both_19_19 : bl2 mX10_both 19 [] 19 (.ifCond .eq 13) 3 = true := by decide +kernel
theorem b_X10_both_22_24 : bl2 mX10_both 22 [(.iload_n 1, 1, 1, 0, .null), (.iload_n 2, 1, 2, 0, .null)] 24 (.if_icmp .eq 8) 3 = true := by decide +kernel
theorem b_X10_both_27_29 : bl2 mX10_both 27 [(.iload_n 3, 1, 3, 0, .null), (.iconst (-1), 1, 0, 0, .int (-1))] 29 (.if_icmp .ge 6) 3 = true := by decide +kernel
theorem b_X10_both_35_35 : bl2 mX10_both 35 [] 35 (.iload_n 3) 1 = true := by decide +kernel
set_option maxRecDepth 20000 in
set_option maxHeartbeats 1000000 in
theorem x_both_bad (E : EE) (L : Nat) (F : FF) (p q x : Int32) (h : ¬ (0 ≤ p ∧ p < F 33 1) ∨ ¬ (0 ≤ q ∧ q < F 33 1) ∨ p = q ∨ x < -1) : Ev3 E L 16 mX10_both [.ref 5, .int p, .int q, .int x] F (some (.int (-2))) F := by
  refine Ev3.of okX10_both.2.2.1 (Nat.le_of_ble_eq_true rfl) ?_
  show R2 E L mX10_both 16 0 [some (.ref 5), some (.int p), some (.int q), some (.int x)] [] F _
  refine R2.B (ls2 := [some (.ref 5), some (.int p), some (.int q), some (.int x)]) (st2 := [.int p, .ref 33]) b_X10_both_0_5 rfl (fun hd => ?_)
  refine R2.callV3 (M2 := mX4_has) (As := [.int p]) (rest := []) hd lk_10_242 okX4_has (by decide) rfl (ev_has E L F p) (by decide) rfl rfl (Nat.le_of_ble_eq_true rfl) ?_
  refine R2.B (ls2 := [some (.ref 5), some (.int p), some (.int q), some (.int x)]) (st2 := [.int (b2i (0 ≤ p ∧ p < F 33 1))]) b_X10_both_8_8 rfl (fun hd => ?_)
  refine R2.if_eq 32 hd (by decide) (fun c8 => ?_) (fun c8 => ?_)
  · have nc8 : ¬ (0 ≤ p ∧ p < F 33 1) := b2i_zero.mp c8
    refine R2.B (ls2 := [some (.ref 5), some (.int p), some (.int q), some (.int x)]) (st2 := [.int (-2)]) b_X10_both_32_34 rfl (fun hd => ?_)
    exact R2.ret3 (r := some (.int (-2))) hd trivial rfl rfl rfl
  · have nc8 : 0 ≤ p ∧ p < F 33 1 := b2i_nz.mp c8
    refine R2.B (ls2 := [some (.ref 5), some (.int p), some (.int q), some (.int x)]) (st2 := [.int q, .ref 33]) b_X10_both_11_16 rfl (fun hd => ?_)
    refine R2.callV3 (M2 := mX4_has) (As := [.int q]) (rest := []) hd lk_10_242 okX4_has (by decide) rfl (ev_has E L F q) (by decide) rfl rfl (Nat.le_of_ble_eq_true rfl) ?_
    refine R2.B (ls2 := [some (.ref 5), some (.int p), some (.int q), some (.int x)]) (st2 := [.int (b2i (0 ≤ q ∧ q < F 33 1))]) b_X10_both_19_19 rfl (fun hd => ?_)
    refine R2.if_eq 32 hd (by decide) (fun c19 => ?_) (fun c19 => ?_)
    · have nc19 : ¬ (0 ≤ q ∧ q < F 33 1) := b2i_zero.mp c19
      refine R2.B (ls2 := [some (.ref 5), some (.int p), some (.int q), some (.int x)]) (st2 := [.int (-2)]) b_X10_both_32_34 rfl (fun hd => ?_)
      exact R2.ret3 (r := some (.int (-2))) hd trivial rfl rfl rfl
    · have nc19 : 0 ≤ q ∧ q < F 33 1 := b2i_nz.mp c19
      refine R2.B (ls2 := [some (.ref 5), some (.int p), some (.int q), some (.int x)]) (st2 := [.int q, .int p]) b_X10_both_22_24 rfl (fun hd => ?_)
      refine R2.icmp_eq 32 hd (by decide) (fun c24 => ?_) (fun c24 => ?_)
      · refine R2.B (ls2 := [some (.ref 5), some (.int p), some (.int q), some (.int x)]) (st2 := [.int (-2)]) b_X10_both_32_34 rfl (fun hd => ?_)
        exact R2.ret3 (r := some (.int (-2))) hd trivial rfl rfl rfl
      · refine R2.B (ls2 := [some (.ref 5), some (.int p), some (.int q), some (.int x)]) (st2 := [.int (-1), .int x]) b_X10_both_27_29 rfl (fun hd => ?_)
        refine R2.icmp_ge 35 hd (by decide) (fun c29 => ?_) (fun c29 => ?_)
        · refine R2.B (ls2 := [some (.ref 5), some (.int p), some (.int q), some (.int x)]) (st2 := []) b_X10_both_35_35 rfl (fun hd => ?_)
          exact False.elim (by clear hd; grind)
        · refine R2.B (ls2 := [some (.ref 5), some (.int p), some (.int q), some (.int x)]) (st2 := [.int (-2)]) b_X10_both_32_34 rfl (fun hd => ?_)
          exact R2.ret3 (r := some (.int (-2))) hd trivial rfl rfl rfl
theorem pst_t {F : FF} {m a : Nat} (hm : F 33 1 = nI m) (hm8 : m ≤ 8) (ha : a < m) : 0 ≤ nI a ∧ nI a < F 33 1 := by rw [hm]; exact ⟨nI_pos' (by omega), nI_lt ha (by omega)⟩
theorem b_X10_both_35_37 : bl2 mX10_both 35 [(.iload_n 3, 1, 3, 0, .null), (.iconst (-1), 1, 0, 0, .int (-1))] 37 (.if_icmp .ne 21) 3 = true := by decide +kernel
theorem b_X10_both_40_51 : bl2 mX10_both 40 [(.aload_n 0, 1, 0, 0, .null), (.getfield 70, 3, 10, 8, .null), (.iload_n 1, 1, 1, 0, .null), (.iload_n 2, 1, 2, 0, .null), (.aload_n 0, 1, 0, 0, .null), (.getfield 33, 3, 10, 3, .null), (.iconst 0, 1, 0, 0, .int 0)] 51 (.invokevirtual 230) 3 = true := by decide +kernel
theorem b_X10_both_54_54 : bl2 mX10_both 54 [] 54 (.invokevirtual 245) 3 = true := by decide +kernel
theorem b_X10_both_57_57 : bl2 mX10_both 57 [] 57 (.ireturn) 1 = true := by decide +kernel
set_option maxRecDepth 20000 in
set_option maxHeartbeats 1000000 in
theorem x_both_none (E : EE) (L : Nat) (F : FF) (m : Nat) (hm : F 33 1 = nI m) (hm8 : m ≤ 8) (a b : Nat) (ha : a < m) (hb : b < m) (hab : a ≠ b) : Ev3 E L 16 mX10_both [.ref 5, .int (nI a), .int (nI b), .int (-1)] F (some (.int (sumI (gCS (F 34) a b (F 17 0 * F 17 0)) 1024 0 0))) F := by
  refine Ev3.of okX10_both.2.2.1 (Nat.le_of_ble_eq_true rfl) ?_
  show R2 E L mX10_both 16 0 [some (.ref 5), some (.int (nI a)), some (.int (nI b)), some (.int (-1))] [] F _
  refine R2.B (ls2 := [some (.ref 5), some (.int (nI a)), some (.int (nI b)), some (.int (-1))]) (st2 := [.int (nI a), .ref 33]) b_X10_both_0_5 rfl (fun hd => ?_)
  refine R2.callV3 (M2 := mX4_has) (As := [.int (nI a)]) (rest := []) hd lk_10_242 okX4_has (by decide) rfl (ev_has E L F (nI a)) (by decide) rfl rfl (Nat.le_of_ble_eq_true rfl) ?_
  refine R2.B (ls2 := [some (.ref 5), some (.int (nI a)), some (.int (nI b)), some (.int (-1))]) (st2 := [.int (b2i (0 ≤ (nI a) ∧ (nI a) < F 33 1))]) b_X10_both_8_8 rfl (fun hd => ?_)
  refine R2.if_eq 32 hd (by decide) (fun c8 => absurd c8 (b2i_nz.mpr (pst_t hm hm8 ha))) (fun c8 => ?_)
  refine R2.B (ls2 := [some (.ref 5), some (.int (nI a)), some (.int (nI b)), some (.int (-1))]) (st2 := [.int (nI b), .ref 33]) b_X10_both_11_16 rfl (fun hd => ?_)
  refine R2.callV3 (M2 := mX4_has) (As := [.int (nI b)]) (rest := []) hd lk_10_242 okX4_has (by decide) rfl (ev_has E L F (nI b)) (by decide) rfl rfl (Nat.le_of_ble_eq_true rfl) ?_
  refine R2.B (ls2 := [some (.ref 5), some (.int (nI a)), some (.int (nI b)), some (.int (-1))]) (st2 := [.int (b2i (0 ≤ (nI b) ∧ (nI b) < F 33 1))]) b_X10_both_19_19 rfl (fun hd => ?_)
  refine R2.if_eq 32 hd (by decide) (fun c19 => absurd c19 (b2i_nz.mpr (pst_t hm hm8 hb))) (fun c19 => ?_)
  refine R2.B (ls2 := [some (.ref 5), some (.int (nI a)), some (.int (nI b)), some (.int (-1))]) (st2 := [.int (nI b), .int (nI a)]) b_X10_both_22_24 rfl (fun hd => ?_)
  refine R2.icmp_eq 32 hd (by decide) (fun c24 => absurd c24 (fun z => hab ((nI_eq (by omega) (by omega)).mp z))) (fun c24 => ?_)
  refine R2.B (ls2 := [some (.ref 5), some (.int (nI a)), some (.int (nI b)), some (.int (-1))]) (st2 := [.int (-1), .int (-1)]) b_X10_both_27_29 rfl (fun hd => ?_)
  refine R2.icmp_ge 35 hd (by decide) (fun c29 => ?_) (fun c29 => absurd (by decide) c29)
  refine R2.B (ls2 := [some (.ref 5), some (.int (nI a)), some (.int (nI b)), some (.int (-1))]) (st2 := [.int (-1), .int (-1)]) b_X10_both_35_37 rfl (fun hd => ?_)
  refine R2.icmp_ne 58 hd (by decide) (fun c37 => absurd (by decide) c37) (fun c37 => ?_)
  refine R2.B (ls2 := [some (.ref 5), some (.int (nI a)), some (.int (nI b)), some (.int (-1))]) (st2 := [.int 0, .ref 16, .int (nI b), .int (nI a), .ref 33]) b_X10_both_40_51 rfl (fun hd => ?_)
  refine R2.callV3 (M2 := mX2_square) (As := [.int 0]) (rest := [.int (nI b), .int (nI a), .ref 33]) hd lk_10_230 okX2_square (by decide) rfl (ev_square E L F 0 (by decide)) (by decide) rfl rfl (Nat.le_of_ble_eq_true rfl) ?_
  refine R2.B (ls2 := [some (.ref 5), some (.int (nI a)), some (.int (nI b)), some (.int (-1))]) (st2 := [.int ((F 17 0) * (F 17 0)), .int (nI b), .int (nI a), .ref 33]) b_X10_both_54_54 rfl (fun hd => ?_)
  refine R2.callV3 (M2 := mX4_commonSpots) (As := [.int (nI a), .int (nI b), .int ((F 17 0) * (F 17 0))]) (rest := []) hd lk_10_245 okX4_commonSpots (by decide) rfl (ev_commonSpots E L F a b ((F 17 0) * (F 17 0)) (by omega) (by omega)) (by decide) rfl rfl (Nat.le_of_ble_eq_true rfl) ?_
  refine R2.B (ls2 := [some (.ref 5), some (.int (nI a)), some (.int (nI b)), some (.int (-1))]) (st2 := [.int (sumI (gCS (F 34) a b ((F 17 0) * (F 17 0))) 1024 0 0)]) b_X10_both_57_57 rfl (fun hd => ?_)
  exact R2.ret3 (r := some (.int (sumI (gCS (F 34) a b ((F 17 0) * (F 17 0))) 1024 0 0))) hd trivial rfl rfl rfl
theorem b_X10_both_58_69 : bl2 mX10_both 58 [(.aload_n 0, 1, 0, 0, .null), (.getfield 70, 3, 10, 8, .null), (.iload_n 1, 1, 1, 0, .null), (.iload_n 2, 1, 2, 0, .null), (.aload_n 0, 1, 0, 0, .null), (.getfield 33, 3, 10, 3, .null), (.iconst 0, 1, 0, 0, .int 0)] 69 (.invokevirtual 230) 3 = true := by decide +kernel
theorem b_X10_both_72_73 : bl2 mX10_both 72 [(.iload_n 3, 1, 3, 0, .null)] 73 (.invokevirtual 249) 3 = true := by decide +kernel
theorem b_X10_both_76_76 : bl2 mX10_both 76 [] 76 (.ireturn) 1 = true := by decide +kernel
set_option maxRecDepth 20000 in
set_option maxHeartbeats 1000000 in
theorem x_both (E : EE) (L : Nat) (F : FF) (m : Nat) (hm : F 33 1 = nI m) (hm8 : m ≤ 8) (a b : Nat) (ha : a < m) (hb : b < m) (hab : a ≠ b) (x : Int32) (hx : -1 ≤ x) (hx1 : ¬ x = -1) : Ev3 E L 16 mX10_both [.ref 5, .int (nI a), .int (nI b), .int x] F (some (.int (csL (F 34) a b (F 17 0 * F 17 0) 1024 0 x))) F := by
  refine Ev3.of okX10_both.2.2.1 (Nat.le_of_ble_eq_true rfl) ?_
  show R2 E L mX10_both 16 0 [some (.ref 5), some (.int (nI a)), some (.int (nI b)), some (.int x)] [] F _
  refine R2.B (ls2 := [some (.ref 5), some (.int (nI a)), some (.int (nI b)), some (.int x)]) (st2 := [.int (nI a), .ref 33]) b_X10_both_0_5 rfl (fun hd => ?_)
  refine R2.callV3 (M2 := mX4_has) (As := [.int (nI a)]) (rest := []) hd lk_10_242 okX4_has (by decide) rfl (ev_has E L F (nI a)) (by decide) rfl rfl (Nat.le_of_ble_eq_true rfl) ?_
  refine R2.B (ls2 := [some (.ref 5), some (.int (nI a)), some (.int (nI b)), some (.int x)]) (st2 := [.int (b2i (0 ≤ (nI a) ∧ (nI a) < F 33 1))]) b_X10_both_8_8 rfl (fun hd => ?_)
  refine R2.if_eq 32 hd (by decide) (fun c8 => absurd c8 (b2i_nz.mpr (pst_t hm hm8 ha))) (fun c8 => ?_)
  refine R2.B (ls2 := [some (.ref 5), some (.int (nI a)), some (.int (nI b)), some (.int x)]) (st2 := [.int (nI b), .ref 33]) b_X10_both_11_16 rfl (fun hd => ?_)
  refine R2.callV3 (M2 := mX4_has) (As := [.int (nI b)]) (rest := []) hd lk_10_242 okX4_has (by decide) rfl (ev_has E L F (nI b)) (by decide) rfl rfl (Nat.le_of_ble_eq_true rfl) ?_
  refine R2.B (ls2 := [some (.ref 5), some (.int (nI a)), some (.int (nI b)), some (.int x)]) (st2 := [.int (b2i (0 ≤ (nI b) ∧ (nI b) < F 33 1))]) b_X10_both_19_19 rfl (fun hd => ?_)
  refine R2.if_eq 32 hd (by decide) (fun c19 => absurd c19 (b2i_nz.mpr (pst_t hm hm8 hb))) (fun c19 => ?_)
  refine R2.B (ls2 := [some (.ref 5), some (.int (nI a)), some (.int (nI b)), some (.int x)]) (st2 := [.int (nI b), .int (nI a)]) b_X10_both_22_24 rfl (fun hd => ?_)
  refine R2.icmp_eq 32 hd (by decide) (fun c24 => absurd c24 (fun z => hab ((nI_eq (by omega) (by omega)).mp z))) (fun c24 => ?_)
  refine R2.B (ls2 := [some (.ref 5), some (.int (nI a)), some (.int (nI b)), some (.int x)]) (st2 := [.int (-1), .int x]) b_X10_both_27_29 rfl (fun hd => ?_)
  refine R2.icmp_ge 35 hd (by decide) (fun c29 => ?_) (fun c29 => absurd (hx) c29)
  refine R2.B (ls2 := [some (.ref 5), some (.int (nI a)), some (.int (nI b)), some (.int x)]) (st2 := [.int (-1), .int x]) b_X10_both_35_37 rfl (fun hd => ?_)
  refine R2.icmp_ne 58 hd (by decide) (fun c37 => ?_) (fun c37 => absurd c37 (hx1))
  refine R2.B (ls2 := [some (.ref 5), some (.int (nI a)), some (.int (nI b)), some (.int x)]) (st2 := [.int 0, .ref 16, .int (nI b), .int (nI a), .ref 33]) b_X10_both_58_69 rfl (fun hd => ?_)
  refine R2.callV3 (M2 := mX2_square) (As := [.int 0]) (rest := [.int (nI b), .int (nI a), .ref 33]) hd lk_10_230 okX2_square (by decide) rfl (ev_square E L F 0 (by decide)) (by decide) rfl rfl (Nat.le_of_ble_eq_true rfl) ?_
  refine R2.B (ls2 := [some (.ref 5), some (.int (nI a)), some (.int (nI b)), some (.int x)]) (st2 := [.int x, .int ((F 17 0) * (F 17 0)), .int (nI b), .int (nI a), .ref 33]) b_X10_both_72_73 rfl (fun hd => ?_)
  refine R2.callV3 (M2 := mX4_commonSpot) (As := [.int (nI a), .int (nI b), .int ((F 17 0) * (F 17 0)), .int x]) (rest := []) hd lk_10_249 okX4_commonSpot (by decide) rfl (ev_commonSpot E L F a b ((F 17 0) * (F 17 0)) (by omega) (by omega) x) (by decide) rfl rfl (Nat.le_of_ble_eq_true rfl) ?_
  refine R2.B (ls2 := [some (.ref 5), some (.int (nI a)), some (.int (nI b)), some (.int x)]) (st2 := [.int (csL (F 34) a b ((F 17 0) * (F 17 0)) 1024 0 x)]) b_X10_both_76_76 rfl (fun hd => ?_)
  exact R2.ret3 (r := some (.int (csL (F 34) a b ((F 17 0) * (F 17 0)) 1024 0 x))) hd trivial rfl rfl rfl
theorem b_X10_broker_0_1 : bl2 mX10_broker 0 [(.iload_n 1, 1, 1, 0, .null)] 1 (.ifCond .lt 8) 3 = true := by decide +kernel
theorem b_X10_broker_9_11 : bl2 mX10_broker 9 [(.bipush (-2), 2, 0, 0, .int (-2))] 11 (.ireturn) 1 = true := by decide +kernel
theorem b_X10_broker_4_6 : bl2 mX10_broker 4 [(.iload_n 1, 1, 1, 0, .null), (.iconst 1, 1, 0, 0, .int 1)] 6 (.if_icmp .le 6) 3 = true := by decide +kernel
theorem b_X10_broker_12_12 : bl2 mX10_broker 12 [] 12 (.aload_n 0) 1 = true := by decide +kernel
set_option maxRecDepth 20000 in
set_option maxHeartbeats 1000000 in
theorem x_broker_bad (E : EE) (L : Nat) (F : FF) (w : Int32) (h : w < 0 ∨ 1 < w) : Ev3 E L 16 mX10_broker [.ref 5, .int w] F (some (.int (-2))) F := by
  refine Ev3.of okX10_broker.2.2.1 (Nat.le_of_ble_eq_true rfl) ?_
  show R2 E L mX10_broker 16 0 [some (.ref 5), some (.int w)] [] F _
  refine R2.B (ls2 := [some (.ref 5), some (.int w)]) (st2 := [.int w]) b_X10_broker_0_1 rfl (fun hd => ?_)
  refine R2.if_lt 9 hd (by decide) (fun c1 => ?_) (fun c1 => ?_)
  · refine R2.B (ls2 := [some (.ref 5), some (.int w)]) (st2 := [.int (-2)]) b_X10_broker_9_11 rfl (fun hd => ?_)
    exact R2.ret3 (r := some (.int (-2))) hd trivial rfl rfl rfl
  · refine R2.B (ls2 := [some (.ref 5), some (.int w)]) (st2 := [.int 1, .int w]) b_X10_broker_4_6 rfl (fun hd => ?_)
    refine R2.icmp_le 12 hd (by decide) (fun c6 => ?_) (fun c6 => ?_)
    · refine R2.B (ls2 := [some (.ref 5), some (.int w)]) (st2 := []) b_X10_broker_12_12 rfl (fun hd => ?_)
      exact False.elim (by clear hd; grind)
    · refine R2.B (ls2 := [some (.ref 5), some (.int w)]) (st2 := [.int (-2)]) b_X10_broker_9_11 rfl (fun hd => ?_)
      exact R2.ret3 (r := some (.int (-2))) hd trivial rfl rfl rfl
theorem b_X10_broker_12_16 : bl2 mX10_broker 12 [(.aload_n 0, 1, 0, 0, .null), (.getfield 77, 3, 10, 9, .null)] 16 (.invokevirtual 253) 3 = true := by decide +kernel
theorem b_X10_broker_19_20 : bl2 mX10_broker 19 [(.iload_n 1, 1, 1, 0, .null)] 20 (.ifCond .ne 13) 3 = true := by decide +kernel
theorem b_X10_broker_23_40 : bl2 mX10_broker 23 [(.aload_n 0, 1, 0, 0, .null), (.getfield 77, 3, 10, 9, .null), (.getfield 256, 3, 6, 4, .null), (.goto 10, 3, 40, 0, .null)] 40 (.ireturn) 1 = true := by decide +kernel
set_option maxRecDepth 20000 in
set_option maxHeartbeats 1000000 in
theorem x_broker0 (E : EE) (L : Nat) (F : FF) (n : Nat) (hn : F 10 5 = nI n) (hn10 : n ≤ 10) (hth : ThOK F n) : Ev2 E L 16 mX10_broker [.ref 5, .int 0] F (fun r' F' => r' = some (.int (brL (fun w => cPf F n (alL n n 0 F 36) (nI w)) 1024 0 (-1) 0).1) ∧ ∀ a, a ≠ 35 → a ≠ 36 → a ≠ 37 → a ≠ 38 → F' a = F a) := by
  refine Ev2.of okX10_broker.2.2.1 (Nat.le_of_ble_eq_true rfl) ?_
  show R2 E L mX10_broker 16 0 [some (.ref 5), some (.int 0)] [] F _
  refine R2.B (ls2 := [some (.ref 5), some (.int 0)]) (st2 := [.int 0]) b_X10_broker_0_1 rfl (fun hd => ?_)
  refine R2.if_lt 9 hd (by decide) (fun c1 => absurd c1 (by decide)) (fun c1 => ?_)
  refine R2.B (ls2 := [some (.ref 5), some (.int 0)]) (st2 := [.int 1, .int 0]) b_X10_broker_4_6 rfl (fun hd => ?_)
  refine R2.icmp_le 12 hd (by decide) (fun c6 => ?_) (fun c6 => absurd (by decide) c6)
  refine R2.B (ls2 := [some (.ref 5), some (.int 0)]) (st2 := [.ref 35]) b_X10_broker_12_16 rfl (fun hd => ?_)
  refine R2.callV (M2 := mX6_seek) (As := []) (rest := []) hd lk_10_253 okX6_seek (by decide) rfl (ev_seek E L F n hn hn10 hth) (by decide) rfl rfl (Nat.le_of_ble_eq_true rfl) (fun r1 F1 h1 => ?_)
  obtain ⟨h1, h2, h3, h4⟩ := h1
  subst h1
  refine R2.B (ls2 := [some (.ref 5), some (.int 0)]) (st2 := [.int 0]) b_X10_broker_19_20 rfl (fun hd => ?_)
  refine R2.if_ne 33 hd (by decide) (fun c20 => absurd (by decide) c20) (fun c20 => ?_)
  refine R2.B (ls2 := [some (.ref 5), some (.int 0)]) (st2 := [.int (F1 35 4)]) b_X10_broker_23_40 rfl (fun hd => ?_)
  exact R2.ret (r := some (.int (F1 35 4))) hd trivial rfl ⟨congrArg (fun z => some (Value.int z)) h2, h4⟩
theorem b_X10_broker_33_40 : bl2 mX10_broker 33 [(.aload_n 0, 1, 0, 0, .null), (.getfield 77, 3, 10, 9, .null), (.getfield 258, 3, 6, 5, .null)] 40 (.ireturn) 1 = true := by decide +kernel
set_option maxRecDepth 20000 in
set_option maxHeartbeats 1000000 in
theorem x_broker1 (E : EE) (L : Nat) (F : FF) (n : Nat) (hn : F 10 5 = nI n) (hn10 : n ≤ 10) (hth : ThOK F n) : Ev2 E L 16 mX10_broker [.ref 5, .int 1] F (fun r' F' => r' = some (.int (brL (fun w => cPf F n (alL n n 0 F 36) (nI w)) 1024 0 (-1) 0).2) ∧ ∀ a, a ≠ 35 → a ≠ 36 → a ≠ 37 → a ≠ 38 → F' a = F a) := by
  refine Ev2.of okX10_broker.2.2.1 (Nat.le_of_ble_eq_true rfl) ?_
  show R2 E L mX10_broker 16 0 [some (.ref 5), some (.int 1)] [] F _
  refine R2.B (ls2 := [some (.ref 5), some (.int 1)]) (st2 := [.int 1]) b_X10_broker_0_1 rfl (fun hd => ?_)
  refine R2.if_lt 9 hd (by decide) (fun c1 => absurd c1 (by decide)) (fun c1 => ?_)
  refine R2.B (ls2 := [some (.ref 5), some (.int 1)]) (st2 := [.int 1, .int 1]) b_X10_broker_4_6 rfl (fun hd => ?_)
  refine R2.icmp_le 12 hd (by decide) (fun c6 => ?_) (fun c6 => absurd (by decide) c6)
  refine R2.B (ls2 := [some (.ref 5), some (.int 1)]) (st2 := [.ref 35]) b_X10_broker_12_16 rfl (fun hd => ?_)
  refine R2.callV (M2 := mX6_seek) (As := []) (rest := []) hd lk_10_253 okX6_seek (by decide) rfl (ev_seek E L F n hn hn10 hth) (by decide) rfl rfl (Nat.le_of_ble_eq_true rfl) (fun r1 F1 h1 => ?_)
  obtain ⟨h1, h2, h3, h4⟩ := h1
  subst h1
  refine R2.B (ls2 := [some (.ref 5), some (.int 1)]) (st2 := [.int 1]) b_X10_broker_19_20 rfl (fun hd => ?_)
  refine R2.if_ne 33 hd (by decide) (fun c20 => ?_) (fun c20 => absurd c20 (by decide))
  refine R2.B (ls2 := [some (.ref 5), some (.int 1)]) (st2 := [.int (F1 35 5)]) b_X10_broker_33_40 rfl (fun hd => ?_)
  exact R2.ret (r := some (.int (F1 35 5))) hd trivial rfl ⟨congrArg (fun z => some (Value.int z)) h3, h4⟩
theorem b_X10_other_0_2 : bl2 mX10_other 0 [(.iload_n 1, 1, 1, 0, .null), (.iconst 1, 1, 0, 0, .int 1)] 2 (.if_icmp .lt 23) 3 = true := by decide +kernel
theorem b_X10_other_25_27 : bl2 mX10_other 25 [(.bipush (-2), 2, 0, 0, .int (-2))] 27 (.ireturn) 1 = true := by decide +kernel
theorem b_X10_other_5_8 : bl2 mX10_other 5 [(.iload_n 2, 1, 2, 0, .null), (.bipush 90, 2, 0, 0, .int 90)] 8 (.if_icmp .gt 17) 3 = true := by decide +kernel
theorem b_X10_other_11_13 : bl2 mX10_other 11 [(.iload_n 1, 1, 1, 0, .null), (.iload_n 2, 1, 2, 0, .null)] 13 (.if_icmp .gt 12) 3 = true := by decide +kernel
theorem b_X10_other_16_17 : bl2 mX10_other 16 [(.iload_n 3, 1, 3, 0, .null)] 17 (.ifCond .lt 8) 3 = true := by decide +kernel
theorem b_X10_other_20_22 : bl2 mX10_other 20 [(.iload_n 3, 1, 3, 0, .null), (.iconst 1, 1, 0, 0, .int 1)] 22 (.if_icmp .le 6) 3 = true := by decide +kernel
theorem b_X10_other_28_28 : bl2 mX10_other 28 [] 28 (.aload_n 0) 1 = true := by decide +kernel
set_option maxRecDepth 20000 in
set_option maxHeartbeats 1000000 in
theorem x_other_bad (E : EE) (L : Nat) (F : FF) (p q w : Int32) (h : p < 1 ∨ 90 < q ∨ q < p ∨ w < 0 ∨ 1 < w) : Ev3 E L 16 mX10_other [.ref 5, .int p, .int q, .int w] F (some (.int (-2))) F := by
  refine Ev3.of okX10_other.2.2.1 (Nat.le_of_ble_eq_true rfl) ?_
  show R2 E L mX10_other 16 0 [some (.ref 5), some (.int p), some (.int q), some (.int w), none] [] F _
  refine R2.B (ls2 := [some (.ref 5), some (.int p), some (.int q), some (.int w), none]) (st2 := [.int 1, .int p]) b_X10_other_0_2 rfl (fun hd => ?_)
  refine R2.icmp_lt 25 hd (by decide) (fun c2 => ?_) (fun c2 => ?_)
  · refine R2.B (ls2 := [some (.ref 5), some (.int p), some (.int q), some (.int w), none]) (st2 := [.int (-2)]) b_X10_other_25_27 rfl (fun hd => ?_)
    exact R2.ret3 (r := some (.int (-2))) hd trivial rfl rfl rfl
  · refine R2.B (ls2 := [some (.ref 5), some (.int p), some (.int q), some (.int w), none]) (st2 := [.int 90, .int q]) b_X10_other_5_8 rfl (fun hd => ?_)
    refine R2.icmp_gt 25 hd (by decide) (fun c8 => ?_) (fun c8 => ?_)
    · refine R2.B (ls2 := [some (.ref 5), some (.int p), some (.int q), some (.int w), none]) (st2 := [.int (-2)]) b_X10_other_25_27 rfl (fun hd => ?_)
      exact R2.ret3 (r := some (.int (-2))) hd trivial rfl rfl rfl
    · refine R2.B (ls2 := [some (.ref 5), some (.int p), some (.int q), some (.int w), none]) (st2 := [.int q, .int p]) b_X10_other_11_13 rfl (fun hd => ?_)
      refine R2.icmp_gt 25 hd (by decide) (fun c13 => ?_) (fun c13 => ?_)
      · refine R2.B (ls2 := [some (.ref 5), some (.int p), some (.int q), some (.int w), none]) (st2 := [.int (-2)]) b_X10_other_25_27 rfl (fun hd => ?_)
        exact R2.ret3 (r := some (.int (-2))) hd trivial rfl rfl rfl
      · refine R2.B (ls2 := [some (.ref 5), some (.int p), some (.int q), some (.int w), none]) (st2 := [.int w]) b_X10_other_16_17 rfl (fun hd => ?_)
        refine R2.if_lt 25 hd (by decide) (fun c17 => ?_) (fun c17 => ?_)
        · refine R2.B (ls2 := [some (.ref 5), some (.int p), some (.int q), some (.int w), none]) (st2 := [.int (-2)]) b_X10_other_25_27 rfl (fun hd => ?_)
          exact R2.ret3 (r := some (.int (-2))) hd trivial rfl rfl rfl
        · refine R2.B (ls2 := [some (.ref 5), some (.int p), some (.int q), some (.int w), none]) (st2 := [.int 1, .int w]) b_X10_other_20_22 rfl (fun hd => ?_)
          refine R2.icmp_le 28 hd (by decide) (fun c22 => ?_) (fun c22 => ?_)
          · refine R2.B (ls2 := [some (.ref 5), some (.int p), some (.int q), some (.int w), none]) (st2 := []) b_X10_other_28_28 rfl (fun hd => ?_)
            exact False.elim (by clear hd; grind)
          · refine R2.B (ls2 := [some (.ref 5), some (.int p), some (.int q), some (.int w), none]) (st2 := [.int (-2)]) b_X10_other_25_27 rfl (fun hd => ?_)
            exact R2.ret3 (r := some (.int (-2))) hd trivial rfl rfl rfl
theorem b_X10_other_28_34 : bl2 mX10_other 28 [(.aload_n 0, 1, 0, 0, .null), (.getfield 33, 3, 10, 3, .null), (.iload_n 1, 1, 1, 0, .null), (.iload_n 2, 1, 2, 0, .null)] 34 (.invokevirtual 261) 3 = true := by decide +kernel
theorem b_X10_other_37_40 : bl2 mX10_other 37 [(.istore 4, 2, 4, 0, .null), (.iload_n 3, 1, 3, 0, .null)] 40 (.ifCond .ne 8) 3 = true := by decide +kernel
theorem b_X10_other_43_57 : bl2 mX10_other 43 [(.iload 4, 2, 4, 0, .null), (.goto 12, 3, 57, 0, .null)] 57 (.ireturn) 1 = true := by decide +kernel
set_option maxRecDepth 20000 in
set_option maxHeartbeats 1000000 in
theorem x_other0 (E : EE) (L : Nat) (F : FF) (n : Nat) (hn : F 10 5 = nI n) (hn10 : n ≤ 10) (f t : Nat) (hf1 : 1 ≤ f) (hft : f ≤ t) (ht90 : t ≤ 90) : Ev3 E L 16 mX10_other [.ref 5, .int (nI f), .int (nI t), .int 0] F (some (.int (nI (cBD F n f t)))) F := by
  refine Ev3.of okX10_other.2.2.1 (Nat.le_of_ble_eq_true rfl) ?_
  show R2 E L mX10_other 16 0 [some (.ref 5), some (.int (nI f)), some (.int (nI t)), some (.int 0), none] [] F _
  refine R2.B (ls2 := [some (.ref 5), some (.int (nI f)), some (.int (nI t)), some (.int 0), none]) (st2 := [.int 1, .int (nI f)]) b_X10_other_0_2 rfl (fun hd => ?_)
  refine R2.icmp_lt 25 hd (by decide) (fun c2 => absurd c2 (nI_nlt (b := 1) (by omega) (by omega))) (fun c2 => ?_)
  refine R2.B (ls2 := [some (.ref 5), some (.int (nI f)), some (.int (nI t)), some (.int 0), none]) (st2 := [.int 90, .int (nI t)]) b_X10_other_5_8 rfl (fun hd => ?_)
  refine R2.icmp_gt 25 hd (by decide) (fun c8 => absurd c8 (nI_nlt (a := 90) (b := t) (by omega) (by omega))) (fun c8 => ?_)
  refine R2.B (ls2 := [some (.ref 5), some (.int (nI f)), some (.int (nI t)), some (.int 0), none]) (st2 := [.int (nI t), .int (nI f)]) b_X10_other_11_13 rfl (fun hd => ?_)
  refine R2.icmp_gt 25 hd (by decide) (fun c13 => absurd c13 (nI_nlt (by omega) (by omega))) (fun c13 => ?_)
  refine R2.B (ls2 := [some (.ref 5), some (.int (nI f)), some (.int (nI t)), some (.int 0), none]) (st2 := [.int 0]) b_X10_other_16_17 rfl (fun hd => ?_)
  refine R2.if_lt 25 hd (by decide) (fun c17 => absurd c17 (by decide)) (fun c17 => ?_)
  refine R2.B (ls2 := [some (.ref 5), some (.int (nI f)), some (.int (nI t)), some (.int 0), none]) (st2 := [.int 1, .int 0]) b_X10_other_20_22 rfl (fun hd => ?_)
  refine R2.icmp_le 28 hd (by decide) (fun c22 => ?_) (fun c22 => absurd (by decide) c22)
  refine R2.B (ls2 := [some (.ref 5), some (.int (nI f)), some (.int (nI t)), some (.int 0), none]) (st2 := [.int (nI t), .int (nI f), .ref 16]) b_X10_other_28_34 rfl (fun hd => ?_)
  refine R2.callV3 (M2 := mX2_bestDue) (As := [.int (nI f), .int (nI t)]) (rest := []) hd lk_10_261 okX2_bestDue (by decide) rfl (ev_bestDue E L F n hn hn10 f t hft ht90) (by decide) rfl rfl (Nat.le_of_ble_eq_true rfl) ?_
  refine R2.B (ls2 := [some (.ref 5), some (.int (nI f)), some (.int (nI t)), some (.int 0), some (.int (nI (cBD F n f t)))]) (st2 := [.int 0]) b_X10_other_37_40 rfl (fun hd => ?_)
  refine R2.if_ne 48 hd (by decide) (fun c40 => absurd (by decide) c40) (fun c40 => ?_)
  refine R2.B (ls2 := [some (.ref 5), some (.int (nI f)), some (.int (nI t)), some (.int 0), some (.int (nI (cBD F n f t)))]) (st2 := [.int (nI (cBD F n f t))]) b_X10_other_43_57 rfl (fun hd => ?_)
  exact R2.ret3 (r := some (.int (nI (cBD F n f t)))) hd trivial rfl rfl rfl
theorem b_X10_other_48_54 : bl2 mX10_other 48 [(.aload_n 0, 1, 0, 0, .null), (.getfield 33, 3, 10, 3, .null), (.iload 4, 2, 4, 0, .null)] 54 (.invokevirtual 190) 3 = true := by decide +kernel
theorem b_X10_other_57_57 : bl2 mX10_other 57 [] 57 (.ireturn) 1 = true := by decide +kernel
set_option maxRecDepth 20000 in
set_option maxHeartbeats 1000000 in
theorem x_other1 (E : EE) (L : Nat) (F : FF) (n : Nat) (hn : F 10 5 = nI n) (hn10 : n ≤ 10) (f t : Nat) (hf1 : 1 ≤ f) (hft : f ≤ t) (ht90 : t ≤ 90) : Ev3 E L 16 mX10_other [.ref 5, .int (nI f), .int (nI t), .int 1] F (some (.int (cBP F n (nI (cBD F n f t))))) F := by
  refine Ev3.of okX10_other.2.2.1 (Nat.le_of_ble_eq_true rfl) ?_
  show R2 E L mX10_other 16 0 [some (.ref 5), some (.int (nI f)), some (.int (nI t)), some (.int 1), none] [] F _
  refine R2.B (ls2 := [some (.ref 5), some (.int (nI f)), some (.int (nI t)), some (.int 1), none]) (st2 := [.int 1, .int (nI f)]) b_X10_other_0_2 rfl (fun hd => ?_)
  refine R2.icmp_lt 25 hd (by decide) (fun c2 => absurd c2 (nI_nlt (b := 1) (by omega) (by omega))) (fun c2 => ?_)
  refine R2.B (ls2 := [some (.ref 5), some (.int (nI f)), some (.int (nI t)), some (.int 1), none]) (st2 := [.int 90, .int (nI t)]) b_X10_other_5_8 rfl (fun hd => ?_)
  refine R2.icmp_gt 25 hd (by decide) (fun c8 => absurd c8 (nI_nlt (a := 90) (b := t) (by omega) (by omega))) (fun c8 => ?_)
  refine R2.B (ls2 := [some (.ref 5), some (.int (nI f)), some (.int (nI t)), some (.int 1), none]) (st2 := [.int (nI t), .int (nI f)]) b_X10_other_11_13 rfl (fun hd => ?_)
  refine R2.icmp_gt 25 hd (by decide) (fun c13 => absurd c13 (nI_nlt (by omega) (by omega))) (fun c13 => ?_)
  refine R2.B (ls2 := [some (.ref 5), some (.int (nI f)), some (.int (nI t)), some (.int 1), none]) (st2 := [.int 1]) b_X10_other_16_17 rfl (fun hd => ?_)
  refine R2.if_lt 25 hd (by decide) (fun c17 => absurd c17 (by decide)) (fun c17 => ?_)
  refine R2.B (ls2 := [some (.ref 5), some (.int (nI f)), some (.int (nI t)), some (.int 1), none]) (st2 := [.int 1, .int 1]) b_X10_other_20_22 rfl (fun hd => ?_)
  refine R2.icmp_le 28 hd (by decide) (fun c22 => ?_) (fun c22 => absurd (by decide) c22)
  refine R2.B (ls2 := [some (.ref 5), some (.int (nI f)), some (.int (nI t)), some (.int 1), none]) (st2 := [.int (nI t), .int (nI f), .ref 16]) b_X10_other_28_34 rfl (fun hd => ?_)
  refine R2.callV3 (M2 := mX2_bestDue) (As := [.int (nI f), .int (nI t)]) (rest := []) hd lk_10_261 okX2_bestDue (by decide) rfl (ev_bestDue E L F n hn hn10 f t hft ht90) (by decide) rfl rfl (Nat.le_of_ble_eq_true rfl) ?_
  refine R2.B (ls2 := [some (.ref 5), some (.int (nI f)), some (.int (nI t)), some (.int 1), some (.int (nI (cBD F n f t)))]) (st2 := [.int 1]) b_X10_other_37_40 rfl (fun hd => ?_)
  refine R2.if_ne 48 hd (by decide) (fun c40 => ?_) (fun c40 => absurd c40 (by decide))
  refine R2.B (ls2 := [some (.ref 5), some (.int (nI f)), some (.int (nI t)), some (.int 1), some (.int (nI (cBD F n f t)))]) (st2 := [.int (nI (cBD F n f t)), .ref 16]) b_X10_other_48_54 rfl (fun hd => ?_)
  refine R2.callV3 (M2 := mX2_bindingPairs) (As := [.int (nI (cBD F n f t))]) (rest := []) hd lk_10_190 okX2_bindingPairs (by decide) rfl (ev_bindingPairs E L F n hn hn10 (nI (cBD F n f t))) (by decide) rfl rfl (Nat.le_of_ble_eq_true rfl) ?_
  refine R2.B (ls2 := [some (.ref 5), some (.int (nI f)), some (.int (nI t)), some (.int 1), some (.int (nI (cBD F n f t)))]) (st2 := [.int (cBP F n (nI (cBD F n f t)))]) b_X10_other_57_57 rfl (fun hd => ?_)
  exact R2.ret3 (r := some (.int (cBP F n (nI (cBD F n f t))))) hd trivial rfl rfl rfl
