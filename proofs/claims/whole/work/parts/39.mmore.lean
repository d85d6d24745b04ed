theorem b_X11_seesNow_14_16 : bl2 mX11_seesNow 14 [(.iload_n 3, 1, 3, 0, .null), (.iload_n 2, 1, 2, 0, .null)] 16 (.if_icmp .ge 36) 3 = true := by decide +kernel
theorem b_X11_seesNow_52_52 : bl2 mX11_seesNow 52 [] 52 (.iinc 2 1) 3 = true := by decide +kernel
theorem b_X11_seesNow_19_26 : bl2 mX11_seesNow 19 [(.iload_n 1, 1, 1, 0, .null), (.aload_n 0, 1, 0, 0, .null), (.aload_n 0, 1, 0, 0, .null), (.getfield 58, 3, 11, 22, .null), (.iload_n 2, 1, 2, 0, .null)] 26 (.iaload) 1 = true := by decide +kernel
theorem b_X11_seesNow_27_32 : bl2 mX11_seesNow 27 [(.aload_n 0, 1, 0, 0, .null), (.getfield 58, 3, 11, 22, .null), (.iload_n 3, 1, 3, 0, .null)] 32 (.iaload) 1 = true := by decide +kernel
theorem b_X11_seesNow_33_33 : bl2 mX11_seesNow 33 [] 33 (.invokevirtual 229) 3 = true := by decide +kernel
theorem b_X11_seesNow_36_36 : bl2 mX11_seesNow 36 [] 36 (.ifCond .eq 7) 3 = true := by decide +kernel
theorem b_X11_seesNow_43_14 : bl2 mX11_seesNow 43 [(.iconst 0, 1, 0, 0, .int 0), (.iadd, 1, 0, 0, .null), (.istore_n 1, 1, 1, 0, .null), (.iinc 3 1, 3, 3, 0, .int 1), (.goto (-35), 3, 14, 0, .null)] 14 (.iload_n 3) 1 = true := by decide +kernel
theorem b_X11_seesNow_39_14 : bl2 mX11_seesNow 39 [(.iconst 1, 1, 0, 0, .int 1), (.goto 4, 3, 44, 0, .null), (.iadd, 1, 0, 0, .null), (.istore_n 1, 1, 1, 0, .null), (.iinc 3 1, 3, 3, 0, .int 1), (.goto (-35), 3, 14, 0, .null)] 14 (.iload_n 3) 1 = true := by decide +kernel
set_option maxRecDepth 20000 in
set_option maxHeartbeats 2000000 in
theorem ml_snI (E : EE) (L : Nat) (F : FF) (m : Nat) (hq : F 48 21 = nI m) (hm8 : m ≤ 8) (Q : Q2) (a : Nat) (ha : a < m) : ∀ (k : Nat) (b : Nat) (acc : Int32), b + k = a → R2 E L mX11_seesNow 3 52 [some (.ref 48), some (.int (sumI (gMS F a) k b acc)), some (.int (nI a)), none] [] F Q → R2 E L mX11_seesNow 3 14 [some (.ref 48), some (.int acc), some (.int (nI a)), some (.int (nI b))] [] F Q := by
  intro k
  induction k with
  | zero =>
    intro b acc hi ex
    refine R2.B (ls2 := [some (.ref 48), some (.int acc), some (.int (nI a)), some (.int (nI b))]) (st2 := [.int (nI a), .int (nI b)]) b_X11_seesNow_14_16 rfl (fun hd => ?_)
    refine R2.icmp_ge 52 hd (by decide) (fun c16 => ?_) (fun c16 => absurd (nI_le (by omega) (by omega)) c16)
    refine R2.B (ls2 := [some (.ref 48), some (.int acc), some (.int (nI a)), some (.int (nI b))]) (st2 := []) b_X11_seesNow_52_52 rfl (fun hd => ?_)
    refine R2.forget (ls2 := [some (.ref 48), some (.int acc), some (.int (nI a)), none]) ⟨rfl, ⟨rfl, ⟨rfl, trivial⟩⟩⟩ ?_
    exact ex
  | succ k ih =>
    intro b acc hi ex
    refine R2.B (ls2 := [some (.ref 48), some (.int acc), some (.int (nI a)), some (.int (nI b))]) (st2 := [.int (nI a), .int (nI b)]) b_X11_seesNow_14_16 rfl (fun hd => ?_)
    refine R2.icmp_ge 52 hd (by decide) (fun c16 => absurd c16 (nI_ge (by omega) (by omega))) (fun c16 => ?_)
    refine R2.B (ls2 := [some (.ref 48), some (.int acc), some (.int (nI a)), some (.int (nI b))]) (st2 := [.int (nI a), .ref 65, .ref 48, .int acc]) b_X11_seesNow_19_26 rfl (fun hd => ?_)
    refine R2.iald a rfl hd rfl (fun _ => rfl) (by decide) (by omega) ?_
    refine R2.B (ls2 := [some (.ref 48), some (.int acc), some (.int (nI a)), some (.int (nI b))]) (st2 := [.int (nI b), .ref 65, .int (F 65 a), .ref 48, .int acc]) b_X11_seesNow_27_32 rfl (fun hd => ?_)
    refine R2.iald b rfl hd rfl (fun _ => rfl) (by decide) (by omega) ?_
    refine R2.B (ls2 := [some (.ref 48), some (.int acc), some (.int (nI a)), some (.int (nI b))]) (st2 := [.int (F 65 b), .int (F 65 a), .ref 48, .int acc]) b_X11_seesNow_33_33 rfl (fun hd => ?_)
    refine R2.callV3 (M2 := mX11_isDue) (As := [.int (F 65 a), .int (F 65 b)]) (rest := [.int acc]) hd lk_11_229 okX11_isDue (by decide) rfl (me_isDue E L F (F 65 a) (F 65 b)) (by decide) rfl rfl (Nat.le_of_ble_eq_true rfl) ?_
    refine R2.B (ls2 := [some (.ref 48), some (.int acc), some (.int (nI a)), some (.int (nI b))]) (st2 := [.int (b2i (awy (F 65 a) (F 65 b) = F 51 0 * F 51 0)), .int acc]) b_X11_seesNow_36_36 rfl (fun hd => ?_)
    refine R2.if_eq 43 hd (by decide) (fun c36 => ?_) (fun c36 => ?_)
    · have nc36 : ¬ (awy (F 65 a) (F 65 b) = F 51 0 * F 51 0) := b2i_zero.mp c36
      refine R2.B (ls2 := [some (.ref 48), some (.int (acc + 0)), some (.int (nI a)), some (.int ((nI b) + 1))]) (st2 := []) b_X11_seesNow_43_14 rfl (fun hd => ?_)
      rw [show ((nI b) + 1 : Int32) = nI (b + 1) from nI_add b 1]
      have e : sumI (gMS F a) (k + 1) b acc = sumI (gMS F a) k (b + 1) (acc + 0) := by
        simp only [sumI, gMS]; rw [if_neg nc36]
      rw [e] at ex
      exact ih (b + 1) _ (by omega) ex
    · have nc36 : awy (F 65 a) (F 65 b) = F 51 0 * F 51 0 := b2i_nz.mp c36
      refine R2.B (ls2 := [some (.ref 48), some (.int (acc + 1)), some (.int (nI a)), some (.int ((nI b) + 1))]) (st2 := []) b_X11_seesNow_39_14 rfl (fun hd => ?_)
      rw [show ((nI b) + 1 : Int32) = nI (b + 1) from nI_add b 1]
      have e : sumI (gMS F a) (k + 1) b acc = sumI (gMS F a) k (b + 1) (acc + 1) := by
        simp only [sumI, gMS]; rw [if_pos nc36]
      rw [e] at ex
      exact ih (b + 1) _ (by omega) ex
theorem b_X11_seesNow_4_9 : bl2 mX11_seesNow 4 [(.iload_n 2, 1, 2, 0, .null), (.aload_n 0, 1, 0, 0, .null), (.getfield 226, 3, 11, 21, .null)] 9 (.if_icmp .ge 49) 3 = true := by decide +kernel
theorem b_X11_seesNow_58_59 : bl2 mX11_seesNow 58 [(.iload_n 1, 1, 1, 0, .null)] 59 (.ireturn) 1 = true := by decide +kernel
theorem b_X11_seesNow_12_14 : bl2 mX11_seesNow 12 [(.iconst 0, 1, 0, 0, .int 0), (.istore_n 3, 1, 3, 0, .null)] 14 (.iload_n 3) 1 = true := by decide +kernel
theorem b_X11_seesNow_52_4 : bl2 mX11_seesNow 52 [(.iinc 2 1, 3, 2, 0, .int 1), (.goto (-51), 3, 4, 0, .null)] 4 (.iload_n 2) 1 = true := by decide +kernel
set_option maxRecDepth 20000 in
set_option maxHeartbeats 2000000 in
theorem ml_snO (E : EE) (L : Nat) (F : FF) (m : Nat) (hq : F 48 21 = nI m) (hm8 : m ≤ 8) : ∀ (k : Nat) (a : Nat) (acc : Int32), a + k = m → R2 E L mX11_seesNow 3 4 [some (.ref 48), some (.int acc), some (.int (nI a)), none] [] F (fun r' F' => r' = some (.int (sumB (gMS F) k a acc)) ∧ F' = F) := by
  intro k
  induction k with
  | zero =>
    intro a acc hi
    refine R2.B (ls2 := [some (.ref 48), some (.int acc), some (.int (nI a)), none]) (st2 := [.int (F 48 21), .int (nI a)]) b_X11_seesNow_4_9 rfl (fun hd => ?_)
    rw [show (F 48 21 : Int32) = nI m from hq]
    refine R2.icmp_ge 58 hd (by decide) (fun c9 => ?_) (fun c9 => absurd (nI_le (by omega) (by omega)) c9)
    refine R2.B (ls2 := [some (.ref 48), some (.int acc), some (.int (nI a)), none]) (st2 := [.int acc]) b_X11_seesNow_58_59 rfl (fun hd => ?_)
    exact R2.ret3 (r := some (.int acc)) hd trivial rfl rfl rfl
  | succ k ih =>
    intro a acc hi
    refine R2.B (ls2 := [some (.ref 48), some (.int acc), some (.int (nI a)), none]) (st2 := [.int (F 48 21), .int (nI a)]) b_X11_seesNow_4_9 rfl (fun hd => ?_)
    rw [show (F 48 21 : Int32) = nI m from hq]
    refine R2.icmp_ge 58 hd (by decide) (fun c9 => absurd c9 (nI_ge (by omega) (by omega))) (fun c9 => ?_)
    refine R2.B (ls2 := [some (.ref 48), some (.int acc), some (.int (nI a)), some (.int 0)]) (st2 := []) b_X11_seesNow_12_14 rfl (fun hd => ?_)
    refine ml_snI E L F m hq hm8 _ a (by omega) a 0 acc (by omega) ?_
    refine R2.B (ls2 := [some (.ref 48), some (.int (sumI (gMS F a) a 0 acc)), some (.int ((nI a) + 1)), none]) (st2 := []) b_X11_seesNow_52_4 rfl (fun hd => ?_)
    rw [show ((nI a) + 1 : Int32) = nI (a + 1) from nI_add a 1]
    exact ih (a + 1) _ (by omega)
theorem b_X11_seesNow_0_4 : bl2 mX11_seesNow 0 [(.iconst 0, 1, 0, 0, .int 0), (.istore_n 1, 1, 1, 0, .null), (.iconst 0, 1, 0, 0, .int 0), (.istore_n 2, 1, 2, 0, .null)] 4 (.iload_n 2) 1 = true := by decide +kernel
set_option maxRecDepth 20000 in
set_option maxHeartbeats 1000000 in
theorem me_seesNow (E : EE) (L : Nat) (F : FF) (m : Nat) (hq : F 48 21 = nI m) (hm8 : m ≤ 8) : Ev3 E L 3 mX11_seesNow [.ref 48] F (some (.int (sumB (gMS F) m 0 0))) F := by
  refine Ev3.of okX11_seesNow.2.2.1 (Nat.le_of_ble_eq_true rfl) ?_
  show R2 E L mX11_seesNow 3 0 [some (.ref 48), none, none, none] [] F _
  refine R2.B (ls2 := [some (.ref 48), some (.int 0), some (.int 0), none]) (st2 := []) b_X11_seesNow_0_4 rfl (fun hd => ?_)
  exact ml_snO E L F m hq hm8 m 0 0 (by omega)
theorem b_X11_moreOf_21_27 : bl2 mX11_moreOf 21 [(.iload 6, 2, 6, 0, .null), (.aload_n 0, 1, 0, 0, .null), (.getfield 226, 3, 11, 21, .null)] 27 (.if_icmp .ge 35) 3 = true := by decide +kernel
theorem b_X11_moreOf_62_62 : bl2 mX11_moreOf 62 [] 62 (.iload 5) 2 = true := by decide +kernel
theorem b_X11_moreOf_30_41 : bl2 mX11_moreOf 30 [(.iload 5, 2, 5, 0, .null), (.aload_n 0, 1, 0, 0, .null), (.iload 4, 2, 4, 0, .null), (.aload_n 0, 1, 0, 0, .null), (.getfield 58, 3, 11, 22, .null), (.iload 6, 2, 6, 0, .null)] 41 (.iaload) 1 = true := by decide +kernel
theorem b_X11_moreOf_42_42 : bl2 mX11_moreOf 42 [] 42 (.invokevirtual 229) 3 = true := by decide +kernel
theorem b_X11_moreOf_45_45 : bl2 mX11_moreOf 45 [] 45 (.ifCond .eq 7) 3 = true := by decide +kernel
theorem b_X11_moreOf_52_21 : bl2 mX11_moreOf 52 [(.iconst 0, 1, 0, 0, .int 0), (.iadd, 1, 0, 0, .null), (.istore 5, 2, 5, 0, .null), (.iinc 6 1, 3, 6, 0, .int 1), (.goto (-38), 3, 21, 0, .null)] 21 (.iload 6) 2 = true := by decide +kernel
theorem b_X11_moreOf_48_21 : bl2 mX11_moreOf 48 [(.iconst 1, 1, 0, 0, .int 1), (.goto 4, 3, 53, 0, .null), (.iadd, 1, 0, 0, .null), (.istore 5, 2, 5, 0, .null), (.iinc 6 1, 3, 6, 0, .int 1), (.goto (-38), 3, 21, 0, .null)] 21 (.iload 6) 2 = true := by decide +kernel
set_option maxRecDepth 20000 in
set_option maxHeartbeats 2000000 in
theorem ml_moI (E : EE) (L : Nat) (F : FF) (m : Nat) (hq : F 48 21 = nI m) (hm8 : m ≤ 8) (wh best most : Int32) (w : Nat) (Q : Q2) : ∀ (k : Nat) (b : Nat) (acc : Int32), b + k = m → R2 E L mX11_moreOf 3 62 [some (.ref 48), some (.int wh), some (.int best), some (.int most), some (.int (nI w)), some (.int (sumI (gMO F w) k b acc)), none] [] F Q → R2 E L mX11_moreOf 3 21 [some (.ref 48), some (.int wh), some (.int best), some (.int most), some (.int (nI w)), some (.int acc), some (.int (nI b))] [] F Q := by
  intro k
  induction k with
  | zero =>
    intro b acc hi ex
    refine R2.B (ls2 := [some (.ref 48), some (.int wh), some (.int best), some (.int most), some (.int (nI w)), some (.int acc), some (.int (nI b))]) (st2 := [.int (F 48 21), .int (nI b)]) b_X11_moreOf_21_27 rfl (fun hd => ?_)
    rw [show (F 48 21 : Int32) = nI m from hq]
    refine R2.icmp_ge 62 hd (by decide) (fun c27 => ?_) (fun c27 => absurd (nI_le (by omega) (by omega)) c27)
    refine R2.B (ls2 := [some (.ref 48), some (.int wh), some (.int best), some (.int most), some (.int (nI w)), some (.int acc), some (.int (nI b))]) (st2 := []) b_X11_moreOf_62_62 rfl (fun hd => ?_)
    refine R2.forget (ls2 := [some (.ref 48), some (.int wh), some (.int best), some (.int most), some (.int (nI w)), some (.int acc), none]) ⟨rfl, ⟨rfl, ⟨rfl, ⟨rfl, ⟨rfl, ⟨rfl, trivial⟩⟩⟩⟩⟩⟩ ?_
    exact ex
  | succ k ih =>
    intro b acc hi ex
    refine R2.B (ls2 := [some (.ref 48), some (.int wh), some (.int best), some (.int most), some (.int (nI w)), some (.int acc), some (.int (nI b))]) (st2 := [.int (F 48 21), .int (nI b)]) b_X11_moreOf_21_27 rfl (fun hd => ?_)
    rw [show (F 48 21 : Int32) = nI m from hq]
    refine R2.icmp_ge 62 hd (by decide) (fun c27 => absurd c27 (nI_ge (by omega) (by omega))) (fun c27 => ?_)
    refine R2.B (ls2 := [some (.ref 48), some (.int wh), some (.int best), some (.int most), some (.int (nI w)), some (.int acc), some (.int (nI b))]) (st2 := [.int (nI b), .ref 65, .int (nI w), .ref 48, .int acc]) b_X11_moreOf_30_41 rfl (fun hd => ?_)
    refine R2.iald b rfl hd rfl (fun _ => rfl) (by decide) (by omega) ?_
    refine R2.B (ls2 := [some (.ref 48), some (.int wh), some (.int best), some (.int most), some (.int (nI w)), some (.int acc), some (.int (nI b))]) (st2 := [.int (F 65 b), .int (nI w), .ref 48, .int acc]) b_X11_moreOf_42_42 rfl (fun hd => ?_)
    refine R2.callV3 (M2 := mX11_isDue) (As := [.int (nI w), .int (F 65 b)]) (rest := [.int acc]) hd lk_11_229 okX11_isDue (by decide) rfl (me_isDue E L F (nI w) (F 65 b)) (by decide) rfl rfl (Nat.le_of_ble_eq_true rfl) ?_
    refine R2.B (ls2 := [some (.ref 48), some (.int wh), some (.int best), some (.int most), some (.int (nI w)), some (.int acc), some (.int (nI b))]) (st2 := [.int (b2i (awy (nI w) (F 65 b) = F 51 0 * F 51 0)), .int acc]) b_X11_moreOf_45_45 rfl (fun hd => ?_)
    refine R2.if_eq 52 hd (by decide) (fun c45 => ?_) (fun c45 => ?_)
    · have nc45 : ¬ (awy (nI w) (F 65 b) = F 51 0 * F 51 0) := b2i_zero.mp c45
      refine R2.B (ls2 := [some (.ref 48), some (.int wh), some (.int best), some (.int most), some (.int (nI w)), some (.int (acc + 0)), some (.int ((nI b) + 1))]) (st2 := []) b_X11_moreOf_52_21 rfl (fun hd => ?_)
      rw [show ((nI b) + 1 : Int32) = nI (b + 1) from nI_add b 1]
      have e : sumI (gMO F w) (k + 1) b acc = sumI (gMO F w) k (b + 1) (acc + 0) := by
        simp only [sumI, gMO]; rw [if_neg nc45]
      rw [e] at ex
      exact ih (b + 1) _ (by omega) ex
    · have nc45 : awy (nI w) (F 65 b) = F 51 0 * F 51 0 := b2i_nz.mp c45
      refine R2.B (ls2 := [some (.ref 48), some (.int wh), some (.int best), some (.int most), some (.int (nI w)), some (.int (acc + 1)), some (.int ((nI b) + 1))]) (st2 := []) b_X11_moreOf_48_21 rfl (fun hd => ?_)
      rw [show ((nI b) + 1 : Int32) = nI (b + 1) from nI_add b 1]
      have e : sumI (gMO F w) (k + 1) b acc = sumI (gMO F w) k (b + 1) (acc + 1) := by
        simp only [sumI, gMO]; rw [if_pos nc45]
      rw [e] at ex
      exact ih (b + 1) _ (by omega) ex
theorem b_X11_moreOf_7_12 : bl2 mX11_moreOf 7 [(.iload 4, 2, 4, 0, .null), (.sipush 1024, 3, 0, 0, .int 1024)] 12 (.if_icmp .ge 82) 3 = true := by decide +kernel
theorem b_X11_moreOf_94_95 : bl2 mX11_moreOf 94 [(.iload_n 1, 1, 1, 0, .null)] 95 (.ifCond .ne 7) 3 = true := by decide +kernel
theorem b_X11_moreOf_102_103 : bl2 mX11_moreOf 102 [(.iload_n 3, 1, 3, 0, .null)] 103 (.ireturn) 1 = true := by decide +kernel
theorem b_X11_moreOf_98_103 : bl2 mX11_moreOf 98 [(.iload_n 2, 1, 2, 0, .null), (.goto 4, 3, 103, 0, .null)] 103 (.ireturn) 1 = true := by decide +kernel
theorem b_X11_moreOf_15_21 : bl2 mX11_moreOf 15 [(.iconst 0, 1, 0, 0, .int 0), (.istore 5, 2, 5, 0, .null), (.iconst 0, 1, 0, 0, .int 0), (.istore 6, 2, 6, 0, .null)] 21 (.iload 6) 2 = true := by decide +kernel
theorem b_X11_moreOf_62_65 : bl2 mX11_moreOf 62 [(.iload 5, 2, 5, 0, .null), (.iload_n 3, 1, 3, 0, .null)] 65 (.if_icmp .le 8) 3 = true := by decide +kernel
theorem b_X11_moreOf_73_78 : bl2 mX11_moreOf 73 [(.iload_n 2, 1, 2, 0, .null), (.istore_n 2, 1, 2, 0, .null), (.iload 5, 2, 5, 0, .null), (.iload_n 3, 1, 3, 0, .null)] 78 (.if_icmp .le 8) 3 = true := by decide +kernel
theorem b_X11_moreOf_86_7 : bl2 mX11_moreOf 86 [(.iload_n 3, 1, 3, 0, .null), (.istore_n 3, 1, 3, 0, .null), (.iinc 4 1, 3, 4, 0, .int 1), (.goto (-84), 3, 7, 0, .null)] 7 (.iload 4) 2 = true := by decide +kernel
theorem b_X11_moreOf_81_7 : bl2 mX11_moreOf 81 [(.iload 5, 2, 5, 0, .null), (.goto 4, 3, 87, 0, .null), (.istore_n 3, 1, 3, 0, .null), (.iinc 4 1, 3, 4, 0, .int 1), (.goto (-84), 3, 7, 0, .null)] 7 (.iload 4) 2 = true := by decide +kernel
theorem b_X11_moreOf_68_78 : bl2 mX11_moreOf 68 [(.iload 4, 2, 4, 0, .null), (.goto 4, 3, 74, 0, .null), (.istore_n 2, 1, 2, 0, .null), (.iload 5, 2, 5, 0, .null), (.iload_n 3, 1, 3, 0, .null)] 78 (.if_icmp .le 8) 3 = true := by decide +kernel
set_option maxRecDepth 20000 in
set_option maxHeartbeats 2000000 in
theorem ml_moO (E : EE) (L : Nat) (F : FF) (m : Nat) (hq : F 48 21 = nI m) (hm8 : m ≤ 8) (wh : Int32) : ∀ (k : Nat) (w : Nat) (best most : Int32), w + k = 1024 → R2 E L mX11_moreOf 3 7 [some (.ref 48), some (.int wh), some (.int best), some (.int most), some (.int (nI w)), none, none] [] F (fun r' F' => r' = some (.int (if wh = 0 then (brL (fun w => sumI (gMO F w) m 0 0) k w best most).1 else (brL (fun w => sumI (gMO F w) m 0 0) k w best most).2)) ∧ F' = F) := by
  intro k
  induction k with
  | zero =>
    intro w best most hi
    refine R2.B (ls2 := [some (.ref 48), some (.int wh), some (.int best), some (.int most), some (.int (nI w)), none, none]) (st2 := [.int 1024, .int (nI w)]) b_X11_moreOf_7_12 rfl (fun hd => ?_)
    refine R2.icmp_ge 94 hd (by decide) (fun c12 => ?_) (fun c12 => absurd (nI_le (a := 1024) (by omega) (by omega)) c12)
    refine R2.B (ls2 := [some (.ref 48), some (.int wh), some (.int best), some (.int most), some (.int (nI w)), none, none]) (st2 := [.int wh]) b_X11_moreOf_94_95 rfl (fun hd => ?_)
    refine R2.if_ne 102 hd (by decide) (fun c95 => ?_) (fun c95 => ?_)
    · refine R2.B (ls2 := [some (.ref 48), some (.int wh), some (.int best), some (.int most), some (.int (nI w)), none, none]) (st2 := [.int most]) b_X11_moreOf_102_103 rfl (fun hd => ?_)
      exact R2.ret3 (r := some (.int most)) hd trivial rfl (congrArg (fun z => some (Value.int z)) (by clear hd; simp only [brL]; grind)) rfl
    · refine R2.B (ls2 := [some (.ref 48), some (.int wh), some (.int best), some (.int most), some (.int (nI w)), none, none]) (st2 := [.int best]) b_X11_moreOf_98_103 rfl (fun hd => ?_)
      exact R2.ret3 (r := some (.int best)) hd trivial rfl (congrArg (fun z => some (Value.int z)) (by clear hd; simp only [brL]; grind)) rfl
  | succ k ih =>
    intro w best most hi
    refine R2.B (ls2 := [some (.ref 48), some (.int wh), some (.int best), some (.int most), some (.int (nI w)), none, none]) (st2 := [.int 1024, .int (nI w)]) b_X11_moreOf_7_12 rfl (fun hd => ?_)
    refine R2.icmp_ge 94 hd (by decide) (fun c12 => absurd c12 (nI_ge (b := 1024) (by omega) (by omega))) (fun c12 => ?_)
    refine R2.B (ls2 := [some (.ref 48), some (.int wh), some (.int best), some (.int most), some (.int (nI w)), some (.int 0), some (.int 0)]) (st2 := []) b_X11_moreOf_15_21 rfl (fun hd => ?_)
    refine ml_moI E L F m hq hm8 wh best most w _ m 0 0 (by omega) ?_
    refine R2.B (ls2 := [some (.ref 48), some (.int wh), some (.int best), some (.int most), some (.int (nI w)), some (.int (sumI (gMO F w) m 0 0)), none]) (st2 := [.int most, .int (sumI (gMO F w) m 0 0)]) b_X11_moreOf_62_65 rfl (fun hd => ?_)
    refine R2.icmp_le 73 hd (by decide) (fun c65 => ?_) (fun c65 => ?_)
    · refine R2.B (ls2 := [some (.ref 48), some (.int wh), some (.int best), some (.int most), some (.int (nI w)), some (.int (sumI (gMO F w) m 0 0)), none]) (st2 := [.int most, .int (sumI (gMO F w) m 0 0)]) b_X11_moreOf_73_78 rfl (fun hd => ?_)
      refine R2.icmp_le 86 hd (by decide) (fun c78 => ?_) (fun c78 => ?_)
      · refine R2.B (ls2 := [some (.ref 48), some (.int wh), some (.int best), some (.int most), some (.int ((nI w) + 1)), some (.int (sumI (gMO F w) m 0 0)), none]) (st2 := []) b_X11_moreOf_86_7 rfl (fun hd => ?_)
        rw [show ((nI w) + 1 : Int32) = nI (w + 1) from nI_add w 1]
        have e : brL (fun w => sumI (gMO F w) m 0 0) (k + 1) w best most = brL (fun w => sumI (gMO F w) m 0 0) k (w + 1) best most := by
          simp only [brL]; rw [if_neg (Int32.not_lt.mpr c65)]
        rw [e]
        refine R2.forget (ls2 := [some (.ref 48), some (.int wh), some (.int best), some (.int most), some (.int (nI (w + 1))), none, none]) ⟨rfl, ⟨rfl, ⟨rfl, ⟨rfl, ⟨rfl, trivial⟩⟩⟩⟩⟩ ?_
        exact ih (w + 1) _ _ (by omega)
      · refine R2.B (ls2 := [some (.ref 48), some (.int wh), some (.int best), some (.int (sumI (gMO F w) m 0 0)), some (.int ((nI w) + 1)), some (.int (sumI (gMO F w) m 0 0)), none]) (st2 := []) b_X11_moreOf_81_7 rfl (fun hd => ?_)
        rw [show ((nI w) + 1 : Int32) = nI (w + 1) from nI_add w 1]
        exact absurd c65 c78
    · refine R2.B (ls2 := [some (.ref 48), some (.int wh), some (.int (nI w)), some (.int most), some (.int (nI w)), some (.int (sumI (gMO F w) m 0 0)), none]) (st2 := [.int most, .int (sumI (gMO F w) m 0 0)]) b_X11_moreOf_68_78 rfl (fun hd => ?_)
      refine R2.icmp_le 86 hd (by decide) (fun c78 => ?_) (fun c78 => ?_)
      · refine R2.B (ls2 := [some (.ref 48), some (.int wh), some (.int (nI w)), some (.int most), some (.int ((nI w) + 1)), some (.int (sumI (gMO F w) m 0 0)), none]) (st2 := []) b_X11_moreOf_86_7 rfl (fun hd => ?_)
        rw [show ((nI w) + 1 : Int32) = nI (w + 1) from nI_add w 1]
        exact absurd c78 c65
      · refine R2.B (ls2 := [some (.ref 48), some (.int wh), some (.int (nI w)), some (.int (sumI (gMO F w) m 0 0)), some (.int ((nI w) + 1)), some (.int (sumI (gMO F w) m 0 0)), none]) (st2 := []) b_X11_moreOf_81_7 rfl (fun hd => ?_)
        rw [show ((nI w) + 1 : Int32) = nI (w + 1) from nI_add w 1]
        have e : brL (fun w => sumI (gMO F w) m 0 0) (k + 1) w best most = brL (fun w => sumI (gMO F w) m 0 0) k (w + 1) (nI w) (sumI (gMO F w) m 0 0) := by
          simp only [brL]; rw [if_pos (Int32.not_le.mp c65)]
        rw [e]
        refine R2.forget (ls2 := [some (.ref 48), some (.int wh), some (.int (nI w)), some (.int (sumI (gMO F w) m 0 0)), some (.int (nI (w + 1))), none, none]) ⟨rfl, ⟨rfl, ⟨rfl, ⟨rfl, ⟨rfl, trivial⟩⟩⟩⟩⟩ ?_
        exact ih (w + 1) _ _ (by omega)
theorem b_X11_moreOf_0_7 : bl2 mX11_moreOf 0 [(.iconst 0, 1, 0, 0, .int 0), (.istore_n 2, 1, 2, 0, .null), (.iconst (-1), 1, 0, 0, .int (-1)), (.istore_n 3, 1, 3, 0, .null), (.iconst 0, 1, 0, 0, .int 0), (.istore 4, 2, 4, 0, .null)] 7 (.iload 4) 2 = true := by decide +kernel
set_option maxRecDepth 20000 in
set_option maxHeartbeats 1000000 in
theorem me_moreOf (E : EE) (L : Nat) (F : FF) (m : Nat) (hq : F 48 21 = nI m) (hm8 : m ≤ 8) (wh : Int32) : Ev3 E L 3 mX11_moreOf [.ref 48, .int wh] F (some (.int (if wh = 0 then (brL (fun w => sumI (gMO F w) m 0 0) 1024 0 0 (-1)).1 else (brL (fun w => sumI (gMO F w) m 0 0) 1024 0 0 (-1)).2))) F := by
  refine Ev3.of okX11_moreOf.2.2.1 (Nat.le_of_ble_eq_true rfl) ?_
  show R2 E L mX11_moreOf 3 0 [some (.ref 48), some (.int wh), none, none, none, none, none] [] F _
  refine R2.B (ls2 := [some (.ref 48), some (.int wh), some (.int 0), some (.int (-1)), some (.int 0), none, none]) (st2 := []) b_X11_moreOf_0_7 rfl (fun hd => ?_)
  exact ml_moO E L F m hq hm8 wh 1024 0 0 (-1) (by omega)
