/-! The reference: reading. Printed by wip/whole/gen/spec14.py. -/
theorem ix0 (j : Nat) : (90 * 0 + nI j : Int32) = nI j := by rw [show (90 * 0 : Int32) = 0 from rfl, Int32.zero_add]
theorem ix1 (j : Nat) : (90 * 1 + nI j : Int32) = nI (90 + j) := by rw [show (90 * 1 : Int32) = nI 90 from rfl, nI_add]
def B1 (F : FF) : Nat → Int32 := fun j => F 50 (90 + j)
abbrev isFg (l : Nat) (b : Nat → Int32) (j : Nat) : Prop := 48 ≤ tat l b j ∧ tat l b j ≤ 57
def prA (l : Nat) (b : Nat → Int32) (j : Nat) : Int32 := if ¬ isFg l b j then -2 - nI j else if ¬ isFg l b (j + 1) then -3 - nI j else 10 * (tat l b j - 48) + tat l b (j + 1) - 48
def mSt (F : FF) (l n at_ : Nat) : FF := up2 (up2 (up2 (up2 F 52 n (cKind (tat l (F 50) at_))) 53 n (tat l (F 50) (at_ + 1) - 48)) 54 n (prA l (F 50) (at_ + 2))) 55 n (32 * prA l (F 50) (at_ + 6) + prA l (F 50) (at_ + 4))
def mrdL (l : Nat) : Nat → Nat → Nat → FF → Int32 × FF
  | 0, _, _, F => (-1, F)
  | k + 1, n, at_, F =>
    if ¬ at_ < l ∧ at_ = 0 then (-1, F)
    else if n = 10 ∨ (¬ tat l (F 50) at_ = 115 ∧ ¬ tat l (F 50) at_ = 98 ∧ ¬ tat l (F 50) at_ = 110) then (nI at_, F)
    else if ¬ (48 ≤ tat l (F 50) (at_ + 1) ∧ tat l (F 50) (at_ + 1) ≤ 51) then (nI (at_ + 1), F)
    else if ¬ 0 ≤ prA l (F 50) (at_ + 2) then (-2 - prA l (F 50) (at_ + 2), F)
    else if ¬ 0 ≤ prA l (F 50) (at_ + 4) then (-2 - prA l (F 50) (at_ + 4), F)
    else if ¬ prA l (F 50) (at_ + 4) ≤ 31 then (nI (at_ + 4), F)
    else if ¬ 0 ≤ prA l (F 50) (at_ + 6) then (-2 - prA l (F 50) (at_ + 6), F)
    else if ¬ prA l (F 50) (at_ + 6) ≤ 31 then (nI (at_ + 6), F)
    else if at_ + 8 = l then (-1, up2 (mSt F l n at_) 48 3 (nI (n + 1)))
    else if ¬ tat l (F 50) (at_ + 8) = 59 then (nI (at_ + 8), mSt F l n at_)
    else mrdL l k (n + 1) (at_ + 8 + 1) (mSt F l n at_)
def rds (F : FF) (l : Nat) : Int32 × FF := mrdL l 11 0 0 (up2 F 48 3 0)
theorem b_X11_in_0_2 : bl2 mX11_in 0 [(.iload_n 0, 1, 0, 0, .null), (.iload_n 1, 1, 1, 0, .null)] 2 (.if_icmp .lt 12) 3 = true := by decide +kernel
theorem b_X11_in_14_15 : bl2 mX11_in 14 [(.iconst 0, 1, 0, 0, .int 0)] 15 (.ireturn) 1 = true := by decide +kernel
theorem b_X11_in_5_7 : bl2 mX11_in 5 [(.iload_n 0, 1, 0, 0, .null), (.iload_n 2, 1, 2, 0, .null)] 7 (.if_icmp .gt 7) 3 = true := by decide +kernel
theorem b_X11_in_10_15 : bl2 mX11_in 10 [(.iconst 1, 1, 0, 0, .int 1), (.goto 4, 3, 15, 0, .null)] 15 (.ireturn) 1 = true := by decide +kernel
set_option maxRecDepth 20000 in
set_option maxHeartbeats 1000000 in
theorem ev_in (E : EE) (L : Nat) (F : FF) (v lo hi : Int32) : Ev3 E L 1 mX11_in [.int v, .int lo, .int hi] F (some (.int (b2i (lo ≤ v ∧ v ≤ hi)))) F := by
  refine Ev3.of okX11_in.2.1 (Nat.le_of_ble_eq_true rfl) ?_
  show R2 E L mX11_in 1 0 [some (.int v), some (.int lo), some (.int hi)] [] F _
  refine R2.B (ls2 := [some (.int v), some (.int lo), some (.int hi)]) (st2 := [.int lo, .int v]) b_X11_in_0_2 rfl (fun hd => ?_)
  refine R2.icmp_lt 14 hd (by decide) (fun c2 => ?_) (fun c2 => ?_)
  · refine R2.B (ls2 := [some (.int v), some (.int lo), some (.int hi)]) (st2 := [.int 0]) b_X11_in_14_15 rfl (fun hd => ?_)
    exact R2.ret3 (r := some (.int 0)) hd (Or.inl rfl) rfl (congrArg (fun z => some (Value.int z)) (b2i_f (by clear hd; grind))) rfl
  · refine R2.B (ls2 := [some (.int v), some (.int lo), some (.int hi)]) (st2 := [.int hi, .int v]) b_X11_in_5_7 rfl (fun hd => ?_)
    refine R2.icmp_gt 14 hd (by decide) (fun c7 => ?_) (fun c7 => ?_)
    · refine R2.B (ls2 := [some (.int v), some (.int lo), some (.int hi)]) (st2 := [.int 0]) b_X11_in_14_15 rfl (fun hd => ?_)
      exact R2.ret3 (r := some (.int 0)) hd (Or.inl rfl) rfl (congrArg (fun z => some (Value.int z)) (b2i_f (by clear hd; grind))) rfl
    · refine R2.B (ls2 := [some (.int v), some (.int lo), some (.int hi)]) (st2 := [.int 1]) b_X11_in_10_15 rfl (fun hd => ?_)
      exact R2.ret3 (r := some (.int 1)) hd (Or.inr rfl) rfl (congrArg (fun z => some (Value.int z)) (b2i_t (by clear hd; grind))) rfl
theorem b_X11_isIn_0_6 : bl2 mX11_isIn 0 [(.iload_n 0, 1, 0, 0, .null), (.iload_n 1, 1, 1, 0, .null), (.ishr, 1, 0, 0, .null), (.iconst 1, 1, 0, 0, .int 1), (.iand, 1, 0, 0, .null), (.iconst 1, 1, 0, 0, .int 1)] 6 (.if_icmp .ne 7) 3 = true := by decide +kernel
theorem b_X11_isIn_13_14 : bl2 mX11_isIn 13 [(.iconst 0, 1, 0, 0, .int 0)] 14 (.ireturn) 1 = true := by decide +kernel
theorem b_X11_isIn_9_14 : bl2 mX11_isIn 9 [(.iconst 1, 1, 0, 0, .int 1), (.goto 4, 3, 14, 0, .null)] 14 (.ireturn) 1 = true := by decide +kernel
set_option maxRecDepth 20000 in
set_option maxHeartbeats 1000000 in
theorem ev_isIn (E : EE) (L : Nat) (F : FF) (x y : Int32) : Ev3 E L 1 mX11_isIn [.int x, .int y] F (some (.int (b2i (x >>> (y &&& 31) &&& 1 = 1)))) F := by
  refine Ev3.of okX11_isIn.2.1 (Nat.le_of_ble_eq_true rfl) ?_
  show R2 E L mX11_isIn 1 0 [some (.int x), some (.int y)] [] F _
  refine R2.B (ls2 := [some (.int x), some (.int y)]) (st2 := [.int 1, .int ((x >>> (y &&& 31)) &&& 1)]) b_X11_isIn_0_6 rfl (fun hd => ?_)
  refine R2.icmp_ne 13 hd (by decide) (fun c6 => ?_) (fun c6 => ?_)
  · refine R2.B (ls2 := [some (.int x), some (.int y)]) (st2 := [.int 0]) b_X11_isIn_13_14 rfl (fun hd => ?_)
    exact R2.ret3 (r := some (.int 0)) hd (Or.inl rfl) rfl (congrArg (fun z => some (Value.int z)) (b2i_f (by clear hd; grind))) rfl
  · refine R2.B (ls2 := [some (.int x), some (.int y)]) (st2 := [.int 1]) b_X11_isIn_9_14 rfl (fun hd => ?_)
    exact R2.ret3 (r := some (.int 1)) hd (Or.inr rfl) rfl (congrArg (fun z => some (Value.int z)) (b2i_t (by clear hd; grind))) rfl
theorem b_X11_limit_0_1 : bl2 mX11_limit 0 [(.iload_n 0, 1, 0, 0, .null)] 1 (.ifCond .ne 8) 3 = true := by decide +kernel
theorem b_X11_limit_4_11 : bl2 mX11_limit 4 [(.bipush 90, 2, 0, 0, .int 90), (.goto 5, 3, 11, 0, .null)] 11 (.ireturn) 1 = true := by decide +kernel
set_option maxRecDepth 20000 in
set_option maxHeartbeats 1000000 in
theorem ev_limit0 (E : EE) (L : Nat) (F : FF) : Ev3 E L 1 mX11_limit [.int 0] F (some (.int 90)) F := by
  refine Ev3.of okX11_limit.2.1 (Nat.le_of_ble_eq_true rfl) ?_
  show R2 E L mX11_limit 1 0 [some (.int 0)] [] F _
  refine R2.B (ls2 := [some (.int 0)]) (st2 := [.int 0]) b_X11_limit_0_1 rfl (fun hd => ?_)
  refine R2.if_ne 9 hd (by decide) (fun c1 => absurd (by decide) c1) (fun c1 => ?_)
  refine R2.B (ls2 := [some (.int 0)]) (st2 := [.int 90]) b_X11_limit_4_11 rfl (fun hd => ?_)
  exact R2.ret3 (r := some (.int 90)) hd trivial rfl rfl rfl
theorem b_X11_limit_9_11 : bl2 mX11_limit 9 [(.bipush 60, 2, 0, 0, .int 60)] 11 (.ireturn) 1 = true := by decide +kernel
set_option maxRecDepth 20000 in
set_option maxHeartbeats 1000000 in
theorem ev_limit1 (E : EE) (L : Nat) (F : FF) : Ev3 E L 1 mX11_limit [.int 1] F (some (.int 60)) F := by
  refine Ev3.of okX11_limit.2.1 (Nat.le_of_ble_eq_true rfl) ?_
  show R2 E L mX11_limit 1 0 [some (.int 1)] [] F _
  refine R2.B (ls2 := [some (.int 1)]) (st2 := [.int 1]) b_X11_limit_0_1 rfl (fun hd => ?_)
  refine R2.if_ne 9 hd (by decide) (fun c1 => ?_) (fun c1 => absurd c1 (by decide))
  refine R2.B (ls2 := [some (.int 1)]) (st2 := [.int 60]) b_X11_limit_9_11 rfl (fun hd => ?_)
  exact R2.ret3 (r := some (.int 60)) hd trivial rfl rfl rfl
theorem b_X11_byteAt_0_6 : bl2 mX11_byteAt 0 [(.iload_n 2, 1, 2, 0, .null), (.aload_n 0, 1, 0, 0, .null), (.getfield 7, 3, 11, 0, .null), (.iload_n 1, 1, 1, 0, .null)] 6 (.iaload) 1 = true := by decide +kernel
theorem b_X11_byteAt_7_7 : bl2 mX11_byteAt 7 [] 7 (.if_icmp .ge 17) 3 = true := by decide +kernel
theorem b_X11_byteAt_24_25 : bl2 mX11_byteAt 24 [(.iconst (-1), 1, 0, 0, .int (-1))] 25 (.ireturn) 1 = true := by decide +kernel
theorem b_X11_byteAt_10_20 : bl2 mX11_byteAt 10 [(.aload_n 0, 1, 0, 0, .null), (.getfield 13, 3, 11, 1, .null), (.bipush 90, 2, 0, 0, .int 90), (.iload_n 1, 1, 1, 0, .null), (.imul, 1, 0, 0, .null), (.iload_n 2, 1, 2, 0, .null), (.iadd, 1, 0, 0, .null)] 20 (.iaload) 1 = true := by decide +kernel
theorem b_X11_byteAt_21_25 : bl2 mX11_byteAt 21 [(.goto 4, 3, 25, 0, .null)] 25 (.ireturn) 1 = true := by decide +kernel
set_option maxRecDepth 20000 in
set_option maxHeartbeats 1000000 in
theorem ev_byteAt0 (E : EE) (L : Nat) (F : FF) (l j : Nat) (hlen : F 49 0 = nI l) (hl : l ≤ 90) (hj : j < 2000) : Ev3 E L 1 mX11_byteAt [.ref 48, .int 0, .int (nI j)] F (some (.int (tat l (F 50) j))) F := by
  refine Ev3.of okX11_byteAt.2.2.1 (Nat.le_of_ble_eq_true rfl) ?_
  show R2 E L mX11_byteAt 1 0 [some (.ref 48), some (.int 0), some (.int (nI j))] [] F _
  refine R2.B (ls2 := [some (.ref 48), some (.int 0), some (.int (nI j))]) (st2 := [.int 0, .ref 49, .int (nI j)]) b_X11_byteAt_0_6 rfl (fun hd => ?_)
  refine R2.iald 0 rfl hd rfl (fun _ => rfl) (by decide) (by omega) ?_
  refine R2.top (show (F 49 0 : Int32) = nI l from hlen) ?_
  refine R2.B (ls2 := [some (.ref 48), some (.int 0), some (.int (nI j))]) (st2 := [.int (nI l), .int (nI j)]) b_X11_byteAt_7_7 rfl (fun hd => ?_)
  refine R2.icmp_ge 24 hd (by decide) (fun c7 => ?_) (fun c7 => ?_)
  · have nc7 : l ≤ j := (nI_leI (a := l) (b := j) (by omega) (by omega)).mp c7
    refine R2.B (ls2 := [some (.ref 48), some (.int 0), some (.int (nI j))]) (st2 := [.int (-1)]) b_X11_byteAt_24_25 rfl (fun hd => ?_)
    exact R2.ret3 (r := some (.int (-1))) hd trivial rfl (congrArg (fun z => some (Value.int z)) (by clear hd; unfold tat; grind)) rfl
  · have nc7 : ¬ l ≤ j := fun h9 => c7 ((nI_leI (a := l) (b := j) (by omega) (by omega)).mpr h9)
    refine R2.B (ls2 := [some (.ref 48), some (.int 0), some (.int (nI j))]) (st2 := [.int ((90 * 0) + (nI j)), .ref 50]) b_X11_byteAt_10_20 rfl (fun hd => ?_)
    refine R2.iald j (ix0 j) hd rfl (fun _ => rfl) (by decide) (by omega) ?_
    refine R2.B (ls2 := [some (.ref 48), some (.int 0), some (.int (nI j))]) (st2 := [.int (F 50 j)]) b_X11_byteAt_21_25 rfl (fun hd => ?_)
    exact R2.ret3 (r := some (.int (F 50 j))) hd trivial rfl (congrArg (fun z => some (Value.int z)) (by clear hd; unfold tat; grind)) rfl
set_option maxRecDepth 20000 in
set_option maxHeartbeats 1000000 in
theorem ev_byteAt1 (E : EE) (L : Nat) (F : FF) (l j : Nat) (hlen : F 49 1 = nI l) (hl : l ≤ 60) (hj : j < 2000) : Ev3 E L 1 mX11_byteAt [.ref 48, .int 1, .int (nI j)] F (some (.int (tat l (B1 F) j))) F := by
  refine Ev3.of okX11_byteAt.2.2.1 (Nat.le_of_ble_eq_true rfl) ?_
  show R2 E L mX11_byteAt 1 0 [some (.ref 48), some (.int 1), some (.int (nI j))] [] F _
  refine R2.B (ls2 := [some (.ref 48), some (.int 1), some (.int (nI j))]) (st2 := [.int 1, .ref 49, .int (nI j)]) b_X11_byteAt_0_6 rfl (fun hd => ?_)
  refine R2.iald 1 rfl hd rfl (fun _ => rfl) (by decide) (by omega) ?_
  refine R2.top (show (F 49 1 : Int32) = nI l from hlen) ?_
  refine R2.B (ls2 := [some (.ref 48), some (.int 1), some (.int (nI j))]) (st2 := [.int (nI l), .int (nI j)]) b_X11_byteAt_7_7 rfl (fun hd => ?_)
  refine R2.icmp_ge 24 hd (by decide) (fun c7 => ?_) (fun c7 => ?_)
  · have nc7 : l ≤ j := (nI_leI (a := l) (b := j) (by omega) (by omega)).mp c7
    refine R2.B (ls2 := [some (.ref 48), some (.int 1), some (.int (nI j))]) (st2 := [.int (-1)]) b_X11_byteAt_24_25 rfl (fun hd => ?_)
    exact R2.ret3 (r := some (.int (-1))) hd trivial rfl (congrArg (fun z => some (Value.int z)) (by clear hd; unfold tat B1; grind)) rfl
  · have nc7 : ¬ l ≤ j := fun h9 => c7 ((nI_leI (a := l) (b := j) (by omega) (by omega)).mpr h9)
    refine R2.B (ls2 := [some (.ref 48), some (.int 1), some (.int (nI j))]) (st2 := [.int ((90 * 1) + (nI j)), .ref 50]) b_X11_byteAt_10_20 rfl (fun hd => ?_)
    refine R2.iald (90 + j) (ix1 j) hd rfl (fun _ => rfl) (by decide) (by omega) ?_
    refine R2.B (ls2 := [some (.ref 48), some (.int 1), some (.int (nI j))]) (st2 := [.int (F 50 (90 + j))]) b_X11_byteAt_21_25 rfl (fun hd => ?_)
    exact R2.ret3 (r := some (.int (F 50 (90 + j)))) hd trivial rfl (congrArg (fun z => some (Value.int z)) (by clear hd; unfold tat B1; grind)) rfl
theorem b_X11_isFigure_0_3 : bl2 mX11_isFigure 0 [(.aload_n 0, 1, 0, 0, .null), (.iconst 0, 1, 0, 0, .int 0), (.iload_n 1, 1, 1, 0, .null)] 3 (.invokevirtual 105) 3 = true := by decide +kernel
theorem b_X11_isFigure_6_10 : bl2 mX11_isFigure 6 [(.bipush 48, 2, 0, 0, .int 48), (.bipush 57, 2, 0, 0, .int 57)] 10 (.invokestatic 86) 3 = true := by decide +kernel
theorem b_X11_isFigure_13_13 : bl2 mX11_isFigure 13 [] 13 (.ireturn) 1 = true := by decide +kernel
set_option maxRecDepth 20000 in
set_option maxHeartbeats 1000000 in
theorem ev_isFigure (E : EE) (L : Nat) (F : FF) (l j : Nat) (hlen : F 49 0 = nI l) (hl : l ≤ 90) (hj : j < 1900) : Ev3 E L 2 mX11_isFigure [.ref 48, .int (nI j)] F (some (.int (b2i (isFg l (F 50) j)))) F := by
  refine Ev3.of okX11_isFigure.2.2.1 (Nat.le_of_ble_eq_true rfl) ?_
  show R2 E L mX11_isFigure 2 0 [some (.ref 48), some (.int (nI j))] [] F _
  refine R2.B (ls2 := [some (.ref 48), some (.int (nI j))]) (st2 := [.int (nI j), .int 0, .ref 48]) b_X11_isFigure_0_3 rfl (fun hd => ?_)
  refine R2.callV3 (M2 := mX11_byteAt) (As := [.int 0, .int (nI j)]) (rest := []) hd lk_11_105 okX11_byteAt (by decide) rfl (ev_byteAt0 E L F l j hlen hl (by omega)) (by decide) rfl rfl (Nat.le_of_ble_eq_true rfl) ?_
  refine R2.B (ls2 := [some (.ref 48), some (.int (nI j))]) (st2 := [.int 57, .int 48, .int (tat l (F 50) j)]) b_X11_isFigure_6_10 rfl (fun hd => ?_)
  refine R2.callS3 (M2 := mX11_in) (As := [.int (tat l (F 50) j), .int 48, .int 57]) (rest := []) hd lk_11_86 okX11_in (by decide) (ev_in E L F (tat l (F 50) j) 48 57) (by decide) rfl rfl (Nat.le_of_ble_eq_true rfl) ?_
  refine R2.B (ls2 := [some (.ref 48), some (.int (nI j))]) (st2 := [.int (b2i (48 ≤ (tat l (F 50) j) ∧ (tat l (F 50) j) ≤ 57))]) b_X11_isFigure_13_13 rfl (fun hd => ?_)
  exact R2.ret3 (r := some (.int (b2i (48 ≤ (tat l (F 50) j) ∧ (tat l (F 50) j) ≤ 57)))) hd b2i_01 rfl rfl rfl
theorem b_X11_pairAt_0_2 : bl2 mX11_pairAt 0 [(.aload_n 0, 1, 0, 0, .null), (.iload_n 1, 1, 1, 0, .null)] 2 (.invokevirtual 109) 3 = true := by decide +kernel
theorem b_X11_pairAt_5_5 : bl2 mX11_pairAt 5 [] 5 (.ifCond .ne 10) 3 = true := by decide +kernel
theorem b_X11_pairAt_15_19 : bl2 mX11_pairAt 15 [(.aload_n 0, 1, 0, 0, .null), (.iload_n 1, 1, 1, 0, .null), (.iconst 1, 1, 0, 0, .int 1), (.iadd, 1, 0, 0, .null)] 19 (.invokevirtual 109) 3 = true := by decide +kernel
theorem b_X11_pairAt_22_22 : bl2 mX11_pairAt 22 [] 22 (.ifCond .ne 10) 3 = true := by decide +kernel
theorem b_X11_pairAt_32_37 : bl2 mX11_pairAt 32 [(.bipush 10, 2, 0, 0, .int 10), (.aload_n 0, 1, 0, 0, .null), (.iconst 0, 1, 0, 0, .int 0), (.iload_n 1, 1, 1, 0, .null)] 37 (.invokevirtual 105) 3 = true := by decide +kernel
theorem b_X11_pairAt_40_49 : bl2 mX11_pairAt 40 [(.bipush 48, 2, 0, 0, .int 48), (.isub, 1, 0, 0, .null), (.imul, 1, 0, 0, .null), (.aload_n 0, 1, 0, 0, .null), (.iconst 0, 1, 0, 0, .int 0), (.iload_n 1, 1, 1, 0, .null), (.iconst 1, 1, 0, 0, .int 1), (.iadd, 1, 0, 0, .null)] 49 (.invokevirtual 105) 3 = true := by decide +kernel
theorem b_X11_pairAt_52_56 : bl2 mX11_pairAt 52 [(.iadd, 1, 0, 0, .null), (.bipush 48, 2, 0, 0, .int 48), (.isub, 1, 0, 0, .null)] 56 (.ireturn) 1 = true := by decide +kernel
theorem b_X11_pairAt_25_56 : bl2 mX11_pairAt 25 [(.bipush (-3), 2, 0, 0, .int (-3)), (.iload_n 1, 1, 1, 0, .null), (.isub, 1, 0, 0, .null), (.goto 27, 3, 56, 0, .null)] 56 (.ireturn) 1 = true := by decide +kernel
theorem b_X11_pairAt_8_56 : bl2 mX11_pairAt 8 [(.bipush (-2), 2, 0, 0, .int (-2)), (.iload_n 1, 1, 1, 0, .null), (.isub, 1, 0, 0, .null), (.goto 44, 3, 56, 0, .null)] 56 (.ireturn) 1 = true := by decide +kernel
set_option maxRecDepth 20000 in
set_option maxHeartbeats 1000000 in
theorem ev_pairAt (E : EE) (L : Nat) (F : FF) (l j : Nat) (hlen : F 49 0 = nI l) (hl : l ≤ 90) (hj : j < 1800) : Ev3 E L 3 mX11_pairAt [.ref 48, .int (nI j)] F (some (.int (prA l (F 50) j))) F := by
  refine Ev3.of okX11_pairAt.2.2.1 (Nat.le_of_ble_eq_true rfl) ?_
  show R2 E L mX11_pairAt 3 0 [some (.ref 48), some (.int (nI j))] [] F _
  refine R2.B (ls2 := [some (.ref 48), some (.int (nI j))]) (st2 := [.int (nI j), .ref 48]) b_X11_pairAt_0_2 rfl (fun hd => ?_)
  refine R2.callV3 (M2 := mX11_isFigure) (As := [.int (nI j)]) (rest := []) hd lk_11_109 okX11_isFigure (by decide) rfl (ev_isFigure E L F l j hlen hl (by omega)) (by decide) rfl rfl (Nat.le_of_ble_eq_true rfl) ?_
  refine R2.B (ls2 := [some (.ref 48), some (.int (nI j))]) (st2 := [.int (b2i (isFg l (F 50) j))]) b_X11_pairAt_5_5 rfl (fun hd => ?_)
  refine R2.if_ne 15 hd (by decide) (fun c5 => ?_) (fun c5 => ?_)
  · have nc5 : isFg l (F 50) j := b2i_nz.mp c5
    refine R2.B (ls2 := [some (.ref 48), some (.int (nI j))]) (st2 := [.int ((nI j) + 1), .ref 48]) b_X11_pairAt_15_19 rfl (fun hd => ?_)
    rw [show ((nI j) + 1 : Int32) = nI (j + 1) from nI_add j 1]
    refine R2.callV3 (M2 := mX11_isFigure) (As := [.int (nI (j + 1))]) (rest := []) hd lk_11_109 okX11_isFigure (by decide) rfl (ev_isFigure E L F l (j + 1) hlen hl (by omega)) (by decide) rfl rfl (Nat.le_of_ble_eq_true rfl) ?_
    refine R2.B (ls2 := [some (.ref 48), some (.int (nI j))]) (st2 := [.int (b2i (isFg l (F 50) (j + 1)))]) b_X11_pairAt_22_22 rfl (fun hd => ?_)
    refine R2.if_ne 32 hd (by decide) (fun c22 => ?_) (fun c22 => ?_)
    · have nc22 : isFg l (F 50) (j + 1) := b2i_nz.mp c22
      refine R2.B (ls2 := [some (.ref 48), some (.int (nI j))]) (st2 := [.int (nI j), .int 0, .ref 48, .int 10]) b_X11_pairAt_32_37 rfl (fun hd => ?_)
      refine R2.callV3 (M2 := mX11_byteAt) (As := [.int 0, .int (nI j)]) (rest := [.int 10]) hd lk_11_105 okX11_byteAt (by decide) rfl (ev_byteAt0 E L F l j hlen hl (by omega)) (by decide) rfl rfl (Nat.le_of_ble_eq_true rfl) ?_
      refine R2.B (ls2 := [some (.ref 48), some (.int (nI j))]) (st2 := [.int ((nI j) + 1), .int 0, .ref 48, .int (10 * ((tat l (F 50) j) - 48))]) b_X11_pairAt_40_49 rfl (fun hd => ?_)
      rw [show ((nI j) + 1 : Int32) = nI (j + 1) from nI_add j 1]
      refine R2.callV3 (M2 := mX11_byteAt) (As := [.int 0, .int (nI (j + 1))]) (rest := [.int (10 * ((tat l (F 50) j) - 48))]) hd lk_11_105 okX11_byteAt (by decide) rfl (ev_byteAt0 E L F l (j + 1) hlen hl (by omega)) (by decide) rfl rfl (Nat.le_of_ble_eq_true rfl) ?_
      refine R2.B (ls2 := [some (.ref 48), some (.int (nI j))]) (st2 := [.int (((10 * ((tat l (F 50) j) - 48)) + (tat l (F 50) (j + 1))) - 48)]) b_X11_pairAt_52_56 rfl (fun hd => ?_)
      exact R2.ret3 (r := some (.int (((10 * ((tat l (F 50) j) - 48)) + (tat l (F 50) (j + 1))) - 48))) hd trivial rfl (congrArg (fun z => some (Value.int z)) (by clear hd; unfold prA; grind)) rfl
    · have nc22 : ¬ (isFg l (F 50) (j + 1)) := b2i_zero.mp c22
      refine R2.B (ls2 := [some (.ref 48), some (.int (nI j))]) (st2 := [.int ((-3) - (nI j))]) b_X11_pairAt_25_56 rfl (fun hd => ?_)
      exact R2.ret3 (r := some (.int ((-3) - (nI j)))) hd trivial rfl (congrArg (fun z => some (Value.int z)) (by clear hd; unfold prA; grind)) rfl
  · have nc5 : ¬ (isFg l (F 50) j) := b2i_zero.mp c5
    refine R2.B (ls2 := [some (.ref 48), some (.int (nI j))]) (st2 := [.int ((-2) - (nI j))]) b_X11_pairAt_8_56 rfl (fun hd => ?_)
    exact R2.ret3 (r := some (.int ((-2) - (nI j)))) hd trivial rfl (congrArg (fun z => some (Value.int z)) (by clear hd; unfold prA; grind)) rfl
theorem b_X11_reads_9_15 : bl2 mX11_reads 9 [(.iload_n 2, 1, 2, 0, .null), (.aload_n 0, 1, 0, 0, .null), (.getfield 7, 3, 11, 0, .null), (.iconst 0, 1, 0, 0, .int 0)] 15 (.iaload) 1 = true := by decide +kernel
theorem b_X11_reads_16_16 : bl2 mX11_reads 16 [] 16 (.if_icmp .lt 7) 3 = true := by decide +kernel
theorem b_X11_reads_23_26 : bl2 mX11_reads 23 [(.aload_n 0, 1, 0, 0, .null), (.iconst 0, 1, 0, 0, .int 0), (.iload_n 2, 1, 2, 0, .null)] 26 (.invokevirtual 105) 3 = true := by decide +kernel
theorem b_X11_reads_29_33 : bl2 mX11_reads 29 [(.istore_n 3, 1, 3, 0, .null), (.iload_n 1, 1, 1, 0, .null), (.bipush 10, 2, 0, 0, .int 10)] 33 (.if_icmp .eq 21) 3 = true := by decide +kernel
theorem b_X11_reads_54_55 : bl2 mX11_reads 54 [(.iload_n 2, 1, 2, 0, .null)] 55 (.ireturn) 1 = true := by decide +kernel
theorem b_X11_reads_36_39 : bl2 mX11_reads 36 [(.iload_n 3, 1, 3, 0, .null), (.bipush 115, 2, 0, 0, .int 115)] 39 (.if_icmp .eq 17) 3 = true := by decide +kernel
theorem b_X11_reads_56_61 : bl2 mX11_reads 56 [(.aload_n 0, 1, 0, 0, .null), (.iconst 0, 1, 0, 0, .int 0), (.iload_n 2, 1, 2, 0, .null), (.iconst 1, 1, 0, 0, .int 1), (.iadd, 1, 0, 0, .null)] 61 (.invokevirtual 105) 3 = true := by decide +kernel
theorem b_X11_reads_64_68 : bl2 mX11_reads 64 [(.bipush 48, 2, 0, 0, .int 48), (.bipush 51, 2, 0, 0, .int 51)] 68 (.invokestatic 86) 3 = true := by decide +kernel
theorem b_X11_reads_71_71 : bl2 mX11_reads 71 [] 71 (.ifCond .ne 7) 3 = true := by decide +kernel
theorem b_X11_reads_78_82 : bl2 mX11_reads 78 [(.aload_n 0, 1, 0, 0, .null), (.iload_n 2, 1, 2, 0, .null), (.iconst 2, 1, 0, 0, .int 2), (.iadd, 1, 0, 0, .null)] 82 (.invokevirtual 113) 3 = true := by decide +kernel
theorem b_X11_reads_85_89 : bl2 mX11_reads 85 [(.istore 4, 2, 4, 0, .null), (.iload 4, 2, 4, 0, .null)] 89 (.ifCond .ge 9) 3 = true := by decide +kernel
theorem b_X11_reads_98_102 : bl2 mX11_reads 98 [(.aload_n 0, 1, 0, 0, .null), (.iload_n 2, 1, 2, 0, .null), (.iconst 4, 1, 0, 0, .int 4), (.iadd, 1, 0, 0, .null)] 102 (.invokevirtual 113) 3 = true := by decide +kernel
theorem b_X11_reads_105_109 : bl2 mX11_reads 105 [(.istore 5, 2, 5, 0, .null), (.iload 5, 2, 5, 0, .null)] 109 (.ifCond .ge 9) 3 = true := by decide +kernel
theorem b_X11_reads_118_122 : bl2 mX11_reads 118 [(.iload 5, 2, 5, 0, .null), (.bipush 31, 2, 0, 0, .int 31)] 122 (.if_icmp .le 7) 3 = true := by decide +kernel
theorem b_X11_reads_129_134 : bl2 mX11_reads 129 [(.aload_n 0, 1, 0, 0, .null), (.iload_n 2, 1, 2, 0, .null), (.bipush 6, 2, 0, 0, .int 6), (.iadd, 1, 0, 0, .null)] 134 (.invokevirtual 113) 3 = true := by decide +kernel
theorem b_X11_reads_137_141 : bl2 mX11_reads 137 [(.istore 6, 2, 6, 0, .null), (.iload 6, 2, 6, 0, .null)] 141 (.ifCond .ge 9) 3 = true := by decide +kernel
theorem b_X11_reads_150_154 : bl2 mX11_reads 150 [(.iload 6, 2, 6, 0, .null), (.bipush 31, 2, 0, 0, .int 31)] 154 (.if_icmp .le 8) 3 = true := by decide +kernel
theorem b_X11_reads_162_170 : bl2 mX11_reads 162 [(.aload_n 0, 1, 0, 0, .null), (.getfield 19, 3, 11, 4, .null), (.iload_n 1, 1, 1, 0, .null), (.iload_n 3, 1, 3, 0, .null), (.bipush 115, 2, 0, 0, .int 115)] 170 (.if_icmp .ne 7) 3 = true := by decide +kernel
theorem b_X11_reads_177_180 : bl2 mX11_reads 177 [(.iload_n 3, 1, 3, 0, .null), (.bipush 98, 2, 0, 0, .int 98)] 180 (.if_icmp .ne 7) 3 = true := by decide +kernel
theorem b_X11_reads_187_188 : bl2 mX11_reads 187 [(.iconst 2, 1, 0, 0, .int 2)] 188 (.iastore) 1 = true := by decide +kernel
theorem b_X11_reads_189_199 : bl2 mX11_reads 189 [(.aload_n 0, 1, 0, 0, .null), (.getfield 22, 3, 11, 5, .null), (.iload_n 1, 1, 1, 0, .null), (.aload_n 0, 1, 0, 0, .null), (.iconst 0, 1, 0, 0, .int 0), (.iload_n 2, 1, 2, 0, .null), (.iconst 1, 1, 0, 0, .int 1), (.iadd, 1, 0, 0, .null)] 199 (.invokevirtual 105) 3 = true := by decide +kernel
theorem b_X11_reads_202_205 : bl2 mX11_reads 202 [(.bipush 48, 2, 0, 0, .int 48), (.isub, 1, 0, 0, .null)] 205 (.iastore) 1 = true := by decide +kernel
theorem b_X11_reads_206_213 : bl2 mX11_reads 206 [(.aload_n 0, 1, 0, 0, .null), (.getfield 25, 3, 11, 6, .null), (.iload_n 1, 1, 1, 0, .null), (.iload 4, 2, 4, 0, .null)] 213 (.iastore) 1 = true := by decide +kernel
theorem b_X11_reads_214_227 : bl2 mX11_reads 214 [(.aload_n 0, 1, 0, 0, .null), (.getfield 28, 3, 11, 7, .null), (.iload_n 1, 1, 1, 0, .null), (.bipush 32, 2, 0, 0, .int 32), (.iload 6, 2, 6, 0, .null), (.imul, 1, 0, 0, .null), (.iload 5, 2, 5, 0, .null), (.iadd, 1, 0, 0, .null)] 227 (.iastore) 1 = true := by decide +kernel
theorem b_X11_reads_228_240 : bl2 mX11_reads 228 [(.iinc 1 1, 3, 1, 0, .int 1), (.iinc 2 8, 3, 2, 0, .int 8), (.iload_n 2, 1, 2, 0, .null), (.aload_n 0, 1, 0, 0, .null), (.getfield 7, 3, 11, 0, .null), (.iconst 0, 1, 0, 0, .int 0)] 240 (.iaload) 1 = true := by decide +kernel
theorem b_X11_reads_241_241 : bl2 mX11_reads 241 [] 241 (.if_icmp .ne 10) 3 = true := by decide +kernel
theorem b_X11_reads_251_254 : bl2 mX11_reads 251 [(.aload_n 0, 1, 0, 0, .null), (.iconst 0, 1, 0, 0, .int 0), (.iload_n 2, 1, 2, 0, .null)] 254 (.invokevirtual 105) 3 = true := by decide +kernel
theorem b_X11_reads_257_259 : bl2 mX11_reads 257 [(.bipush 59, 2, 0, 0, .int 59)] 259 (.if_icmp .eq 5) 3 = true := by decide +kernel
theorem b_X11_reads_264_9 : bl2 mX11_reads 264 [(.iinc 2 1, 3, 2, 0, .int 1), (.goto (-258), 3, 9, 0, .null)] 9 (.iload_n 2) 1 = true := by decide +kernel
theorem b_X11_reads_262_263 : bl2 mX11_reads 262 [(.iload_n 2, 1, 2, 0, .null)] 263 (.ireturn) 1 = true := by decide +kernel
theorem b_X11_reads_244_246 : bl2 mX11_reads 244 [(.aload_n 0, 1, 0, 0, .null), (.iload_n 1, 1, 1, 0, .null)] 246 (.putfield 101) 3 = true := by decide +kernel
theorem b_X11_reads_249_250 : bl2 mX11_reads 249 [(.iconst (-1), 1, 0, 0, .int (-1))] 250 (.ireturn) 1 = true := by decide +kernel
theorem b_X11_reads_183_188 : bl2 mX11_reads 183 [(.iconst 1, 1, 0, 0, .int 1), (.goto 4, 3, 188, 0, .null)] 188 (.iastore) 1 = true := by decide +kernel
theorem b_X11_reads_173_188 : bl2 mX11_reads 173 [(.iconst 0, 1, 0, 0, .int 0), (.goto 14, 3, 188, 0, .null)] 188 (.iastore) 1 = true := by decide +kernel
theorem b_X11_reads_157_161 : bl2 mX11_reads 157 [(.iload_n 2, 1, 2, 0, .null), (.bipush 6, 2, 0, 0, .int 6), (.iadd, 1, 0, 0, .null)] 161 (.ireturn) 1 = true := by decide +kernel
theorem b_X11_reads_144_149 : bl2 mX11_reads 144 [(.bipush (-2), 2, 0, 0, .int (-2)), (.iload 6, 2, 6, 0, .null), (.isub, 1, 0, 0, .null)] 149 (.ireturn) 1 = true := by decide +kernel
theorem b_X11_reads_125_128 : bl2 mX11_reads 125 [(.iload_n 2, 1, 2, 0, .null), (.iconst 4, 1, 0, 0, .int 4), (.iadd, 1, 0, 0, .null)] 128 (.ireturn) 1 = true := by decide +kernel
theorem b_X11_reads_112_117 : bl2 mX11_reads 112 [(.bipush (-2), 2, 0, 0, .int (-2)), (.iload 5, 2, 5, 0, .null), (.isub, 1, 0, 0, .null)] 117 (.ireturn) 1 = true := by decide +kernel
theorem b_X11_reads_92_97 : bl2 mX11_reads 92 [(.bipush (-2), 2, 0, 0, .int (-2)), (.iload 4, 2, 4, 0, .null), (.isub, 1, 0, 0, .null)] 97 (.ireturn) 1 = true := by decide +kernel
theorem b_X11_reads_74_77 : bl2 mX11_reads 74 [(.iload_n 2, 1, 2, 0, .null), (.iconst 1, 1, 0, 0, .int 1), (.iadd, 1, 0, 0, .null)] 77 (.ireturn) 1 = true := by decide +kernel
theorem b_X11_reads_42_45 : bl2 mX11_reads 42 [(.iload_n 3, 1, 3, 0, .null), (.bipush 98, 2, 0, 0, .int 98)] 45 (.if_icmp .eq 11) 3 = true := by decide +kernel
theorem b_X11_reads_48_51 : bl2 mX11_reads 48 [(.iload_n 3, 1, 3, 0, .null), (.bipush 110, 2, 0, 0, .int 110)] 51 (.if_icmp .eq 5) 3 = true := by decide +kernel
theorem b_X11_reads_19_20 : bl2 mX11_reads 19 [(.iload_n 2, 1, 2, 0, .null)] 20 (.ifCond .le 250) 3 = true := by decide +kernel
theorem b_X11_reads_270_271 : bl2 mX11_reads 270 [(.iconst (-1), 1, 0, 0, .int (-1))] 271 (.ireturn) 1 = true := by decide +kernel
set_option maxRecDepth 20000 in
set_option maxHeartbeats 2000000 in
theorem lp_reads (E : EE) (L : Nat) (l : Nat) (hl : l ≤ 90) : ∀ (k n at_ : Nat) (F : FF), n + k = 11 → n ≤ 10 → at_ = 9 * n → F 49 0 = nI l → R2 E L mX11_reads 4 9 [some (.ref 48), some (.int (nI n)), some (.int (nI at_)), none, none, none, none] [] F (fun r' F' => r' = some (.int (mrdL l k n at_ F).1) ∧ F' = (mrdL l k n at_ F).2) := by
  intro k
  induction k with
  | zero =>
    intro n at_ F hi hn ha hlen
    omega
  | succ k ih =>
    intro n at_ F hi hn ha hlen
    refine R2.B (ls2 := [some (.ref 48), some (.int (nI n)), some (.int (nI at_)), none, none, none, none]) (st2 := [.int 0, .ref 49, .int (nI at_)]) b_X11_reads_9_15 rfl (fun hd => ?_)
    refine R2.iald 0 rfl hd rfl (fun _ => rfl) (by decide) (by omega) ?_
    refine R2.top (show (F 49 0 : Int32) = nI l from hlen) ?_
    refine R2.B (ls2 := [some (.ref 48), some (.int (nI n)), some (.int (nI at_)), none, none, none, none]) (st2 := [.int (nI l), .int (nI at_)]) b_X11_reads_16_16 rfl (fun hd => ?_)
    refine R2.icmp_lt 23 hd (by decide) (fun c16 => ?_) (fun c16 => ?_)
    · have nc16 : at_ < l := (nI_ltI (a := at_) (b := l) (by omega) (by omega)).mp c16
      refine R2.B (ls2 := [some (.ref 48), some (.int (nI n)), some (.int (nI at_)), none, none, none, none]) (st2 := [.int (nI at_), .int 0, .ref 48]) b_X11_reads_23_26 rfl (fun hd => ?_)
      refine R2.callV3 (M2 := mX11_byteAt) (As := [.int 0, .int (nI at_)]) (rest := []) hd lk_11_105 okX11_byteAt (by decide) rfl (ev_byteAt0 E L F l at_ hlen hl (by omega)) (by decide) rfl rfl (Nat.le_of_ble_eq_true rfl) ?_
      refine R2.B (ls2 := [some (.ref 48), some (.int (nI n)), some (.int (nI at_)), some (.int (tat l (F 50) at_)), none, none, none]) (st2 := [.int 10, .int (nI n)]) b_X11_reads_29_33 rfl (fun hd => ?_)
      refine R2.icmp_eq 54 hd (by decide) (fun c33 => ?_) (fun c33 => ?_)
      · have nc33 : n = 10 := (nI_eq (a := n) (b := 10) (by omega) (by omega)).mp c33
        refine R2.B (ls2 := [some (.ref 48), some (.int (nI n)), some (.int (nI at_)), some (.int (tat l (F 50) at_)), none, none, none]) (st2 := [.int (nI at_)]) b_X11_reads_54_55 rfl (fun hd => ?_)
        have e : mrdL l (k + 1) n at_ F = (nI at_, F) := by
          clear hd ih; simp only [mrdL, mSt, cKind] <;> grind
        exact R2.ret3 (r := some (.int (nI at_))) hd trivial rfl (by rw [e]) (by rw [e])
      · have nc33 : ¬ n = 10 := fun h9 => c33 ((nI_eq (a := n) (b := 10) (by omega) (by omega)).mpr h9)
        refine R2.B (ls2 := [some (.ref 48), some (.int (nI n)), some (.int (nI at_)), some (.int (tat l (F 50) at_)), none, none, none]) (st2 := [.int 115, .int (tat l (F 50) at_)]) b_X11_reads_36_39 rfl (fun hd => ?_)
        refine R2.icmp_eq 56 hd (by decide) (fun c39 => ?_) (fun c39 => ?_)
        · refine R2.B (ls2 := [some (.ref 48), some (.int (nI n)), some (.int (nI at_)), some (.int (tat l (F 50) at_)), none, none, none]) (st2 := [.int ((nI at_) + 1), .int 0, .ref 48]) b_X11_reads_56_61 rfl (fun hd => ?_)
          rw [show ((nI at_) + 1 : Int32) = nI (at_ + 1) from nI_add at_ 1]
          refine R2.callV3 (M2 := mX11_byteAt) (As := [.int 0, .int (nI (at_ + 1))]) (rest := []) hd lk_11_105 okX11_byteAt (by decide) rfl (ev_byteAt0 E L F l (at_ + 1) hlen hl (by omega)) (by decide) rfl rfl (Nat.le_of_ble_eq_true rfl) ?_
          refine R2.B (ls2 := [some (.ref 48), some (.int (nI n)), some (.int (nI at_)), some (.int (tat l (F 50) at_)), none, none, none]) (st2 := [.int 51, .int 48, .int (tat l (F 50) (at_ + 1))]) b_X11_reads_64_68 rfl (fun hd => ?_)
          refine R2.callS3 (M2 := mX11_in) (As := [.int (tat l (F 50) (at_ + 1)), .int 48, .int 51]) (rest := []) hd lk_11_86 okX11_in (by decide) (ev_in E L F (tat l (F 50) (at_ + 1)) 48 51) (by decide) rfl rfl (Nat.le_of_ble_eq_true rfl) ?_
          refine R2.B (ls2 := [some (.ref 48), some (.int (nI n)), some (.int (nI at_)), some (.int (tat l (F 50) at_)), none, none, none]) (st2 := [.int (b2i (48 ≤ (tat l (F 50) (at_ + 1)) ∧ (tat l (F 50) (at_ + 1)) ≤ 51))]) b_X11_reads_71_71 rfl (fun hd => ?_)
          refine R2.if_ne 78 hd (by decide) (fun c71 => ?_) (fun c71 => ?_)
          · have nc71 : 48 ≤ (tat l (F 50) (at_ + 1)) ∧ (tat l (F 50) (at_ + 1)) ≤ 51 := b2i_nz.mp c71
            refine R2.B (ls2 := [some (.ref 48), some (.int (nI n)), some (.int (nI at_)), some (.int (tat l (F 50) at_)), none, none, none]) (st2 := [.int ((nI at_) + 2), .ref 48]) b_X11_reads_78_82 rfl (fun hd => ?_)
            rw [show ((nI at_) + 2 : Int32) = nI (at_ + 2) from nI_add at_ 2]
            refine R2.callV3 (M2 := mX11_pairAt) (As := [.int (nI (at_ + 2))]) (rest := []) hd lk_11_113 okX11_pairAt (by decide) rfl (ev_pairAt E L F l (at_ + 2) hlen hl (by omega)) (by decide) rfl rfl (Nat.le_of_ble_eq_true rfl) ?_
            refine R2.B (ls2 := [some (.ref 48), some (.int (nI n)), some (.int (nI at_)), some (.int (tat l (F 50) at_)), some (.int (prA l (F 50) (at_ + 2))), none, none]) (st2 := [.int (prA l (F 50) (at_ + 2))]) b_X11_reads_85_89 rfl (fun hd => ?_)
            refine R2.if_ge 98 hd (by decide) (fun c89 => ?_) (fun c89 => ?_)
            · refine R2.B (ls2 := [some (.ref 48), some (.int (nI n)), some (.int (nI at_)), some (.int (tat l (F 50) at_)), some (.int (prA l (F 50) (at_ + 2))), none, none]) (st2 := [.int ((nI at_) + 4), .ref 48]) b_X11_reads_98_102 rfl (fun hd => ?_)
              rw [show ((nI at_) + 4 : Int32) = nI (at_ + 4) from nI_add at_ 4]
              refine R2.callV3 (M2 := mX11_pairAt) (As := [.int (nI (at_ + 4))]) (rest := []) hd lk_11_113 okX11_pairAt (by decide) rfl (ev_pairAt E L F l (at_ + 4) hlen hl (by omega)) (by decide) rfl rfl (Nat.le_of_ble_eq_true rfl) ?_
              refine R2.B (ls2 := [some (.ref 48), some (.int (nI n)), some (.int (nI at_)), some (.int (tat l (F 50) at_)), some (.int (prA l (F 50) (at_ + 2))), some (.int (prA l (F 50) (at_ + 4))), none]) (st2 := [.int (prA l (F 50) (at_ + 4))]) b_X11_reads_105_109 rfl (fun hd => ?_)
              refine R2.if_ge 118 hd (by decide) (fun c109 => ?_) (fun c109 => ?_)
              · refine R2.B (ls2 := [some (.ref 48), some (.int (nI n)), some (.int (nI at_)), some (.int (tat l (F 50) at_)), some (.int (prA l (F 50) (at_ + 2))), some (.int (prA l (F 50) (at_ + 4))), none]) (st2 := [.int 31, .int (prA l (F 50) (at_ + 4))]) b_X11_reads_118_122 rfl (fun hd => ?_)
                refine R2.icmp_le 129 hd (by decide) (fun c122 => ?_) (fun c122 => ?_)
                · refine R2.B (ls2 := [some (.ref 48), some (.int (nI n)), some (.int (nI at_)), some (.int (tat l (F 50) at_)), some (.int (prA l (F 50) (at_ + 2))), some (.int (prA l (F 50) (at_ + 4))), none]) (st2 := [.int ((nI at_) + 6), .ref 48]) b_X11_reads_129_134 rfl (fun hd => ?_)
                  rw [show ((nI at_) + 6 : Int32) = nI (at_ + 6) from nI_add at_ 6]
                  refine R2.callV3 (M2 := mX11_pairAt) (As := [.int (nI (at_ + 6))]) (rest := []) hd lk_11_113 okX11_pairAt (by decide) rfl (ev_pairAt E L F l (at_ + 6) hlen hl (by omega)) (by decide) rfl rfl (Nat.le_of_ble_eq_true rfl) ?_
                  refine R2.B (ls2 := [some (.ref 48), some (.int (nI n)), some (.int (nI at_)), some (.int (tat l (F 50) at_)), some (.int (prA l (F 50) (at_ + 2))), some (.int (prA l (F 50) (at_ + 4))), some (.int (prA l (F 50) (at_ + 6)))]) (st2 := [.int (prA l (F 50) (at_ + 6))]) b_X11_reads_137_141 rfl (fun hd => ?_)
                  refine R2.if_ge 150 hd (by decide) (fun c141 => ?_) (fun c141 => ?_)
                  · refine R2.B (ls2 := [some (.ref 48), some (.int (nI n)), some (.int (nI at_)), some (.int (tat l (F 50) at_)), some (.int (prA l (F 50) (at_ + 2))), some (.int (prA l (F 50) (at_ + 4))), some (.int (prA l (F 50) (at_ + 6)))]) (st2 := [.int 31, .int (prA l (F 50) (at_ + 6))]) b_X11_reads_150_154 rfl (fun hd => ?_)
                    refine R2.icmp_le 162 hd (by decide) (fun c154 => ?_) (fun c154 => ?_)
                    · refine R2.B (ls2 := [some (.ref 48), some (.int (nI n)), some (.int (nI at_)), some (.int (tat l (F 50) at_)), some (.int (prA l (F 50) (at_ + 2))), some (.int (prA l (F 50) (at_ + 4))), some (.int (prA l (F 50) (at_ + 6)))]) (st2 := [.int 115, .int (tat l (F 50) at_), .int (nI n), .ref 52]) b_X11_reads_162_170 rfl (fun hd => ?_)
                      refine R2.icmp_ne 177 hd (by decide) (fun c170 => ?_) (fun c170 => ?_)
                      · refine R2.B (ls2 := [some (.ref 48), some (.int (nI n)), some (.int (nI at_)), some (.int (tat l (F 50) at_)), some (.int (prA l (F 50) (at_ + 2))), some (.int (prA l (F 50) (at_ + 4))), some (.int (prA l (F 50) (at_ + 6)))]) (st2 := [.int 98, .int (tat l (F 50) at_), .int (nI n), .ref 52]) b_X11_reads_177_180 rfl (fun hd => ?_)
                        refine R2.icmp_ne 187 hd (by decide) (fun c180 => ?_) (fun c180 => ?_)
                        · refine R2.B (ls2 := [some (.ref 48), some (.int (nI n)), some (.int (nI at_)), some (.int (tat l (F 50) at_)), some (.int (prA l (F 50) (at_ + 2))), some (.int (prA l (F 50) (at_ + 4))), some (.int (prA l (F 50) (at_ + 6)))]) (st2 := [.int 2, .int (nI n), .ref 52]) b_X11_reads_187_188 rfl (fun hd => ?_)
                          refine R2.iast n rfl hd (by decide) rfl (fun _ => rfl) (by decide) (by omega) ?_
                          refine R2.B (ls2 := [some (.ref 48), some (.int (nI n)), some (.int (nI at_)), some (.int (tat l (F 50) at_)), some (.int (prA l (F 50) (at_ + 2))), some (.int (prA l (F 50) (at_ + 4))), some (.int (prA l (F 50) (at_ + 6)))]) (st2 := [.int ((nI at_) + 1), .int 0, .ref 48, .int (nI n), .ref 53]) b_X11_reads_189_199 rfl (fun hd => ?_)
                          rw [show ((nI at_) + 1 : Int32) = nI (at_ + 1) from nI_add at_ 1]
                          refine R2.callV3 (M2 := mX11_byteAt) (As := [.int 0, .int (nI (at_ + 1))]) (rest := [.int (nI n), .ref 53]) hd lk_11_105 okX11_byteAt (by decide) rfl (ev_byteAt0 E L (up2 F 52 n 2) l (at_ + 1) hlen hl (by omega)) (by decide) rfl rfl (Nat.le_of_ble_eq_true rfl) ?_
                          refine R2.B (ls2 := [some (.ref 48), some (.int (nI n)), some (.int (nI at_)), some (.int (tat l (F 50) at_)), some (.int (prA l (F 50) (at_ + 2))), some (.int (prA l (F 50) (at_ + 4))), some (.int (prA l (F 50) (at_ + 6)))]) (st2 := [.int ((tat l (F 50) (at_ + 1)) - 48), .int (nI n), .ref 53]) b_X11_reads_202_205 rfl (fun hd => ?_)
                          refine R2.iast n rfl hd (by decide) rfl (fun _ => rfl) (by decide) (by omega) ?_
                          refine R2.B (ls2 := [some (.ref 48), some (.int (nI n)), some (.int (nI at_)), some (.int (tat l (F 50) at_)), some (.int (prA l (F 50) (at_ + 2))), some (.int (prA l (F 50) (at_ + 4))), some (.int (prA l (F 50) (at_ + 6)))]) (st2 := [.int (prA l (F 50) (at_ + 2)), .int (nI n), .ref 54]) b_X11_reads_206_213 rfl (fun hd => ?_)
                          refine R2.iast n rfl hd (by decide) rfl (fun _ => rfl) (by decide) (by omega) ?_
                          refine R2.B (ls2 := [some (.ref 48), some (.int (nI n)), some (.int (nI at_)), some (.int (tat l (F 50) at_)), some (.int (prA l (F 50) (at_ + 2))), some (.int (prA l (F 50) (at_ + 4))), some (.int (prA l (F 50) (at_ + 6)))]) (st2 := [.int ((32 * (prA l (F 50) (at_ + 6))) + (prA l (F 50) (at_ + 4))), .int (nI n), .ref 55]) b_X11_reads_214_227 rfl (fun hd => ?_)
                          refine R2.iast n rfl hd (by decide) rfl (fun _ => rfl) (by decide) (by omega) ?_
                          refine R2.B (ls2 := [some (.ref 48), some (.int ((nI n) + 1)), some (.int ((nI at_) + 8)), some (.int (tat l (F 50) at_)), some (.int (prA l (F 50) (at_ + 2))), some (.int (prA l (F 50) (at_ + 4))), some (.int (prA l (F 50) (at_ + 6)))]) (st2 := [.int 0, .ref 49, .int ((nI at_) + 8)]) b_X11_reads_228_240 rfl (fun hd => ?_)
                          rw [show ((nI n) + 1 : Int32) = nI (n + 1) from nI_add n 1]
                          rw [show ((nI at_) + 8 : Int32) = nI (at_ + 8) from nI_add at_ 8]
                          refine R2.iald 0 rfl hd rfl (fun _ => rfl) (by decide) (by omega) ?_
                          refine R2.top (show (F 49 0 : Int32) = nI l from hlen) ?_
                          refine R2.B (ls2 := [some (.ref 48), some (.int (nI (n + 1))), some (.int (nI (at_ + 8))), some (.int (tat l (F 50) at_)), some (.int (prA l (F 50) (at_ + 2))), some (.int (prA l (F 50) (at_ + 4))), some (.int (prA l (F 50) (at_ + 6)))]) (st2 := [.int (nI l), .int (nI (at_ + 8))]) b_X11_reads_241_241 rfl (fun hd => ?_)
                          refine R2.icmp_ne 251 hd (by decide) (fun c241 => ?_) (fun c241 => ?_)
                          · have nc241 : ¬ (at_ + 8) = l := fun h9 => c241 ((nI_eq (a := (at_ + 8)) (b := l) (by omega) (by omega)).mpr h9)
                            refine R2.B (ls2 := [some (.ref 48), some (.int (nI (n + 1))), some (.int (nI (at_ + 8))), some (.int (tat l (F 50) at_)), some (.int (prA l (F 50) (at_ + 2))), some (.int (prA l (F 50) (at_ + 4))), some (.int (prA l (F 50) (at_ + 6)))]) (st2 := [.int (nI (at_ + 8)), .int 0, .ref 48]) b_X11_reads_251_254 rfl (fun hd => ?_)
                            refine R2.callV3 (M2 := mX11_byteAt) (As := [.int 0, .int (nI (at_ + 8))]) (rest := []) hd lk_11_105 okX11_byteAt (by decide) rfl (ev_byteAt0 E L (up2 (up2 (up2 (up2 F 52 n 2) 53 n ((tat l (F 50) (at_ + 1)) - 48)) 54 n (prA l (F 50) (at_ + 2))) 55 n ((32 * (prA l (F 50) (at_ + 6))) + (prA l (F 50) (at_ + 4)))) l (at_ + 8) hlen hl (by omega)) (by decide) rfl rfl (Nat.le_of_ble_eq_true rfl) ?_
                            refine R2.B (ls2 := [some (.ref 48), some (.int (nI (n + 1))), some (.int (nI (at_ + 8))), some (.int (tat l (F 50) at_)), some (.int (prA l (F 50) (at_ + 2))), some (.int (prA l (F 50) (at_ + 4))), some (.int (prA l (F 50) (at_ + 6)))]) (st2 := [.int 59, .int (tat l (F 50) (at_ + 8))]) b_X11_reads_257_259 rfl (fun hd => ?_)
                            refine R2.icmp_eq 264 hd (by decide) (fun c259 => ?_) (fun c259 => ?_)
                            · refine R2.B (ls2 := [some (.ref 48), some (.int (nI (n + 1))), some (.int ((nI (at_ + 8)) + 1)), some (.int (tat l (F 50) at_)), some (.int (prA l (F 50) (at_ + 2))), some (.int (prA l (F 50) (at_ + 4))), some (.int (prA l (F 50) (at_ + 6)))]) (st2 := []) b_X11_reads_264_9 rfl (fun hd => ?_)
                              rw [show ((nI (at_ + 8)) + 1 : Int32) = nI ((at_ + 8) + 1) from nI_add (at_ + 8) 1]
                              have e : mrdL l (k + 1) n at_ F = mrdL l k (n + 1) (at_ + 8 + 1) (up2 (up2 (up2 (up2 F 52 n 2) 53 n ((tat l (F 50) (at_ + 1)) - 48)) 54 n (prA l (F 50) (at_ + 2))) 55 n ((32 * (prA l (F 50) (at_ + 6))) + (prA l (F 50) (at_ + 4)))) := by
                                clear hd ih; simp only [mrdL, mSt, cKind] <;> grind
                              rw [e]
                              refine R2.forget (ls2 := [some (.ref 48), some (.int (nI (n + 1))), some (.int (nI (at_ + 8 + 1))), none, none, none, none]) ⟨rfl, ⟨rfl, ⟨rfl, trivial⟩⟩⟩ ?_
                              exact ih (n + 1) (at_ + 8 + 1) _ (by omega) (by clear hd ih; grind) (by omega) hlen
                            · refine R2.B (ls2 := [some (.ref 48), some (.int (nI (n + 1))), some (.int (nI (at_ + 8))), some (.int (tat l (F 50) at_)), some (.int (prA l (F 50) (at_ + 2))), some (.int (prA l (F 50) (at_ + 4))), some (.int (prA l (F 50) (at_ + 6)))]) (st2 := [.int (nI (at_ + 8))]) b_X11_reads_262_263 rfl (fun hd => ?_)
                              have e : mrdL l (k + 1) n at_ F = (nI (at_ + 8), (up2 (up2 (up2 (up2 F 52 n 2) 53 n ((tat l (F 50) (at_ + 1)) - 48)) 54 n (prA l (F 50) (at_ + 2))) 55 n ((32 * (prA l (F 50) (at_ + 6))) + (prA l (F 50) (at_ + 4))))) := by
                                clear hd ih; simp only [mrdL, mSt, cKind] <;> grind
                              exact R2.ret3 (r := some (.int (nI (at_ + 8)))) hd trivial rfl (by rw [e]) (by rw [e])
                          · have nc241 : (at_ + 8) = l := (nI_eq (a := (at_ + 8)) (b := l) (by omega) (by omega)).mp c241
                            refine R2.B (ls2 := [some (.ref 48), some (.int (nI (n + 1))), some (.int (nI (at_ + 8))), some (.int (tat l (F 50) at_)), some (.int (prA l (F 50) (at_ + 2))), some (.int (prA l (F 50) (at_ + 4))), some (.int (prA l (F 50) (at_ + 6)))]) (st2 := [.int (nI (n + 1)), .ref 48]) b_X11_reads_244_246 rfl (fun hd => ?_)
                            refine R2.putf (a := 11) (b := 3) hd (by decide) (by decide) rfl rfl (fun _ => rfl) ?_
                            refine R2.B (ls2 := [some (.ref 48), some (.int (nI (n + 1))), some (.int (nI (at_ + 8))), some (.int (tat l (F 50) at_)), some (.int (prA l (F 50) (at_ + 2))), some (.int (prA l (F 50) (at_ + 4))), some (.int (prA l (F 50) (at_ + 6)))]) (st2 := [.int (-1)]) b_X11_reads_249_250 rfl (fun hd => ?_)
                            have e : mrdL l (k + 1) n at_ F = ((-1), (up2 (up2 (up2 (up2 (up2 F 52 n 2) 53 n ((tat l (F 50) (at_ + 1)) - 48)) 54 n (prA l (F 50) (at_ + 2))) 55 n ((32 * (prA l (F 50) (at_ + 6))) + (prA l (F 50) (at_ + 4)))) 48 3 (nI (n + 1)))) := by
                              clear hd ih; simp only [mrdL, mSt, cKind] <;> grind
                            exact R2.ret3 (r := some (.int (-1))) hd trivial rfl (by rw [e]) (by rw [e])
                        · refine R2.B (ls2 := [some (.ref 48), some (.int (nI n)), some (.int (nI at_)), some (.int (tat l (F 50) at_)), some (.int (prA l (F 50) (at_ + 2))), some (.int (prA l (F 50) (at_ + 4))), some (.int (prA l (F 50) (at_ + 6)))]) (st2 := [.int 1, .int (nI n), .ref 52]) b_X11_reads_183_188 rfl (fun hd => ?_)
                          refine R2.iast n rfl hd (by decide) rfl (fun _ => rfl) (by decide) (by omega) ?_
                          refine R2.B (ls2 := [some (.ref 48), some (.int (nI n)), some (.int (nI at_)), some (.int (tat l (F 50) at_)), some (.int (prA l (F 50) (at_ + 2))), some (.int (prA l (F 50) (at_ + 4))), some (.int (prA l (F 50) (at_ + 6)))]) (st2 := [.int ((nI at_) + 1), .int 0, .ref 48, .int (nI n), .ref 53]) b_X11_reads_189_199 rfl (fun hd => ?_)
                          rw [show ((nI at_) + 1 : Int32) = nI (at_ + 1) from nI_add at_ 1]
                          refine R2.callV3 (M2 := mX11_byteAt) (As := [.int 0, .int (nI (at_ + 1))]) (rest := [.int (nI n), .ref 53]) hd lk_11_105 okX11_byteAt (by decide) rfl (ev_byteAt0 E L (up2 F 52 n 1) l (at_ + 1) hlen hl (by omega)) (by decide) rfl rfl (Nat.le_of_ble_eq_true rfl) ?_
                          refine R2.B (ls2 := [some (.ref 48), some (.int (nI n)), some (.int (nI at_)), some (.int (tat l (F 50) at_)), some (.int (prA l (F 50) (at_ + 2))), some (.int (prA l (F 50) (at_ + 4))), some (.int (prA l (F 50) (at_ + 6)))]) (st2 := [.int ((tat l (F 50) (at_ + 1)) - 48), .int (nI n), .ref 53]) b_X11_reads_202_205 rfl (fun hd => ?_)
                          refine R2.iast n rfl hd (by decide) rfl (fun _ => rfl) (by decide) (by omega) ?_
                          refine R2.B (ls2 := [some (.ref 48), some (.int (nI n)), some (.int (nI at_)), some (.int (tat l (F 50) at_)), some (.int (prA l (F 50) (at_ + 2))), some (.int (prA l (F 50) (at_ + 4))), some (.int (prA l (F 50) (at_ + 6)))]) (st2 := [.int (prA l (F 50) (at_ + 2)), .int (nI n), .ref 54]) b_X11_reads_206_213 rfl (fun hd => ?_)
                          refine R2.iast n rfl hd (by decide) rfl (fun _ => rfl) (by decide) (by omega) ?_
                          refine R2.B (ls2 := [some (.ref 48), some (.int (nI n)), some (.int (nI at_)), some (.int (tat l (F 50) at_)), some (.int (prA l (F 50) (at_ + 2))), some (.int (prA l (F 50) (at_ + 4))), some (.int (prA l (F 50) (at_ + 6)))]) (st2 := [.int ((32 * (prA l (F 50) (at_ + 6))) + (prA l (F 50) (at_ + 4))), .int (nI n), .ref 55]) b_X11_reads_214_227 rfl (fun hd => ?_)
                          refine R2.iast n rfl hd (by decide) rfl (fun _ => rfl) (by decide) (by omega) ?_
                          refine R2.B (ls2 := [some (.ref 48), some (.int ((nI n) + 1)), some (.int ((nI at_) + 8)), some (.int (tat l (F 50) at_)), some (.int (prA l (F 50) (at_ + 2))), some (.int (prA l (F 50) (at_ + 4))), some (.int (prA l (F 50) (at_ + 6)))]) (st2 := [.int 0, .ref 49, .int ((nI at_) + 8)]) b_X11_reads_228_240 rfl (fun hd => ?_)
                          rw [show ((nI n) + 1 : Int32) = nI (n + 1) from nI_add n 1]
                          rw [show ((nI at_) + 8 : Int32) = nI (at_ + 8) from nI_add at_ 8]
                          refine R2.iald 0 rfl hd rfl (fun _ => rfl) (by decide) (by omega) ?_
                          refine R2.top (show (F 49 0 : Int32) = nI l from hlen) ?_
                          refine R2.B (ls2 := [some (.ref 48), some (.int (nI (n + 1))), some (.int (nI (at_ + 8))), some (.int (tat l (F 50) at_)), some (.int (prA l (F 50) (at_ + 2))), some (.int (prA l (F 50) (at_ + 4))), some (.int (prA l (F 50) (at_ + 6)))]) (st2 := [.int (nI l), .int (nI (at_ + 8))]) b_X11_reads_241_241 rfl (fun hd => ?_)
                          refine R2.icmp_ne 251 hd (by decide) (fun c241 => ?_) (fun c241 => ?_)
                          · have nc241 : ¬ (at_ + 8) = l := fun h9 => c241 ((nI_eq (a := (at_ + 8)) (b := l) (by omega) (by omega)).mpr h9)
                            refine R2.B (ls2 := [some (.ref 48), some (.int (nI (n + 1))), some (.int (nI (at_ + 8))), some (.int (tat l (F 50) at_)), some (.int (prA l (F 50) (at_ + 2))), some (.int (prA l (F 50) (at_ + 4))), some (.int (prA l (F 50) (at_ + 6)))]) (st2 := [.int (nI (at_ + 8)), .int 0, .ref 48]) b_X11_reads_251_254 rfl (fun hd => ?_)
                            refine R2.callV3 (M2 := mX11_byteAt) (As := [.int 0, .int (nI (at_ + 8))]) (rest := []) hd lk_11_105 okX11_byteAt (by decide) rfl (ev_byteAt0 E L (up2 (up2 (up2 (up2 F 52 n 1) 53 n ((tat l (F 50) (at_ + 1)) - 48)) 54 n (prA l (F 50) (at_ + 2))) 55 n ((32 * (prA l (F 50) (at_ + 6))) + (prA l (F 50) (at_ + 4)))) l (at_ + 8) hlen hl (by omega)) (by decide) rfl rfl (Nat.le_of_ble_eq_true rfl) ?_
                            refine R2.B (ls2 := [some (.ref 48), some (.int (nI (n + 1))), some (.int (nI (at_ + 8))), some (.int (tat l (F 50) at_)), some (.int (prA l (F 50) (at_ + 2))), some (.int (prA l (F 50) (at_ + 4))), some (.int (prA l (F 50) (at_ + 6)))]) (st2 := [.int 59, .int (tat l (F 50) (at_ + 8))]) b_X11_reads_257_259 rfl (fun hd => ?_)
                            refine R2.icmp_eq 264 hd (by decide) (fun c259 => ?_) (fun c259 => ?_)
                            · refine R2.B (ls2 := [some (.ref 48), some (.int (nI (n + 1))), some (.int ((nI (at_ + 8)) + 1)), some (.int (tat l (F 50) at_)), some (.int (prA l (F 50) (at_ + 2))), some (.int (prA l (F 50) (at_ + 4))), some (.int (prA l (F 50) (at_ + 6)))]) (st2 := []) b_X11_reads_264_9 rfl (fun hd => ?_)
                              rw [show ((nI (at_ + 8)) + 1 : Int32) = nI ((at_ + 8) + 1) from nI_add (at_ + 8) 1]
                              have e : mrdL l (k + 1) n at_ F = mrdL l k (n + 1) (at_ + 8 + 1) (up2 (up2 (up2 (up2 F 52 n 1) 53 n ((tat l (F 50) (at_ + 1)) - 48)) 54 n (prA l (F 50) (at_ + 2))) 55 n ((32 * (prA l (F 50) (at_ + 6))) + (prA l (F 50) (at_ + 4)))) := by
                                clear hd ih; simp only [mrdL, mSt, cKind] <;> grind
                              rw [e]
                              refine R2.forget (ls2 := [some (.ref 48), some (.int (nI (n + 1))), some (.int (nI (at_ + 8 + 1))), none, none, none, none]) ⟨rfl, ⟨rfl, ⟨rfl, trivial⟩⟩⟩ ?_
                              exact ih (n + 1) (at_ + 8 + 1) _ (by omega) (by clear hd ih; grind) (by omega) hlen
                            · refine R2.B (ls2 := [some (.ref 48), some (.int (nI (n + 1))), some (.int (nI (at_ + 8))), some (.int (tat l (F 50) at_)), some (.int (prA l (F 50) (at_ + 2))), some (.int (prA l (F 50) (at_ + 4))), some (.int (prA l (F 50) (at_ + 6)))]) (st2 := [.int (nI (at_ + 8))]) b_X11_reads_262_263 rfl (fun hd => ?_)
                              have e : mrdL l (k + 1) n at_ F = (nI (at_ + 8), (up2 (up2 (up2 (up2 F 52 n 1) 53 n ((tat l (F 50) (at_ + 1)) - 48)) 54 n (prA l (F 50) (at_ + 2))) 55 n ((32 * (prA l (F 50) (at_ + 6))) + (prA l (F 50) (at_ + 4))))) := by
                                clear hd ih; simp only [mrdL, mSt, cKind] <;> grind
                              exact R2.ret3 (r := some (.int (nI (at_ + 8)))) hd trivial rfl (by rw [e]) (by rw [e])
                          · have nc241 : (at_ + 8) = l := (nI_eq (a := (at_ + 8)) (b := l) (by omega) (by omega)).mp c241
                            refine R2.B (ls2 := [some (.ref 48), some (.int (nI (n + 1))), some (.int (nI (at_ + 8))), some (.int (tat l (F 50) at_)), some (.int (prA l (F 50) (at_ + 2))), some (.int (prA l (F 50) (at_ + 4))), some (.int (prA l (F 50) (at_ + 6)))]) (st2 := [.int (nI (n + 1)), .ref 48]) b_X11_reads_244_246 rfl (fun hd => ?_)
                            refine R2.putf (a := 11) (b := 3) hd (by decide) (by decide) rfl rfl (fun _ => rfl) ?_
                            refine R2.B (ls2 := [some (.ref 48), some (.int (nI (n + 1))), some (.int (nI (at_ + 8))), some (.int (tat l (F 50) at_)), some (.int (prA l (F 50) (at_ + 2))), some (.int (prA l (F 50) (at_ + 4))), some (.int (prA l (F 50) (at_ + 6)))]) (st2 := [.int (-1)]) b_X11_reads_249_250 rfl (fun hd => ?_)
                            have e : mrdL l (k + 1) n at_ F = ((-1), (up2 (up2 (up2 (up2 (up2 F 52 n 1) 53 n ((tat l (F 50) (at_ + 1)) - 48)) 54 n (prA l (F 50) (at_ + 2))) 55 n ((32 * (prA l (F 50) (at_ + 6))) + (prA l (F 50) (at_ + 4)))) 48 3 (nI (n + 1)))) := by
                              clear hd ih; simp only [mrdL, mSt, cKind] <;> grind
                            exact R2.ret3 (r := some (.int (-1))) hd trivial rfl (by rw [e]) (by rw [e])
                      · refine R2.B (ls2 := [some (.ref 48), some (.int (nI n)), some (.int (nI at_)), some (.int (tat l (F 50) at_)), some (.int (prA l (F 50) (at_ + 2))), some (.int (prA l (F 50) (at_ + 4))), some (.int (prA l (F 50) (at_ + 6)))]) (st2 := [.int 0, .int (nI n), .ref 52]) b_X11_reads_173_188 rfl (fun hd => ?_)
                        refine R2.iast n rfl hd (by decide) rfl (fun _ => rfl) (by decide) (by omega) ?_
                        refine R2.B (ls2 := [some (.ref 48), some (.int (nI n)), some (.int (nI at_)), some (.int (tat l (F 50) at_)), some (.int (prA l (F 50) (at_ + 2))), some (.int (prA l (F 50) (at_ + 4))), some (.int (prA l (F 50) (at_ + 6)))]) (st2 := [.int ((nI at_) + 1), .int 0, .ref 48, .int (nI n), .ref 53]) b_X11_reads_189_199 rfl (fun hd => ?_)
                        rw [show ((nI at_) + 1 : Int32) = nI (at_ + 1) from nI_add at_ 1]
                        refine R2.callV3 (M2 := mX11_byteAt) (As := [.int 0, .int (nI (at_ + 1))]) (rest := [.int (nI n), .ref 53]) hd lk_11_105 okX11_byteAt (by decide) rfl (ev_byteAt0 E L (up2 F 52 n 0) l (at_ + 1) hlen hl (by omega)) (by decide) rfl rfl (Nat.le_of_ble_eq_true rfl) ?_
                        refine R2.B (ls2 := [some (.ref 48), some (.int (nI n)), some (.int (nI at_)), some (.int (tat l (F 50) at_)), some (.int (prA l (F 50) (at_ + 2))), some (.int (prA l (F 50) (at_ + 4))), some (.int (prA l (F 50) (at_ + 6)))]) (st2 := [.int ((tat l (F 50) (at_ + 1)) - 48), .int (nI n), .ref 53]) b_X11_reads_202_205 rfl (fun hd => ?_)
                        refine R2.iast n rfl hd (by decide) rfl (fun _ => rfl) (by decide) (by omega) ?_
                        refine R2.B (ls2 := [some (.ref 48), some (.int (nI n)), some (.int (nI at_)), some (.int (tat l (F 50) at_)), some (.int (prA l (F 50) (at_ + 2))), some (.int (prA l (F 50) (at_ + 4))), some (.int (prA l (F 50) (at_ + 6)))]) (st2 := [.int (prA l (F 50) (at_ + 2)), .int (nI n), .ref 54]) b_X11_reads_206_213 rfl (fun hd => ?_)
                        refine R2.iast n rfl hd (by decide) rfl (fun _ => rfl) (by decide) (by omega) ?_
                        refine R2.B (ls2 := [some (.ref 48), some (.int (nI n)), some (.int (nI at_)), some (.int (tat l (F 50) at_)), some (.int (prA l (F 50) (at_ + 2))), some (.int (prA l (F 50) (at_ + 4))), some (.int (prA l (F 50) (at_ + 6)))]) (st2 := [.int ((32 * (prA l (F 50) (at_ + 6))) + (prA l (F 50) (at_ + 4))), .int (nI n), .ref 55]) b_X11_reads_214_227 rfl (fun hd => ?_)
                        refine R2.iast n rfl hd (by decide) rfl (fun _ => rfl) (by decide) (by omega) ?_
                        refine R2.B (ls2 := [some (.ref 48), some (.int ((nI n) + 1)), some (.int ((nI at_) + 8)), some (.int (tat l (F 50) at_)), some (.int (prA l (F 50) (at_ + 2))), some (.int (prA l (F 50) (at_ + 4))), some (.int (prA l (F 50) (at_ + 6)))]) (st2 := [.int 0, .ref 49, .int ((nI at_) + 8)]) b_X11_reads_228_240 rfl (fun hd => ?_)
                        rw [show ((nI n) + 1 : Int32) = nI (n + 1) from nI_add n 1]
                        rw [show ((nI at_) + 8 : Int32) = nI (at_ + 8) from nI_add at_ 8]
                        refine R2.iald 0 rfl hd rfl (fun _ => rfl) (by decide) (by omega) ?_
                        refine R2.top (show (F 49 0 : Int32) = nI l from hlen) ?_
                        refine R2.B (ls2 := [some (.ref 48), some (.int (nI (n + 1))), some (.int (nI (at_ + 8))), some (.int (tat l (F 50) at_)), some (.int (prA l (F 50) (at_ + 2))), some (.int (prA l (F 50) (at_ + 4))), some (.int (prA l (F 50) (at_ + 6)))]) (st2 := [.int (nI l), .int (nI (at_ + 8))]) b_X11_reads_241_241 rfl (fun hd => ?_)
                        refine R2.icmp_ne 251 hd (by decide) (fun c241 => ?_) (fun c241 => ?_)
                        · have nc241 : ¬ (at_ + 8) = l := fun h9 => c241 ((nI_eq (a := (at_ + 8)) (b := l) (by omega) (by omega)).mpr h9)
                          refine R2.B (ls2 := [some (.ref 48), some (.int (nI (n + 1))), some (.int (nI (at_ + 8))), some (.int (tat l (F 50) at_)), some (.int (prA l (F 50) (at_ + 2))), some (.int (prA l (F 50) (at_ + 4))), some (.int (prA l (F 50) (at_ + 6)))]) (st2 := [.int (nI (at_ + 8)), .int 0, .ref 48]) b_X11_reads_251_254 rfl (fun hd => ?_)
                          refine R2.callV3 (M2 := mX11_byteAt) (As := [.int 0, .int (nI (at_ + 8))]) (rest := []) hd lk_11_105 okX11_byteAt (by decide) rfl (ev_byteAt0 E L (up2 (up2 (up2 (up2 F 52 n 0) 53 n ((tat l (F 50) (at_ + 1)) - 48)) 54 n (prA l (F 50) (at_ + 2))) 55 n ((32 * (prA l (F 50) (at_ + 6))) + (prA l (F 50) (at_ + 4)))) l (at_ + 8) hlen hl (by omega)) (by decide) rfl rfl (Nat.le_of_ble_eq_true rfl) ?_
                          refine R2.B (ls2 := [some (.ref 48), some (.int (nI (n + 1))), some (.int (nI (at_ + 8))), some (.int (tat l (F 50) at_)), some (.int (prA l (F 50) (at_ + 2))), some (.int (prA l (F 50) (at_ + 4))), some (.int (prA l (F 50) (at_ + 6)))]) (st2 := [.int 59, .int (tat l (F 50) (at_ + 8))]) b_X11_reads_257_259 rfl (fun hd => ?_)
                          refine R2.icmp_eq 264 hd (by decide) (fun c259 => ?_) (fun c259 => ?_)
                          · refine R2.B (ls2 := [some (.ref 48), some (.int (nI (n + 1))), some (.int ((nI (at_ + 8)) + 1)), some (.int (tat l (F 50) at_)), some (.int (prA l (F 50) (at_ + 2))), some (.int (prA l (F 50) (at_ + 4))), some (.int (prA l (F 50) (at_ + 6)))]) (st2 := []) b_X11_reads_264_9 rfl (fun hd => ?_)
                            rw [show ((nI (at_ + 8)) + 1 : Int32) = nI ((at_ + 8) + 1) from nI_add (at_ + 8) 1]
                            have e : mrdL l (k + 1) n at_ F = mrdL l k (n + 1) (at_ + 8 + 1) (up2 (up2 (up2 (up2 F 52 n 0) 53 n ((tat l (F 50) (at_ + 1)) - 48)) 54 n (prA l (F 50) (at_ + 2))) 55 n ((32 * (prA l (F 50) (at_ + 6))) + (prA l (F 50) (at_ + 4)))) := by
                              clear hd ih; simp only [mrdL, mSt, cKind] <;> grind
                            rw [e]
                            refine R2.forget (ls2 := [some (.ref 48), some (.int (nI (n + 1))), some (.int (nI (at_ + 8 + 1))), none, none, none, none]) ⟨rfl, ⟨rfl, ⟨rfl, trivial⟩⟩⟩ ?_
                            exact ih (n + 1) (at_ + 8 + 1) _ (by omega) (by clear hd ih; grind) (by omega) hlen
                          · refine R2.B (ls2 := [some (.ref 48), some (.int (nI (n + 1))), some (.int (nI (at_ + 8))), some (.int (tat l (F 50) at_)), some (.int (prA l (F 50) (at_ + 2))), some (.int (prA l (F 50) (at_ + 4))), some (.int (prA l (F 50) (at_ + 6)))]) (st2 := [.int (nI (at_ + 8))]) b_X11_reads_262_263 rfl (fun hd => ?_)
                            have e : mrdL l (k + 1) n at_ F = (nI (at_ + 8), (up2 (up2 (up2 (up2 F 52 n 0) 53 n ((tat l (F 50) (at_ + 1)) - 48)) 54 n (prA l (F 50) (at_ + 2))) 55 n ((32 * (prA l (F 50) (at_ + 6))) + (prA l (F 50) (at_ + 4))))) := by
                              clear hd ih; simp only [mrdL, mSt, cKind] <;> grind
                            exact R2.ret3 (r := some (.int (nI (at_ + 8)))) hd trivial rfl (by rw [e]) (by rw [e])
                        · have nc241 : (at_ + 8) = l := (nI_eq (a := (at_ + 8)) (b := l) (by omega) (by omega)).mp c241
                          refine R2.B (ls2 := [some (.ref 48), some (.int (nI (n + 1))), some (.int (nI (at_ + 8))), some (.int (tat l (F 50) at_)), some (.int (prA l (F 50) (at_ + 2))), some (.int (prA l (F 50) (at_ + 4))), some (.int (prA l (F 50) (at_ + 6)))]) (st2 := [.int (nI (n + 1)), .ref 48]) b_X11_reads_244_246 rfl (fun hd => ?_)
                          refine R2.putf (a := 11) (b := 3) hd (by decide) (by decide) rfl rfl (fun _ => rfl) ?_
                          refine R2.B (ls2 := [some (.ref 48), some (.int (nI (n + 1))), some (.int (nI (at_ + 8))), some (.int (tat l (F 50) at_)), some (.int (prA l (F 50) (at_ + 2))), some (.int (prA l (F 50) (at_ + 4))), some (.int (prA l (F 50) (at_ + 6)))]) (st2 := [.int (-1)]) b_X11_reads_249_250 rfl (fun hd => ?_)
                          have e : mrdL l (k + 1) n at_ F = ((-1), (up2 (up2 (up2 (up2 (up2 F 52 n 0) 53 n ((tat l (F 50) (at_ + 1)) - 48)) 54 n (prA l (F 50) (at_ + 2))) 55 n ((32 * (prA l (F 50) (at_ + 6))) + (prA l (F 50) (at_ + 4)))) 48 3 (nI (n + 1)))) := by
                            clear hd ih; simp only [mrdL, mSt, cKind] <;> grind
                          exact R2.ret3 (r := some (.int (-1))) hd trivial rfl (by rw [e]) (by rw [e])
                    · refine R2.B (ls2 := [some (.ref 48), some (.int (nI n)), some (.int (nI at_)), some (.int (tat l (F 50) at_)), some (.int (prA l (F 50) (at_ + 2))), some (.int (prA l (F 50) (at_ + 4))), some (.int (prA l (F 50) (at_ + 6)))]) (st2 := [.int ((nI at_) + 6)]) b_X11_reads_157_161 rfl (fun hd => ?_)
                      rw [show ((nI at_) + 6 : Int32) = nI (at_ + 6) from nI_add at_ 6]
                      have e : mrdL l (k + 1) n at_ F = (nI (at_ + 6), F) := by
                        clear hd ih; simp only [mrdL, mSt, cKind] <;> grind
                      exact R2.ret3 (r := some (.int (nI (at_ + 6)))) hd trivial rfl (by rw [e]) (by rw [e])
                  · refine R2.B (ls2 := [some (.ref 48), some (.int (nI n)), some (.int (nI at_)), some (.int (tat l (F 50) at_)), some (.int (prA l (F 50) (at_ + 2))), some (.int (prA l (F 50) (at_ + 4))), some (.int (prA l (F 50) (at_ + 6)))]) (st2 := [.int ((-2) - (prA l (F 50) (at_ + 6)))]) b_X11_reads_144_149 rfl (fun hd => ?_)
                    have e : mrdL l (k + 1) n at_ F = ((-2) - (prA l (F 50) (at_ + 6)), F) := by
                      clear hd ih; simp only [mrdL, mSt, cKind] <;> grind
                    exact R2.ret3 (r := some (.int ((-2) - (prA l (F 50) (at_ + 6))))) hd trivial rfl (by rw [e]) (by rw [e])
                · refine R2.B (ls2 := [some (.ref 48), some (.int (nI n)), some (.int (nI at_)), some (.int (tat l (F 50) at_)), some (.int (prA l (F 50) (at_ + 2))), some (.int (prA l (F 50) (at_ + 4))), none]) (st2 := [.int ((nI at_) + 4)]) b_X11_reads_125_128 rfl (fun hd => ?_)
                  rw [show ((nI at_) + 4 : Int32) = nI (at_ + 4) from nI_add at_ 4]
                  have e : mrdL l (k + 1) n at_ F = (nI (at_ + 4), F) := by
                    clear hd ih; simp only [mrdL, mSt, cKind] <;> grind
                  exact R2.ret3 (r := some (.int (nI (at_ + 4)))) hd trivial rfl (by rw [e]) (by rw [e])
              · refine R2.B (ls2 := [some (.ref 48), some (.int (nI n)), some (.int (nI at_)), some (.int (tat l (F 50) at_)), some (.int (prA l (F 50) (at_ + 2))), some (.int (prA l (F 50) (at_ + 4))), none]) (st2 := [.int ((-2) - (prA l (F 50) (at_ + 4)))]) b_X11_reads_112_117 rfl (fun hd => ?_)
                have e : mrdL l (k + 1) n at_ F = ((-2) - (prA l (F 50) (at_ + 4)), F) := by
                  clear hd ih; simp only [mrdL, mSt, cKind] <;> grind
                exact R2.ret3 (r := some (.int ((-2) - (prA l (F 50) (at_ + 4))))) hd trivial rfl (by rw [e]) (by rw [e])
            · refine R2.B (ls2 := [some (.ref 48), some (.int (nI n)), some (.int (nI at_)), some (.int (tat l (F 50) at_)), some (.int (prA l (F 50) (at_ + 2))), none, none]) (st2 := [.int ((-2) - (prA l (F 50) (at_ + 2)))]) b_X11_reads_92_97 rfl (fun hd => ?_)
              have e : mrdL l (k + 1) n at_ F = ((-2) - (prA l (F 50) (at_ + 2)), F) := by
                clear hd ih; simp only [mrdL, mSt, cKind] <;> grind
              exact R2.ret3 (r := some (.int ((-2) - (prA l (F 50) (at_ + 2))))) hd trivial rfl (by rw [e]) (by rw [e])
          · have nc71 : ¬ (48 ≤ (tat l (F 50) (at_ + 1)) ∧ (tat l (F 50) (at_ + 1)) ≤ 51) := b2i_zero.mp c71
            refine R2.B (ls2 := [some (.ref 48), some (.int (nI n)), some (.int (nI at_)), some (.int (tat l (F 50) at_)), none, none, none]) (st2 := [.int ((nI at_) + 1)]) b_X11_reads_74_77 rfl (fun hd => ?_)
            rw [show ((nI at_) + 1 : Int32) = nI (at_ + 1) from nI_add at_ 1]
            have e : mrdL l (k + 1) n at_ F = (nI (at_ + 1), F) := by
              clear hd ih; simp only [mrdL, mSt, cKind] <;> grind
            exact R2.ret3 (r := some (.int (nI (at_ + 1)))) hd trivial rfl (by rw [e]) (by rw [e])
        · refine R2.B (ls2 := [some (.ref 48), some (.int (nI n)), some (.int (nI at_)), some (.int (tat l (F 50) at_)), none, none, none]) (st2 := [.int 98, .int (tat l (F 50) at_)]) b_X11_reads_42_45 rfl (fun hd => ?_)
          refine R2.icmp_eq 56 hd (by decide) (fun c45 => ?_) (fun c45 => ?_)
          · refine R2.B (ls2 := [some (.ref 48), some (.int (nI n)), some (.int (nI at_)), some (.int (tat l (F 50) at_)), none, none, none]) (st2 := [.int ((nI at_) + 1), .int 0, .ref 48]) b_X11_reads_56_61 rfl (fun hd => ?_)
            rw [show ((nI at_) + 1 : Int32) = nI (at_ + 1) from nI_add at_ 1]
            refine R2.callV3 (M2 := mX11_byteAt) (As := [.int 0, .int (nI (at_ + 1))]) (rest := []) hd lk_11_105 okX11_byteAt (by decide) rfl (ev_byteAt0 E L F l (at_ + 1) hlen hl (by omega)) (by decide) rfl rfl (Nat.le_of_ble_eq_true rfl) ?_
            refine R2.B (ls2 := [some (.ref 48), some (.int (nI n)), some (.int (nI at_)), some (.int (tat l (F 50) at_)), none, none, none]) (st2 := [.int 51, .int 48, .int (tat l (F 50) (at_ + 1))]) b_X11_reads_64_68 rfl (fun hd => ?_)
            refine R2.callS3 (M2 := mX11_in) (As := [.int (tat l (F 50) (at_ + 1)), .int 48, .int 51]) (rest := []) hd lk_11_86 okX11_in (by decide) (ev_in E L F (tat l (F 50) (at_ + 1)) 48 51) (by decide) rfl rfl (Nat.le_of_ble_eq_true rfl) ?_
            refine R2.B (ls2 := [some (.ref 48), some (.int (nI n)), some (.int (nI at_)), some (.int (tat l (F 50) at_)), none, none, none]) (st2 := [.int (b2i (48 ≤ (tat l (F 50) (at_ + 1)) ∧ (tat l (F 50) (at_ + 1)) ≤ 51))]) b_X11_reads_71_71 rfl (fun hd => ?_)
            refine R2.if_ne 78 hd (by decide) (fun c71 => ?_) (fun c71 => ?_)
            · have nc71 : 48 ≤ (tat l (F 50) (at_ + 1)) ∧ (tat l (F 50) (at_ + 1)) ≤ 51 := b2i_nz.mp c71
              refine R2.B (ls2 := [some (.ref 48), some (.int (nI n)), some (.int (nI at_)), some (.int (tat l (F 50) at_)), none, none, none]) (st2 := [.int ((nI at_) + 2), .ref 48]) b_X11_reads_78_82 rfl (fun hd => ?_)
              rw [show ((nI at_) + 2 : Int32) = nI (at_ + 2) from nI_add at_ 2]
              refine R2.callV3 (M2 := mX11_pairAt) (As := [.int (nI (at_ + 2))]) (rest := []) hd lk_11_113 okX11_pairAt (by decide) rfl (ev_pairAt E L F l (at_ + 2) hlen hl (by omega)) (by decide) rfl rfl (Nat.le_of_ble_eq_true rfl) ?_
              refine R2.B (ls2 := [some (.ref 48), some (.int (nI n)), some (.int (nI at_)), some (.int (tat l (F 50) at_)), some (.int (prA l (F 50) (at_ + 2))), none, none]) (st2 := [.int (prA l (F 50) (at_ + 2))]) b_X11_reads_85_89 rfl (fun hd => ?_)
              refine R2.if_ge 98 hd (by decide) (fun c89 => ?_) (fun c89 => ?_)
              · refine R2.B (ls2 := [some (.ref 48), some (.int (nI n)), some (.int (nI at_)), some (.int (tat l (F 50) at_)), some (.int (prA l (F 50) (at_ + 2))), none, none]) (st2 := [.int ((nI at_) + 4), .ref 48]) b_X11_reads_98_102 rfl (fun hd => ?_)
                rw [show ((nI at_) + 4 : Int32) = nI (at_ + 4) from nI_add at_ 4]
                refine R2.callV3 (M2 := mX11_pairAt) (As := [.int (nI (at_ + 4))]) (rest := []) hd lk_11_113 okX11_pairAt (by decide) rfl (ev_pairAt E L F l (at_ + 4) hlen hl (by omega)) (by decide) rfl rfl (Nat.le_of_ble_eq_true rfl) ?_
                refine R2.B (ls2 := [some (.ref 48), some (.int (nI n)), some (.int (nI at_)), some (.int (tat l (F 50) at_)), some (.int (prA l (F 50) (at_ + 2))), some (.int (prA l (F 50) (at_ + 4))), none]) (st2 := [.int (prA l (F 50) (at_ + 4))]) b_X11_reads_105_109 rfl (fun hd => ?_)
                refine R2.if_ge 118 hd (by decide) (fun c109 => ?_) (fun c109 => ?_)
                · refine R2.B (ls2 := [some (.ref 48), some (.int (nI n)), some (.int (nI at_)), some (.int (tat l (F 50) at_)), some (.int (prA l (F 50) (at_ + 2))), some (.int (prA l (F 50) (at_ + 4))), none]) (st2 := [.int 31, .int (prA l (F 50) (at_ + 4))]) b_X11_reads_118_122 rfl (fun hd => ?_)
                  refine R2.icmp_le 129 hd (by decide) (fun c122 => ?_) (fun c122 => ?_)
                  · refine R2.B (ls2 := [some (.ref 48), some (.int (nI n)), some (.int (nI at_)), some (.int (tat l (F 50) at_)), some (.int (prA l (F 50) (at_ + 2))), some (.int (prA l (F 50) (at_ + 4))), none]) (st2 := [.int ((nI at_) + 6), .ref 48]) b_X11_reads_129_134 rfl (fun hd => ?_)
                    rw [show ((nI at_) + 6 : Int32) = nI (at_ + 6) from nI_add at_ 6]
                    refine R2.callV3 (M2 := mX11_pairAt) (As := [.int (nI (at_ + 6))]) (rest := []) hd lk_11_113 okX11_pairAt (by decide) rfl (ev_pairAt E L F l (at_ + 6) hlen hl (by omega)) (by decide) rfl rfl (Nat.le_of_ble_eq_true rfl) ?_
                    refine R2.B (ls2 := [some (.ref 48), some (.int (nI n)), some (.int (nI at_)), some (.int (tat l (F 50) at_)), some (.int (prA l (F 50) (at_ + 2))), some (.int (prA l (F 50) (at_ + 4))), some (.int (prA l (F 50) (at_ + 6)))]) (st2 := [.int (prA l (F 50) (at_ + 6))]) b_X11_reads_137_141 rfl (fun hd => ?_)
                    refine R2.if_ge 150 hd (by decide) (fun c141 => ?_) (fun c141 => ?_)
                    · refine R2.B (ls2 := [some (.ref 48), some (.int (nI n)), some (.int (nI at_)), some (.int (tat l (F 50) at_)), some (.int (prA l (F 50) (at_ + 2))), some (.int (prA l (F 50) (at_ + 4))), some (.int (prA l (F 50) (at_ + 6)))]) (st2 := [.int 31, .int (prA l (F 50) (at_ + 6))]) b_X11_reads_150_154 rfl (fun hd => ?_)
                      refine R2.icmp_le 162 hd (by decide) (fun c154 => ?_) (fun c154 => ?_)
                      · refine R2.B (ls2 := [some (.ref 48), some (.int (nI n)), some (.int (nI at_)), some (.int (tat l (F 50) at_)), some (.int (prA l (F 50) (at_ + 2))), some (.int (prA l (F 50) (at_ + 4))), some (.int (prA l (F 50) (at_ + 6)))]) (st2 := [.int 115, .int (tat l (F 50) at_), .int (nI n), .ref 52]) b_X11_reads_162_170 rfl (fun hd => ?_)
                        refine R2.icmp_ne 177 hd (by decide) (fun c170 => ?_) (fun c170 => ?_)
                        · refine R2.B (ls2 := [some (.ref 48), some (.int (nI n)), some (.int (nI at_)), some (.int (tat l (F 50) at_)), some (.int (prA l (F 50) (at_ + 2))), some (.int (prA l (F 50) (at_ + 4))), some (.int (prA l (F 50) (at_ + 6)))]) (st2 := [.int 98, .int (tat l (F 50) at_), .int (nI n), .ref 52]) b_X11_reads_177_180 rfl (fun hd => ?_)
                          refine R2.icmp_ne 187 hd (by decide) (fun c180 => ?_) (fun c180 => ?_)
                          · refine R2.B (ls2 := [some (.ref 48), some (.int (nI n)), some (.int (nI at_)), some (.int (tat l (F 50) at_)), some (.int (prA l (F 50) (at_ + 2))), some (.int (prA l (F 50) (at_ + 4))), some (.int (prA l (F 50) (at_ + 6)))]) (st2 := [.int 2, .int (nI n), .ref 52]) b_X11_reads_187_188 rfl (fun hd => ?_)
                            refine R2.iast n rfl hd (by decide) rfl (fun _ => rfl) (by decide) (by omega) ?_
                            refine R2.B (ls2 := [some (.ref 48), some (.int (nI n)), some (.int (nI at_)), some (.int (tat l (F 50) at_)), some (.int (prA l (F 50) (at_ + 2))), some (.int (prA l (F 50) (at_ + 4))), some (.int (prA l (F 50) (at_ + 6)))]) (st2 := [.int ((nI at_) + 1), .int 0, .ref 48, .int (nI n), .ref 53]) b_X11_reads_189_199 rfl (fun hd => ?_)
                            rw [show ((nI at_) + 1 : Int32) = nI (at_ + 1) from nI_add at_ 1]
                            refine R2.callV3 (M2 := mX11_byteAt) (As := [.int 0, .int (nI (at_ + 1))]) (rest := [.int (nI n), .ref 53]) hd lk_11_105 okX11_byteAt (by decide) rfl (ev_byteAt0 E L (up2 F 52 n 2) l (at_ + 1) hlen hl (by omega)) (by decide) rfl rfl (Nat.le_of_ble_eq_true rfl) ?_
                            refine R2.B (ls2 := [some (.ref 48), some (.int (nI n)), some (.int (nI at_)), some (.int (tat l (F 50) at_)), some (.int (prA l (F 50) (at_ + 2))), some (.int (prA l (F 50) (at_ + 4))), some (.int (prA l (F 50) (at_ + 6)))]) (st2 := [.int ((tat l (F 50) (at_ + 1)) - 48), .int (nI n), .ref 53]) b_X11_reads_202_205 rfl (fun hd => ?_)
                            refine R2.iast n rfl hd (by decide) rfl (fun _ => rfl) (by decide) (by omega) ?_
                            refine R2.B (ls2 := [some (.ref 48), some (.int (nI n)), some (.int (nI at_)), some (.int (tat l (F 50) at_)), some (.int (prA l (F 50) (at_ + 2))), some (.int (prA l (F 50) (at_ + 4))), some (.int (prA l (F 50) (at_ + 6)))]) (st2 := [.int (prA l (F 50) (at_ + 2)), .int (nI n), .ref 54]) b_X11_reads_206_213 rfl (fun hd => ?_)
                            refine R2.iast n rfl hd (by decide) rfl (fun _ => rfl) (by decide) (by omega) ?_
                            refine R2.B (ls2 := [some (.ref 48), some (.int (nI n)), some (.int (nI at_)), some (.int (tat l (F 50) at_)), some (.int (prA l (F 50) (at_ + 2))), some (.int (prA l (F 50) (at_ + 4))), some (.int (prA l (F 50) (at_ + 6)))]) (st2 := [.int ((32 * (prA l (F 50) (at_ + 6))) + (prA l (F 50) (at_ + 4))), .int (nI n), .ref 55]) b_X11_reads_214_227 rfl (fun hd => ?_)
                            refine R2.iast n rfl hd (by decide) rfl (fun _ => rfl) (by decide) (by omega) ?_
                            refine R2.B (ls2 := [some (.ref 48), some (.int ((nI n) + 1)), some (.int ((nI at_) + 8)), some (.int (tat l (F 50) at_)), some (.int (prA l (F 50) (at_ + 2))), some (.int (prA l (F 50) (at_ + 4))), some (.int (prA l (F 50) (at_ + 6)))]) (st2 := [.int 0, .ref 49, .int ((nI at_) + 8)]) b_X11_reads_228_240 rfl (fun hd => ?_)
                            rw [show ((nI n) + 1 : Int32) = nI (n + 1) from nI_add n 1]
                            rw [show ((nI at_) + 8 : Int32) = nI (at_ + 8) from nI_add at_ 8]
                            refine R2.iald 0 rfl hd rfl (fun _ => rfl) (by decide) (by omega) ?_
                            refine R2.top (show (F 49 0 : Int32) = nI l from hlen) ?_
                            refine R2.B (ls2 := [some (.ref 48), some (.int (nI (n + 1))), some (.int (nI (at_ + 8))), some (.int (tat l (F 50) at_)), some (.int (prA l (F 50) (at_ + 2))), some (.int (prA l (F 50) (at_ + 4))), some (.int (prA l (F 50) (at_ + 6)))]) (st2 := [.int (nI l), .int (nI (at_ + 8))]) b_X11_reads_241_241 rfl (fun hd => ?_)
                            refine R2.icmp_ne 251 hd (by decide) (fun c241 => ?_) (fun c241 => ?_)
                            · have nc241 : ¬ (at_ + 8) = l := fun h9 => c241 ((nI_eq (a := (at_ + 8)) (b := l) (by omega) (by omega)).mpr h9)
                              refine R2.B (ls2 := [some (.ref 48), some (.int (nI (n + 1))), some (.int (nI (at_ + 8))), some (.int (tat l (F 50) at_)), some (.int (prA l (F 50) (at_ + 2))), some (.int (prA l (F 50) (at_ + 4))), some (.int (prA l (F 50) (at_ + 6)))]) (st2 := [.int (nI (at_ + 8)), .int 0, .ref 48]) b_X11_reads_251_254 rfl (fun hd => ?_)
                              refine R2.callV3 (M2 := mX11_byteAt) (As := [.int 0, .int (nI (at_ + 8))]) (rest := []) hd lk_11_105 okX11_byteAt (by decide) rfl (ev_byteAt0 E L (up2 (up2 (up2 (up2 F 52 n 2) 53 n ((tat l (F 50) (at_ + 1)) - 48)) 54 n (prA l (F 50) (at_ + 2))) 55 n ((32 * (prA l (F 50) (at_ + 6))) + (prA l (F 50) (at_ + 4)))) l (at_ + 8) hlen hl (by omega)) (by decide) rfl rfl (Nat.le_of_ble_eq_true rfl) ?_
                              refine R2.B (ls2 := [some (.ref 48), some (.int (nI (n + 1))), some (.int (nI (at_ + 8))), some (.int (tat l (F 50) at_)), some (.int (prA l (F 50) (at_ + 2))), some (.int (prA l (F 50) (at_ + 4))), some (.int (prA l (F 50) (at_ + 6)))]) (st2 := [.int 59, .int (tat l (F 50) (at_ + 8))]) b_X11_reads_257_259 rfl (fun hd => ?_)
                              refine R2.icmp_eq 264 hd (by decide) (fun c259 => ?_) (fun c259 => ?_)
                              · refine R2.B (ls2 := [some (.ref 48), some (.int (nI (n + 1))), some (.int ((nI (at_ + 8)) + 1)), some (.int (tat l (F 50) at_)), some (.int (prA l (F 50) (at_ + 2))), some (.int (prA l (F 50) (at_ + 4))), some (.int (prA l (F 50) (at_ + 6)))]) (st2 := []) b_X11_reads_264_9 rfl (fun hd => ?_)
                                rw [show ((nI (at_ + 8)) + 1 : Int32) = nI ((at_ + 8) + 1) from nI_add (at_ + 8) 1]
                                have e : mrdL l (k + 1) n at_ F = mrdL l k (n + 1) (at_ + 8 + 1) (up2 (up2 (up2 (up2 F 52 n 2) 53 n ((tat l (F 50) (at_ + 1)) - 48)) 54 n (prA l (F 50) (at_ + 2))) 55 n ((32 * (prA l (F 50) (at_ + 6))) + (prA l (F 50) (at_ + 4)))) := by
                                  clear hd ih; simp only [mrdL, mSt, cKind] <;> grind
                                rw [e]
                                refine R2.forget (ls2 := [some (.ref 48), some (.int (nI (n + 1))), some (.int (nI (at_ + 8 + 1))), none, none, none, none]) ⟨rfl, ⟨rfl, ⟨rfl, trivial⟩⟩⟩ ?_
                                exact ih (n + 1) (at_ + 8 + 1) _ (by omega) (by clear hd ih; grind) (by omega) hlen
                              · refine R2.B (ls2 := [some (.ref 48), some (.int (nI (n + 1))), some (.int (nI (at_ + 8))), some (.int (tat l (F 50) at_)), some (.int (prA l (F 50) (at_ + 2))), some (.int (prA l (F 50) (at_ + 4))), some (.int (prA l (F 50) (at_ + 6)))]) (st2 := [.int (nI (at_ + 8))]) b_X11_reads_262_263 rfl (fun hd => ?_)
                                have e : mrdL l (k + 1) n at_ F = (nI (at_ + 8), (up2 (up2 (up2 (up2 F 52 n 2) 53 n ((tat l (F 50) (at_ + 1)) - 48)) 54 n (prA l (F 50) (at_ + 2))) 55 n ((32 * (prA l (F 50) (at_ + 6))) + (prA l (F 50) (at_ + 4))))) := by
                                  clear hd ih; simp only [mrdL, mSt, cKind] <;> grind
                                exact R2.ret3 (r := some (.int (nI (at_ + 8)))) hd trivial rfl (by rw [e]) (by rw [e])
                            · have nc241 : (at_ + 8) = l := (nI_eq (a := (at_ + 8)) (b := l) (by omega) (by omega)).mp c241
                              refine R2.B (ls2 := [some (.ref 48), some (.int (nI (n + 1))), some (.int (nI (at_ + 8))), some (.int (tat l (F 50) at_)), some (.int (prA l (F 50) (at_ + 2))), some (.int (prA l (F 50) (at_ + 4))), some (.int (prA l (F 50) (at_ + 6)))]) (st2 := [.int (nI (n + 1)), .ref 48]) b_X11_reads_244_246 rfl (fun hd => ?_)
                              refine R2.putf (a := 11) (b := 3) hd (by decide) (by decide) rfl rfl (fun _ => rfl) ?_
                              refine R2.B (ls2 := [some (.ref 48), some (.int (nI (n + 1))), some (.int (nI (at_ + 8))), some (.int (tat l (F 50) at_)), some (.int (prA l (F 50) (at_ + 2))), some (.int (prA l (F 50) (at_ + 4))), some (.int (prA l (F 50) (at_ + 6)))]) (st2 := [.int (-1)]) b_X11_reads_249_250 rfl (fun hd => ?_)
                              have e : mrdL l (k + 1) n at_ F = ((-1), (up2 (up2 (up2 (up2 (up2 F 52 n 2) 53 n ((tat l (F 50) (at_ + 1)) - 48)) 54 n (prA l (F 50) (at_ + 2))) 55 n ((32 * (prA l (F 50) (at_ + 6))) + (prA l (F 50) (at_ + 4)))) 48 3 (nI (n + 1)))) := by
                                clear hd ih; simp only [mrdL, mSt, cKind] <;> grind
                              exact R2.ret3 (r := some (.int (-1))) hd trivial rfl (by rw [e]) (by rw [e])
                          · refine R2.B (ls2 := [some (.ref 48), some (.int (nI n)), some (.int (nI at_)), some (.int (tat l (F 50) at_)), some (.int (prA l (F 50) (at_ + 2))), some (.int (prA l (F 50) (at_ + 4))), some (.int (prA l (F 50) (at_ + 6)))]) (st2 := [.int 1, .int (nI n), .ref 52]) b_X11_reads_183_188 rfl (fun hd => ?_)
                            refine R2.iast n rfl hd (by decide) rfl (fun _ => rfl) (by decide) (by omega) ?_
                            refine R2.B (ls2 := [some (.ref 48), some (.int (nI n)), some (.int (nI at_)), some (.int (tat l (F 50) at_)), some (.int (prA l (F 50) (at_ + 2))), some (.int (prA l (F 50) (at_ + 4))), some (.int (prA l (F 50) (at_ + 6)))]) (st2 := [.int ((nI at_) + 1), .int 0, .ref 48, .int (nI n), .ref 53]) b_X11_reads_189_199 rfl (fun hd => ?_)
                            rw [show ((nI at_) + 1 : Int32) = nI (at_ + 1) from nI_add at_ 1]
                            refine R2.callV3 (M2 := mX11_byteAt) (As := [.int 0, .int (nI (at_ + 1))]) (rest := [.int (nI n), .ref 53]) hd lk_11_105 okX11_byteAt (by decide) rfl (ev_byteAt0 E L (up2 F 52 n 1) l (at_ + 1) hlen hl (by omega)) (by decide) rfl rfl (Nat.le_of_ble_eq_true rfl) ?_
                            refine R2.B (ls2 := [some (.ref 48), some (.int (nI n)), some (.int (nI at_)), some (.int (tat l (F 50) at_)), some (.int (prA l (F 50) (at_ + 2))), some (.int (prA l (F 50) (at_ + 4))), some (.int (prA l (F 50) (at_ + 6)))]) (st2 := [.int ((tat l (F 50) (at_ + 1)) - 48), .int (nI n), .ref 53]) b_X11_reads_202_205 rfl (fun hd => ?_)
                            refine R2.iast n rfl hd (by decide) rfl (fun _ => rfl) (by decide) (by omega) ?_
                            refine R2.B (ls2 := [some (.ref 48), some (.int (nI n)), some (.int (nI at_)), some (.int (tat l (F 50) at_)), some (.int (prA l (F 50) (at_ + 2))), some (.int (prA l (F 50) (at_ + 4))), some (.int (prA l (F 50) (at_ + 6)))]) (st2 := [.int (prA l (F 50) (at_ + 2)), .int (nI n), .ref 54]) b_X11_reads_206_213 rfl (fun hd => ?_)
                            refine R2.iast n rfl hd (by decide) rfl (fun _ => rfl) (by decide) (by omega) ?_
                            refine R2.B (ls2 := [some (.ref 48), some (.int (nI n)), some (.int (nI at_)), some (.int (tat l (F 50) at_)), some (.int (prA l (F 50) (at_ + 2))), some (.int (prA l (F 50) (at_ + 4))), some (.int (prA l (F 50) (at_ + 6)))]) (st2 := [.int ((32 * (prA l (F 50) (at_ + 6))) + (prA l (F 50) (at_ + 4))), .int (nI n), .ref 55]) b_X11_reads_214_227 rfl (fun hd => ?_)
                            refine R2.iast n rfl hd (by decide) rfl (fun _ => rfl) (by decide) (by omega) ?_
                            refine R2.B (ls2 := [some (.ref 48), some (.int ((nI n) + 1)), some (.int ((nI at_) + 8)), some (.int (tat l (F 50) at_)), some (.int (prA l (F 50) (at_ + 2))), some (.int (prA l (F 50) (at_ + 4))), some (.int (prA l (F 50) (at_ + 6)))]) (st2 := [.int 0, .ref 49, .int ((nI at_) + 8)]) b_X11_reads_228_240 rfl (fun hd => ?_)
                            rw [show ((nI n) + 1 : Int32) = nI (n + 1) from nI_add n 1]
                            rw [show ((nI at_) + 8 : Int32) = nI (at_ + 8) from nI_add at_ 8]
                            refine R2.iald 0 rfl hd rfl (fun _ => rfl) (by decide) (by omega) ?_
                            refine R2.top (show (F 49 0 : Int32) = nI l from hlen) ?_
                            refine R2.B (ls2 := [some (.ref 48), some (.int (nI (n + 1))), some (.int (nI (at_ + 8))), some (.int (tat l (F 50) at_)), some (.int (prA l (F 50) (at_ + 2))), some (.int (prA l (F 50) (at_ + 4))), some (.int (prA l (F 50) (at_ + 6)))]) (st2 := [.int (nI l), .int (nI (at_ + 8))]) b_X11_reads_241_241 rfl (fun hd => ?_)
                            refine R2.icmp_ne 251 hd (by decide) (fun c241 => ?_) (fun c241 => ?_)
                            · have nc241 : ¬ (at_ + 8) = l := fun h9 => c241 ((nI_eq (a := (at_ + 8)) (b := l) (by omega) (by omega)).mpr h9)
                              refine R2.B (ls2 := [some (.ref 48), some (.int (nI (n + 1))), some (.int (nI (at_ + 8))), some (.int (tat l (F 50) at_)), some (.int (prA l (F 50) (at_ + 2))), some (.int (prA l (F 50) (at_ + 4))), some (.int (prA l (F 50) (at_ + 6)))]) (st2 := [.int (nI (at_ + 8)), .int 0, .ref 48]) b_X11_reads_251_254 rfl (fun hd => ?_)
                              refine R2.callV3 (M2 := mX11_byteAt) (As := [.int 0, .int (nI (at_ + 8))]) (rest := []) hd lk_11_105 okX11_byteAt (by decide) rfl (ev_byteAt0 E L (up2 (up2 (up2 (up2 F 52 n 1) 53 n ((tat l (F 50) (at_ + 1)) - 48)) 54 n (prA l (F 50) (at_ + 2))) 55 n ((32 * (prA l (F 50) (at_ + 6))) + (prA l (F 50) (at_ + 4)))) l (at_ + 8) hlen hl (by omega)) (by decide) rfl rfl (Nat.le_of_ble_eq_true rfl) ?_
                              refine R2.B (ls2 := [some (.ref 48), some (.int (nI (n + 1))), some (.int (nI (at_ + 8))), some (.int (tat l (F 50) at_)), some (.int (prA l (F 50) (at_ + 2))), some (.int (prA l (F 50) (at_ + 4))), some (.int (prA l (F 50) (at_ + 6)))]) (st2 := [.int 59, .int (tat l (F 50) (at_ + 8))]) b_X11_reads_257_259 rfl (fun hd => ?_)
                              refine R2.icmp_eq 264 hd (by decide) (fun c259 => ?_) (fun c259 => ?_)
                              · refine R2.B (ls2 := [some (.ref 48), some (.int (nI (n + 1))), some (.int ((nI (at_ + 8)) + 1)), some (.int (tat l (F 50) at_)), some (.int (prA l (F 50) (at_ + 2))), some (.int (prA l (F 50) (at_ + 4))), some (.int (prA l (F 50) (at_ + 6)))]) (st2 := []) b_X11_reads_264_9 rfl (fun hd => ?_)
                                rw [show ((nI (at_ + 8)) + 1 : Int32) = nI ((at_ + 8) + 1) from nI_add (at_ + 8) 1]
                                have e : mrdL l (k + 1) n at_ F = mrdL l k (n + 1) (at_ + 8 + 1) (up2 (up2 (up2 (up2 F 52 n 1) 53 n ((tat l (F 50) (at_ + 1)) - 48)) 54 n (prA l (F 50) (at_ + 2))) 55 n ((32 * (prA l (F 50) (at_ + 6))) + (prA l (F 50) (at_ + 4)))) := by
                                  clear hd ih; simp only [mrdL, mSt, cKind] <;> grind
                                rw [e]
                                refine R2.forget (ls2 := [some (.ref 48), some (.int (nI (n + 1))), some (.int (nI (at_ + 8 + 1))), none, none, none, none]) ⟨rfl, ⟨rfl, ⟨rfl, trivial⟩⟩⟩ ?_
                                exact ih (n + 1) (at_ + 8 + 1) _ (by omega) (by clear hd ih; grind) (by omega) hlen
                              · refine R2.B (ls2 := [some (.ref 48), some (.int (nI (n + 1))), some (.int (nI (at_ + 8))), some (.int (tat l (F 50) at_)), some (.int (prA l (F 50) (at_ + 2))), some (.int (prA l (F 50) (at_ + 4))), some (.int (prA l (F 50) (at_ + 6)))]) (st2 := [.int (nI (at_ + 8))]) b_X11_reads_262_263 rfl (fun hd => ?_)
                                have e : mrdL l (k + 1) n at_ F = (nI (at_ + 8), (up2 (up2 (up2 (up2 F 52 n 1) 53 n ((tat l (F 50) (at_ + 1)) - 48)) 54 n (prA l (F 50) (at_ + 2))) 55 n ((32 * (prA l (F 50) (at_ + 6))) + (prA l (F 50) (at_ + 4))))) := by
                                  clear hd ih; simp only [mrdL, mSt, cKind] <;> grind
                                exact R2.ret3 (r := some (.int (nI (at_ + 8)))) hd trivial rfl (by rw [e]) (by rw [e])
                            · have nc241 : (at_ + 8) = l := (nI_eq (a := (at_ + 8)) (b := l) (by omega) (by omega)).mp c241
                              refine R2.B (ls2 := [some (.ref 48), some (.int (nI (n + 1))), some (.int (nI (at_ + 8))), some (.int (tat l (F 50) at_)), some (.int (prA l (F 50) (at_ + 2))), some (.int (prA l (F 50) (at_ + 4))), some (.int (prA l (F 50) (at_ + 6)))]) (st2 := [.int (nI (n + 1)), .ref 48]) b_X11_reads_244_246 rfl (fun hd => ?_)
                              refine R2.putf (a := 11) (b := 3) hd (by decide) (by decide) rfl rfl (fun _ => rfl) ?_
                              refine R2.B (ls2 := [some (.ref 48), some (.int (nI (n + 1))), some (.int (nI (at_ + 8))), some (.int (tat l (F 50) at_)), some (.int (prA l (F 50) (at_ + 2))), some (.int (prA l (F 50) (at_ + 4))), some (.int (prA l (F 50) (at_ + 6)))]) (st2 := [.int (-1)]) b_X11_reads_249_250 rfl (fun hd => ?_)
                              have e : mrdL l (k + 1) n at_ F = ((-1), (up2 (up2 (up2 (up2 (up2 F 52 n 1) 53 n ((tat l (F 50) (at_ + 1)) - 48)) 54 n (prA l (F 50) (at_ + 2))) 55 n ((32 * (prA l (F 50) (at_ + 6))) + (prA l (F 50) (at_ + 4)))) 48 3 (nI (n + 1)))) := by
                                clear hd ih; simp only [mrdL, mSt, cKind] <;> grind
                              exact R2.ret3 (r := some (.int (-1))) hd trivial rfl (by rw [e]) (by rw [e])
                        · refine R2.B (ls2 := [some (.ref 48), some (.int (nI n)), some (.int (nI at_)), some (.int (tat l (F 50) at_)), some (.int (prA l (F 50) (at_ + 2))), some (.int (prA l (F 50) (at_ + 4))), some (.int (prA l (F 50) (at_ + 6)))]) (st2 := [.int 0, .int (nI n), .ref 52]) b_X11_reads_173_188 rfl (fun hd => ?_)
                          refine R2.iast n rfl hd (by decide) rfl (fun _ => rfl) (by decide) (by omega) ?_
                          refine R2.B (ls2 := [some (.ref 48), some (.int (nI n)), some (.int (nI at_)), some (.int (tat l (F 50) at_)), some (.int (prA l (F 50) (at_ + 2))), some (.int (prA l (F 50) (at_ + 4))), some (.int (prA l (F 50) (at_ + 6)))]) (st2 := [.int ((nI at_) + 1), .int 0, .ref 48, .int (nI n), .ref 53]) b_X11_reads_189_199 rfl (fun hd => ?_)
                          rw [show ((nI at_) + 1 : Int32) = nI (at_ + 1) from nI_add at_ 1]
                          refine R2.callV3 (M2 := mX11_byteAt) (As := [.int 0, .int (nI (at_ + 1))]) (rest := [.int (nI n), .ref 53]) hd lk_11_105 okX11_byteAt (by decide) rfl (ev_byteAt0 E L (up2 F 52 n 0) l (at_ + 1) hlen hl (by omega)) (by decide) rfl rfl (Nat.le_of_ble_eq_true rfl) ?_
                          refine R2.B (ls2 := [some (.ref 48), some (.int (nI n)), some (.int (nI at_)), some (.int (tat l (F 50) at_)), some (.int (prA l (F 50) (at_ + 2))), some (.int (prA l (F 50) (at_ + 4))), some (.int (prA l (F 50) (at_ + 6)))]) (st2 := [.int ((tat l (F 50) (at_ + 1)) - 48), .int (nI n), .ref 53]) b_X11_reads_202_205 rfl (fun hd => ?_)
                          refine R2.iast n rfl hd (by decide) rfl (fun _ => rfl) (by decide) (by omega) ?_
                          refine R2.B (ls2 := [some (.ref 48), some (.int (nI n)), some (.int (nI at_)), some (.int (tat l (F 50) at_)), some (.int (prA l (F 50) (at_ + 2))), some (.int (prA l (F 50) (at_ + 4))), some (.int (prA l (F 50) (at_ + 6)))]) (st2 := [.int (prA l (F 50) (at_ + 2)), .int (nI n), .ref 54]) b_X11_reads_206_213 rfl (fun hd => ?_)
                          refine R2.iast n rfl hd (by decide) rfl (fun _ => rfl) (by decide) (by omega) ?_
                          refine R2.B (ls2 := [some (.ref 48), some (.int (nI n)), some (.int (nI at_)), some (.int (tat l (F 50) at_)), some (.int (prA l (F 50) (at_ + 2))), some (.int (prA l (F 50) (at_ + 4))), some (.int (prA l (F 50) (at_ + 6)))]) (st2 := [.int ((32 * (prA l (F 50) (at_ + 6))) + (prA l (F 50) (at_ + 4))), .int (nI n), .ref 55]) b_X11_reads_214_227 rfl (fun hd => ?_)
                          refine R2.iast n rfl hd (by decide) rfl (fun _ => rfl) (by decide) (by omega) ?_
                          refine R2.B (ls2 := [some (.ref 48), some (.int ((nI n) + 1)), some (.int ((nI at_) + 8)), some (.int (tat l (F 50) at_)), some (.int (prA l (F 50) (at_ + 2))), some (.int (prA l (F 50) (at_ + 4))), some (.int (prA l (F 50) (at_ + 6)))]) (st2 := [.int 0, .ref 49, .int ((nI at_) + 8)]) b_X11_reads_228_240 rfl (fun hd => ?_)
                          rw [show ((nI n) + 1 : Int32) = nI (n + 1) from nI_add n 1]
                          rw [show ((nI at_) + 8 : Int32) = nI (at_ + 8) from nI_add at_ 8]
                          refine R2.iald 0 rfl hd rfl (fun _ => rfl) (by decide) (by omega) ?_
                          refine R2.top (show (F 49 0 : Int32) = nI l from hlen) ?_
                          refine R2.B (ls2 := [some (.ref 48), some (.int (nI (n + 1))), some (.int (nI (at_ + 8))), some (.int (tat l (F 50) at_)), some (.int (prA l (F 50) (at_ + 2))), some (.int (prA l (F 50) (at_ + 4))), some (.int (prA l (F 50) (at_ + 6)))]) (st2 := [.int (nI l), .int (nI (at_ + 8))]) b_X11_reads_241_241 rfl (fun hd => ?_)
                          refine R2.icmp_ne 251 hd (by decide) (fun c241 => ?_) (fun c241 => ?_)
                          · have nc241 : ¬ (at_ + 8) = l := fun h9 => c241 ((nI_eq (a := (at_ + 8)) (b := l) (by omega) (by omega)).mpr h9)
                            refine R2.B (ls2 := [some (.ref 48), some (.int (nI (n + 1))), some (.int (nI (at_ + 8))), some (.int (tat l (F 50) at_)), some (.int (prA l (F 50) (at_ + 2))), some (.int (prA l (F 50) (at_ + 4))), some (.int (prA l (F 50) (at_ + 6)))]) (st2 := [.int (nI (at_ + 8)), .int 0, .ref 48]) b_X11_reads_251_254 rfl (fun hd => ?_)
                            refine R2.callV3 (M2 := mX11_byteAt) (As := [.int 0, .int (nI (at_ + 8))]) (rest := []) hd lk_11_105 okX11_byteAt (by decide) rfl (ev_byteAt0 E L (up2 (up2 (up2 (up2 F 52 n 0) 53 n ((tat l (F 50) (at_ + 1)) - 48)) 54 n (prA l (F 50) (at_ + 2))) 55 n ((32 * (prA l (F 50) (at_ + 6))) + (prA l (F 50) (at_ + 4)))) l (at_ + 8) hlen hl (by omega)) (by decide) rfl rfl (Nat.le_of_ble_eq_true rfl) ?_
                            refine R2.B (ls2 := [some (.ref 48), some (.int (nI (n + 1))), some (.int (nI (at_ + 8))), some (.int (tat l (F 50) at_)), some (.int (prA l (F 50) (at_ + 2))), some (.int (prA l (F 50) (at_ + 4))), some (.int (prA l (F 50) (at_ + 6)))]) (st2 := [.int 59, .int (tat l (F 50) (at_ + 8))]) b_X11_reads_257_259 rfl (fun hd => ?_)
                            refine R2.icmp_eq 264 hd (by decide) (fun c259 => ?_) (fun c259 => ?_)
                            · refine R2.B (ls2 := [some (.ref 48), some (.int (nI (n + 1))), some (.int ((nI (at_ + 8)) + 1)), some (.int (tat l (F 50) at_)), some (.int (prA l (F 50) (at_ + 2))), some (.int (prA l (F 50) (at_ + 4))), some (.int (prA l (F 50) (at_ + 6)))]) (st2 := []) b_X11_reads_264_9 rfl (fun hd => ?_)
                              rw [show ((nI (at_ + 8)) + 1 : Int32) = nI ((at_ + 8) + 1) from nI_add (at_ + 8) 1]
                              have e : mrdL l (k + 1) n at_ F = mrdL l k (n + 1) (at_ + 8 + 1) (up2 (up2 (up2 (up2 F 52 n 0) 53 n ((tat l (F 50) (at_ + 1)) - 48)) 54 n (prA l (F 50) (at_ + 2))) 55 n ((32 * (prA l (F 50) (at_ + 6))) + (prA l (F 50) (at_ + 4)))) := by
                                clear hd ih; simp only [mrdL, mSt, cKind] <;> grind
                              rw [e]
                              refine R2.forget (ls2 := [some (.ref 48), some (.int (nI (n + 1))), some (.int (nI (at_ + 8 + 1))), none, none, none, none]) ⟨rfl, ⟨rfl, ⟨rfl, trivial⟩⟩⟩ ?_
                              exact ih (n + 1) (at_ + 8 + 1) _ (by omega) (by clear hd ih; grind) (by omega) hlen
                            · refine R2.B (ls2 := [some (.ref 48), some (.int (nI (n + 1))), some (.int (nI (at_ + 8))), some (.int (tat l (F 50) at_)), some (.int (prA l (F 50) (at_ + 2))), some (.int (prA l (F 50) (at_ + 4))), some (.int (prA l (F 50) (at_ + 6)))]) (st2 := [.int (nI (at_ + 8))]) b_X11_reads_262_263 rfl (fun hd => ?_)
                              have e : mrdL l (k + 1) n at_ F = (nI (at_ + 8), (up2 (up2 (up2 (up2 F 52 n 0) 53 n ((tat l (F 50) (at_ + 1)) - 48)) 54 n (prA l (F 50) (at_ + 2))) 55 n ((32 * (prA l (F 50) (at_ + 6))) + (prA l (F 50) (at_ + 4))))) := by
                                clear hd ih; simp only [mrdL, mSt, cKind] <;> grind
                              exact R2.ret3 (r := some (.int (nI (at_ + 8)))) hd trivial rfl (by rw [e]) (by rw [e])
                          · have nc241 : (at_ + 8) = l := (nI_eq (a := (at_ + 8)) (b := l) (by omega) (by omega)).mp c241
                            refine R2.B (ls2 := [some (.ref 48), some (.int (nI (n + 1))), some (.int (nI (at_ + 8))), some (.int (tat l (F 50) at_)), some (.int (prA l (F 50) (at_ + 2))), some (.int (prA l (F 50) (at_ + 4))), some (.int (prA l (F 50) (at_ + 6)))]) (st2 := [.int (nI (n + 1)), .ref 48]) b_X11_reads_244_246 rfl (fun hd => ?_)
                            refine R2.putf (a := 11) (b := 3) hd (by decide) (by decide) rfl rfl (fun _ => rfl) ?_
                            refine R2.B (ls2 := [some (.ref 48), some (.int (nI (n + 1))), some (.int (nI (at_ + 8))), some (.int (tat l (F 50) at_)), some (.int (prA l (F 50) (at_ + 2))), some (.int (prA l (F 50) (at_ + 4))), some (.int (prA l (F 50) (at_ + 6)))]) (st2 := [.int (-1)]) b_X11_reads_249_250 rfl (fun hd => ?_)
                            have e : mrdL l (k + 1) n at_ F = ((-1), (up2 (up2 (up2 (up2 (up2 F 52 n 0) 53 n ((tat l (F 50) (at_ + 1)) - 48)) 54 n (prA l (F 50) (at_ + 2))) 55 n ((32 * (prA l (F 50) (at_ + 6))) + (prA l (F 50) (at_ + 4)))) 48 3 (nI (n + 1)))) := by
                              clear hd ih; simp only [mrdL, mSt, cKind] <;> grind
                            exact R2.ret3 (r := some (.int (-1))) hd trivial rfl (by rw [e]) (by rw [e])
                      · refine R2.B (ls2 := [some (.ref 48), some (.int (nI n)), some (.int (nI at_)), some (.int (tat l (F 50) at_)), some (.int (prA l (F 50) (at_ + 2))), some (.int (prA l (F 50) (at_ + 4))), some (.int (prA l (F 50) (at_ + 6)))]) (st2 := [.int ((nI at_) + 6)]) b_X11_reads_157_161 rfl (fun hd => ?_)
                        rw [show ((nI at_) + 6 : Int32) = nI (at_ + 6) from nI_add at_ 6]
                        have e : mrdL l (k + 1) n at_ F = (nI (at_ + 6), F) := by
                          clear hd ih; simp only [mrdL, mSt, cKind] <;> grind
                        exact R2.ret3 (r := some (.int (nI (at_ + 6)))) hd trivial rfl (by rw [e]) (by rw [e])
                    · refine R2.B (ls2 := [some (.ref 48), some (.int (nI n)), some (.int (nI at_)), some (.int (tat l (F 50) at_)), some (.int (prA l (F 50) (at_ + 2))), some (.int (prA l (F 50) (at_ + 4))), some (.int (prA l (F 50) (at_ + 6)))]) (st2 := [.int ((-2) - (prA l (F 50) (at_ + 6)))]) b_X11_reads_144_149 rfl (fun hd => ?_)
                      have e : mrdL l (k + 1) n at_ F = ((-2) - (prA l (F 50) (at_ + 6)), F) := by
                        clear hd ih; simp only [mrdL, mSt, cKind] <;> grind
                      exact R2.ret3 (r := some (.int ((-2) - (prA l (F 50) (at_ + 6))))) hd trivial rfl (by rw [e]) (by rw [e])
                  · refine R2.B (ls2 := [some (.ref 48), some (.int (nI n)), some (.int (nI at_)), some (.int (tat l (F 50) at_)), some (.int (prA l (F 50) (at_ + 2))), some (.int (prA l (F 50) (at_ + 4))), none]) (st2 := [.int ((nI at_) + 4)]) b_X11_reads_125_128 rfl (fun hd => ?_)
                    rw [show ((nI at_) + 4 : Int32) = nI (at_ + 4) from nI_add at_ 4]
                    have e : mrdL l (k + 1) n at_ F = (nI (at_ + 4), F) := by
                      clear hd ih; simp only [mrdL, mSt, cKind] <;> grind
                    exact R2.ret3 (r := some (.int (nI (at_ + 4)))) hd trivial rfl (by rw [e]) (by rw [e])
                · refine R2.B (ls2 := [some (.ref 48), some (.int (nI n)), some (.int (nI at_)), some (.int (tat l (F 50) at_)), some (.int (prA l (F 50) (at_ + 2))), some (.int (prA l (F 50) (at_ + 4))), none]) (st2 := [.int ((-2) - (prA l (F 50) (at_ + 4)))]) b_X11_reads_112_117 rfl (fun hd => ?_)
                  have e : mrdL l (k + 1) n at_ F = ((-2) - (prA l (F 50) (at_ + 4)), F) := by
                    clear hd ih; simp only [mrdL, mSt, cKind] <;> grind
                  exact R2.ret3 (r := some (.int ((-2) - (prA l (F 50) (at_ + 4))))) hd trivial rfl (by rw [e]) (by rw [e])
              · refine R2.B (ls2 := [some (.ref 48), some (.int (nI n)), some (.int (nI at_)), some (.int (tat l (F 50) at_)), some (.int (prA l (F 50) (at_ + 2))), none, none]) (st2 := [.int ((-2) - (prA l (F 50) (at_ + 2)))]) b_X11_reads_92_97 rfl (fun hd => ?_)
                have e : mrdL l (k + 1) n at_ F = ((-2) - (prA l (F 50) (at_ + 2)), F) := by
                  clear hd ih; simp only [mrdL, mSt, cKind] <;> grind
                exact R2.ret3 (r := some (.int ((-2) - (prA l (F 50) (at_ + 2))))) hd trivial rfl (by rw [e]) (by rw [e])
            · have nc71 : ¬ (48 ≤ (tat l (F 50) (at_ + 1)) ∧ (tat l (F 50) (at_ + 1)) ≤ 51) := b2i_zero.mp c71
              refine R2.B (ls2 := [some (.ref 48), some (.int (nI n)), some (.int (nI at_)), some (.int (tat l (F 50) at_)), none, none, none]) (st2 := [.int ((nI at_) + 1)]) b_X11_reads_74_77 rfl (fun hd => ?_)
              rw [show ((nI at_) + 1 : Int32) = nI (at_ + 1) from nI_add at_ 1]
              have e : mrdL l (k + 1) n at_ F = (nI (at_ + 1), F) := by
                clear hd ih; simp only [mrdL, mSt, cKind] <;> grind
              exact R2.ret3 (r := some (.int (nI (at_ + 1)))) hd trivial rfl (by rw [e]) (by rw [e])
          · refine R2.B (ls2 := [some (.ref 48), some (.int (nI n)), some (.int (nI at_)), some (.int (tat l (F 50) at_)), none, none, none]) (st2 := [.int 110, .int (tat l (F 50) at_)]) b_X11_reads_48_51 rfl (fun hd => ?_)
            refine R2.icmp_eq 56 hd (by decide) (fun c51 => ?_) (fun c51 => ?_)
            · refine R2.B (ls2 := [some (.ref 48), some (.int (nI n)), some (.int (nI at_)), some (.int (tat l (F 50) at_)), none, none, none]) (st2 := [.int ((nI at_) + 1), .int 0, .ref 48]) b_X11_reads_56_61 rfl (fun hd => ?_)
              rw [show ((nI at_) + 1 : Int32) = nI (at_ + 1) from nI_add at_ 1]
              refine R2.callV3 (M2 := mX11_byteAt) (As := [.int 0, .int (nI (at_ + 1))]) (rest := []) hd lk_11_105 okX11_byteAt (by decide) rfl (ev_byteAt0 E L F l (at_ + 1) hlen hl (by omega)) (by decide) rfl rfl (Nat.le_of_ble_eq_true rfl) ?_
              refine R2.B (ls2 := [some (.ref 48), some (.int (nI n)), some (.int (nI at_)), some (.int (tat l (F 50) at_)), none, none, none]) (st2 := [.int 51, .int 48, .int (tat l (F 50) (at_ + 1))]) b_X11_reads_64_68 rfl (fun hd => ?_)
              refine R2.callS3 (M2 := mX11_in) (As := [.int (tat l (F 50) (at_ + 1)), .int 48, .int 51]) (rest := []) hd lk_11_86 okX11_in (by decide) (ev_in E L F (tat l (F 50) (at_ + 1)) 48 51) (by decide) rfl rfl (Nat.le_of_ble_eq_true rfl) ?_
              refine R2.B (ls2 := [some (.ref 48), some (.int (nI n)), some (.int (nI at_)), some (.int (tat l (F 50) at_)), none, none, none]) (st2 := [.int (b2i (48 ≤ (tat l (F 50) (at_ + 1)) ∧ (tat l (F 50) (at_ + 1)) ≤ 51))]) b_X11_reads_71_71 rfl (fun hd => ?_)
              refine R2.if_ne 78 hd (by decide) (fun c71 => ?_) (fun c71 => ?_)
              · have nc71 : 48 ≤ (tat l (F 50) (at_ + 1)) ∧ (tat l (F 50) (at_ + 1)) ≤ 51 := b2i_nz.mp c71
                refine R2.B (ls2 := [some (.ref 48), some (.int (nI n)), some (.int (nI at_)), some (.int (tat l (F 50) at_)), none, none, none]) (st2 := [.int ((nI at_) + 2), .ref 48]) b_X11_reads_78_82 rfl (fun hd => ?_)
                rw [show ((nI at_) + 2 : Int32) = nI (at_ + 2) from nI_add at_ 2]
                refine R2.callV3 (M2 := mX11_pairAt) (As := [.int (nI (at_ + 2))]) (rest := []) hd lk_11_113 okX11_pairAt (by decide) rfl (ev_pairAt E L F l (at_ + 2) hlen hl (by omega)) (by decide) rfl rfl (Nat.le_of_ble_eq_true rfl) ?_
                refine R2.B (ls2 := [some (.ref 48), some (.int (nI n)), some (.int (nI at_)), some (.int (tat l (F 50) at_)), some (.int (prA l (F 50) (at_ + 2))), none, none]) (st2 := [.int (prA l (F 50) (at_ + 2))]) b_X11_reads_85_89 rfl (fun hd => ?_)
                refine R2.if_ge 98 hd (by decide) (fun c89 => ?_) (fun c89 => ?_)
                · refine R2.B (ls2 := [some (.ref 48), some (.int (nI n)), some (.int (nI at_)), some (.int (tat l (F 50) at_)), some (.int (prA l (F 50) (at_ + 2))), none, none]) (st2 := [.int ((nI at_) + 4), .ref 48]) b_X11_reads_98_102 rfl (fun hd => ?_)
                  rw [show ((nI at_) + 4 : Int32) = nI (at_ + 4) from nI_add at_ 4]
                  refine R2.callV3 (M2 := mX11_pairAt) (As := [.int (nI (at_ + 4))]) (rest := []) hd lk_11_113 okX11_pairAt (by decide) rfl (ev_pairAt E L F l (at_ + 4) hlen hl (by omega)) (by decide) rfl rfl (Nat.le_of_ble_eq_true rfl) ?_
                  refine R2.B (ls2 := [some (.ref 48), some (.int (nI n)), some (.int (nI at_)), some (.int (tat l (F 50) at_)), some (.int (prA l (F 50) (at_ + 2))), some (.int (prA l (F 50) (at_ + 4))), none]) (st2 := [.int (prA l (F 50) (at_ + 4))]) b_X11_reads_105_109 rfl (fun hd => ?_)
                  refine R2.if_ge 118 hd (by decide) (fun c109 => ?_) (fun c109 => ?_)
                  · refine R2.B (ls2 := [some (.ref 48), some (.int (nI n)), some (.int (nI at_)), some (.int (tat l (F 50) at_)), some (.int (prA l (F 50) (at_ + 2))), some (.int (prA l (F 50) (at_ + 4))), none]) (st2 := [.int 31, .int (prA l (F 50) (at_ + 4))]) b_X11_reads_118_122 rfl (fun hd => ?_)
                    refine R2.icmp_le 129 hd (by decide) (fun c122 => ?_) (fun c122 => ?_)
                    · refine R2.B (ls2 := [some (.ref 48), some (.int (nI n)), some (.int (nI at_)), some (.int (tat l (F 50) at_)), some (.int (prA l (F 50) (at_ + 2))), some (.int (prA l (F 50) (at_ + 4))), none]) (st2 := [.int ((nI at_) + 6), .ref 48]) b_X11_reads_129_134 rfl (fun hd => ?_)
                      rw [show ((nI at_) + 6 : Int32) = nI (at_ + 6) from nI_add at_ 6]
                      refine R2.callV3 (M2 := mX11_pairAt) (As := [.int (nI (at_ + 6))]) (rest := []) hd lk_11_113 okX11_pairAt (by decide) rfl (ev_pairAt E L F l (at_ + 6) hlen hl (by omega)) (by decide) rfl rfl (Nat.le_of_ble_eq_true rfl) ?_
                      refine R2.B (ls2 := [some (.ref 48), some (.int (nI n)), some (.int (nI at_)), some (.int (tat l (F 50) at_)), some (.int (prA l (F 50) (at_ + 2))), some (.int (prA l (F 50) (at_ + 4))), some (.int (prA l (F 50) (at_ + 6)))]) (st2 := [.int (prA l (F 50) (at_ + 6))]) b_X11_reads_137_141 rfl (fun hd => ?_)
                      refine R2.if_ge 150 hd (by decide) (fun c141 => ?_) (fun c141 => ?_)
                      · refine R2.B (ls2 := [some (.ref 48), some (.int (nI n)), some (.int (nI at_)), some (.int (tat l (F 50) at_)), some (.int (prA l (F 50) (at_ + 2))), some (.int (prA l (F 50) (at_ + 4))), some (.int (prA l (F 50) (at_ + 6)))]) (st2 := [.int 31, .int (prA l (F 50) (at_ + 6))]) b_X11_reads_150_154 rfl (fun hd => ?_)
                        refine R2.icmp_le 162 hd (by decide) (fun c154 => ?_) (fun c154 => ?_)
                        · refine R2.B (ls2 := [some (.ref 48), some (.int (nI n)), some (.int (nI at_)), some (.int (tat l (F 50) at_)), some (.int (prA l (F 50) (at_ + 2))), some (.int (prA l (F 50) (at_ + 4))), some (.int (prA l (F 50) (at_ + 6)))]) (st2 := [.int 115, .int (tat l (F 50) at_), .int (nI n), .ref 52]) b_X11_reads_162_170 rfl (fun hd => ?_)
                          refine R2.icmp_ne 177 hd (by decide) (fun c170 => ?_) (fun c170 => ?_)
                          · refine R2.B (ls2 := [some (.ref 48), some (.int (nI n)), some (.int (nI at_)), some (.int (tat l (F 50) at_)), some (.int (prA l (F 50) (at_ + 2))), some (.int (prA l (F 50) (at_ + 4))), some (.int (prA l (F 50) (at_ + 6)))]) (st2 := [.int 98, .int (tat l (F 50) at_), .int (nI n), .ref 52]) b_X11_reads_177_180 rfl (fun hd => ?_)
                            refine R2.icmp_ne 187 hd (by decide) (fun c180 => ?_) (fun c180 => ?_)
                            · refine R2.B (ls2 := [some (.ref 48), some (.int (nI n)), some (.int (nI at_)), some (.int (tat l (F 50) at_)), some (.int (prA l (F 50) (at_ + 2))), some (.int (prA l (F 50) (at_ + 4))), some (.int (prA l (F 50) (at_ + 6)))]) (st2 := [.int 2, .int (nI n), .ref 52]) b_X11_reads_187_188 rfl (fun hd => ?_)
                              refine R2.iast n rfl hd (by decide) rfl (fun _ => rfl) (by decide) (by omega) ?_
                              refine R2.B (ls2 := [some (.ref 48), some (.int (nI n)), some (.int (nI at_)), some (.int (tat l (F 50) at_)), some (.int (prA l (F 50) (at_ + 2))), some (.int (prA l (F 50) (at_ + 4))), some (.int (prA l (F 50) (at_ + 6)))]) (st2 := [.int ((nI at_) + 1), .int 0, .ref 48, .int (nI n), .ref 53]) b_X11_reads_189_199 rfl (fun hd => ?_)
                              rw [show ((nI at_) + 1 : Int32) = nI (at_ + 1) from nI_add at_ 1]
                              refine R2.callV3 (M2 := mX11_byteAt) (As := [.int 0, .int (nI (at_ + 1))]) (rest := [.int (nI n), .ref 53]) hd lk_11_105 okX11_byteAt (by decide) rfl (ev_byteAt0 E L (up2 F 52 n 2) l (at_ + 1) hlen hl (by omega)) (by decide) rfl rfl (Nat.le_of_ble_eq_true rfl) ?_
                              refine R2.B (ls2 := [some (.ref 48), some (.int (nI n)), some (.int (nI at_)), some (.int (tat l (F 50) at_)), some (.int (prA l (F 50) (at_ + 2))), some (.int (prA l (F 50) (at_ + 4))), some (.int (prA l (F 50) (at_ + 6)))]) (st2 := [.int ((tat l (F 50) (at_ + 1)) - 48), .int (nI n), .ref 53]) b_X11_reads_202_205 rfl (fun hd => ?_)
                              refine R2.iast n rfl hd (by decide) rfl (fun _ => rfl) (by decide) (by omega) ?_
                              refine R2.B (ls2 := [some (.ref 48), some (.int (nI n)), some (.int (nI at_)), some (.int (tat l (F 50) at_)), some (.int (prA l (F 50) (at_ + 2))), some (.int (prA l (F 50) (at_ + 4))), some (.int (prA l (F 50) (at_ + 6)))]) (st2 := [.int (prA l (F 50) (at_ + 2)), .int (nI n), .ref 54]) b_X11_reads_206_213 rfl (fun hd => ?_)
                              refine R2.iast n rfl hd (by decide) rfl (fun _ => rfl) (by decide) (by omega) ?_
                              refine R2.B (ls2 := [some (.ref 48), some (.int (nI n)), some (.int (nI at_)), some (.int (tat l (F 50) at_)), some (.int (prA l (F 50) (at_ + 2))), some (.int (prA l (F 50) (at_ + 4))), some (.int (prA l (F 50) (at_ + 6)))]) (st2 := [.int ((32 * (prA l (F 50) (at_ + 6))) + (prA l (F 50) (at_ + 4))), .int (nI n), .ref 55]) b_X11_reads_214_227 rfl (fun hd => ?_)
                              refine R2.iast n rfl hd (by decide) rfl (fun _ => rfl) (by decide) (by omega) ?_
                              refine R2.B (ls2 := [some (.ref 48), some (.int ((nI n) + 1)), some (.int ((nI at_) + 8)), some (.int (tat l (F 50) at_)), some (.int (prA l (F 50) (at_ + 2))), some (.int (prA l (F 50) (at_ + 4))), some (.int (prA l (F 50) (at_ + 6)))]) (st2 := [.int 0, .ref 49, .int ((nI at_) + 8)]) b_X11_reads_228_240 rfl (fun hd => ?_)
                              rw [show ((nI n) + 1 : Int32) = nI (n + 1) from nI_add n 1]
                              rw [show ((nI at_) + 8 : Int32) = nI (at_ + 8) from nI_add at_ 8]
                              refine R2.iald 0 rfl hd rfl (fun _ => rfl) (by decide) (by omega) ?_
                              refine R2.top (show (F 49 0 : Int32) = nI l from hlen) ?_
                              refine R2.B (ls2 := [some (.ref 48), some (.int (nI (n + 1))), some (.int (nI (at_ + 8))), some (.int (tat l (F 50) at_)), some (.int (prA l (F 50) (at_ + 2))), some (.int (prA l (F 50) (at_ + 4))), some (.int (prA l (F 50) (at_ + 6)))]) (st2 := [.int (nI l), .int (nI (at_ + 8))]) b_X11_reads_241_241 rfl (fun hd => ?_)
                              refine R2.icmp_ne 251 hd (by decide) (fun c241 => ?_) (fun c241 => ?_)
                              · have nc241 : ¬ (at_ + 8) = l := fun h9 => c241 ((nI_eq (a := (at_ + 8)) (b := l) (by omega) (by omega)).mpr h9)
                                refine R2.B (ls2 := [some (.ref 48), some (.int (nI (n + 1))), some (.int (nI (at_ + 8))), some (.int (tat l (F 50) at_)), some (.int (prA l (F 50) (at_ + 2))), some (.int (prA l (F 50) (at_ + 4))), some (.int (prA l (F 50) (at_ + 6)))]) (st2 := [.int (nI (at_ + 8)), .int 0, .ref 48]) b_X11_reads_251_254 rfl (fun hd => ?_)
                                refine R2.callV3 (M2 := mX11_byteAt) (As := [.int 0, .int (nI (at_ + 8))]) (rest := []) hd lk_11_105 okX11_byteAt (by decide) rfl (ev_byteAt0 E L (up2 (up2 (up2 (up2 F 52 n 2) 53 n ((tat l (F 50) (at_ + 1)) - 48)) 54 n (prA l (F 50) (at_ + 2))) 55 n ((32 * (prA l (F 50) (at_ + 6))) + (prA l (F 50) (at_ + 4)))) l (at_ + 8) hlen hl (by omega)) (by decide) rfl rfl (Nat.le_of_ble_eq_true rfl) ?_
                                refine R2.B (ls2 := [some (.ref 48), some (.int (nI (n + 1))), some (.int (nI (at_ + 8))), some (.int (tat l (F 50) at_)), some (.int (prA l (F 50) (at_ + 2))), some (.int (prA l (F 50) (at_ + 4))), some (.int (prA l (F 50) (at_ + 6)))]) (st2 := [.int 59, .int (tat l (F 50) (at_ + 8))]) b_X11_reads_257_259 rfl (fun hd => ?_)
                                refine R2.icmp_eq 264 hd (by decide) (fun c259 => ?_) (fun c259 => ?_)
                                · refine R2.B (ls2 := [some (.ref 48), some (.int (nI (n + 1))), some (.int ((nI (at_ + 8)) + 1)), some (.int (tat l (F 50) at_)), some (.int (prA l (F 50) (at_ + 2))), some (.int (prA l (F 50) (at_ + 4))), some (.int (prA l (F 50) (at_ + 6)))]) (st2 := []) b_X11_reads_264_9 rfl (fun hd => ?_)
                                  rw [show ((nI (at_ + 8)) + 1 : Int32) = nI ((at_ + 8) + 1) from nI_add (at_ + 8) 1]
                                  have e : mrdL l (k + 1) n at_ F = mrdL l k (n + 1) (at_ + 8 + 1) (up2 (up2 (up2 (up2 F 52 n 2) 53 n ((tat l (F 50) (at_ + 1)) - 48)) 54 n (prA l (F 50) (at_ + 2))) 55 n ((32 * (prA l (F 50) (at_ + 6))) + (prA l (F 50) (at_ + 4)))) := by
                                    clear hd ih; simp only [mrdL, mSt, cKind] <;> grind
                                  rw [e]
                                  refine R2.forget (ls2 := [some (.ref 48), some (.int (nI (n + 1))), some (.int (nI (at_ + 8 + 1))), none, none, none, none]) ⟨rfl, ⟨rfl, ⟨rfl, trivial⟩⟩⟩ ?_
                                  exact ih (n + 1) (at_ + 8 + 1) _ (by omega) (by clear hd ih; grind) (by omega) hlen
                                · refine R2.B (ls2 := [some (.ref 48), some (.int (nI (n + 1))), some (.int (nI (at_ + 8))), some (.int (tat l (F 50) at_)), some (.int (prA l (F 50) (at_ + 2))), some (.int (prA l (F 50) (at_ + 4))), some (.int (prA l (F 50) (at_ + 6)))]) (st2 := [.int (nI (at_ + 8))]) b_X11_reads_262_263 rfl (fun hd => ?_)
                                  have e : mrdL l (k + 1) n at_ F = (nI (at_ + 8), (up2 (up2 (up2 (up2 F 52 n 2) 53 n ((tat l (F 50) (at_ + 1)) - 48)) 54 n (prA l (F 50) (at_ + 2))) 55 n ((32 * (prA l (F 50) (at_ + 6))) + (prA l (F 50) (at_ + 4))))) := by
                                    clear hd ih; simp only [mrdL, mSt, cKind] <;> grind
                                  exact R2.ret3 (r := some (.int (nI (at_ + 8)))) hd trivial rfl (by rw [e]) (by rw [e])
                              · have nc241 : (at_ + 8) = l := (nI_eq (a := (at_ + 8)) (b := l) (by omega) (by omega)).mp c241
                                refine R2.B (ls2 := [some (.ref 48), some (.int (nI (n + 1))), some (.int (nI (at_ + 8))), some (.int (tat l (F 50) at_)), some (.int (prA l (F 50) (at_ + 2))), some (.int (prA l (F 50) (at_ + 4))), some (.int (prA l (F 50) (at_ + 6)))]) (st2 := [.int (nI (n + 1)), .ref 48]) b_X11_reads_244_246 rfl (fun hd => ?_)
                                refine R2.putf (a := 11) (b := 3) hd (by decide) (by decide) rfl rfl (fun _ => rfl) ?_
                                refine R2.B (ls2 := [some (.ref 48), some (.int (nI (n + 1))), some (.int (nI (at_ + 8))), some (.int (tat l (F 50) at_)), some (.int (prA l (F 50) (at_ + 2))), some (.int (prA l (F 50) (at_ + 4))), some (.int (prA l (F 50) (at_ + 6)))]) (st2 := [.int (-1)]) b_X11_reads_249_250 rfl (fun hd => ?_)
                                have e : mrdL l (k + 1) n at_ F = ((-1), (up2 (up2 (up2 (up2 (up2 F 52 n 2) 53 n ((tat l (F 50) (at_ + 1)) - 48)) 54 n (prA l (F 50) (at_ + 2))) 55 n ((32 * (prA l (F 50) (at_ + 6))) + (prA l (F 50) (at_ + 4)))) 48 3 (nI (n + 1)))) := by
                                  clear hd ih; simp only [mrdL, mSt, cKind] <;> grind
                                exact R2.ret3 (r := some (.int (-1))) hd trivial rfl (by rw [e]) (by rw [e])
                            · refine R2.B (ls2 := [some (.ref 48), some (.int (nI n)), some (.int (nI at_)), some (.int (tat l (F 50) at_)), some (.int (prA l (F 50) (at_ + 2))), some (.int (prA l (F 50) (at_ + 4))), some (.int (prA l (F 50) (at_ + 6)))]) (st2 := [.int 1, .int (nI n), .ref 52]) b_X11_reads_183_188 rfl (fun hd => ?_)
                              refine R2.iast n rfl hd (by decide) rfl (fun _ => rfl) (by decide) (by omega) ?_
                              refine R2.B (ls2 := [some (.ref 48), some (.int (nI n)), some (.int (nI at_)), some (.int (tat l (F 50) at_)), some (.int (prA l (F 50) (at_ + 2))), some (.int (prA l (F 50) (at_ + 4))), some (.int (prA l (F 50) (at_ + 6)))]) (st2 := [.int ((nI at_) + 1), .int 0, .ref 48, .int (nI n), .ref 53]) b_X11_reads_189_199 rfl (fun hd => ?_)
                              rw [show ((nI at_) + 1 : Int32) = nI (at_ + 1) from nI_add at_ 1]
                              refine R2.callV3 (M2 := mX11_byteAt) (As := [.int 0, .int (nI (at_ + 1))]) (rest := [.int (nI n), .ref 53]) hd lk_11_105 okX11_byteAt (by decide) rfl (ev_byteAt0 E L (up2 F 52 n 1) l (at_ + 1) hlen hl (by omega)) (by decide) rfl rfl (Nat.le_of_ble_eq_true rfl) ?_
                              refine R2.B (ls2 := [some (.ref 48), some (.int (nI n)), some (.int (nI at_)), some (.int (tat l (F 50) at_)), some (.int (prA l (F 50) (at_ + 2))), some (.int (prA l (F 50) (at_ + 4))), some (.int (prA l (F 50) (at_ + 6)))]) (st2 := [.int ((tat l (F 50) (at_ + 1)) - 48), .int (nI n), .ref 53]) b_X11_reads_202_205 rfl (fun hd => ?_)
                              refine R2.iast n rfl hd (by decide) rfl (fun _ => rfl) (by decide) (by omega) ?_
                              refine R2.B (ls2 := [some (.ref 48), some (.int (nI n)), some (.int (nI at_)), some (.int (tat l (F 50) at_)), some (.int (prA l (F 50) (at_ + 2))), some (.int (prA l (F 50) (at_ + 4))), some (.int (prA l (F 50) (at_ + 6)))]) (st2 := [.int (prA l (F 50) (at_ + 2)), .int (nI n), .ref 54]) b_X11_reads_206_213 rfl (fun hd => ?_)
                              refine R2.iast n rfl hd (by decide) rfl (fun _ => rfl) (by decide) (by omega) ?_
                              refine R2.B (ls2 := [some (.ref 48), some (.int (nI n)), some (.int (nI at_)), some (.int (tat l (F 50) at_)), some (.int (prA l (F 50) (at_ + 2))), some (.int (prA l (F 50) (at_ + 4))), some (.int (prA l (F 50) (at_ + 6)))]) (st2 := [.int ((32 * (prA l (F 50) (at_ + 6))) + (prA l (F 50) (at_ + 4))), .int (nI n), .ref 55]) b_X11_reads_214_227 rfl (fun hd => ?_)
                              refine R2.iast n rfl hd (by decide) rfl (fun _ => rfl) (by decide) (by omega) ?_
                              refine R2.B (ls2 := [some (.ref 48), some (.int ((nI n) + 1)), some (.int ((nI at_) + 8)), some (.int (tat l (F 50) at_)), some (.int (prA l (F 50) (at_ + 2))), some (.int (prA l (F 50) (at_ + 4))), some (.int (prA l (F 50) (at_ + 6)))]) (st2 := [.int 0, .ref 49, .int ((nI at_) + 8)]) b_X11_reads_228_240 rfl (fun hd => ?_)
                              rw [show ((nI n) + 1 : Int32) = nI (n + 1) from nI_add n 1]
                              rw [show ((nI at_) + 8 : Int32) = nI (at_ + 8) from nI_add at_ 8]
                              refine R2.iald 0 rfl hd rfl (fun _ => rfl) (by decide) (by omega) ?_
                              refine R2.top (show (F 49 0 : Int32) = nI l from hlen) ?_
                              refine R2.B (ls2 := [some (.ref 48), some (.int (nI (n + 1))), some (.int (nI (at_ + 8))), some (.int (tat l (F 50) at_)), some (.int (prA l (F 50) (at_ + 2))), some (.int (prA l (F 50) (at_ + 4))), some (.int (prA l (F 50) (at_ + 6)))]) (st2 := [.int (nI l), .int (nI (at_ + 8))]) b_X11_reads_241_241 rfl (fun hd => ?_)
                              refine R2.icmp_ne 251 hd (by decide) (fun c241 => ?_) (fun c241 => ?_)
                              · have nc241 : ¬ (at_ + 8) = l := fun h9 => c241 ((nI_eq (a := (at_ + 8)) (b := l) (by omega) (by omega)).mpr h9)
                                refine R2.B (ls2 := [some (.ref 48), some (.int (nI (n + 1))), some (.int (nI (at_ + 8))), some (.int (tat l (F 50) at_)), some (.int (prA l (F 50) (at_ + 2))), some (.int (prA l (F 50) (at_ + 4))), some (.int (prA l (F 50) (at_ + 6)))]) (st2 := [.int (nI (at_ + 8)), .int 0, .ref 48]) b_X11_reads_251_254 rfl (fun hd => ?_)
                                refine R2.callV3 (M2 := mX11_byteAt) (As := [.int 0, .int (nI (at_ + 8))]) (rest := []) hd lk_11_105 okX11_byteAt (by decide) rfl (ev_byteAt0 E L (up2 (up2 (up2 (up2 F 52 n 1) 53 n ((tat l (F 50) (at_ + 1)) - 48)) 54 n (prA l (F 50) (at_ + 2))) 55 n ((32 * (prA l (F 50) (at_ + 6))) + (prA l (F 50) (at_ + 4)))) l (at_ + 8) hlen hl (by omega)) (by decide) rfl rfl (Nat.le_of_ble_eq_true rfl) ?_
                                refine R2.B (ls2 := [some (.ref 48), some (.int (nI (n + 1))), some (.int (nI (at_ + 8))), some (.int (tat l (F 50) at_)), some (.int (prA l (F 50) (at_ + 2))), some (.int (prA l (F 50) (at_ + 4))), some (.int (prA l (F 50) (at_ + 6)))]) (st2 := [.int 59, .int (tat l (F 50) (at_ + 8))]) b_X11_reads_257_259 rfl (fun hd => ?_)
                                refine R2.icmp_eq 264 hd (by decide) (fun c259 => ?_) (fun c259 => ?_)
                                · refine R2.B (ls2 := [some (.ref 48), some (.int (nI (n + 1))), some (.int ((nI (at_ + 8)) + 1)), some (.int (tat l (F 50) at_)), some (.int (prA l (F 50) (at_ + 2))), some (.int (prA l (F 50) (at_ + 4))), some (.int (prA l (F 50) (at_ + 6)))]) (st2 := []) b_X11_reads_264_9 rfl (fun hd => ?_)
                                  rw [show ((nI (at_ + 8)) + 1 : Int32) = nI ((at_ + 8) + 1) from nI_add (at_ + 8) 1]
                                  have e : mrdL l (k + 1) n at_ F = mrdL l k (n + 1) (at_ + 8 + 1) (up2 (up2 (up2 (up2 F 52 n 1) 53 n ((tat l (F 50) (at_ + 1)) - 48)) 54 n (prA l (F 50) (at_ + 2))) 55 n ((32 * (prA l (F 50) (at_ + 6))) + (prA l (F 50) (at_ + 4)))) := by
                                    clear hd ih; simp only [mrdL, mSt, cKind] <;> grind
                                  rw [e]
                                  refine R2.forget (ls2 := [some (.ref 48), some (.int (nI (n + 1))), some (.int (nI (at_ + 8 + 1))), none, none, none, none]) ⟨rfl, ⟨rfl, ⟨rfl, trivial⟩⟩⟩ ?_
                                  exact ih (n + 1) (at_ + 8 + 1) _ (by omega) (by clear hd ih; grind) (by omega) hlen
                                · refine R2.B (ls2 := [some (.ref 48), some (.int (nI (n + 1))), some (.int (nI (at_ + 8))), some (.int (tat l (F 50) at_)), some (.int (prA l (F 50) (at_ + 2))), some (.int (prA l (F 50) (at_ + 4))), some (.int (prA l (F 50) (at_ + 6)))]) (st2 := [.int (nI (at_ + 8))]) b_X11_reads_262_263 rfl (fun hd => ?_)
                                  have e : mrdL l (k + 1) n at_ F = (nI (at_ + 8), (up2 (up2 (up2 (up2 F 52 n 1) 53 n ((tat l (F 50) (at_ + 1)) - 48)) 54 n (prA l (F 50) (at_ + 2))) 55 n ((32 * (prA l (F 50) (at_ + 6))) + (prA l (F 50) (at_ + 4))))) := by
                                    clear hd ih; simp only [mrdL, mSt, cKind] <;> grind
                                  exact R2.ret3 (r := some (.int (nI (at_ + 8)))) hd trivial rfl (by rw [e]) (by rw [e])
                              · have nc241 : (at_ + 8) = l := (nI_eq (a := (at_ + 8)) (b := l) (by omega) (by omega)).mp c241
                                refine R2.B (ls2 := [some (.ref 48), some (.int (nI (n + 1))), some (.int (nI (at_ + 8))), some (.int (tat l (F 50) at_)), some (.int (prA l (F 50) (at_ + 2))), some (.int (prA l (F 50) (at_ + 4))), some (.int (prA l (F 50) (at_ + 6)))]) (st2 := [.int (nI (n + 1)), .ref 48]) b_X11_reads_244_246 rfl (fun hd => ?_)
                                refine R2.putf (a := 11) (b := 3) hd (by decide) (by decide) rfl rfl (fun _ => rfl) ?_
                                refine R2.B (ls2 := [some (.ref 48), some (.int (nI (n + 1))), some (.int (nI (at_ + 8))), some (.int (tat l (F 50) at_)), some (.int (prA l (F 50) (at_ + 2))), some (.int (prA l (F 50) (at_ + 4))), some (.int (prA l (F 50) (at_ + 6)))]) (st2 := [.int (-1)]) b_X11_reads_249_250 rfl (fun hd => ?_)
                                have e : mrdL l (k + 1) n at_ F = ((-1), (up2 (up2 (up2 (up2 (up2 F 52 n 1) 53 n ((tat l (F 50) (at_ + 1)) - 48)) 54 n (prA l (F 50) (at_ + 2))) 55 n ((32 * (prA l (F 50) (at_ + 6))) + (prA l (F 50) (at_ + 4)))) 48 3 (nI (n + 1)))) := by
                                  clear hd ih; simp only [mrdL, mSt, cKind] <;> grind
                                exact R2.ret3 (r := some (.int (-1))) hd trivial rfl (by rw [e]) (by rw [e])
                          · refine R2.B (ls2 := [some (.ref 48), some (.int (nI n)), some (.int (nI at_)), some (.int (tat l (F 50) at_)), some (.int (prA l (F 50) (at_ + 2))), some (.int (prA l (F 50) (at_ + 4))), some (.int (prA l (F 50) (at_ + 6)))]) (st2 := [.int 0, .int (nI n), .ref 52]) b_X11_reads_173_188 rfl (fun hd => ?_)
                            refine R2.iast n rfl hd (by decide) rfl (fun _ => rfl) (by decide) (by omega) ?_
                            refine R2.B (ls2 := [some (.ref 48), some (.int (nI n)), some (.int (nI at_)), some (.int (tat l (F 50) at_)), some (.int (prA l (F 50) (at_ + 2))), some (.int (prA l (F 50) (at_ + 4))), some (.int (prA l (F 50) (at_ + 6)))]) (st2 := [.int ((nI at_) + 1), .int 0, .ref 48, .int (nI n), .ref 53]) b_X11_reads_189_199 rfl (fun hd => ?_)
                            rw [show ((nI at_) + 1 : Int32) = nI (at_ + 1) from nI_add at_ 1]
                            refine R2.callV3 (M2 := mX11_byteAt) (As := [.int 0, .int (nI (at_ + 1))]) (rest := [.int (nI n), .ref 53]) hd lk_11_105 okX11_byteAt (by decide) rfl (ev_byteAt0 E L (up2 F 52 n 0) l (at_ + 1) hlen hl (by omega)) (by decide) rfl rfl (Nat.le_of_ble_eq_true rfl) ?_
                            refine R2.B (ls2 := [some (.ref 48), some (.int (nI n)), some (.int (nI at_)), some (.int (tat l (F 50) at_)), some (.int (prA l (F 50) (at_ + 2))), some (.int (prA l (F 50) (at_ + 4))), some (.int (prA l (F 50) (at_ + 6)))]) (st2 := [.int ((tat l (F 50) (at_ + 1)) - 48), .int (nI n), .ref 53]) b_X11_reads_202_205 rfl (fun hd => ?_)
                            refine R2.iast n rfl hd (by decide) rfl (fun _ => rfl) (by decide) (by omega) ?_
                            refine R2.B (ls2 := [some (.ref 48), some (.int (nI n)), some (.int (nI at_)), some (.int (tat l (F 50) at_)), some (.int (prA l (F 50) (at_ + 2))), some (.int (prA l (F 50) (at_ + 4))), some (.int (prA l (F 50) (at_ + 6)))]) (st2 := [.int (prA l (F 50) (at_ + 2)), .int (nI n), .ref 54]) b_X11_reads_206_213 rfl (fun hd => ?_)
                            refine R2.iast n rfl hd (by decide) rfl (fun _ => rfl) (by decide) (by omega) ?_
                            refine R2.B (ls2 := [some (.ref 48), some (.int (nI n)), some (.int (nI at_)), some (.int (tat l (F 50) at_)), some (.int (prA l (F 50) (at_ + 2))), some (.int (prA l (F 50) (at_ + 4))), some (.int (prA l (F 50) (at_ + 6)))]) (st2 := [.int ((32 * (prA l (F 50) (at_ + 6))) + (prA l (F 50) (at_ + 4))), .int (nI n), .ref 55]) b_X11_reads_214_227 rfl (fun hd => ?_)
                            refine R2.iast n rfl hd (by decide) rfl (fun _ => rfl) (by decide) (by omega) ?_
                            refine R2.B (ls2 := [some (.ref 48), some (.int ((nI n) + 1)), some (.int ((nI at_) + 8)), some (.int (tat l (F 50) at_)), some (.int (prA l (F 50) (at_ + 2))), some (.int (prA l (F 50) (at_ + 4))), some (.int (prA l (F 50) (at_ + 6)))]) (st2 := [.int 0, .ref 49, .int ((nI at_) + 8)]) b_X11_reads_228_240 rfl (fun hd => ?_)
                            rw [show ((nI n) + 1 : Int32) = nI (n + 1) from nI_add n 1]
                            rw [show ((nI at_) + 8 : Int32) = nI (at_ + 8) from nI_add at_ 8]
                            refine R2.iald 0 rfl hd rfl (fun _ => rfl) (by decide) (by omega) ?_
                            refine R2.top (show (F 49 0 : Int32) = nI l from hlen) ?_
                            refine R2.B (ls2 := [some (.ref 48), some (.int (nI (n + 1))), some (.int (nI (at_ + 8))), some (.int (tat l (F 50) at_)), some (.int (prA l (F 50) (at_ + 2))), some (.int (prA l (F 50) (at_ + 4))), some (.int (prA l (F 50) (at_ + 6)))]) (st2 := [.int (nI l), .int (nI (at_ + 8))]) b_X11_reads_241_241 rfl (fun hd => ?_)
                            refine R2.icmp_ne 251 hd (by decide) (fun c241 => ?_) (fun c241 => ?_)
                            · have nc241 : ¬ (at_ + 8) = l := fun h9 => c241 ((nI_eq (a := (at_ + 8)) (b := l) (by omega) (by omega)).mpr h9)
                              refine R2.B (ls2 := [some (.ref 48), some (.int (nI (n + 1))), some (.int (nI (at_ + 8))), some (.int (tat l (F 50) at_)), some (.int (prA l (F 50) (at_ + 2))), some (.int (prA l (F 50) (at_ + 4))), some (.int (prA l (F 50) (at_ + 6)))]) (st2 := [.int (nI (at_ + 8)), .int 0, .ref 48]) b_X11_reads_251_254 rfl (fun hd => ?_)
                              refine R2.callV3 (M2 := mX11_byteAt) (As := [.int 0, .int (nI (at_ + 8))]) (rest := []) hd lk_11_105 okX11_byteAt (by decide) rfl (ev_byteAt0 E L (up2 (up2 (up2 (up2 F 52 n 0) 53 n ((tat l (F 50) (at_ + 1)) - 48)) 54 n (prA l (F 50) (at_ + 2))) 55 n ((32 * (prA l (F 50) (at_ + 6))) + (prA l (F 50) (at_ + 4)))) l (at_ + 8) hlen hl (by omega)) (by decide) rfl rfl (Nat.le_of_ble_eq_true rfl) ?_
                              refine R2.B (ls2 := [some (.ref 48), some (.int (nI (n + 1))), some (.int (nI (at_ + 8))), some (.int (tat l (F 50) at_)), some (.int (prA l (F 50) (at_ + 2))), some (.int (prA l (F 50) (at_ + 4))), some (.int (prA l (F 50) (at_ + 6)))]) (st2 := [.int 59, .int (tat l (F 50) (at_ + 8))]) b_X11_reads_257_259 rfl (fun hd => ?_)
                              refine R2.icmp_eq 264 hd (by decide) (fun c259 => ?_) (fun c259 => ?_)
                              · refine R2.B (ls2 := [some (.ref 48), some (.int (nI (n + 1))), some (.int ((nI (at_ + 8)) + 1)), some (.int (tat l (F 50) at_)), some (.int (prA l (F 50) (at_ + 2))), some (.int (prA l (F 50) (at_ + 4))), some (.int (prA l (F 50) (at_ + 6)))]) (st2 := []) b_X11_reads_264_9 rfl (fun hd => ?_)
                                rw [show ((nI (at_ + 8)) + 1 : Int32) = nI ((at_ + 8) + 1) from nI_add (at_ + 8) 1]
                                have e : mrdL l (k + 1) n at_ F = mrdL l k (n + 1) (at_ + 8 + 1) (up2 (up2 (up2 (up2 F 52 n 0) 53 n ((tat l (F 50) (at_ + 1)) - 48)) 54 n (prA l (F 50) (at_ + 2))) 55 n ((32 * (prA l (F 50) (at_ + 6))) + (prA l (F 50) (at_ + 4)))) := by
                                  clear hd ih; simp only [mrdL, mSt, cKind] <;> grind
                                rw [e]
                                refine R2.forget (ls2 := [some (.ref 48), some (.int (nI (n + 1))), some (.int (nI (at_ + 8 + 1))), none, none, none, none]) ⟨rfl, ⟨rfl, ⟨rfl, trivial⟩⟩⟩ ?_
                                exact ih (n + 1) (at_ + 8 + 1) _ (by omega) (by clear hd ih; grind) (by omega) hlen
                              · refine R2.B (ls2 := [some (.ref 48), some (.int (nI (n + 1))), some (.int (nI (at_ + 8))), some (.int (tat l (F 50) at_)), some (.int (prA l (F 50) (at_ + 2))), some (.int (prA l (F 50) (at_ + 4))), some (.int (prA l (F 50) (at_ + 6)))]) (st2 := [.int (nI (at_ + 8))]) b_X11_reads_262_263 rfl (fun hd => ?_)
                                have e : mrdL l (k + 1) n at_ F = (nI (at_ + 8), (up2 (up2 (up2 (up2 F 52 n 0) 53 n ((tat l (F 50) (at_ + 1)) - 48)) 54 n (prA l (F 50) (at_ + 2))) 55 n ((32 * (prA l (F 50) (at_ + 6))) + (prA l (F 50) (at_ + 4))))) := by
                                  clear hd ih; simp only [mrdL, mSt, cKind] <;> grind
                                exact R2.ret3 (r := some (.int (nI (at_ + 8)))) hd trivial rfl (by rw [e]) (by rw [e])
                            · have nc241 : (at_ + 8) = l := (nI_eq (a := (at_ + 8)) (b := l) (by omega) (by omega)).mp c241
                              refine R2.B (ls2 := [some (.ref 48), some (.int (nI (n + 1))), some (.int (nI (at_ + 8))), some (.int (tat l (F 50) at_)), some (.int (prA l (F 50) (at_ + 2))), some (.int (prA l (F 50) (at_ + 4))), some (.int (prA l (F 50) (at_ + 6)))]) (st2 := [.int (nI (n + 1)), .ref 48]) b_X11_reads_244_246 rfl (fun hd => ?_)
                              refine R2.putf (a := 11) (b := 3) hd (by decide) (by decide) rfl rfl (fun _ => rfl) ?_
                              refine R2.B (ls2 := [some (.ref 48), some (.int (nI (n + 1))), some (.int (nI (at_ + 8))), some (.int (tat l (F 50) at_)), some (.int (prA l (F 50) (at_ + 2))), some (.int (prA l (F 50) (at_ + 4))), some (.int (prA l (F 50) (at_ + 6)))]) (st2 := [.int (-1)]) b_X11_reads_249_250 rfl (fun hd => ?_)
                              have e : mrdL l (k + 1) n at_ F = ((-1), (up2 (up2 (up2 (up2 (up2 F 52 n 0) 53 n ((tat l (F 50) (at_ + 1)) - 48)) 54 n (prA l (F 50) (at_ + 2))) 55 n ((32 * (prA l (F 50) (at_ + 6))) + (prA l (F 50) (at_ + 4)))) 48 3 (nI (n + 1)))) := by
                                clear hd ih; simp only [mrdL, mSt, cKind] <;> grind
                              exact R2.ret3 (r := some (.int (-1))) hd trivial rfl (by rw [e]) (by rw [e])
                        · refine R2.B (ls2 := [some (.ref 48), some (.int (nI n)), some (.int (nI at_)), some (.int (tat l (F 50) at_)), some (.int (prA l (F 50) (at_ + 2))), some (.int (prA l (F 50) (at_ + 4))), some (.int (prA l (F 50) (at_ + 6)))]) (st2 := [.int ((nI at_) + 6)]) b_X11_reads_157_161 rfl (fun hd => ?_)
                          rw [show ((nI at_) + 6 : Int32) = nI (at_ + 6) from nI_add at_ 6]
                          have e : mrdL l (k + 1) n at_ F = (nI (at_ + 6), F) := by
                            clear hd ih; simp only [mrdL, mSt, cKind] <;> grind
                          exact R2.ret3 (r := some (.int (nI (at_ + 6)))) hd trivial rfl (by rw [e]) (by rw [e])
                      · refine R2.B (ls2 := [some (.ref 48), some (.int (nI n)), some (.int (nI at_)), some (.int (tat l (F 50) at_)), some (.int (prA l (F 50) (at_ + 2))), some (.int (prA l (F 50) (at_ + 4))), some (.int (prA l (F 50) (at_ + 6)))]) (st2 := [.int ((-2) - (prA l (F 50) (at_ + 6)))]) b_X11_reads_144_149 rfl (fun hd => ?_)
                        have e : mrdL l (k + 1) n at_ F = ((-2) - (prA l (F 50) (at_ + 6)), F) := by
                          clear hd ih; simp only [mrdL, mSt, cKind] <;> grind
                        exact R2.ret3 (r := some (.int ((-2) - (prA l (F 50) (at_ + 6))))) hd trivial rfl (by rw [e]) (by rw [e])
                    · refine R2.B (ls2 := [some (.ref 48), some (.int (nI n)), some (.int (nI at_)), some (.int (tat l (F 50) at_)), some (.int (prA l (F 50) (at_ + 2))), some (.int (prA l (F 50) (at_ + 4))), none]) (st2 := [.int ((nI at_) + 4)]) b_X11_reads_125_128 rfl (fun hd => ?_)
                      rw [show ((nI at_) + 4 : Int32) = nI (at_ + 4) from nI_add at_ 4]
                      have e : mrdL l (k + 1) n at_ F = (nI (at_ + 4), F) := by
                        clear hd ih; simp only [mrdL, mSt, cKind] <;> grind
                      exact R2.ret3 (r := some (.int (nI (at_ + 4)))) hd trivial rfl (by rw [e]) (by rw [e])
                  · refine R2.B (ls2 := [some (.ref 48), some (.int (nI n)), some (.int (nI at_)), some (.int (tat l (F 50) at_)), some (.int (prA l (F 50) (at_ + 2))), some (.int (prA l (F 50) (at_ + 4))), none]) (st2 := [.int ((-2) - (prA l (F 50) (at_ + 4)))]) b_X11_reads_112_117 rfl (fun hd => ?_)
                    have e : mrdL l (k + 1) n at_ F = ((-2) - (prA l (F 50) (at_ + 4)), F) := by
                      clear hd ih; simp only [mrdL, mSt, cKind] <;> grind
                    exact R2.ret3 (r := some (.int ((-2) - (prA l (F 50) (at_ + 4))))) hd trivial rfl (by rw [e]) (by rw [e])
                · refine R2.B (ls2 := [some (.ref 48), some (.int (nI n)), some (.int (nI at_)), some (.int (tat l (F 50) at_)), some (.int (prA l (F 50) (at_ + 2))), none, none]) (st2 := [.int ((-2) - (prA l (F 50) (at_ + 2)))]) b_X11_reads_92_97 rfl (fun hd => ?_)
                  have e : mrdL l (k + 1) n at_ F = ((-2) - (prA l (F 50) (at_ + 2)), F) := by
                    clear hd ih; simp only [mrdL, mSt, cKind] <;> grind
                  exact R2.ret3 (r := some (.int ((-2) - (prA l (F 50) (at_ + 2))))) hd trivial rfl (by rw [e]) (by rw [e])
              · have nc71 : ¬ (48 ≤ (tat l (F 50) (at_ + 1)) ∧ (tat l (F 50) (at_ + 1)) ≤ 51) := b2i_zero.mp c71
                refine R2.B (ls2 := [some (.ref 48), some (.int (nI n)), some (.int (nI at_)), some (.int (tat l (F 50) at_)), none, none, none]) (st2 := [.int ((nI at_) + 1)]) b_X11_reads_74_77 rfl (fun hd => ?_)
                rw [show ((nI at_) + 1 : Int32) = nI (at_ + 1) from nI_add at_ 1]
                have e : mrdL l (k + 1) n at_ F = (nI (at_ + 1), F) := by
                  clear hd ih; simp only [mrdL, mSt, cKind] <;> grind
                exact R2.ret3 (r := some (.int (nI (at_ + 1)))) hd trivial rfl (by rw [e]) (by rw [e])
            · refine R2.B (ls2 := [some (.ref 48), some (.int (nI n)), some (.int (nI at_)), some (.int (tat l (F 50) at_)), none, none, none]) (st2 := [.int (nI at_)]) b_X11_reads_54_55 rfl (fun hd => ?_)
              have e : mrdL l (k + 1) n at_ F = (nI at_, F) := by
                clear hd ih; simp only [mrdL, mSt, cKind] <;> grind
              exact R2.ret3 (r := some (.int (nI at_))) hd trivial rfl (by rw [e]) (by rw [e])
    · have nc16 : ¬ at_ < l := fun h9 => c16 ((nI_ltI (a := at_) (b := l) (by omega) (by omega)).mpr h9)
      refine R2.B (ls2 := [some (.ref 48), some (.int (nI n)), some (.int (nI at_)), none, none, none, none]) (st2 := [.int (nI at_)]) b_X11_reads_19_20 rfl (fun hd => ?_)
      refine R2.if_le 270 hd (by decide) (fun c20 => ?_) (fun c20 => ?_)
      · have nc20 : at_ ≤ 0 := (nI_leI (a := at_) (b := 0) (by omega) (by omega)).mp c20
        refine R2.B (ls2 := [some (.ref 48), some (.int (nI n)), some (.int (nI at_)), none, none, none, none]) (st2 := [.int (-1)]) b_X11_reads_270_271 rfl (fun hd => ?_)
        have e : mrdL l (k + 1) n at_ F = ((-1), F) := by
          clear hd ih; simp only [mrdL, mSt, cKind] <;> grind
        exact R2.ret3 (r := some (.int (-1))) hd trivial rfl (by rw [e]) (by rw [e])
      · have nc20 : ¬ at_ ≤ 0 := fun h9 => c20 ((nI_leI (a := at_) (b := 0) (by omega) (by omega)).mpr h9)
        refine R2.B (ls2 := [some (.ref 48), some (.int (nI n)), some (.int (nI at_)), none, none, none, none]) (st2 := [.int (nI at_), .int 0, .ref 48]) b_X11_reads_23_26 rfl (fun hd => ?_)
        refine R2.callV3 (M2 := mX11_byteAt) (As := [.int 0, .int (nI at_)]) (rest := []) hd lk_11_105 okX11_byteAt (by decide) rfl (ev_byteAt0 E L F l at_ hlen hl (by omega)) (by decide) rfl rfl (Nat.le_of_ble_eq_true rfl) ?_
        refine R2.B (ls2 := [some (.ref 48), some (.int (nI n)), some (.int (nI at_)), some (.int (tat l (F 50) at_)), none, none, none]) (st2 := [.int 10, .int (nI n)]) b_X11_reads_29_33 rfl (fun hd => ?_)
        refine R2.icmp_eq 54 hd (by decide) (fun c33 => ?_) (fun c33 => ?_)
        · have nc33 : n = 10 := (nI_eq (a := n) (b := 10) (by omega) (by omega)).mp c33
          refine R2.B (ls2 := [some (.ref 48), some (.int (nI n)), some (.int (nI at_)), some (.int (tat l (F 50) at_)), none, none, none]) (st2 := [.int (nI at_)]) b_X11_reads_54_55 rfl (fun hd => ?_)
          have e : mrdL l (k + 1) n at_ F = (nI at_, F) := by
            clear hd ih; simp only [mrdL, mSt, cKind] <;> grind
          exact R2.ret3 (r := some (.int (nI at_))) hd trivial rfl (by rw [e]) (by rw [e])
        · have nc33 : ¬ n = 10 := fun h9 => c33 ((nI_eq (a := n) (b := 10) (by omega) (by omega)).mpr h9)
          refine R2.B (ls2 := [some (.ref 48), some (.int (nI n)), some (.int (nI at_)), some (.int (tat l (F 50) at_)), none, none, none]) (st2 := [.int 115, .int (tat l (F 50) at_)]) b_X11_reads_36_39 rfl (fun hd => ?_)
          refine R2.icmp_eq 56 hd (by decide) (fun c39 => ?_) (fun c39 => ?_)
          · refine R2.B (ls2 := [some (.ref 48), some (.int (nI n)), some (.int (nI at_)), some (.int (tat l (F 50) at_)), none, none, none]) (st2 := [.int ((nI at_) + 1), .int 0, .ref 48]) b_X11_reads_56_61 rfl (fun hd => ?_)
            rw [show ((nI at_) + 1 : Int32) = nI (at_ + 1) from nI_add at_ 1]
            refine R2.callV3 (M2 := mX11_byteAt) (As := [.int 0, .int (nI (at_ + 1))]) (rest := []) hd lk_11_105 okX11_byteAt (by decide) rfl (ev_byteAt0 E L F l (at_ + 1) hlen hl (by omega)) (by decide) rfl rfl (Nat.le_of_ble_eq_true rfl) ?_
            refine R2.B (ls2 := [some (.ref 48), some (.int (nI n)), some (.int (nI at_)), some (.int (tat l (F 50) at_)), none, none, none]) (st2 := [.int 51, .int 48, .int (tat l (F 50) (at_ + 1))]) b_X11_reads_64_68 rfl (fun hd => ?_)
            refine R2.callS3 (M2 := mX11_in) (As := [.int (tat l (F 50) (at_ + 1)), .int 48, .int 51]) (rest := []) hd lk_11_86 okX11_in (by decide) (ev_in E L F (tat l (F 50) (at_ + 1)) 48 51) (by decide) rfl rfl (Nat.le_of_ble_eq_true rfl) ?_
            refine R2.B (ls2 := [some (.ref 48), some (.int (nI n)), some (.int (nI at_)), some (.int (tat l (F 50) at_)), none, none, none]) (st2 := [.int (b2i (48 ≤ (tat l (F 50) (at_ + 1)) ∧ (tat l (F 50) (at_ + 1)) ≤ 51))]) b_X11_reads_71_71 rfl (fun hd => ?_)
            refine R2.if_ne 78 hd (by decide) (fun c71 => ?_) (fun c71 => ?_)
            · have nc71 : 48 ≤ (tat l (F 50) (at_ + 1)) ∧ (tat l (F 50) (at_ + 1)) ≤ 51 := b2i_nz.mp c71
              refine R2.B (ls2 := [some (.ref 48), some (.int (nI n)), some (.int (nI at_)), some (.int (tat l (F 50) at_)), none, none, none]) (st2 := [.int ((nI at_) + 2), .ref 48]) b_X11_reads_78_82 rfl (fun hd => ?_)
              rw [show ((nI at_) + 2 : Int32) = nI (at_ + 2) from nI_add at_ 2]
              refine R2.callV3 (M2 := mX11_pairAt) (As := [.int (nI (at_ + 2))]) (rest := []) hd lk_11_113 okX11_pairAt (by decide) rfl (ev_pairAt E L F l (at_ + 2) hlen hl (by omega)) (by decide) rfl rfl (Nat.le_of_ble_eq_true rfl) ?_
              refine R2.B (ls2 := [some (.ref 48), some (.int (nI n)), some (.int (nI at_)), some (.int (tat l (F 50) at_)), some (.int (prA l (F 50) (at_ + 2))), none, none]) (st2 := [.int (prA l (F 50) (at_ + 2))]) b_X11_reads_85_89 rfl (fun hd => ?_)
              refine R2.if_ge 98 hd (by decide) (fun c89 => ?_) (fun c89 => ?_)
              · refine R2.B (ls2 := [some (.ref 48), some (.int (nI n)), some (.int (nI at_)), some (.int (tat l (F 50) at_)), some (.int (prA l (F 50) (at_ + 2))), none, none]) (st2 := [.int ((nI at_) + 4), .ref 48]) b_X11_reads_98_102 rfl (fun hd => ?_)
                rw [show ((nI at_) + 4 : Int32) = nI (at_ + 4) from nI_add at_ 4]
                refine R2.callV3 (M2 := mX11_pairAt) (As := [.int (nI (at_ + 4))]) (rest := []) hd lk_11_113 okX11_pairAt (by decide) rfl (ev_pairAt E L F l (at_ + 4) hlen hl (by omega)) (by decide) rfl rfl (Nat.le_of_ble_eq_true rfl) ?_
                refine R2.B (ls2 := [some (.ref 48), some (.int (nI n)), some (.int (nI at_)), some (.int (tat l (F 50) at_)), some (.int (prA l (F 50) (at_ + 2))), some (.int (prA l (F 50) (at_ + 4))), none]) (st2 := [.int (prA l (F 50) (at_ + 4))]) b_X11_reads_105_109 rfl (fun hd => ?_)
                refine R2.if_ge 118 hd (by decide) (fun c109 => ?_) (fun c109 => ?_)
                · refine R2.B (ls2 := [some (.ref 48), some (.int (nI n)), some (.int (nI at_)), some (.int (tat l (F 50) at_)), some (.int (prA l (F 50) (at_ + 2))), some (.int (prA l (F 50) (at_ + 4))), none]) (st2 := [.int 31, .int (prA l (F 50) (at_ + 4))]) b_X11_reads_118_122 rfl (fun hd => ?_)
                  refine R2.icmp_le 129 hd (by decide) (fun c122 => ?_) (fun c122 => ?_)
                  · refine R2.B (ls2 := [some (.ref 48), some (.int (nI n)), some (.int (nI at_)), some (.int (tat l (F 50) at_)), some (.int (prA l (F 50) (at_ + 2))), some (.int (prA l (F 50) (at_ + 4))), none]) (st2 := [.int ((nI at_) + 6), .ref 48]) b_X11_reads_129_134 rfl (fun hd => ?_)
                    rw [show ((nI at_) + 6 : Int32) = nI (at_ + 6) from nI_add at_ 6]
                    refine R2.callV3 (M2 := mX11_pairAt) (As := [.int (nI (at_ + 6))]) (rest := []) hd lk_11_113 okX11_pairAt (by decide) rfl (ev_pairAt E L F l (at_ + 6) hlen hl (by omega)) (by decide) rfl rfl (Nat.le_of_ble_eq_true rfl) ?_
                    refine R2.B (ls2 := [some (.ref 48), some (.int (nI n)), some (.int (nI at_)), some (.int (tat l (F 50) at_)), some (.int (prA l (F 50) (at_ + 2))), some (.int (prA l (F 50) (at_ + 4))), some (.int (prA l (F 50) (at_ + 6)))]) (st2 := [.int (prA l (F 50) (at_ + 6))]) b_X11_reads_137_141 rfl (fun hd => ?_)
                    refine R2.if_ge 150 hd (by decide) (fun c141 => ?_) (fun c141 => ?_)
                    · refine R2.B (ls2 := [some (.ref 48), some (.int (nI n)), some (.int (nI at_)), some (.int (tat l (F 50) at_)), some (.int (prA l (F 50) (at_ + 2))), some (.int (prA l (F 50) (at_ + 4))), some (.int (prA l (F 50) (at_ + 6)))]) (st2 := [.int 31, .int (prA l (F 50) (at_ + 6))]) b_X11_reads_150_154 rfl (fun hd => ?_)
                      refine R2.icmp_le 162 hd (by decide) (fun c154 => ?_) (fun c154 => ?_)
                      · refine R2.B (ls2 := [some (.ref 48), some (.int (nI n)), some (.int (nI at_)), some (.int (tat l (F 50) at_)), some (.int (prA l (F 50) (at_ + 2))), some (.int (prA l (F 50) (at_ + 4))), some (.int (prA l (F 50) (at_ + 6)))]) (st2 := [.int 115, .int (tat l (F 50) at_), .int (nI n), .ref 52]) b_X11_reads_162_170 rfl (fun hd => ?_)
                        refine R2.icmp_ne 177 hd (by decide) (fun c170 => ?_) (fun c170 => ?_)
                        · refine R2.B (ls2 := [some (.ref 48), some (.int (nI n)), some (.int (nI at_)), some (.int (tat l (F 50) at_)), some (.int (prA l (F 50) (at_ + 2))), some (.int (prA l (F 50) (at_ + 4))), some (.int (prA l (F 50) (at_ + 6)))]) (st2 := [.int 98, .int (tat l (F 50) at_), .int (nI n), .ref 52]) b_X11_reads_177_180 rfl (fun hd => ?_)
                          refine R2.icmp_ne 187 hd (by decide) (fun c180 => ?_) (fun c180 => ?_)
                          · refine R2.B (ls2 := [some (.ref 48), some (.int (nI n)), some (.int (nI at_)), some (.int (tat l (F 50) at_)), some (.int (prA l (F 50) (at_ + 2))), some (.int (prA l (F 50) (at_ + 4))), some (.int (prA l (F 50) (at_ + 6)))]) (st2 := [.int 2, .int (nI n), .ref 52]) b_X11_reads_187_188 rfl (fun hd => ?_)
                            refine R2.iast n rfl hd (by decide) rfl (fun _ => rfl) (by decide) (by omega) ?_
                            refine R2.B (ls2 := [some (.ref 48), some (.int (nI n)), some (.int (nI at_)), some (.int (tat l (F 50) at_)), some (.int (prA l (F 50) (at_ + 2))), some (.int (prA l (F 50) (at_ + 4))), some (.int (prA l (F 50) (at_ + 6)))]) (st2 := [.int ((nI at_) + 1), .int 0, .ref 48, .int (nI n), .ref 53]) b_X11_reads_189_199 rfl (fun hd => ?_)
                            rw [show ((nI at_) + 1 : Int32) = nI (at_ + 1) from nI_add at_ 1]
                            refine R2.callV3 (M2 := mX11_byteAt) (As := [.int 0, .int (nI (at_ + 1))]) (rest := [.int (nI n), .ref 53]) hd lk_11_105 okX11_byteAt (by decide) rfl (ev_byteAt0 E L (up2 F 52 n 2) l (at_ + 1) hlen hl (by omega)) (by decide) rfl rfl (Nat.le_of_ble_eq_true rfl) ?_
                            refine R2.B (ls2 := [some (.ref 48), some (.int (nI n)), some (.int (nI at_)), some (.int (tat l (F 50) at_)), some (.int (prA l (F 50) (at_ + 2))), some (.int (prA l (F 50) (at_ + 4))), some (.int (prA l (F 50) (at_ + 6)))]) (st2 := [.int ((tat l (F 50) (at_ + 1)) - 48), .int (nI n), .ref 53]) b_X11_reads_202_205 rfl (fun hd => ?_)
                            refine R2.iast n rfl hd (by decide) rfl (fun _ => rfl) (by decide) (by omega) ?_
                            refine R2.B (ls2 := [some (.ref 48), some (.int (nI n)), some (.int (nI at_)), some (.int (tat l (F 50) at_)), some (.int (prA l (F 50) (at_ + 2))), some (.int (prA l (F 50) (at_ + 4))), some (.int (prA l (F 50) (at_ + 6)))]) (st2 := [.int (prA l (F 50) (at_ + 2)), .int (nI n), .ref 54]) b_X11_reads_206_213 rfl (fun hd => ?_)
                            refine R2.iast n rfl hd (by decide) rfl (fun _ => rfl) (by decide) (by omega) ?_
                            refine R2.B (ls2 := [some (.ref 48), some (.int (nI n)), some (.int (nI at_)), some (.int (tat l (F 50) at_)), some (.int (prA l (F 50) (at_ + 2))), some (.int (prA l (F 50) (at_ + 4))), some (.int (prA l (F 50) (at_ + 6)))]) (st2 := [.int ((32 * (prA l (F 50) (at_ + 6))) + (prA l (F 50) (at_ + 4))), .int (nI n), .ref 55]) b_X11_reads_214_227 rfl (fun hd => ?_)
                            refine R2.iast n rfl hd (by decide) rfl (fun _ => rfl) (by decide) (by omega) ?_
                            refine R2.B (ls2 := [some (.ref 48), some (.int ((nI n) + 1)), some (.int ((nI at_) + 8)), some (.int (tat l (F 50) at_)), some (.int (prA l (F 50) (at_ + 2))), some (.int (prA l (F 50) (at_ + 4))), some (.int (prA l (F 50) (at_ + 6)))]) (st2 := [.int 0, .ref 49, .int ((nI at_) + 8)]) b_X11_reads_228_240 rfl (fun hd => ?_)
                            rw [show ((nI n) + 1 : Int32) = nI (n + 1) from nI_add n 1]
                            rw [show ((nI at_) + 8 : Int32) = nI (at_ + 8) from nI_add at_ 8]
                            refine R2.iald 0 rfl hd rfl (fun _ => rfl) (by decide) (by omega) ?_
                            refine R2.top (show (F 49 0 : Int32) = nI l from hlen) ?_
                            refine R2.B (ls2 := [some (.ref 48), some (.int (nI (n + 1))), some (.int (nI (at_ + 8))), some (.int (tat l (F 50) at_)), some (.int (prA l (F 50) (at_ + 2))), some (.int (prA l (F 50) (at_ + 4))), some (.int (prA l (F 50) (at_ + 6)))]) (st2 := [.int (nI l), .int (nI (at_ + 8))]) b_X11_reads_241_241 rfl (fun hd => ?_)
                            refine R2.icmp_ne 251 hd (by decide) (fun c241 => ?_) (fun c241 => ?_)
                            · have nc241 : ¬ (at_ + 8) = l := fun h9 => c241 ((nI_eq (a := (at_ + 8)) (b := l) (by omega) (by omega)).mpr h9)
                              refine R2.B (ls2 := [some (.ref 48), some (.int (nI (n + 1))), some (.int (nI (at_ + 8))), some (.int (tat l (F 50) at_)), some (.int (prA l (F 50) (at_ + 2))), some (.int (prA l (F 50) (at_ + 4))), some (.int (prA l (F 50) (at_ + 6)))]) (st2 := [.int (nI (at_ + 8)), .int 0, .ref 48]) b_X11_reads_251_254 rfl (fun hd => ?_)
                              refine R2.callV3 (M2 := mX11_byteAt) (As := [.int 0, .int (nI (at_ + 8))]) (rest := []) hd lk_11_105 okX11_byteAt (by decide) rfl (ev_byteAt0 E L (up2 (up2 (up2 (up2 F 52 n 2) 53 n ((tat l (F 50) (at_ + 1)) - 48)) 54 n (prA l (F 50) (at_ + 2))) 55 n ((32 * (prA l (F 50) (at_ + 6))) + (prA l (F 50) (at_ + 4)))) l (at_ + 8) hlen hl (by omega)) (by decide) rfl rfl (Nat.le_of_ble_eq_true rfl) ?_
                              refine R2.B (ls2 := [some (.ref 48), some (.int (nI (n + 1))), some (.int (nI (at_ + 8))), some (.int (tat l (F 50) at_)), some (.int (prA l (F 50) (at_ + 2))), some (.int (prA l (F 50) (at_ + 4))), some (.int (prA l (F 50) (at_ + 6)))]) (st2 := [.int 59, .int (tat l (F 50) (at_ + 8))]) b_X11_reads_257_259 rfl (fun hd => ?_)
                              refine R2.icmp_eq 264 hd (by decide) (fun c259 => ?_) (fun c259 => ?_)
                              · refine R2.B (ls2 := [some (.ref 48), some (.int (nI (n + 1))), some (.int ((nI (at_ + 8)) + 1)), some (.int (tat l (F 50) at_)), some (.int (prA l (F 50) (at_ + 2))), some (.int (prA l (F 50) (at_ + 4))), some (.int (prA l (F 50) (at_ + 6)))]) (st2 := []) b_X11_reads_264_9 rfl (fun hd => ?_)
                                rw [show ((nI (at_ + 8)) + 1 : Int32) = nI ((at_ + 8) + 1) from nI_add (at_ + 8) 1]
                                have e : mrdL l (k + 1) n at_ F = mrdL l k (n + 1) (at_ + 8 + 1) (up2 (up2 (up2 (up2 F 52 n 2) 53 n ((tat l (F 50) (at_ + 1)) - 48)) 54 n (prA l (F 50) (at_ + 2))) 55 n ((32 * (prA l (F 50) (at_ + 6))) + (prA l (F 50) (at_ + 4)))) := by
                                  clear hd ih; simp only [mrdL, mSt, cKind] <;> grind
                                rw [e]
                                refine R2.forget (ls2 := [some (.ref 48), some (.int (nI (n + 1))), some (.int (nI (at_ + 8 + 1))), none, none, none, none]) ⟨rfl, ⟨rfl, ⟨rfl, trivial⟩⟩⟩ ?_
                                exact ih (n + 1) (at_ + 8 + 1) _ (by omega) (by clear hd ih; grind) (by omega) hlen
                              · refine R2.B (ls2 := [some (.ref 48), some (.int (nI (n + 1))), some (.int (nI (at_ + 8))), some (.int (tat l (F 50) at_)), some (.int (prA l (F 50) (at_ + 2))), some (.int (prA l (F 50) (at_ + 4))), some (.int (prA l (F 50) (at_ + 6)))]) (st2 := [.int (nI (at_ + 8))]) b_X11_reads_262_263 rfl (fun hd => ?_)
                                have e : mrdL l (k + 1) n at_ F = (nI (at_ + 8), (up2 (up2 (up2 (up2 F 52 n 2) 53 n ((tat l (F 50) (at_ + 1)) - 48)) 54 n (prA l (F 50) (at_ + 2))) 55 n ((32 * (prA l (F 50) (at_ + 6))) + (prA l (F 50) (at_ + 4))))) := by
                                  clear hd ih; simp only [mrdL, mSt, cKind] <;> grind
                                exact R2.ret3 (r := some (.int (nI (at_ + 8)))) hd trivial rfl (by rw [e]) (by rw [e])
                            · have nc241 : (at_ + 8) = l := (nI_eq (a := (at_ + 8)) (b := l) (by omega) (by omega)).mp c241
                              refine R2.B (ls2 := [some (.ref 48), some (.int (nI (n + 1))), some (.int (nI (at_ + 8))), some (.int (tat l (F 50) at_)), some (.int (prA l (F 50) (at_ + 2))), some (.int (prA l (F 50) (at_ + 4))), some (.int (prA l (F 50) (at_ + 6)))]) (st2 := [.int (nI (n + 1)), .ref 48]) b_X11_reads_244_246 rfl (fun hd => ?_)
                              refine R2.putf (a := 11) (b := 3) hd (by decide) (by decide) rfl rfl (fun _ => rfl) ?_
                              refine R2.B (ls2 := [some (.ref 48), some (.int (nI (n + 1))), some (.int (nI (at_ + 8))), some (.int (tat l (F 50) at_)), some (.int (prA l (F 50) (at_ + 2))), some (.int (prA l (F 50) (at_ + 4))), some (.int (prA l (F 50) (at_ + 6)))]) (st2 := [.int (-1)]) b_X11_reads_249_250 rfl (fun hd => ?_)
                              have e : mrdL l (k + 1) n at_ F = ((-1), (up2 (up2 (up2 (up2 (up2 F 52 n 2) 53 n ((tat l (F 50) (at_ + 1)) - 48)) 54 n (prA l (F 50) (at_ + 2))) 55 n ((32 * (prA l (F 50) (at_ + 6))) + (prA l (F 50) (at_ + 4)))) 48 3 (nI (n + 1)))) := by
                                clear hd ih; simp only [mrdL, mSt, cKind] <;> grind
                              exact R2.ret3 (r := some (.int (-1))) hd trivial rfl (by rw [e]) (by rw [e])
                          · refine R2.B (ls2 := [some (.ref 48), some (.int (nI n)), some (.int (nI at_)), some (.int (tat l (F 50) at_)), some (.int (prA l (F 50) (at_ + 2))), some (.int (prA l (F 50) (at_ + 4))), some (.int (prA l (F 50) (at_ + 6)))]) (st2 := [.int 1, .int (nI n), .ref 52]) b_X11_reads_183_188 rfl (fun hd => ?_)
                            refine R2.iast n rfl hd (by decide) rfl (fun _ => rfl) (by decide) (by omega) ?_
                            refine R2.B (ls2 := [some (.ref 48), some (.int (nI n)), some (.int (nI at_)), some (.int (tat l (F 50) at_)), some (.int (prA l (F 50) (at_ + 2))), some (.int (prA l (F 50) (at_ + 4))), some (.int (prA l (F 50) (at_ + 6)))]) (st2 := [.int ((nI at_) + 1), .int 0, .ref 48, .int (nI n), .ref 53]) b_X11_reads_189_199 rfl (fun hd => ?_)
                            rw [show ((nI at_) + 1 : Int32) = nI (at_ + 1) from nI_add at_ 1]
                            refine R2.callV3 (M2 := mX11_byteAt) (As := [.int 0, .int (nI (at_ + 1))]) (rest := [.int (nI n), .ref 53]) hd lk_11_105 okX11_byteAt (by decide) rfl (ev_byteAt0 E L (up2 F 52 n 1) l (at_ + 1) hlen hl (by omega)) (by decide) rfl rfl (Nat.le_of_ble_eq_true rfl) ?_
                            refine R2.B (ls2 := [some (.ref 48), some (.int (nI n)), some (.int (nI at_)), some (.int (tat l (F 50) at_)), some (.int (prA l (F 50) (at_ + 2))), some (.int (prA l (F 50) (at_ + 4))), some (.int (prA l (F 50) (at_ + 6)))]) (st2 := [.int ((tat l (F 50) (at_ + 1)) - 48), .int (nI n), .ref 53]) b_X11_reads_202_205 rfl (fun hd => ?_)
                            refine R2.iast n rfl hd (by decide) rfl (fun _ => rfl) (by decide) (by omega) ?_
                            refine R2.B (ls2 := [some (.ref 48), some (.int (nI n)), some (.int (nI at_)), some (.int (tat l (F 50) at_)), some (.int (prA l (F 50) (at_ + 2))), some (.int (prA l (F 50) (at_ + 4))), some (.int (prA l (F 50) (at_ + 6)))]) (st2 := [.int (prA l (F 50) (at_ + 2)), .int (nI n), .ref 54]) b_X11_reads_206_213 rfl (fun hd => ?_)
                            refine R2.iast n rfl hd (by decide) rfl (fun _ => rfl) (by decide) (by omega) ?_
                            refine R2.B (ls2 := [some (.ref 48), some (.int (nI n)), some (.int (nI at_)), some (.int (tat l (F 50) at_)), some (.int (prA l (F 50) (at_ + 2))), some (.int (prA l (F 50) (at_ + 4))), some (.int (prA l (F 50) (at_ + 6)))]) (st2 := [.int ((32 * (prA l (F 50) (at_ + 6))) + (prA l (F 50) (at_ + 4))), .int (nI n), .ref 55]) b_X11_reads_214_227 rfl (fun hd => ?_)
                            refine R2.iast n rfl hd (by decide) rfl (fun _ => rfl) (by decide) (by omega) ?_
                            refine R2.B (ls2 := [some (.ref 48), some (.int ((nI n) + 1)), some (.int ((nI at_) + 8)), some (.int (tat l (F 50) at_)), some (.int (prA l (F 50) (at_ + 2))), some (.int (prA l (F 50) (at_ + 4))), some (.int (prA l (F 50) (at_ + 6)))]) (st2 := [.int 0, .ref 49, .int ((nI at_) + 8)]) b_X11_reads_228_240 rfl (fun hd => ?_)
                            rw [show ((nI n) + 1 : Int32) = nI (n + 1) from nI_add n 1]
                            rw [show ((nI at_) + 8 : Int32) = nI (at_ + 8) from nI_add at_ 8]
                            refine R2.iald 0 rfl hd rfl (fun _ => rfl) (by decide) (by omega) ?_
                            refine R2.top (show (F 49 0 : Int32) = nI l from hlen) ?_
                            refine R2.B (ls2 := [some (.ref 48), some (.int (nI (n + 1))), some (.int (nI (at_ + 8))), some (.int (tat l (F 50) at_)), some (.int (prA l (F 50) (at_ + 2))), some (.int (prA l (F 50) (at_ + 4))), some (.int (prA l (F 50) (at_ + 6)))]) (st2 := [.int (nI l), .int (nI (at_ + 8))]) b_X11_reads_241_241 rfl (fun hd => ?_)
                            refine R2.icmp_ne 251 hd (by decide) (fun c241 => ?_) (fun c241 => ?_)
                            · have nc241 : ¬ (at_ + 8) = l := fun h9 => c241 ((nI_eq (a := (at_ + 8)) (b := l) (by omega) (by omega)).mpr h9)
                              refine R2.B (ls2 := [some (.ref 48), some (.int (nI (n + 1))), some (.int (nI (at_ + 8))), some (.int (tat l (F 50) at_)), some (.int (prA l (F 50) (at_ + 2))), some (.int (prA l (F 50) (at_ + 4))), some (.int (prA l (F 50) (at_ + 6)))]) (st2 := [.int (nI (at_ + 8)), .int 0, .ref 48]) b_X11_reads_251_254 rfl (fun hd => ?_)
                              refine R2.callV3 (M2 := mX11_byteAt) (As := [.int 0, .int (nI (at_ + 8))]) (rest := []) hd lk_11_105 okX11_byteAt (by decide) rfl (ev_byteAt0 E L (up2 (up2 (up2 (up2 F 52 n 1) 53 n ((tat l (F 50) (at_ + 1)) - 48)) 54 n (prA l (F 50) (at_ + 2))) 55 n ((32 * (prA l (F 50) (at_ + 6))) + (prA l (F 50) (at_ + 4)))) l (at_ + 8) hlen hl (by omega)) (by decide) rfl rfl (Nat.le_of_ble_eq_true rfl) ?_
                              refine R2.B (ls2 := [some (.ref 48), some (.int (nI (n + 1))), some (.int (nI (at_ + 8))), some (.int (tat l (F 50) at_)), some (.int (prA l (F 50) (at_ + 2))), some (.int (prA l (F 50) (at_ + 4))), some (.int (prA l (F 50) (at_ + 6)))]) (st2 := [.int 59, .int (tat l (F 50) (at_ + 8))]) b_X11_reads_257_259 rfl (fun hd => ?_)
                              refine R2.icmp_eq 264 hd (by decide) (fun c259 => ?_) (fun c259 => ?_)
                              · refine R2.B (ls2 := [some (.ref 48), some (.int (nI (n + 1))), some (.int ((nI (at_ + 8)) + 1)), some (.int (tat l (F 50) at_)), some (.int (prA l (F 50) (at_ + 2))), some (.int (prA l (F 50) (at_ + 4))), some (.int (prA l (F 50) (at_ + 6)))]) (st2 := []) b_X11_reads_264_9 rfl (fun hd => ?_)
                                rw [show ((nI (at_ + 8)) + 1 : Int32) = nI ((at_ + 8) + 1) from nI_add (at_ + 8) 1]
                                have e : mrdL l (k + 1) n at_ F = mrdL l k (n + 1) (at_ + 8 + 1) (up2 (up2 (up2 (up2 F 52 n 1) 53 n ((tat l (F 50) (at_ + 1)) - 48)) 54 n (prA l (F 50) (at_ + 2))) 55 n ((32 * (prA l (F 50) (at_ + 6))) + (prA l (F 50) (at_ + 4)))) := by
                                  clear hd ih; simp only [mrdL, mSt, cKind] <;> grind
                                rw [e]
                                refine R2.forget (ls2 := [some (.ref 48), some (.int (nI (n + 1))), some (.int (nI (at_ + 8 + 1))), none, none, none, none]) ⟨rfl, ⟨rfl, ⟨rfl, trivial⟩⟩⟩ ?_
                                exact ih (n + 1) (at_ + 8 + 1) _ (by omega) (by clear hd ih; grind) (by omega) hlen
                              · refine R2.B (ls2 := [some (.ref 48), some (.int (nI (n + 1))), some (.int (nI (at_ + 8))), some (.int (tat l (F 50) at_)), some (.int (prA l (F 50) (at_ + 2))), some (.int (prA l (F 50) (at_ + 4))), some (.int (prA l (F 50) (at_ + 6)))]) (st2 := [.int (nI (at_ + 8))]) b_X11_reads_262_263 rfl (fun hd => ?_)
                                have e : mrdL l (k + 1) n at_ F = (nI (at_ + 8), (up2 (up2 (up2 (up2 F 52 n 1) 53 n ((tat l (F 50) (at_ + 1)) - 48)) 54 n (prA l (F 50) (at_ + 2))) 55 n ((32 * (prA l (F 50) (at_ + 6))) + (prA l (F 50) (at_ + 4))))) := by
                                  clear hd ih; simp only [mrdL, mSt, cKind] <;> grind
                                exact R2.ret3 (r := some (.int (nI (at_ + 8)))) hd trivial rfl (by rw [e]) (by rw [e])
                            · have nc241 : (at_ + 8) = l := (nI_eq (a := (at_ + 8)) (b := l) (by omega) (by omega)).mp c241
                              refine R2.B (ls2 := [some (.ref 48), some (.int (nI (n + 1))), some (.int (nI (at_ + 8))), some (.int (tat l (F 50) at_)), some (.int (prA l (F 50) (at_ + 2))), some (.int (prA l (F 50) (at_ + 4))), some (.int (prA l (F 50) (at_ + 6)))]) (st2 := [.int (nI (n + 1)), .ref 48]) b_X11_reads_244_246 rfl (fun hd => ?_)
                              refine R2.putf (a := 11) (b := 3) hd (by decide) (by decide) rfl rfl (fun _ => rfl) ?_
                              refine R2.B (ls2 := [some (.ref 48), some (.int (nI (n + 1))), some (.int (nI (at_ + 8))), some (.int (tat l (F 50) at_)), some (.int (prA l (F 50) (at_ + 2))), some (.int (prA l (F 50) (at_ + 4))), some (.int (prA l (F 50) (at_ + 6)))]) (st2 := [.int (-1)]) b_X11_reads_249_250 rfl (fun hd => ?_)
                              have e : mrdL l (k + 1) n at_ F = ((-1), (up2 (up2 (up2 (up2 (up2 F 52 n 1) 53 n ((tat l (F 50) (at_ + 1)) - 48)) 54 n (prA l (F 50) (at_ + 2))) 55 n ((32 * (prA l (F 50) (at_ + 6))) + (prA l (F 50) (at_ + 4)))) 48 3 (nI (n + 1)))) := by
                                clear hd ih; simp only [mrdL, mSt, cKind] <;> grind
                              exact R2.ret3 (r := some (.int (-1))) hd trivial rfl (by rw [e]) (by rw [e])
                        · refine R2.B (ls2 := [some (.ref 48), some (.int (nI n)), some (.int (nI at_)), some (.int (tat l (F 50) at_)), some (.int (prA l (F 50) (at_ + 2))), some (.int (prA l (F 50) (at_ + 4))), some (.int (prA l (F 50) (at_ + 6)))]) (st2 := [.int 0, .int (nI n), .ref 52]) b_X11_reads_173_188 rfl (fun hd => ?_)
                          refine R2.iast n rfl hd (by decide) rfl (fun _ => rfl) (by decide) (by omega) ?_
                          refine R2.B (ls2 := [some (.ref 48), some (.int (nI n)), some (.int (nI at_)), some (.int (tat l (F 50) at_)), some (.int (prA l (F 50) (at_ + 2))), some (.int (prA l (F 50) (at_ + 4))), some (.int (prA l (F 50) (at_ + 6)))]) (st2 := [.int ((nI at_) + 1), .int 0, .ref 48, .int (nI n), .ref 53]) b_X11_reads_189_199 rfl (fun hd => ?_)
                          rw [show ((nI at_) + 1 : Int32) = nI (at_ + 1) from nI_add at_ 1]
                          refine R2.callV3 (M2 := mX11_byteAt) (As := [.int 0, .int (nI (at_ + 1))]) (rest := [.int (nI n), .ref 53]) hd lk_11_105 okX11_byteAt (by decide) rfl (ev_byteAt0 E L (up2 F 52 n 0) l (at_ + 1) hlen hl (by omega)) (by decide) rfl rfl (Nat.le_of_ble_eq_true rfl) ?_
                          refine R2.B (ls2 := [some (.ref 48), some (.int (nI n)), some (.int (nI at_)), some (.int (tat l (F 50) at_)), some (.int (prA l (F 50) (at_ + 2))), some (.int (prA l (F 50) (at_ + 4))), some (.int (prA l (F 50) (at_ + 6)))]) (st2 := [.int ((tat l (F 50) (at_ + 1)) - 48), .int (nI n), .ref 53]) b_X11_reads_202_205 rfl (fun hd => ?_)
                          refine R2.iast n rfl hd (by decide) rfl (fun _ => rfl) (by decide) (by omega) ?_
                          refine R2.B (ls2 := [some (.ref 48), some (.int (nI n)), some (.int (nI at_)), some (.int (tat l (F 50) at_)), some (.int (prA l (F 50) (at_ + 2))), some (.int (prA l (F 50) (at_ + 4))), some (.int (prA l (F 50) (at_ + 6)))]) (st2 := [.int (prA l (F 50) (at_ + 2)), .int (nI n), .ref 54]) b_X11_reads_206_213 rfl (fun hd => ?_)
                          refine R2.iast n rfl hd (by decide) rfl (fun _ => rfl) (by decide) (by omega) ?_
                          refine R2.B (ls2 := [some (.ref 48), some (.int (nI n)), some (.int (nI at_)), some (.int (tat l (F 50) at_)), some (.int (prA l (F 50) (at_ + 2))), some (.int (prA l (F 50) (at_ + 4))), some (.int (prA l (F 50) (at_ + 6)))]) (st2 := [.int ((32 * (prA l (F 50) (at_ + 6))) + (prA l (F 50) (at_ + 4))), .int (nI n), .ref 55]) b_X11_reads_214_227 rfl (fun hd => ?_)
                          refine R2.iast n rfl hd (by decide) rfl (fun _ => rfl) (by decide) (by omega) ?_
                          refine R2.B (ls2 := [some (.ref 48), some (.int ((nI n) + 1)), some (.int ((nI at_) + 8)), some (.int (tat l (F 50) at_)), some (.int (prA l (F 50) (at_ + 2))), some (.int (prA l (F 50) (at_ + 4))), some (.int (prA l (F 50) (at_ + 6)))]) (st2 := [.int 0, .ref 49, .int ((nI at_) + 8)]) b_X11_reads_228_240 rfl (fun hd => ?_)
                          rw [show ((nI n) + 1 : Int32) = nI (n + 1) from nI_add n 1]
                          rw [show ((nI at_) + 8 : Int32) = nI (at_ + 8) from nI_add at_ 8]
                          refine R2.iald 0 rfl hd rfl (fun _ => rfl) (by decide) (by omega) ?_
                          refine R2.top (show (F 49 0 : Int32) = nI l from hlen) ?_
                          refine R2.B (ls2 := [some (.ref 48), some (.int (nI (n + 1))), some (.int (nI (at_ + 8))), some (.int (tat l (F 50) at_)), some (.int (prA l (F 50) (at_ + 2))), some (.int (prA l (F 50) (at_ + 4))), some (.int (prA l (F 50) (at_ + 6)))]) (st2 := [.int (nI l), .int (nI (at_ + 8))]) b_X11_reads_241_241 rfl (fun hd => ?_)
                          refine R2.icmp_ne 251 hd (by decide) (fun c241 => ?_) (fun c241 => ?_)
                          · have nc241 : ¬ (at_ + 8) = l := fun h9 => c241 ((nI_eq (a := (at_ + 8)) (b := l) (by omega) (by omega)).mpr h9)
                            refine R2.B (ls2 := [some (.ref 48), some (.int (nI (n + 1))), some (.int (nI (at_ + 8))), some (.int (tat l (F 50) at_)), some (.int (prA l (F 50) (at_ + 2))), some (.int (prA l (F 50) (at_ + 4))), some (.int (prA l (F 50) (at_ + 6)))]) (st2 := [.int (nI (at_ + 8)), .int 0, .ref 48]) b_X11_reads_251_254 rfl (fun hd => ?_)
                            refine R2.callV3 (M2 := mX11_byteAt) (As := [.int 0, .int (nI (at_ + 8))]) (rest := []) hd lk_11_105 okX11_byteAt (by decide) rfl (ev_byteAt0 E L (up2 (up2 (up2 (up2 F 52 n 0) 53 n ((tat l (F 50) (at_ + 1)) - 48)) 54 n (prA l (F 50) (at_ + 2))) 55 n ((32 * (prA l (F 50) (at_ + 6))) + (prA l (F 50) (at_ + 4)))) l (at_ + 8) hlen hl (by omega)) (by decide) rfl rfl (Nat.le_of_ble_eq_true rfl) ?_
                            refine R2.B (ls2 := [some (.ref 48), some (.int (nI (n + 1))), some (.int (nI (at_ + 8))), some (.int (tat l (F 50) at_)), some (.int (prA l (F 50) (at_ + 2))), some (.int (prA l (F 50) (at_ + 4))), some (.int (prA l (F 50) (at_ + 6)))]) (st2 := [.int 59, .int (tat l (F 50) (at_ + 8))]) b_X11_reads_257_259 rfl (fun hd => ?_)
                            refine R2.icmp_eq 264 hd (by decide) (fun c259 => ?_) (fun c259 => ?_)
                            · refine R2.B (ls2 := [some (.ref 48), some (.int (nI (n + 1))), some (.int ((nI (at_ + 8)) + 1)), some (.int (tat l (F 50) at_)), some (.int (prA l (F 50) (at_ + 2))), some (.int (prA l (F 50) (at_ + 4))), some (.int (prA l (F 50) (at_ + 6)))]) (st2 := []) b_X11_reads_264_9 rfl (fun hd => ?_)
                              rw [show ((nI (at_ + 8)) + 1 : Int32) = nI ((at_ + 8) + 1) from nI_add (at_ + 8) 1]
                              have e : mrdL l (k + 1) n at_ F = mrdL l k (n + 1) (at_ + 8 + 1) (up2 (up2 (up2 (up2 F 52 n 0) 53 n ((tat l (F 50) (at_ + 1)) - 48)) 54 n (prA l (F 50) (at_ + 2))) 55 n ((32 * (prA l (F 50) (at_ + 6))) + (prA l (F 50) (at_ + 4)))) := by
                                clear hd ih; simp only [mrdL, mSt, cKind] <;> grind
                              rw [e]
                              refine R2.forget (ls2 := [some (.ref 48), some (.int (nI (n + 1))), some (.int (nI (at_ + 8 + 1))), none, none, none, none]) ⟨rfl, ⟨rfl, ⟨rfl, trivial⟩⟩⟩ ?_
                              exact ih (n + 1) (at_ + 8 + 1) _ (by omega) (by clear hd ih; grind) (by omega) hlen
                            · refine R2.B (ls2 := [some (.ref 48), some (.int (nI (n + 1))), some (.int (nI (at_ + 8))), some (.int (tat l (F 50) at_)), some (.int (prA l (F 50) (at_ + 2))), some (.int (prA l (F 50) (at_ + 4))), some (.int (prA l (F 50) (at_ + 6)))]) (st2 := [.int (nI (at_ + 8))]) b_X11_reads_262_263 rfl (fun hd => ?_)
                              have e : mrdL l (k + 1) n at_ F = (nI (at_ + 8), (up2 (up2 (up2 (up2 F 52 n 0) 53 n ((tat l (F 50) (at_ + 1)) - 48)) 54 n (prA l (F 50) (at_ + 2))) 55 n ((32 * (prA l (F 50) (at_ + 6))) + (prA l (F 50) (at_ + 4))))) := by
                                clear hd ih; simp only [mrdL, mSt, cKind] <;> grind
                              exact R2.ret3 (r := some (.int (nI (at_ + 8)))) hd trivial rfl (by rw [e]) (by rw [e])
                          · have nc241 : (at_ + 8) = l := (nI_eq (a := (at_ + 8)) (b := l) (by omega) (by omega)).mp c241
                            refine R2.B (ls2 := [some (.ref 48), some (.int (nI (n + 1))), some (.int (nI (at_ + 8))), some (.int (tat l (F 50) at_)), some (.int (prA l (F 50) (at_ + 2))), some (.int (prA l (F 50) (at_ + 4))), some (.int (prA l (F 50) (at_ + 6)))]) (st2 := [.int (nI (n + 1)), .ref 48]) b_X11_reads_244_246 rfl (fun hd => ?_)
                            refine R2.putf (a := 11) (b := 3) hd (by decide) (by decide) rfl rfl (fun _ => rfl) ?_
                            refine R2.B (ls2 := [some (.ref 48), some (.int (nI (n + 1))), some (.int (nI (at_ + 8))), some (.int (tat l (F 50) at_)), some (.int (prA l (F 50) (at_ + 2))), some (.int (prA l (F 50) (at_ + 4))), some (.int (prA l (F 50) (at_ + 6)))]) (st2 := [.int (-1)]) b_X11_reads_249_250 rfl (fun hd => ?_)
                            have e : mrdL l (k + 1) n at_ F = ((-1), (up2 (up2 (up2 (up2 (up2 F 52 n 0) 53 n ((tat l (F 50) (at_ + 1)) - 48)) 54 n (prA l (F 50) (at_ + 2))) 55 n ((32 * (prA l (F 50) (at_ + 6))) + (prA l (F 50) (at_ + 4)))) 48 3 (nI (n + 1)))) := by
                              clear hd ih; simp only [mrdL, mSt, cKind] <;> grind
                            exact R2.ret3 (r := some (.int (-1))) hd trivial rfl (by rw [e]) (by rw [e])
                      · refine R2.B (ls2 := [some (.ref 48), some (.int (nI n)), some (.int (nI at_)), some (.int (tat l (F 50) at_)), some (.int (prA l (F 50) (at_ + 2))), some (.int (prA l (F 50) (at_ + 4))), some (.int (prA l (F 50) (at_ + 6)))]) (st2 := [.int ((nI at_) + 6)]) b_X11_reads_157_161 rfl (fun hd => ?_)
                        rw [show ((nI at_) + 6 : Int32) = nI (at_ + 6) from nI_add at_ 6]
                        have e : mrdL l (k + 1) n at_ F = (nI (at_ + 6), F) := by
                          clear hd ih; simp only [mrdL, mSt, cKind] <;> grind
                        exact R2.ret3 (r := some (.int (nI (at_ + 6)))) hd trivial rfl (by rw [e]) (by rw [e])
                    · refine R2.B (ls2 := [some (.ref 48), some (.int (nI n)), some (.int (nI at_)), some (.int (tat l (F 50) at_)), some (.int (prA l (F 50) (at_ + 2))), some (.int (prA l (F 50) (at_ + 4))), some (.int (prA l (F 50) (at_ + 6)))]) (st2 := [.int ((-2) - (prA l (F 50) (at_ + 6)))]) b_X11_reads_144_149 rfl (fun hd => ?_)
                      have e : mrdL l (k + 1) n at_ F = ((-2) - (prA l (F 50) (at_ + 6)), F) := by
                        clear hd ih; simp only [mrdL, mSt, cKind] <;> grind
                      exact R2.ret3 (r := some (.int ((-2) - (prA l (F 50) (at_ + 6))))) hd trivial rfl (by rw [e]) (by rw [e])
                  · refine R2.B (ls2 := [some (.ref 48), some (.int (nI n)), some (.int (nI at_)), some (.int (tat l (F 50) at_)), some (.int (prA l (F 50) (at_ + 2))), some (.int (prA l (F 50) (at_ + 4))), none]) (st2 := [.int ((nI at_) + 4)]) b_X11_reads_125_128 rfl (fun hd => ?_)
                    rw [show ((nI at_) + 4 : Int32) = nI (at_ + 4) from nI_add at_ 4]
                    have e : mrdL l (k + 1) n at_ F = (nI (at_ + 4), F) := by
                      clear hd ih; simp only [mrdL, mSt, cKind] <;> grind
                    exact R2.ret3 (r := some (.int (nI (at_ + 4)))) hd trivial rfl (by rw [e]) (by rw [e])
                · refine R2.B (ls2 := [some (.ref 48), some (.int (nI n)), some (.int (nI at_)), some (.int (tat l (F 50) at_)), some (.int (prA l (F 50) (at_ + 2))), some (.int (prA l (F 50) (at_ + 4))), none]) (st2 := [.int ((-2) - (prA l (F 50) (at_ + 4)))]) b_X11_reads_112_117 rfl (fun hd => ?_)
                  have e : mrdL l (k + 1) n at_ F = ((-2) - (prA l (F 50) (at_ + 4)), F) := by
                    clear hd ih; simp only [mrdL, mSt, cKind] <;> grind
                  exact R2.ret3 (r := some (.int ((-2) - (prA l (F 50) (at_ + 4))))) hd trivial rfl (by rw [e]) (by rw [e])
              · refine R2.B (ls2 := [some (.ref 48), some (.int (nI n)), some (.int (nI at_)), some (.int (tat l (F 50) at_)), some (.int (prA l (F 50) (at_ + 2))), none, none]) (st2 := [.int ((-2) - (prA l (F 50) (at_ + 2)))]) b_X11_reads_92_97 rfl (fun hd => ?_)
                have e : mrdL l (k + 1) n at_ F = ((-2) - (prA l (F 50) (at_ + 2)), F) := by
                  clear hd ih; simp only [mrdL, mSt, cKind] <;> grind
                exact R2.ret3 (r := some (.int ((-2) - (prA l (F 50) (at_ + 2))))) hd trivial rfl (by rw [e]) (by rw [e])
            · have nc71 : ¬ (48 ≤ (tat l (F 50) (at_ + 1)) ∧ (tat l (F 50) (at_ + 1)) ≤ 51) := b2i_zero.mp c71
              refine R2.B (ls2 := [some (.ref 48), some (.int (nI n)), some (.int (nI at_)), some (.int (tat l (F 50) at_)), none, none, none]) (st2 := [.int ((nI at_) + 1)]) b_X11_reads_74_77 rfl (fun hd => ?_)
              rw [show ((nI at_) + 1 : Int32) = nI (at_ + 1) from nI_add at_ 1]
              have e : mrdL l (k + 1) n at_ F = (nI (at_ + 1), F) := by
                clear hd ih; simp only [mrdL, mSt, cKind] <;> grind
              exact R2.ret3 (r := some (.int (nI (at_ + 1)))) hd trivial rfl (by rw [e]) (by rw [e])
          · refine R2.B (ls2 := [some (.ref 48), some (.int (nI n)), some (.int (nI at_)), some (.int (tat l (F 50) at_)), none, none, none]) (st2 := [.int 98, .int (tat l (F 50) at_)]) b_X11_reads_42_45 rfl (fun hd => ?_)
            refine R2.icmp_eq 56 hd (by decide) (fun c45 => ?_) (fun c45 => ?_)
            · refine R2.B (ls2 := [some (.ref 48), some (.int (nI n)), some (.int (nI at_)), some (.int (tat l (F 50) at_)), none, none, none]) (st2 := [.int ((nI at_) + 1), .int 0, .ref 48]) b_X11_reads_56_61 rfl (fun hd => ?_)
              rw [show ((nI at_) + 1 : Int32) = nI (at_ + 1) from nI_add at_ 1]
              refine R2.callV3 (M2 := mX11_byteAt) (As := [.int 0, .int (nI (at_ + 1))]) (rest := []) hd lk_11_105 okX11_byteAt (by decide) rfl (ev_byteAt0 E L F l (at_ + 1) hlen hl (by omega)) (by decide) rfl rfl (Nat.le_of_ble_eq_true rfl) ?_
              refine R2.B (ls2 := [some (.ref 48), some (.int (nI n)), some (.int (nI at_)), some (.int (tat l (F 50) at_)), none, none, none]) (st2 := [.int 51, .int 48, .int (tat l (F 50) (at_ + 1))]) b_X11_reads_64_68 rfl (fun hd => ?_)
              refine R2.callS3 (M2 := mX11_in) (As := [.int (tat l (F 50) (at_ + 1)), .int 48, .int 51]) (rest := []) hd lk_11_86 okX11_in (by decide) (ev_in E L F (tat l (F 50) (at_ + 1)) 48 51) (by decide) rfl rfl (Nat.le_of_ble_eq_true rfl) ?_
              refine R2.B (ls2 := [some (.ref 48), some (.int (nI n)), some (.int (nI at_)), some (.int (tat l (F 50) at_)), none, none, none]) (st2 := [.int (b2i (48 ≤ (tat l (F 50) (at_ + 1)) ∧ (tat l (F 50) (at_ + 1)) ≤ 51))]) b_X11_reads_71_71 rfl (fun hd => ?_)
              refine R2.if_ne 78 hd (by decide) (fun c71 => ?_) (fun c71 => ?_)
              · have nc71 : 48 ≤ (tat l (F 50) (at_ + 1)) ∧ (tat l (F 50) (at_ + 1)) ≤ 51 := b2i_nz.mp c71
                refine R2.B (ls2 := [some (.ref 48), some (.int (nI n)), some (.int (nI at_)), some (.int (tat l (F 50) at_)), none, none, none]) (st2 := [.int ((nI at_) + 2), .ref 48]) b_X11_reads_78_82 rfl (fun hd => ?_)
                rw [show ((nI at_) + 2 : Int32) = nI (at_ + 2) from nI_add at_ 2]
                refine R2.callV3 (M2 := mX11_pairAt) (As := [.int (nI (at_ + 2))]) (rest := []) hd lk_11_113 okX11_pairAt (by decide) rfl (ev_pairAt E L F l (at_ + 2) hlen hl (by omega)) (by decide) rfl rfl (Nat.le_of_ble_eq_true rfl) ?_
                refine R2.B (ls2 := [some (.ref 48), some (.int (nI n)), some (.int (nI at_)), some (.int (tat l (F 50) at_)), some (.int (prA l (F 50) (at_ + 2))), none, none]) (st2 := [.int (prA l (F 50) (at_ + 2))]) b_X11_reads_85_89 rfl (fun hd => ?_)
                refine R2.if_ge 98 hd (by decide) (fun c89 => ?_) (fun c89 => ?_)
                · refine R2.B (ls2 := [some (.ref 48), some (.int (nI n)), some (.int (nI at_)), some (.int (tat l (F 50) at_)), some (.int (prA l (F 50) (at_ + 2))), none, none]) (st2 := [.int ((nI at_) + 4), .ref 48]) b_X11_reads_98_102 rfl (fun hd => ?_)
                  rw [show ((nI at_) + 4 : Int32) = nI (at_ + 4) from nI_add at_ 4]
                  refine R2.callV3 (M2 := mX11_pairAt) (As := [.int (nI (at_ + 4))]) (rest := []) hd lk_11_113 okX11_pairAt (by decide) rfl (ev_pairAt E L F l (at_ + 4) hlen hl (by omega)) (by decide) rfl rfl (Nat.le_of_ble_eq_true rfl) ?_
                  refine R2.B (ls2 := [some (.ref 48), some (.int (nI n)), some (.int (nI at_)), some (.int (tat l (F 50) at_)), some (.int (prA l (F 50) (at_ + 2))), some (.int (prA l (F 50) (at_ + 4))), none]) (st2 := [.int (prA l (F 50) (at_ + 4))]) b_X11_reads_105_109 rfl (fun hd => ?_)
                  refine R2.if_ge 118 hd (by decide) (fun c109 => ?_) (fun c109 => ?_)
                  · refine R2.B (ls2 := [some (.ref 48), some (.int (nI n)), some (.int (nI at_)), some (.int (tat l (F 50) at_)), some (.int (prA l (F 50) (at_ + 2))), some (.int (prA l (F 50) (at_ + 4))), none]) (st2 := [.int 31, .int (prA l (F 50) (at_ + 4))]) b_X11_reads_118_122 rfl (fun hd => ?_)
                    refine R2.icmp_le 129 hd (by decide) (fun c122 => ?_) (fun c122 => ?_)
                    · refine R2.B (ls2 := [some (.ref 48), some (.int (nI n)), some (.int (nI at_)), some (.int (tat l (F 50) at_)), some (.int (prA l (F 50) (at_ + 2))), some (.int (prA l (F 50) (at_ + 4))), none]) (st2 := [.int ((nI at_) + 6), .ref 48]) b_X11_reads_129_134 rfl (fun hd => ?_)
                      rw [show ((nI at_) + 6 : Int32) = nI (at_ + 6) from nI_add at_ 6]
                      refine R2.callV3 (M2 := mX11_pairAt) (As := [.int (nI (at_ + 6))]) (rest := []) hd lk_11_113 okX11_pairAt (by decide) rfl (ev_pairAt E L F l (at_ + 6) hlen hl (by omega)) (by decide) rfl rfl (Nat.le_of_ble_eq_true rfl) ?_
                      refine R2.B (ls2 := [some (.ref 48), some (.int (nI n)), some (.int (nI at_)), some (.int (tat l (F 50) at_)), some (.int (prA l (F 50) (at_ + 2))), some (.int (prA l (F 50) (at_ + 4))), some (.int (prA l (F 50) (at_ + 6)))]) (st2 := [.int (prA l (F 50) (at_ + 6))]) b_X11_reads_137_141 rfl (fun hd => ?_)
                      refine R2.if_ge 150 hd (by decide) (fun c141 => ?_) (fun c141 => ?_)
                      · refine R2.B (ls2 := [some (.ref 48), some (.int (nI n)), some (.int (nI at_)), some (.int (tat l (F 50) at_)), some (.int (prA l (F 50) (at_ + 2))), some (.int (prA l (F 50) (at_ + 4))), some (.int (prA l (F 50) (at_ + 6)))]) (st2 := [.int 31, .int (prA l (F 50) (at_ + 6))]) b_X11_reads_150_154 rfl (fun hd => ?_)
                        refine R2.icmp_le 162 hd (by decide) (fun c154 => ?_) (fun c154 => ?_)
                        · refine R2.B (ls2 := [some (.ref 48), some (.int (nI n)), some (.int (nI at_)), some (.int (tat l (F 50) at_)), some (.int (prA l (F 50) (at_ + 2))), some (.int (prA l (F 50) (at_ + 4))), some (.int (prA l (F 50) (at_ + 6)))]) (st2 := [.int 115, .int (tat l (F 50) at_), .int (nI n), .ref 52]) b_X11_reads_162_170 rfl (fun hd => ?_)
                          refine R2.icmp_ne 177 hd (by decide) (fun c170 => ?_) (fun c170 => ?_)
                          · refine R2.B (ls2 := [some (.ref 48), some (.int (nI n)), some (.int (nI at_)), some (.int (tat l (F 50) at_)), some (.int (prA l (F 50) (at_ + 2))), some (.int (prA l (F 50) (at_ + 4))), some (.int (prA l (F 50) (at_ + 6)))]) (st2 := [.int 98, .int (tat l (F 50) at_), .int (nI n), .ref 52]) b_X11_reads_177_180 rfl (fun hd => ?_)
                            refine R2.icmp_ne 187 hd (by decide) (fun c180 => ?_) (fun c180 => ?_)
                            · refine R2.B (ls2 := [some (.ref 48), some (.int (nI n)), some (.int (nI at_)), some (.int (tat l (F 50) at_)), some (.int (prA l (F 50) (at_ + 2))), some (.int (prA l (F 50) (at_ + 4))), some (.int (prA l (F 50) (at_ + 6)))]) (st2 := [.int 2, .int (nI n), .ref 52]) b_X11_reads_187_188 rfl (fun hd => ?_)
                              refine R2.iast n rfl hd (by decide) rfl (fun _ => rfl) (by decide) (by omega) ?_
                              refine R2.B (ls2 := [some (.ref 48), some (.int (nI n)), some (.int (nI at_)), some (.int (tat l (F 50) at_)), some (.int (prA l (F 50) (at_ + 2))), some (.int (prA l (F 50) (at_ + 4))), some (.int (prA l (F 50) (at_ + 6)))]) (st2 := [.int ((nI at_) + 1), .int 0, .ref 48, .int (nI n), .ref 53]) b_X11_reads_189_199 rfl (fun hd => ?_)
                              rw [show ((nI at_) + 1 : Int32) = nI (at_ + 1) from nI_add at_ 1]
                              refine R2.callV3 (M2 := mX11_byteAt) (As := [.int 0, .int (nI (at_ + 1))]) (rest := [.int (nI n), .ref 53]) hd lk_11_105 okX11_byteAt (by decide) rfl (ev_byteAt0 E L (up2 F 52 n 2) l (at_ + 1) hlen hl (by omega)) (by decide) rfl rfl (Nat.le_of_ble_eq_true rfl) ?_
                              refine R2.B (ls2 := [some (.ref 48), some (.int (nI n)), some (.int (nI at_)), some (.int (tat l (F 50) at_)), some (.int (prA l (F 50) (at_ + 2))), some (.int (prA l (F 50) (at_ + 4))), some (.int (prA l (F 50) (at_ + 6)))]) (st2 := [.int ((tat l (F 50) (at_ + 1)) - 48), .int (nI n), .ref 53]) b_X11_reads_202_205 rfl (fun hd => ?_)
                              refine R2.iast n rfl hd (by decide) rfl (fun _ => rfl) (by decide) (by omega) ?_
                              refine R2.B (ls2 := [some (.ref 48), some (.int (nI n)), some (.int (nI at_)), some (.int (tat l (F 50) at_)), some (.int (prA l (F 50) (at_ + 2))), some (.int (prA l (F 50) (at_ + 4))), some (.int (prA l (F 50) (at_ + 6)))]) (st2 := [.int (prA l (F 50) (at_ + 2)), .int (nI n), .ref 54]) b_X11_reads_206_213 rfl (fun hd => ?_)
                              refine R2.iast n rfl hd (by decide) rfl (fun _ => rfl) (by decide) (by omega) ?_
                              refine R2.B (ls2 := [some (.ref 48), some (.int (nI n)), some (.int (nI at_)), some (.int (tat l (F 50) at_)), some (.int (prA l (F 50) (at_ + 2))), some (.int (prA l (F 50) (at_ + 4))), some (.int (prA l (F 50) (at_ + 6)))]) (st2 := [.int ((32 * (prA l (F 50) (at_ + 6))) + (prA l (F 50) (at_ + 4))), .int (nI n), .ref 55]) b_X11_reads_214_227 rfl (fun hd => ?_)
                              refine R2.iast n rfl hd (by decide) rfl (fun _ => rfl) (by decide) (by omega) ?_
                              refine R2.B (ls2 := [some (.ref 48), some (.int ((nI n) + 1)), some (.int ((nI at_) + 8)), some (.int (tat l (F 50) at_)), some (.int (prA l (F 50) (at_ + 2))), some (.int (prA l (F 50) (at_ + 4))), some (.int (prA l (F 50) (at_ + 6)))]) (st2 := [.int 0, .ref 49, .int ((nI at_) + 8)]) b_X11_reads_228_240 rfl (fun hd => ?_)
                              rw [show ((nI n) + 1 : Int32) = nI (n + 1) from nI_add n 1]
                              rw [show ((nI at_) + 8 : Int32) = nI (at_ + 8) from nI_add at_ 8]
                              refine R2.iald 0 rfl hd rfl (fun _ => rfl) (by decide) (by omega) ?_
                              refine R2.top (show (F 49 0 : Int32) = nI l from hlen) ?_
                              refine R2.B (ls2 := [some (.ref 48), some (.int (nI (n + 1))), some (.int (nI (at_ + 8))), some (.int (tat l (F 50) at_)), some (.int (prA l (F 50) (at_ + 2))), some (.int (prA l (F 50) (at_ + 4))), some (.int (prA l (F 50) (at_ + 6)))]) (st2 := [.int (nI l), .int (nI (at_ + 8))]) b_X11_reads_241_241 rfl (fun hd => ?_)
                              refine R2.icmp_ne 251 hd (by decide) (fun c241 => ?_) (fun c241 => ?_)
                              · have nc241 : ¬ (at_ + 8) = l := fun h9 => c241 ((nI_eq (a := (at_ + 8)) (b := l) (by omega) (by omega)).mpr h9)
                                refine R2.B (ls2 := [some (.ref 48), some (.int (nI (n + 1))), some (.int (nI (at_ + 8))), some (.int (tat l (F 50) at_)), some (.int (prA l (F 50) (at_ + 2))), some (.int (prA l (F 50) (at_ + 4))), some (.int (prA l (F 50) (at_ + 6)))]) (st2 := [.int (nI (at_ + 8)), .int 0, .ref 48]) b_X11_reads_251_254 rfl (fun hd => ?_)
                                refine R2.callV3 (M2 := mX11_byteAt) (As := [.int 0, .int (nI (at_ + 8))]) (rest := []) hd lk_11_105 okX11_byteAt (by decide) rfl (ev_byteAt0 E L (up2 (up2 (up2 (up2 F 52 n 2) 53 n ((tat l (F 50) (at_ + 1)) - 48)) 54 n (prA l (F 50) (at_ + 2))) 55 n ((32 * (prA l (F 50) (at_ + 6))) + (prA l (F 50) (at_ + 4)))) l (at_ + 8) hlen hl (by omega)) (by decide) rfl rfl (Nat.le_of_ble_eq_true rfl) ?_
                                refine R2.B (ls2 := [some (.ref 48), some (.int (nI (n + 1))), some (.int (nI (at_ + 8))), some (.int (tat l (F 50) at_)), some (.int (prA l (F 50) (at_ + 2))), some (.int (prA l (F 50) (at_ + 4))), some (.int (prA l (F 50) (at_ + 6)))]) (st2 := [.int 59, .int (tat l (F 50) (at_ + 8))]) b_X11_reads_257_259 rfl (fun hd => ?_)
                                refine R2.icmp_eq 264 hd (by decide) (fun c259 => ?_) (fun c259 => ?_)
                                · refine R2.B (ls2 := [some (.ref 48), some (.int (nI (n + 1))), some (.int ((nI (at_ + 8)) + 1)), some (.int (tat l (F 50) at_)), some (.int (prA l (F 50) (at_ + 2))), some (.int (prA l (F 50) (at_ + 4))), some (.int (prA l (F 50) (at_ + 6)))]) (st2 := []) b_X11_reads_264_9 rfl (fun hd => ?_)
                                  rw [show ((nI (at_ + 8)) + 1 : Int32) = nI ((at_ + 8) + 1) from nI_add (at_ + 8) 1]
                                  have e : mrdL l (k + 1) n at_ F = mrdL l k (n + 1) (at_ + 8 + 1) (up2 (up2 (up2 (up2 F 52 n 2) 53 n ((tat l (F 50) (at_ + 1)) - 48)) 54 n (prA l (F 50) (at_ + 2))) 55 n ((32 * (prA l (F 50) (at_ + 6))) + (prA l (F 50) (at_ + 4)))) := by
                                    clear hd ih; simp only [mrdL, mSt, cKind] <;> grind
                                  rw [e]
                                  refine R2.forget (ls2 := [some (.ref 48), some (.int (nI (n + 1))), some (.int (nI (at_ + 8 + 1))), none, none, none, none]) ⟨rfl, ⟨rfl, ⟨rfl, trivial⟩⟩⟩ ?_
                                  exact ih (n + 1) (at_ + 8 + 1) _ (by omega) (by clear hd ih; grind) (by omega) hlen
                                · refine R2.B (ls2 := [some (.ref 48), some (.int (nI (n + 1))), some (.int (nI (at_ + 8))), some (.int (tat l (F 50) at_)), some (.int (prA l (F 50) (at_ + 2))), some (.int (prA l (F 50) (at_ + 4))), some (.int (prA l (F 50) (at_ + 6)))]) (st2 := [.int (nI (at_ + 8))]) b_X11_reads_262_263 rfl (fun hd => ?_)
                                  have e : mrdL l (k + 1) n at_ F = (nI (at_ + 8), (up2 (up2 (up2 (up2 F 52 n 2) 53 n ((tat l (F 50) (at_ + 1)) - 48)) 54 n (prA l (F 50) (at_ + 2))) 55 n ((32 * (prA l (F 50) (at_ + 6))) + (prA l (F 50) (at_ + 4))))) := by
                                    clear hd ih; simp only [mrdL, mSt, cKind] <;> grind
                                  exact R2.ret3 (r := some (.int (nI (at_ + 8)))) hd trivial rfl (by rw [e]) (by rw [e])
                              · have nc241 : (at_ + 8) = l := (nI_eq (a := (at_ + 8)) (b := l) (by omega) (by omega)).mp c241
                                refine R2.B (ls2 := [some (.ref 48), some (.int (nI (n + 1))), some (.int (nI (at_ + 8))), some (.int (tat l (F 50) at_)), some (.int (prA l (F 50) (at_ + 2))), some (.int (prA l (F 50) (at_ + 4))), some (.int (prA l (F 50) (at_ + 6)))]) (st2 := [.int (nI (n + 1)), .ref 48]) b_X11_reads_244_246 rfl (fun hd => ?_)
                                refine R2.putf (a := 11) (b := 3) hd (by decide) (by decide) rfl rfl (fun _ => rfl) ?_
                                refine R2.B (ls2 := [some (.ref 48), some (.int (nI (n + 1))), some (.int (nI (at_ + 8))), some (.int (tat l (F 50) at_)), some (.int (prA l (F 50) (at_ + 2))), some (.int (prA l (F 50) (at_ + 4))), some (.int (prA l (F 50) (at_ + 6)))]) (st2 := [.int (-1)]) b_X11_reads_249_250 rfl (fun hd => ?_)
                                have e : mrdL l (k + 1) n at_ F = ((-1), (up2 (up2 (up2 (up2 (up2 F 52 n 2) 53 n ((tat l (F 50) (at_ + 1)) - 48)) 54 n (prA l (F 50) (at_ + 2))) 55 n ((32 * (prA l (F 50) (at_ + 6))) + (prA l (F 50) (at_ + 4)))) 48 3 (nI (n + 1)))) := by
                                  clear hd ih; simp only [mrdL, mSt, cKind] <;> grind
                                exact R2.ret3 (r := some (.int (-1))) hd trivial rfl (by rw [e]) (by rw [e])
                            · refine R2.B (ls2 := [some (.ref 48), some (.int (nI n)), some (.int (nI at_)), some (.int (tat l (F 50) at_)), some (.int (prA l (F 50) (at_ + 2))), some (.int (prA l (F 50) (at_ + 4))), some (.int (prA l (F 50) (at_ + 6)))]) (st2 := [.int 1, .int (nI n), .ref 52]) b_X11_reads_183_188 rfl (fun hd => ?_)
                              refine R2.iast n rfl hd (by decide) rfl (fun _ => rfl) (by decide) (by omega) ?_
                              refine R2.B (ls2 := [some (.ref 48), some (.int (nI n)), some (.int (nI at_)), some (.int (tat l (F 50) at_)), some (.int (prA l (F 50) (at_ + 2))), some (.int (prA l (F 50) (at_ + 4))), some (.int (prA l (F 50) (at_ + 6)))]) (st2 := [.int ((nI at_) + 1), .int 0, .ref 48, .int (nI n), .ref 53]) b_X11_reads_189_199 rfl (fun hd => ?_)
                              rw [show ((nI at_) + 1 : Int32) = nI (at_ + 1) from nI_add at_ 1]
                              refine R2.callV3 (M2 := mX11_byteAt) (As := [.int 0, .int (nI (at_ + 1))]) (rest := [.int (nI n), .ref 53]) hd lk_11_105 okX11_byteAt (by decide) rfl (ev_byteAt0 E L (up2 F 52 n 1) l (at_ + 1) hlen hl (by omega)) (by decide) rfl rfl (Nat.le_of_ble_eq_true rfl) ?_
                              refine R2.B (ls2 := [some (.ref 48), some (.int (nI n)), some (.int (nI at_)), some (.int (tat l (F 50) at_)), some (.int (prA l (F 50) (at_ + 2))), some (.int (prA l (F 50) (at_ + 4))), some (.int (prA l (F 50) (at_ + 6)))]) (st2 := [.int ((tat l (F 50) (at_ + 1)) - 48), .int (nI n), .ref 53]) b_X11_reads_202_205 rfl (fun hd => ?_)
                              refine R2.iast n rfl hd (by decide) rfl (fun _ => rfl) (by decide) (by omega) ?_
                              refine R2.B (ls2 := [some (.ref 48), some (.int (nI n)), some (.int (nI at_)), some (.int (tat l (F 50) at_)), some (.int (prA l (F 50) (at_ + 2))), some (.int (prA l (F 50) (at_ + 4))), some (.int (prA l (F 50) (at_ + 6)))]) (st2 := [.int (prA l (F 50) (at_ + 2)), .int (nI n), .ref 54]) b_X11_reads_206_213 rfl (fun hd => ?_)
                              refine R2.iast n rfl hd (by decide) rfl (fun _ => rfl) (by decide) (by omega) ?_
                              refine R2.B (ls2 := [some (.ref 48), some (.int (nI n)), some (.int (nI at_)), some (.int (tat l (F 50) at_)), some (.int (prA l (F 50) (at_ + 2))), some (.int (prA l (F 50) (at_ + 4))), some (.int (prA l (F 50) (at_ + 6)))]) (st2 := [.int ((32 * (prA l (F 50) (at_ + 6))) + (prA l (F 50) (at_ + 4))), .int (nI n), .ref 55]) b_X11_reads_214_227 rfl (fun hd => ?_)
                              refine R2.iast n rfl hd (by decide) rfl (fun _ => rfl) (by decide) (by omega) ?_
                              refine R2.B (ls2 := [some (.ref 48), some (.int ((nI n) + 1)), some (.int ((nI at_) + 8)), some (.int (tat l (F 50) at_)), some (.int (prA l (F 50) (at_ + 2))), some (.int (prA l (F 50) (at_ + 4))), some (.int (prA l (F 50) (at_ + 6)))]) (st2 := [.int 0, .ref 49, .int ((nI at_) + 8)]) b_X11_reads_228_240 rfl (fun hd => ?_)
                              rw [show ((nI n) + 1 : Int32) = nI (n + 1) from nI_add n 1]
                              rw [show ((nI at_) + 8 : Int32) = nI (at_ + 8) from nI_add at_ 8]
                              refine R2.iald 0 rfl hd rfl (fun _ => rfl) (by decide) (by omega) ?_
                              refine R2.top (show (F 49 0 : Int32) = nI l from hlen) ?_
                              refine R2.B (ls2 := [some (.ref 48), some (.int (nI (n + 1))), some (.int (nI (at_ + 8))), some (.int (tat l (F 50) at_)), some (.int (prA l (F 50) (at_ + 2))), some (.int (prA l (F 50) (at_ + 4))), some (.int (prA l (F 50) (at_ + 6)))]) (st2 := [.int (nI l), .int (nI (at_ + 8))]) b_X11_reads_241_241 rfl (fun hd => ?_)
                              refine R2.icmp_ne 251 hd (by decide) (fun c241 => ?_) (fun c241 => ?_)
                              · have nc241 : ¬ (at_ + 8) = l := fun h9 => c241 ((nI_eq (a := (at_ + 8)) (b := l) (by omega) (by omega)).mpr h9)
                                refine R2.B (ls2 := [some (.ref 48), some (.int (nI (n + 1))), some (.int (nI (at_ + 8))), some (.int (tat l (F 50) at_)), some (.int (prA l (F 50) (at_ + 2))), some (.int (prA l (F 50) (at_ + 4))), some (.int (prA l (F 50) (at_ + 6)))]) (st2 := [.int (nI (at_ + 8)), .int 0, .ref 48]) b_X11_reads_251_254 rfl (fun hd => ?_)
                                refine R2.callV3 (M2 := mX11_byteAt) (As := [.int 0, .int (nI (at_ + 8))]) (rest := []) hd lk_11_105 okX11_byteAt (by decide) rfl (ev_byteAt0 E L (up2 (up2 (up2 (up2 F 52 n 1) 53 n ((tat l (F 50) (at_ + 1)) - 48)) 54 n (prA l (F 50) (at_ + 2))) 55 n ((32 * (prA l (F 50) (at_ + 6))) + (prA l (F 50) (at_ + 4)))) l (at_ + 8) hlen hl (by omega)) (by decide) rfl rfl (Nat.le_of_ble_eq_true rfl) ?_
                                refine R2.B (ls2 := [some (.ref 48), some (.int (nI (n + 1))), some (.int (nI (at_ + 8))), some (.int (tat l (F 50) at_)), some (.int (prA l (F 50) (at_ + 2))), some (.int (prA l (F 50) (at_ + 4))), some (.int (prA l (F 50) (at_ + 6)))]) (st2 := [.int 59, .int (tat l (F 50) (at_ + 8))]) b_X11_reads_257_259 rfl (fun hd => ?_)
                                refine R2.icmp_eq 264 hd (by decide) (fun c259 => ?_) (fun c259 => ?_)
                                · refine R2.B (ls2 := [some (.ref 48), some (.int (nI (n + 1))), some (.int ((nI (at_ + 8)) + 1)), some (.int (tat l (F 50) at_)), some (.int (prA l (F 50) (at_ + 2))), some (.int (prA l (F 50) (at_ + 4))), some (.int (prA l (F 50) (at_ + 6)))]) (st2 := []) b_X11_reads_264_9 rfl (fun hd => ?_)
                                  rw [show ((nI (at_ + 8)) + 1 : Int32) = nI ((at_ + 8) + 1) from nI_add (at_ + 8) 1]
                                  have e : mrdL l (k + 1) n at_ F = mrdL l k (n + 1) (at_ + 8 + 1) (up2 (up2 (up2 (up2 F 52 n 1) 53 n ((tat l (F 50) (at_ + 1)) - 48)) 54 n (prA l (F 50) (at_ + 2))) 55 n ((32 * (prA l (F 50) (at_ + 6))) + (prA l (F 50) (at_ + 4)))) := by
                                    clear hd ih; simp only [mrdL, mSt, cKind] <;> grind
                                  rw [e]
                                  refine R2.forget (ls2 := [some (.ref 48), some (.int (nI (n + 1))), some (.int (nI (at_ + 8 + 1))), none, none, none, none]) ⟨rfl, ⟨rfl, ⟨rfl, trivial⟩⟩⟩ ?_
                                  exact ih (n + 1) (at_ + 8 + 1) _ (by omega) (by clear hd ih; grind) (by omega) hlen
                                · refine R2.B (ls2 := [some (.ref 48), some (.int (nI (n + 1))), some (.int (nI (at_ + 8))), some (.int (tat l (F 50) at_)), some (.int (prA l (F 50) (at_ + 2))), some (.int (prA l (F 50) (at_ + 4))), some (.int (prA l (F 50) (at_ + 6)))]) (st2 := [.int (nI (at_ + 8))]) b_X11_reads_262_263 rfl (fun hd => ?_)
                                  have e : mrdL l (k + 1) n at_ F = (nI (at_ + 8), (up2 (up2 (up2 (up2 F 52 n 1) 53 n ((tat l (F 50) (at_ + 1)) - 48)) 54 n (prA l (F 50) (at_ + 2))) 55 n ((32 * (prA l (F 50) (at_ + 6))) + (prA l (F 50) (at_ + 4))))) := by
                                    clear hd ih; simp only [mrdL, mSt, cKind] <;> grind
                                  exact R2.ret3 (r := some (.int (nI (at_ + 8)))) hd trivial rfl (by rw [e]) (by rw [e])
                              · have nc241 : (at_ + 8) = l := (nI_eq (a := (at_ + 8)) (b := l) (by omega) (by omega)).mp c241
                                refine R2.B (ls2 := [some (.ref 48), some (.int (nI (n + 1))), some (.int (nI (at_ + 8))), some (.int (tat l (F 50) at_)), some (.int (prA l (F 50) (at_ + 2))), some (.int (prA l (F 50) (at_ + 4))), some (.int (prA l (F 50) (at_ + 6)))]) (st2 := [.int (nI (n + 1)), .ref 48]) b_X11_reads_244_246 rfl (fun hd => ?_)
                                refine R2.putf (a := 11) (b := 3) hd (by decide) (by decide) rfl rfl (fun _ => rfl) ?_
                                refine R2.B (ls2 := [some (.ref 48), some (.int (nI (n + 1))), some (.int (nI (at_ + 8))), some (.int (tat l (F 50) at_)), some (.int (prA l (F 50) (at_ + 2))), some (.int (prA l (F 50) (at_ + 4))), some (.int (prA l (F 50) (at_ + 6)))]) (st2 := [.int (-1)]) b_X11_reads_249_250 rfl (fun hd => ?_)
                                have e : mrdL l (k + 1) n at_ F = ((-1), (up2 (up2 (up2 (up2 (up2 F 52 n 1) 53 n ((tat l (F 50) (at_ + 1)) - 48)) 54 n (prA l (F 50) (at_ + 2))) 55 n ((32 * (prA l (F 50) (at_ + 6))) + (prA l (F 50) (at_ + 4)))) 48 3 (nI (n + 1)))) := by
                                  clear hd ih; simp only [mrdL, mSt, cKind] <;> grind
                                exact R2.ret3 (r := some (.int (-1))) hd trivial rfl (by rw [e]) (by rw [e])
                          · refine R2.B (ls2 := [some (.ref 48), some (.int (nI n)), some (.int (nI at_)), some (.int (tat l (F 50) at_)), some (.int (prA l (F 50) (at_ + 2))), some (.int (prA l (F 50) (at_ + 4))), some (.int (prA l (F 50) (at_ + 6)))]) (st2 := [.int 0, .int (nI n), .ref 52]) b_X11_reads_173_188 rfl (fun hd => ?_)
                            refine R2.iast n rfl hd (by decide) rfl (fun _ => rfl) (by decide) (by omega) ?_
                            refine R2.B (ls2 := [some (.ref 48), some (.int (nI n)), some (.int (nI at_)), some (.int (tat l (F 50) at_)), some (.int (prA l (F 50) (at_ + 2))), some (.int (prA l (F 50) (at_ + 4))), some (.int (prA l (F 50) (at_ + 6)))]) (st2 := [.int ((nI at_) + 1), .int 0, .ref 48, .int (nI n), .ref 53]) b_X11_reads_189_199 rfl (fun hd => ?_)
                            rw [show ((nI at_) + 1 : Int32) = nI (at_ + 1) from nI_add at_ 1]
                            refine R2.callV3 (M2 := mX11_byteAt) (As := [.int 0, .int (nI (at_ + 1))]) (rest := [.int (nI n), .ref 53]) hd lk_11_105 okX11_byteAt (by decide) rfl (ev_byteAt0 E L (up2 F 52 n 0) l (at_ + 1) hlen hl (by omega)) (by decide) rfl rfl (Nat.le_of_ble_eq_true rfl) ?_
                            refine R2.B (ls2 := [some (.ref 48), some (.int (nI n)), some (.int (nI at_)), some (.int (tat l (F 50) at_)), some (.int (prA l (F 50) (at_ + 2))), some (.int (prA l (F 50) (at_ + 4))), some (.int (prA l (F 50) (at_ + 6)))]) (st2 := [.int ((tat l (F 50) (at_ + 1)) - 48), .int (nI n), .ref 53]) b_X11_reads_202_205 rfl (fun hd => ?_)
                            refine R2.iast n rfl hd (by decide) rfl (fun _ => rfl) (by decide) (by omega) ?_
                            refine R2.B (ls2 := [some (.ref 48), some (.int (nI n)), some (.int (nI at_)), some (.int (tat l (F 50) at_)), some (.int (prA l (F 50) (at_ + 2))), some (.int (prA l (F 50) (at_ + 4))), some (.int (prA l (F 50) (at_ + 6)))]) (st2 := [.int (prA l (F 50) (at_ + 2)), .int (nI n), .ref 54]) b_X11_reads_206_213 rfl (fun hd => ?_)
                            refine R2.iast n rfl hd (by decide) rfl (fun _ => rfl) (by decide) (by omega) ?_
                            refine R2.B (ls2 := [some (.ref 48), some (.int (nI n)), some (.int (nI at_)), some (.int (tat l (F 50) at_)), some (.int (prA l (F 50) (at_ + 2))), some (.int (prA l (F 50) (at_ + 4))), some (.int (prA l (F 50) (at_ + 6)))]) (st2 := [.int ((32 * (prA l (F 50) (at_ + 6))) + (prA l (F 50) (at_ + 4))), .int (nI n), .ref 55]) b_X11_reads_214_227 rfl (fun hd => ?_)
                            refine R2.iast n rfl hd (by decide) rfl (fun _ => rfl) (by decide) (by omega) ?_
                            refine R2.B (ls2 := [some (.ref 48), some (.int ((nI n) + 1)), some (.int ((nI at_) + 8)), some (.int (tat l (F 50) at_)), some (.int (prA l (F 50) (at_ + 2))), some (.int (prA l (F 50) (at_ + 4))), some (.int (prA l (F 50) (at_ + 6)))]) (st2 := [.int 0, .ref 49, .int ((nI at_) + 8)]) b_X11_reads_228_240 rfl (fun hd => ?_)
                            rw [show ((nI n) + 1 : Int32) = nI (n + 1) from nI_add n 1]
                            rw [show ((nI at_) + 8 : Int32) = nI (at_ + 8) from nI_add at_ 8]
                            refine R2.iald 0 rfl hd rfl (fun _ => rfl) (by decide) (by omega) ?_
                            refine R2.top (show (F 49 0 : Int32) = nI l from hlen) ?_
                            refine R2.B (ls2 := [some (.ref 48), some (.int (nI (n + 1))), some (.int (nI (at_ + 8))), some (.int (tat l (F 50) at_)), some (.int (prA l (F 50) (at_ + 2))), some (.int (prA l (F 50) (at_ + 4))), some (.int (prA l (F 50) (at_ + 6)))]) (st2 := [.int (nI l), .int (nI (at_ + 8))]) b_X11_reads_241_241 rfl (fun hd => ?_)
                            refine R2.icmp_ne 251 hd (by decide) (fun c241 => ?_) (fun c241 => ?_)
                            · have nc241 : ¬ (at_ + 8) = l := fun h9 => c241 ((nI_eq (a := (at_ + 8)) (b := l) (by omega) (by omega)).mpr h9)
                              refine R2.B (ls2 := [some (.ref 48), some (.int (nI (n + 1))), some (.int (nI (at_ + 8))), some (.int (tat l (F 50) at_)), some (.int (prA l (F 50) (at_ + 2))), some (.int (prA l (F 50) (at_ + 4))), some (.int (prA l (F 50) (at_ + 6)))]) (st2 := [.int (nI (at_ + 8)), .int 0, .ref 48]) b_X11_reads_251_254 rfl (fun hd => ?_)
                              refine R2.callV3 (M2 := mX11_byteAt) (As := [.int 0, .int (nI (at_ + 8))]) (rest := []) hd lk_11_105 okX11_byteAt (by decide) rfl (ev_byteAt0 E L (up2 (up2 (up2 (up2 F 52 n 0) 53 n ((tat l (F 50) (at_ + 1)) - 48)) 54 n (prA l (F 50) (at_ + 2))) 55 n ((32 * (prA l (F 50) (at_ + 6))) + (prA l (F 50) (at_ + 4)))) l (at_ + 8) hlen hl (by omega)) (by decide) rfl rfl (Nat.le_of_ble_eq_true rfl) ?_
                              refine R2.B (ls2 := [some (.ref 48), some (.int (nI (n + 1))), some (.int (nI (at_ + 8))), some (.int (tat l (F 50) at_)), some (.int (prA l (F 50) (at_ + 2))), some (.int (prA l (F 50) (at_ + 4))), some (.int (prA l (F 50) (at_ + 6)))]) (st2 := [.int 59, .int (tat l (F 50) (at_ + 8))]) b_X11_reads_257_259 rfl (fun hd => ?_)
                              refine R2.icmp_eq 264 hd (by decide) (fun c259 => ?_) (fun c259 => ?_)
                              · refine R2.B (ls2 := [some (.ref 48), some (.int (nI (n + 1))), some (.int ((nI (at_ + 8)) + 1)), some (.int (tat l (F 50) at_)), some (.int (prA l (F 50) (at_ + 2))), some (.int (prA l (F 50) (at_ + 4))), some (.int (prA l (F 50) (at_ + 6)))]) (st2 := []) b_X11_reads_264_9 rfl (fun hd => ?_)
                                rw [show ((nI (at_ + 8)) + 1 : Int32) = nI ((at_ + 8) + 1) from nI_add (at_ + 8) 1]
                                have e : mrdL l (k + 1) n at_ F = mrdL l k (n + 1) (at_ + 8 + 1) (up2 (up2 (up2 (up2 F 52 n 0) 53 n ((tat l (F 50) (at_ + 1)) - 48)) 54 n (prA l (F 50) (at_ + 2))) 55 n ((32 * (prA l (F 50) (at_ + 6))) + (prA l (F 50) (at_ + 4)))) := by
                                  clear hd ih; simp only [mrdL, mSt, cKind] <;> grind
                                rw [e]
                                refine R2.forget (ls2 := [some (.ref 48), some (.int (nI (n + 1))), some (.int (nI (at_ + 8 + 1))), none, none, none, none]) ⟨rfl, ⟨rfl, ⟨rfl, trivial⟩⟩⟩ ?_
                                exact ih (n + 1) (at_ + 8 + 1) _ (by omega) (by clear hd ih; grind) (by omega) hlen
                              · refine R2.B (ls2 := [some (.ref 48), some (.int (nI (n + 1))), some (.int (nI (at_ + 8))), some (.int (tat l (F 50) at_)), some (.int (prA l (F 50) (at_ + 2))), some (.int (prA l (F 50) (at_ + 4))), some (.int (prA l (F 50) (at_ + 6)))]) (st2 := [.int (nI (at_ + 8))]) b_X11_reads_262_263 rfl (fun hd => ?_)
                                have e : mrdL l (k + 1) n at_ F = (nI (at_ + 8), (up2 (up2 (up2 (up2 F 52 n 0) 53 n ((tat l (F 50) (at_ + 1)) - 48)) 54 n (prA l (F 50) (at_ + 2))) 55 n ((32 * (prA l (F 50) (at_ + 6))) + (prA l (F 50) (at_ + 4))))) := by
                                  clear hd ih; simp only [mrdL, mSt, cKind] <;> grind
                                exact R2.ret3 (r := some (.int (nI (at_ + 8)))) hd trivial rfl (by rw [e]) (by rw [e])
                            · have nc241 : (at_ + 8) = l := (nI_eq (a := (at_ + 8)) (b := l) (by omega) (by omega)).mp c241
                              refine R2.B (ls2 := [some (.ref 48), some (.int (nI (n + 1))), some (.int (nI (at_ + 8))), some (.int (tat l (F 50) at_)), some (.int (prA l (F 50) (at_ + 2))), some (.int (prA l (F 50) (at_ + 4))), some (.int (prA l (F 50) (at_ + 6)))]) (st2 := [.int (nI (n + 1)), .ref 48]) b_X11_reads_244_246 rfl (fun hd => ?_)
                              refine R2.putf (a := 11) (b := 3) hd (by decide) (by decide) rfl rfl (fun _ => rfl) ?_
                              refine R2.B (ls2 := [some (.ref 48), some (.int (nI (n + 1))), some (.int (nI (at_ + 8))), some (.int (tat l (F 50) at_)), some (.int (prA l (F 50) (at_ + 2))), some (.int (prA l (F 50) (at_ + 4))), some (.int (prA l (F 50) (at_ + 6)))]) (st2 := [.int (-1)]) b_X11_reads_249_250 rfl (fun hd => ?_)
                              have e : mrdL l (k + 1) n at_ F = ((-1), (up2 (up2 (up2 (up2 (up2 F 52 n 0) 53 n ((tat l (F 50) (at_ + 1)) - 48)) 54 n (prA l (F 50) (at_ + 2))) 55 n ((32 * (prA l (F 50) (at_ + 6))) + (prA l (F 50) (at_ + 4)))) 48 3 (nI (n + 1)))) := by
                                clear hd ih; simp only [mrdL, mSt, cKind] <;> grind
                              exact R2.ret3 (r := some (.int (-1))) hd trivial rfl (by rw [e]) (by rw [e])
                        · refine R2.B (ls2 := [some (.ref 48), some (.int (nI n)), some (.int (nI at_)), some (.int (tat l (F 50) at_)), some (.int (prA l (F 50) (at_ + 2))), some (.int (prA l (F 50) (at_ + 4))), some (.int (prA l (F 50) (at_ + 6)))]) (st2 := [.int ((nI at_) + 6)]) b_X11_reads_157_161 rfl (fun hd => ?_)
                          rw [show ((nI at_) + 6 : Int32) = nI (at_ + 6) from nI_add at_ 6]
                          have e : mrdL l (k + 1) n at_ F = (nI (at_ + 6), F) := by
                            clear hd ih; simp only [mrdL, mSt, cKind] <;> grind
                          exact R2.ret3 (r := some (.int (nI (at_ + 6)))) hd trivial rfl (by rw [e]) (by rw [e])
                      · refine R2.B (ls2 := [some (.ref 48), some (.int (nI n)), some (.int (nI at_)), some (.int (tat l (F 50) at_)), some (.int (prA l (F 50) (at_ + 2))), some (.int (prA l (F 50) (at_ + 4))), some (.int (prA l (F 50) (at_ + 6)))]) (st2 := [.int ((-2) - (prA l (F 50) (at_ + 6)))]) b_X11_reads_144_149 rfl (fun hd => ?_)
                        have e : mrdL l (k + 1) n at_ F = ((-2) - (prA l (F 50) (at_ + 6)), F) := by
                          clear hd ih; simp only [mrdL, mSt, cKind] <;> grind
                        exact R2.ret3 (r := some (.int ((-2) - (prA l (F 50) (at_ + 6))))) hd trivial rfl (by rw [e]) (by rw [e])
                    · refine R2.B (ls2 := [some (.ref 48), some (.int (nI n)), some (.int (nI at_)), some (.int (tat l (F 50) at_)), some (.int (prA l (F 50) (at_ + 2))), some (.int (prA l (F 50) (at_ + 4))), none]) (st2 := [.int ((nI at_) + 4)]) b_X11_reads_125_128 rfl (fun hd => ?_)
                      rw [show ((nI at_) + 4 : Int32) = nI (at_ + 4) from nI_add at_ 4]
                      have e : mrdL l (k + 1) n at_ F = (nI (at_ + 4), F) := by
                        clear hd ih; simp only [mrdL, mSt, cKind] <;> grind
                      exact R2.ret3 (r := some (.int (nI (at_ + 4)))) hd trivial rfl (by rw [e]) (by rw [e])
                  · refine R2.B (ls2 := [some (.ref 48), some (.int (nI n)), some (.int (nI at_)), some (.int (tat l (F 50) at_)), some (.int (prA l (F 50) (at_ + 2))), some (.int (prA l (F 50) (at_ + 4))), none]) (st2 := [.int ((-2) - (prA l (F 50) (at_ + 4)))]) b_X11_reads_112_117 rfl (fun hd => ?_)
                    have e : mrdL l (k + 1) n at_ F = ((-2) - (prA l (F 50) (at_ + 4)), F) := by
                      clear hd ih; simp only [mrdL, mSt, cKind] <;> grind
                    exact R2.ret3 (r := some (.int ((-2) - (prA l (F 50) (at_ + 4))))) hd trivial rfl (by rw [e]) (by rw [e])
                · refine R2.B (ls2 := [some (.ref 48), some (.int (nI n)), some (.int (nI at_)), some (.int (tat l (F 50) at_)), some (.int (prA l (F 50) (at_ + 2))), none, none]) (st2 := [.int ((-2) - (prA l (F 50) (at_ + 2)))]) b_X11_reads_92_97 rfl (fun hd => ?_)
                  have e : mrdL l (k + 1) n at_ F = ((-2) - (prA l (F 50) (at_ + 2)), F) := by
                    clear hd ih; simp only [mrdL, mSt, cKind] <;> grind
                  exact R2.ret3 (r := some (.int ((-2) - (prA l (F 50) (at_ + 2))))) hd trivial rfl (by rw [e]) (by rw [e])
              · have nc71 : ¬ (48 ≤ (tat l (F 50) (at_ + 1)) ∧ (tat l (F 50) (at_ + 1)) ≤ 51) := b2i_zero.mp c71
                refine R2.B (ls2 := [some (.ref 48), some (.int (nI n)), some (.int (nI at_)), some (.int (tat l (F 50) at_)), none, none, none]) (st2 := [.int ((nI at_) + 1)]) b_X11_reads_74_77 rfl (fun hd => ?_)
                rw [show ((nI at_) + 1 : Int32) = nI (at_ + 1) from nI_add at_ 1]
                have e : mrdL l (k + 1) n at_ F = (nI (at_ + 1), F) := by
                  clear hd ih; simp only [mrdL, mSt, cKind] <;> grind
                exact R2.ret3 (r := some (.int (nI (at_ + 1)))) hd trivial rfl (by rw [e]) (by rw [e])
            · refine R2.B (ls2 := [some (.ref 48), some (.int (nI n)), some (.int (nI at_)), some (.int (tat l (F 50) at_)), none, none, none]) (st2 := [.int 110, .int (tat l (F 50) at_)]) b_X11_reads_48_51 rfl (fun hd => ?_)
              refine R2.icmp_eq 56 hd (by decide) (fun c51 => ?_) (fun c51 => ?_)
              · refine R2.B (ls2 := [some (.ref 48), some (.int (nI n)), some (.int (nI at_)), some (.int (tat l (F 50) at_)), none, none, none]) (st2 := [.int ((nI at_) + 1), .int 0, .ref 48]) b_X11_reads_56_61 rfl (fun hd => ?_)
                rw [show ((nI at_) + 1 : Int32) = nI (at_ + 1) from nI_add at_ 1]
                refine R2.callV3 (M2 := mX11_byteAt) (As := [.int 0, .int (nI (at_ + 1))]) (rest := []) hd lk_11_105 okX11_byteAt (by decide) rfl (ev_byteAt0 E L F l (at_ + 1) hlen hl (by omega)) (by decide) rfl rfl (Nat.le_of_ble_eq_true rfl) ?_
                refine R2.B (ls2 := [some (.ref 48), some (.int (nI n)), some (.int (nI at_)), some (.int (tat l (F 50) at_)), none, none, none]) (st2 := [.int 51, .int 48, .int (tat l (F 50) (at_ + 1))]) b_X11_reads_64_68 rfl (fun hd => ?_)
                refine R2.callS3 (M2 := mX11_in) (As := [.int (tat l (F 50) (at_ + 1)), .int 48, .int 51]) (rest := []) hd lk_11_86 okX11_in (by decide) (ev_in E L F (tat l (F 50) (at_ + 1)) 48 51) (by decide) rfl rfl (Nat.le_of_ble_eq_true rfl) ?_
                refine R2.B (ls2 := [some (.ref 48), some (.int (nI n)), some (.int (nI at_)), some (.int (tat l (F 50) at_)), none, none, none]) (st2 := [.int (b2i (48 ≤ (tat l (F 50) (at_ + 1)) ∧ (tat l (F 50) (at_ + 1)) ≤ 51))]) b_X11_reads_71_71 rfl (fun hd => ?_)
                refine R2.if_ne 78 hd (by decide) (fun c71 => ?_) (fun c71 => ?_)
                · have nc71 : 48 ≤ (tat l (F 50) (at_ + 1)) ∧ (tat l (F 50) (at_ + 1)) ≤ 51 := b2i_nz.mp c71
                  refine R2.B (ls2 := [some (.ref 48), some (.int (nI n)), some (.int (nI at_)), some (.int (tat l (F 50) at_)), none, none, none]) (st2 := [.int ((nI at_) + 2), .ref 48]) b_X11_reads_78_82 rfl (fun hd => ?_)
                  rw [show ((nI at_) + 2 : Int32) = nI (at_ + 2) from nI_add at_ 2]
                  refine R2.callV3 (M2 := mX11_pairAt) (As := [.int (nI (at_ + 2))]) (rest := []) hd lk_11_113 okX11_pairAt (by decide) rfl (ev_pairAt E L F l (at_ + 2) hlen hl (by omega)) (by decide) rfl rfl (Nat.le_of_ble_eq_true rfl) ?_
                  refine R2.B (ls2 := [some (.ref 48), some (.int (nI n)), some (.int (nI at_)), some (.int (tat l (F 50) at_)), some (.int (prA l (F 50) (at_ + 2))), none, none]) (st2 := [.int (prA l (F 50) (at_ + 2))]) b_X11_reads_85_89 rfl (fun hd => ?_)
                  refine R2.if_ge 98 hd (by decide) (fun c89 => ?_) (fun c89 => ?_)
                  · refine R2.B (ls2 := [some (.ref 48), some (.int (nI n)), some (.int (nI at_)), some (.int (tat l (F 50) at_)), some (.int (prA l (F 50) (at_ + 2))), none, none]) (st2 := [.int ((nI at_) + 4), .ref 48]) b_X11_reads_98_102 rfl (fun hd => ?_)
                    rw [show ((nI at_) + 4 : Int32) = nI (at_ + 4) from nI_add at_ 4]
                    refine R2.callV3 (M2 := mX11_pairAt) (As := [.int (nI (at_ + 4))]) (rest := []) hd lk_11_113 okX11_pairAt (by decide) rfl (ev_pairAt E L F l (at_ + 4) hlen hl (by omega)) (by decide) rfl rfl (Nat.le_of_ble_eq_true rfl) ?_
                    refine R2.B (ls2 := [some (.ref 48), some (.int (nI n)), some (.int (nI at_)), some (.int (tat l (F 50) at_)), some (.int (prA l (F 50) (at_ + 2))), some (.int (prA l (F 50) (at_ + 4))), none]) (st2 := [.int (prA l (F 50) (at_ + 4))]) b_X11_reads_105_109 rfl (fun hd => ?_)
                    refine R2.if_ge 118 hd (by decide) (fun c109 => ?_) (fun c109 => ?_)
                    · refine R2.B (ls2 := [some (.ref 48), some (.int (nI n)), some (.int (nI at_)), some (.int (tat l (F 50) at_)), some (.int (prA l (F 50) (at_ + 2))), some (.int (prA l (F 50) (at_ + 4))), none]) (st2 := [.int 31, .int (prA l (F 50) (at_ + 4))]) b_X11_reads_118_122 rfl (fun hd => ?_)
                      refine R2.icmp_le 129 hd (by decide) (fun c122 => ?_) (fun c122 => ?_)
                      · refine R2.B (ls2 := [some (.ref 48), some (.int (nI n)), some (.int (nI at_)), some (.int (tat l (F 50) at_)), some (.int (prA l (F 50) (at_ + 2))), some (.int (prA l (F 50) (at_ + 4))), none]) (st2 := [.int ((nI at_) + 6), .ref 48]) b_X11_reads_129_134 rfl (fun hd => ?_)
                        rw [show ((nI at_) + 6 : Int32) = nI (at_ + 6) from nI_add at_ 6]
                        refine R2.callV3 (M2 := mX11_pairAt) (As := [.int (nI (at_ + 6))]) (rest := []) hd lk_11_113 okX11_pairAt (by decide) rfl (ev_pairAt E L F l (at_ + 6) hlen hl (by omega)) (by decide) rfl rfl (Nat.le_of_ble_eq_true rfl) ?_
                        refine R2.B (ls2 := [some (.ref 48), some (.int (nI n)), some (.int (nI at_)), some (.int (tat l (F 50) at_)), some (.int (prA l (F 50) (at_ + 2))), some (.int (prA l (F 50) (at_ + 4))), some (.int (prA l (F 50) (at_ + 6)))]) (st2 := [.int (prA l (F 50) (at_ + 6))]) b_X11_reads_137_141 rfl (fun hd => ?_)
                        refine R2.if_ge 150 hd (by decide) (fun c141 => ?_) (fun c141 => ?_)
                        · refine R2.B (ls2 := [some (.ref 48), some (.int (nI n)), some (.int (nI at_)), some (.int (tat l (F 50) at_)), some (.int (prA l (F 50) (at_ + 2))), some (.int (prA l (F 50) (at_ + 4))), some (.int (prA l (F 50) (at_ + 6)))]) (st2 := [.int 31, .int (prA l (F 50) (at_ + 6))]) b_X11_reads_150_154 rfl (fun hd => ?_)
                          refine R2.icmp_le 162 hd (by decide) (fun c154 => ?_) (fun c154 => ?_)
                          · refine R2.B (ls2 := [some (.ref 48), some (.int (nI n)), some (.int (nI at_)), some (.int (tat l (F 50) at_)), some (.int (prA l (F 50) (at_ + 2))), some (.int (prA l (F 50) (at_ + 4))), some (.int (prA l (F 50) (at_ + 6)))]) (st2 := [.int 115, .int (tat l (F 50) at_), .int (nI n), .ref 52]) b_X11_reads_162_170 rfl (fun hd => ?_)
                            refine R2.icmp_ne 177 hd (by decide) (fun c170 => ?_) (fun c170 => ?_)
                            · refine R2.B (ls2 := [some (.ref 48), some (.int (nI n)), some (.int (nI at_)), some (.int (tat l (F 50) at_)), some (.int (prA l (F 50) (at_ + 2))), some (.int (prA l (F 50) (at_ + 4))), some (.int (prA l (F 50) (at_ + 6)))]) (st2 := [.int 98, .int (tat l (F 50) at_), .int (nI n), .ref 52]) b_X11_reads_177_180 rfl (fun hd => ?_)
                              refine R2.icmp_ne 187 hd (by decide) (fun c180 => ?_) (fun c180 => ?_)
                              · refine R2.B (ls2 := [some (.ref 48), some (.int (nI n)), some (.int (nI at_)), some (.int (tat l (F 50) at_)), some (.int (prA l (F 50) (at_ + 2))), some (.int (prA l (F 50) (at_ + 4))), some (.int (prA l (F 50) (at_ + 6)))]) (st2 := [.int 2, .int (nI n), .ref 52]) b_X11_reads_187_188 rfl (fun hd => ?_)
                                refine R2.iast n rfl hd (by decide) rfl (fun _ => rfl) (by decide) (by omega) ?_
                                refine R2.B (ls2 := [some (.ref 48), some (.int (nI n)), some (.int (nI at_)), some (.int (tat l (F 50) at_)), some (.int (prA l (F 50) (at_ + 2))), some (.int (prA l (F 50) (at_ + 4))), some (.int (prA l (F 50) (at_ + 6)))]) (st2 := [.int ((nI at_) + 1), .int 0, .ref 48, .int (nI n), .ref 53]) b_X11_reads_189_199 rfl (fun hd => ?_)
                                rw [show ((nI at_) + 1 : Int32) = nI (at_ + 1) from nI_add at_ 1]
                                refine R2.callV3 (M2 := mX11_byteAt) (As := [.int 0, .int (nI (at_ + 1))]) (rest := [.int (nI n), .ref 53]) hd lk_11_105 okX11_byteAt (by decide) rfl (ev_byteAt0 E L (up2 F 52 n 2) l (at_ + 1) hlen hl (by omega)) (by decide) rfl rfl (Nat.le_of_ble_eq_true rfl) ?_
                                refine R2.B (ls2 := [some (.ref 48), some (.int (nI n)), some (.int (nI at_)), some (.int (tat l (F 50) at_)), some (.int (prA l (F 50) (at_ + 2))), some (.int (prA l (F 50) (at_ + 4))), some (.int (prA l (F 50) (at_ + 6)))]) (st2 := [.int ((tat l (F 50) (at_ + 1)) - 48), .int (nI n), .ref 53]) b_X11_reads_202_205 rfl (fun hd => ?_)
                                refine R2.iast n rfl hd (by decide) rfl (fun _ => rfl) (by decide) (by omega) ?_
                                refine R2.B (ls2 := [some (.ref 48), some (.int (nI n)), some (.int (nI at_)), some (.int (tat l (F 50) at_)), some (.int (prA l (F 50) (at_ + 2))), some (.int (prA l (F 50) (at_ + 4))), some (.int (prA l (F 50) (at_ + 6)))]) (st2 := [.int (prA l (F 50) (at_ + 2)), .int (nI n), .ref 54]) b_X11_reads_206_213 rfl (fun hd => ?_)
                                refine R2.iast n rfl hd (by decide) rfl (fun _ => rfl) (by decide) (by omega) ?_
                                refine R2.B (ls2 := [some (.ref 48), some (.int (nI n)), some (.int (nI at_)), some (.int (tat l (F 50) at_)), some (.int (prA l (F 50) (at_ + 2))), some (.int (prA l (F 50) (at_ + 4))), some (.int (prA l (F 50) (at_ + 6)))]) (st2 := [.int ((32 * (prA l (F 50) (at_ + 6))) + (prA l (F 50) (at_ + 4))), .int (nI n), .ref 55]) b_X11_reads_214_227 rfl (fun hd => ?_)
                                refine R2.iast n rfl hd (by decide) rfl (fun _ => rfl) (by decide) (by omega) ?_
                                refine R2.B (ls2 := [some (.ref 48), some (.int ((nI n) + 1)), some (.int ((nI at_) + 8)), some (.int (tat l (F 50) at_)), some (.int (prA l (F 50) (at_ + 2))), some (.int (prA l (F 50) (at_ + 4))), some (.int (prA l (F 50) (at_ + 6)))]) (st2 := [.int 0, .ref 49, .int ((nI at_) + 8)]) b_X11_reads_228_240 rfl (fun hd => ?_)
                                rw [show ((nI n) + 1 : Int32) = nI (n + 1) from nI_add n 1]
                                rw [show ((nI at_) + 8 : Int32) = nI (at_ + 8) from nI_add at_ 8]
                                refine R2.iald 0 rfl hd rfl (fun _ => rfl) (by decide) (by omega) ?_
                                refine R2.top (show (F 49 0 : Int32) = nI l from hlen) ?_
                                refine R2.B (ls2 := [some (.ref 48), some (.int (nI (n + 1))), some (.int (nI (at_ + 8))), some (.int (tat l (F 50) at_)), some (.int (prA l (F 50) (at_ + 2))), some (.int (prA l (F 50) (at_ + 4))), some (.int (prA l (F 50) (at_ + 6)))]) (st2 := [.int (nI l), .int (nI (at_ + 8))]) b_X11_reads_241_241 rfl (fun hd => ?_)
                                refine R2.icmp_ne 251 hd (by decide) (fun c241 => ?_) (fun c241 => ?_)
                                · have nc241 : ¬ (at_ + 8) = l := fun h9 => c241 ((nI_eq (a := (at_ + 8)) (b := l) (by omega) (by omega)).mpr h9)
                                  refine R2.B (ls2 := [some (.ref 48), some (.int (nI (n + 1))), some (.int (nI (at_ + 8))), some (.int (tat l (F 50) at_)), some (.int (prA l (F 50) (at_ + 2))), some (.int (prA l (F 50) (at_ + 4))), some (.int (prA l (F 50) (at_ + 6)))]) (st2 := [.int (nI (at_ + 8)), .int 0, .ref 48]) b_X11_reads_251_254 rfl (fun hd => ?_)
                                  refine R2.callV3 (M2 := mX11_byteAt) (As := [.int 0, .int (nI (at_ + 8))]) (rest := []) hd lk_11_105 okX11_byteAt (by decide) rfl (ev_byteAt0 E L (up2 (up2 (up2 (up2 F 52 n 2) 53 n ((tat l (F 50) (at_ + 1)) - 48)) 54 n (prA l (F 50) (at_ + 2))) 55 n ((32 * (prA l (F 50) (at_ + 6))) + (prA l (F 50) (at_ + 4)))) l (at_ + 8) hlen hl (by omega)) (by decide) rfl rfl (Nat.le_of_ble_eq_true rfl) ?_
                                  refine R2.B (ls2 := [some (.ref 48), some (.int (nI (n + 1))), some (.int (nI (at_ + 8))), some (.int (tat l (F 50) at_)), some (.int (prA l (F 50) (at_ + 2))), some (.int (prA l (F 50) (at_ + 4))), some (.int (prA l (F 50) (at_ + 6)))]) (st2 := [.int 59, .int (tat l (F 50) (at_ + 8))]) b_X11_reads_257_259 rfl (fun hd => ?_)
                                  refine R2.icmp_eq 264 hd (by decide) (fun c259 => ?_) (fun c259 => ?_)
                                  · refine R2.B (ls2 := [some (.ref 48), some (.int (nI (n + 1))), some (.int ((nI (at_ + 8)) + 1)), some (.int (tat l (F 50) at_)), some (.int (prA l (F 50) (at_ + 2))), some (.int (prA l (F 50) (at_ + 4))), some (.int (prA l (F 50) (at_ + 6)))]) (st2 := []) b_X11_reads_264_9 rfl (fun hd => ?_)
                                    rw [show ((nI (at_ + 8)) + 1 : Int32) = nI ((at_ + 8) + 1) from nI_add (at_ + 8) 1]
                                    have e : mrdL l (k + 1) n at_ F = mrdL l k (n + 1) (at_ + 8 + 1) (up2 (up2 (up2 (up2 F 52 n 2) 53 n ((tat l (F 50) (at_ + 1)) - 48)) 54 n (prA l (F 50) (at_ + 2))) 55 n ((32 * (prA l (F 50) (at_ + 6))) + (prA l (F 50) (at_ + 4)))) := by
                                      clear hd ih; simp only [mrdL, mSt, cKind] <;> grind
                                    rw [e]
                                    refine R2.forget (ls2 := [some (.ref 48), some (.int (nI (n + 1))), some (.int (nI (at_ + 8 + 1))), none, none, none, none]) ⟨rfl, ⟨rfl, ⟨rfl, trivial⟩⟩⟩ ?_
                                    exact ih (n + 1) (at_ + 8 + 1) _ (by omega) (by clear hd ih; grind) (by omega) hlen
                                  · refine R2.B (ls2 := [some (.ref 48), some (.int (nI (n + 1))), some (.int (nI (at_ + 8))), some (.int (tat l (F 50) at_)), some (.int (prA l (F 50) (at_ + 2))), some (.int (prA l (F 50) (at_ + 4))), some (.int (prA l (F 50) (at_ + 6)))]) (st2 := [.int (nI (at_ + 8))]) b_X11_reads_262_263 rfl (fun hd => ?_)
                                    have e : mrdL l (k + 1) n at_ F = (nI (at_ + 8), (up2 (up2 (up2 (up2 F 52 n 2) 53 n ((tat l (F 50) (at_ + 1)) - 48)) 54 n (prA l (F 50) (at_ + 2))) 55 n ((32 * (prA l (F 50) (at_ + 6))) + (prA l (F 50) (at_ + 4))))) := by
                                      clear hd ih; simp only [mrdL, mSt, cKind] <;> grind
                                    exact R2.ret3 (r := some (.int (nI (at_ + 8)))) hd trivial rfl (by rw [e]) (by rw [e])
                                · have nc241 : (at_ + 8) = l := (nI_eq (a := (at_ + 8)) (b := l) (by omega) (by omega)).mp c241
                                  refine R2.B (ls2 := [some (.ref 48), some (.int (nI (n + 1))), some (.int (nI (at_ + 8))), some (.int (tat l (F 50) at_)), some (.int (prA l (F 50) (at_ + 2))), some (.int (prA l (F 50) (at_ + 4))), some (.int (prA l (F 50) (at_ + 6)))]) (st2 := [.int (nI (n + 1)), .ref 48]) b_X11_reads_244_246 rfl (fun hd => ?_)
                                  refine R2.putf (a := 11) (b := 3) hd (by decide) (by decide) rfl rfl (fun _ => rfl) ?_
                                  refine R2.B (ls2 := [some (.ref 48), some (.int (nI (n + 1))), some (.int (nI (at_ + 8))), some (.int (tat l (F 50) at_)), some (.int (prA l (F 50) (at_ + 2))), some (.int (prA l (F 50) (at_ + 4))), some (.int (prA l (F 50) (at_ + 6)))]) (st2 := [.int (-1)]) b_X11_reads_249_250 rfl (fun hd => ?_)
                                  have e : mrdL l (k + 1) n at_ F = ((-1), (up2 (up2 (up2 (up2 (up2 F 52 n 2) 53 n ((tat l (F 50) (at_ + 1)) - 48)) 54 n (prA l (F 50) (at_ + 2))) 55 n ((32 * (prA l (F 50) (at_ + 6))) + (prA l (F 50) (at_ + 4)))) 48 3 (nI (n + 1)))) := by
                                    clear hd ih; simp only [mrdL, mSt, cKind] <;> grind
                                  exact R2.ret3 (r := some (.int (-1))) hd trivial rfl (by rw [e]) (by rw [e])
                              · refine R2.B (ls2 := [some (.ref 48), some (.int (nI n)), some (.int (nI at_)), some (.int (tat l (F 50) at_)), some (.int (prA l (F 50) (at_ + 2))), some (.int (prA l (F 50) (at_ + 4))), some (.int (prA l (F 50) (at_ + 6)))]) (st2 := [.int 1, .int (nI n), .ref 52]) b_X11_reads_183_188 rfl (fun hd => ?_)
                                refine R2.iast n rfl hd (by decide) rfl (fun _ => rfl) (by decide) (by omega) ?_
                                refine R2.B (ls2 := [some (.ref 48), some (.int (nI n)), some (.int (nI at_)), some (.int (tat l (F 50) at_)), some (.int (prA l (F 50) (at_ + 2))), some (.int (prA l (F 50) (at_ + 4))), some (.int (prA l (F 50) (at_ + 6)))]) (st2 := [.int ((nI at_) + 1), .int 0, .ref 48, .int (nI n), .ref 53]) b_X11_reads_189_199 rfl (fun hd => ?_)
                                rw [show ((nI at_) + 1 : Int32) = nI (at_ + 1) from nI_add at_ 1]
                                refine R2.callV3 (M2 := mX11_byteAt) (As := [.int 0, .int (nI (at_ + 1))]) (rest := [.int (nI n), .ref 53]) hd lk_11_105 okX11_byteAt (by decide) rfl (ev_byteAt0 E L (up2 F 52 n 1) l (at_ + 1) hlen hl (by omega)) (by decide) rfl rfl (Nat.le_of_ble_eq_true rfl) ?_
                                refine R2.B (ls2 := [some (.ref 48), some (.int (nI n)), some (.int (nI at_)), some (.int (tat l (F 50) at_)), some (.int (prA l (F 50) (at_ + 2))), some (.int (prA l (F 50) (at_ + 4))), some (.int (prA l (F 50) (at_ + 6)))]) (st2 := [.int ((tat l (F 50) (at_ + 1)) - 48), .int (nI n), .ref 53]) b_X11_reads_202_205 rfl (fun hd => ?_)
                                refine R2.iast n rfl hd (by decide) rfl (fun _ => rfl) (by decide) (by omega) ?_
                                refine R2.B (ls2 := [some (.ref 48), some (.int (nI n)), some (.int (nI at_)), some (.int (tat l (F 50) at_)), some (.int (prA l (F 50) (at_ + 2))), some (.int (prA l (F 50) (at_ + 4))), some (.int (prA l (F 50) (at_ + 6)))]) (st2 := [.int (prA l (F 50) (at_ + 2)), .int (nI n), .ref 54]) b_X11_reads_206_213 rfl (fun hd => ?_)
                                refine R2.iast n rfl hd (by decide) rfl (fun _ => rfl) (by decide) (by omega) ?_
                                refine R2.B (ls2 := [some (.ref 48), some (.int (nI n)), some (.int (nI at_)), some (.int (tat l (F 50) at_)), some (.int (prA l (F 50) (at_ + 2))), some (.int (prA l (F 50) (at_ + 4))), some (.int (prA l (F 50) (at_ + 6)))]) (st2 := [.int ((32 * (prA l (F 50) (at_ + 6))) + (prA l (F 50) (at_ + 4))), .int (nI n), .ref 55]) b_X11_reads_214_227 rfl (fun hd => ?_)
                                refine R2.iast n rfl hd (by decide) rfl (fun _ => rfl) (by decide) (by omega) ?_
                                refine R2.B (ls2 := [some (.ref 48), some (.int ((nI n) + 1)), some (.int ((nI at_) + 8)), some (.int (tat l (F 50) at_)), some (.int (prA l (F 50) (at_ + 2))), some (.int (prA l (F 50) (at_ + 4))), some (.int (prA l (F 50) (at_ + 6)))]) (st2 := [.int 0, .ref 49, .int ((nI at_) + 8)]) b_X11_reads_228_240 rfl (fun hd => ?_)
                                rw [show ((nI n) + 1 : Int32) = nI (n + 1) from nI_add n 1]
                                rw [show ((nI at_) + 8 : Int32) = nI (at_ + 8) from nI_add at_ 8]
                                refine R2.iald 0 rfl hd rfl (fun _ => rfl) (by decide) (by omega) ?_
                                refine R2.top (show (F 49 0 : Int32) = nI l from hlen) ?_
                                refine R2.B (ls2 := [some (.ref 48), some (.int (nI (n + 1))), some (.int (nI (at_ + 8))), some (.int (tat l (F 50) at_)), some (.int (prA l (F 50) (at_ + 2))), some (.int (prA l (F 50) (at_ + 4))), some (.int (prA l (F 50) (at_ + 6)))]) (st2 := [.int (nI l), .int (nI (at_ + 8))]) b_X11_reads_241_241 rfl (fun hd => ?_)
                                refine R2.icmp_ne 251 hd (by decide) (fun c241 => ?_) (fun c241 => ?_)
                                · have nc241 : ¬ (at_ + 8) = l := fun h9 => c241 ((nI_eq (a := (at_ + 8)) (b := l) (by omega) (by omega)).mpr h9)
                                  refine R2.B (ls2 := [some (.ref 48), some (.int (nI (n + 1))), some (.int (nI (at_ + 8))), some (.int (tat l (F 50) at_)), some (.int (prA l (F 50) (at_ + 2))), some (.int (prA l (F 50) (at_ + 4))), some (.int (prA l (F 50) (at_ + 6)))]) (st2 := [.int (nI (at_ + 8)), .int 0, .ref 48]) b_X11_reads_251_254 rfl (fun hd => ?_)
                                  refine R2.callV3 (M2 := mX11_byteAt) (As := [.int 0, .int (nI (at_ + 8))]) (rest := []) hd lk_11_105 okX11_byteAt (by decide) rfl (ev_byteAt0 E L (up2 (up2 (up2 (up2 F 52 n 1) 53 n ((tat l (F 50) (at_ + 1)) - 48)) 54 n (prA l (F 50) (at_ + 2))) 55 n ((32 * (prA l (F 50) (at_ + 6))) + (prA l (F 50) (at_ + 4)))) l (at_ + 8) hlen hl (by omega)) (by decide) rfl rfl (Nat.le_of_ble_eq_true rfl) ?_
                                  refine R2.B (ls2 := [some (.ref 48), some (.int (nI (n + 1))), some (.int (nI (at_ + 8))), some (.int (tat l (F 50) at_)), some (.int (prA l (F 50) (at_ + 2))), some (.int (prA l (F 50) (at_ + 4))), some (.int (prA l (F 50) (at_ + 6)))]) (st2 := [.int 59, .int (tat l (F 50) (at_ + 8))]) b_X11_reads_257_259 rfl (fun hd => ?_)
                                  refine R2.icmp_eq 264 hd (by decide) (fun c259 => ?_) (fun c259 => ?_)
                                  · refine R2.B (ls2 := [some (.ref 48), some (.int (nI (n + 1))), some (.int ((nI (at_ + 8)) + 1)), some (.int (tat l (F 50) at_)), some (.int (prA l (F 50) (at_ + 2))), some (.int (prA l (F 50) (at_ + 4))), some (.int (prA l (F 50) (at_ + 6)))]) (st2 := []) b_X11_reads_264_9 rfl (fun hd => ?_)
                                    rw [show ((nI (at_ + 8)) + 1 : Int32) = nI ((at_ + 8) + 1) from nI_add (at_ + 8) 1]
                                    have e : mrdL l (k + 1) n at_ F = mrdL l k (n + 1) (at_ + 8 + 1) (up2 (up2 (up2 (up2 F 52 n 1) 53 n ((tat l (F 50) (at_ + 1)) - 48)) 54 n (prA l (F 50) (at_ + 2))) 55 n ((32 * (prA l (F 50) (at_ + 6))) + (prA l (F 50) (at_ + 4)))) := by
                                      clear hd ih; simp only [mrdL, mSt, cKind] <;> grind
                                    rw [e]
                                    refine R2.forget (ls2 := [some (.ref 48), some (.int (nI (n + 1))), some (.int (nI (at_ + 8 + 1))), none, none, none, none]) ⟨rfl, ⟨rfl, ⟨rfl, trivial⟩⟩⟩ ?_
                                    exact ih (n + 1) (at_ + 8 + 1) _ (by omega) (by clear hd ih; grind) (by omega) hlen
                                  · refine R2.B (ls2 := [some (.ref 48), some (.int (nI (n + 1))), some (.int (nI (at_ + 8))), some (.int (tat l (F 50) at_)), some (.int (prA l (F 50) (at_ + 2))), some (.int (prA l (F 50) (at_ + 4))), some (.int (prA l (F 50) (at_ + 6)))]) (st2 := [.int (nI (at_ + 8))]) b_X11_reads_262_263 rfl (fun hd => ?_)
                                    have e : mrdL l (k + 1) n at_ F = (nI (at_ + 8), (up2 (up2 (up2 (up2 F 52 n 1) 53 n ((tat l (F 50) (at_ + 1)) - 48)) 54 n (prA l (F 50) (at_ + 2))) 55 n ((32 * (prA l (F 50) (at_ + 6))) + (prA l (F 50) (at_ + 4))))) := by
                                      clear hd ih; simp only [mrdL, mSt, cKind] <;> grind
                                    exact R2.ret3 (r := some (.int (nI (at_ + 8)))) hd trivial rfl (by rw [e]) (by rw [e])
                                · have nc241 : (at_ + 8) = l := (nI_eq (a := (at_ + 8)) (b := l) (by omega) (by omega)).mp c241
                                  refine R2.B (ls2 := [some (.ref 48), some (.int (nI (n + 1))), some (.int (nI (at_ + 8))), some (.int (tat l (F 50) at_)), some (.int (prA l (F 50) (at_ + 2))), some (.int (prA l (F 50) (at_ + 4))), some (.int (prA l (F 50) (at_ + 6)))]) (st2 := [.int (nI (n + 1)), .ref 48]) b_X11_reads_244_246 rfl (fun hd => ?_)
                                  refine R2.putf (a := 11) (b := 3) hd (by decide) (by decide) rfl rfl (fun _ => rfl) ?_
                                  refine R2.B (ls2 := [some (.ref 48), some (.int (nI (n + 1))), some (.int (nI (at_ + 8))), some (.int (tat l (F 50) at_)), some (.int (prA l (F 50) (at_ + 2))), some (.int (prA l (F 50) (at_ + 4))), some (.int (prA l (F 50) (at_ + 6)))]) (st2 := [.int (-1)]) b_X11_reads_249_250 rfl (fun hd => ?_)
                                  have e : mrdL l (k + 1) n at_ F = ((-1), (up2 (up2 (up2 (up2 (up2 F 52 n 1) 53 n ((tat l (F 50) (at_ + 1)) - 48)) 54 n (prA l (F 50) (at_ + 2))) 55 n ((32 * (prA l (F 50) (at_ + 6))) + (prA l (F 50) (at_ + 4)))) 48 3 (nI (n + 1)))) := by
                                    clear hd ih; simp only [mrdL, mSt, cKind] <;> grind
                                  exact R2.ret3 (r := some (.int (-1))) hd trivial rfl (by rw [e]) (by rw [e])
                            · refine R2.B (ls2 := [some (.ref 48), some (.int (nI n)), some (.int (nI at_)), some (.int (tat l (F 50) at_)), some (.int (prA l (F 50) (at_ + 2))), some (.int (prA l (F 50) (at_ + 4))), some (.int (prA l (F 50) (at_ + 6)))]) (st2 := [.int 0, .int (nI n), .ref 52]) b_X11_reads_173_188 rfl (fun hd => ?_)
                              refine R2.iast n rfl hd (by decide) rfl (fun _ => rfl) (by decide) (by omega) ?_
                              refine R2.B (ls2 := [some (.ref 48), some (.int (nI n)), some (.int (nI at_)), some (.int (tat l (F 50) at_)), some (.int (prA l (F 50) (at_ + 2))), some (.int (prA l (F 50) (at_ + 4))), some (.int (prA l (F 50) (at_ + 6)))]) (st2 := [.int ((nI at_) + 1), .int 0, .ref 48, .int (nI n), .ref 53]) b_X11_reads_189_199 rfl (fun hd => ?_)
                              rw [show ((nI at_) + 1 : Int32) = nI (at_ + 1) from nI_add at_ 1]
                              refine R2.callV3 (M2 := mX11_byteAt) (As := [.int 0, .int (nI (at_ + 1))]) (rest := [.int (nI n), .ref 53]) hd lk_11_105 okX11_byteAt (by decide) rfl (ev_byteAt0 E L (up2 F 52 n 0) l (at_ + 1) hlen hl (by omega)) (by decide) rfl rfl (Nat.le_of_ble_eq_true rfl) ?_
                              refine R2.B (ls2 := [some (.ref 48), some (.int (nI n)), some (.int (nI at_)), some (.int (tat l (F 50) at_)), some (.int (prA l (F 50) (at_ + 2))), some (.int (prA l (F 50) (at_ + 4))), some (.int (prA l (F 50) (at_ + 6)))]) (st2 := [.int ((tat l (F 50) (at_ + 1)) - 48), .int (nI n), .ref 53]) b_X11_reads_202_205 rfl (fun hd => ?_)
                              refine R2.iast n rfl hd (by decide) rfl (fun _ => rfl) (by decide) (by omega) ?_
                              refine R2.B (ls2 := [some (.ref 48), some (.int (nI n)), some (.int (nI at_)), some (.int (tat l (F 50) at_)), some (.int (prA l (F 50) (at_ + 2))), some (.int (prA l (F 50) (at_ + 4))), some (.int (prA l (F 50) (at_ + 6)))]) (st2 := [.int (prA l (F 50) (at_ + 2)), .int (nI n), .ref 54]) b_X11_reads_206_213 rfl (fun hd => ?_)
                              refine R2.iast n rfl hd (by decide) rfl (fun _ => rfl) (by decide) (by omega) ?_
                              refine R2.B (ls2 := [some (.ref 48), some (.int (nI n)), some (.int (nI at_)), some (.int (tat l (F 50) at_)), some (.int (prA l (F 50) (at_ + 2))), some (.int (prA l (F 50) (at_ + 4))), some (.int (prA l (F 50) (at_ + 6)))]) (st2 := [.int ((32 * (prA l (F 50) (at_ + 6))) + (prA l (F 50) (at_ + 4))), .int (nI n), .ref 55]) b_X11_reads_214_227 rfl (fun hd => ?_)
                              refine R2.iast n rfl hd (by decide) rfl (fun _ => rfl) (by decide) (by omega) ?_
                              refine R2.B (ls2 := [some (.ref 48), some (.int ((nI n) + 1)), some (.int ((nI at_) + 8)), some (.int (tat l (F 50) at_)), some (.int (prA l (F 50) (at_ + 2))), some (.int (prA l (F 50) (at_ + 4))), some (.int (prA l (F 50) (at_ + 6)))]) (st2 := [.int 0, .ref 49, .int ((nI at_) + 8)]) b_X11_reads_228_240 rfl (fun hd => ?_)
                              rw [show ((nI n) + 1 : Int32) = nI (n + 1) from nI_add n 1]
                              rw [show ((nI at_) + 8 : Int32) = nI (at_ + 8) from nI_add at_ 8]
                              refine R2.iald 0 rfl hd rfl (fun _ => rfl) (by decide) (by omega) ?_
                              refine R2.top (show (F 49 0 : Int32) = nI l from hlen) ?_
                              refine R2.B (ls2 := [some (.ref 48), some (.int (nI (n + 1))), some (.int (nI (at_ + 8))), some (.int (tat l (F 50) at_)), some (.int (prA l (F 50) (at_ + 2))), some (.int (prA l (F 50) (at_ + 4))), some (.int (prA l (F 50) (at_ + 6)))]) (st2 := [.int (nI l), .int (nI (at_ + 8))]) b_X11_reads_241_241 rfl (fun hd => ?_)
                              refine R2.icmp_ne 251 hd (by decide) (fun c241 => ?_) (fun c241 => ?_)
                              · have nc241 : ¬ (at_ + 8) = l := fun h9 => c241 ((nI_eq (a := (at_ + 8)) (b := l) (by omega) (by omega)).mpr h9)
                                refine R2.B (ls2 := [some (.ref 48), some (.int (nI (n + 1))), some (.int (nI (at_ + 8))), some (.int (tat l (F 50) at_)), some (.int (prA l (F 50) (at_ + 2))), some (.int (prA l (F 50) (at_ + 4))), some (.int (prA l (F 50) (at_ + 6)))]) (st2 := [.int (nI (at_ + 8)), .int 0, .ref 48]) b_X11_reads_251_254 rfl (fun hd => ?_)
                                refine R2.callV3 (M2 := mX11_byteAt) (As := [.int 0, .int (nI (at_ + 8))]) (rest := []) hd lk_11_105 okX11_byteAt (by decide) rfl (ev_byteAt0 E L (up2 (up2 (up2 (up2 F 52 n 0) 53 n ((tat l (F 50) (at_ + 1)) - 48)) 54 n (prA l (F 50) (at_ + 2))) 55 n ((32 * (prA l (F 50) (at_ + 6))) + (prA l (F 50) (at_ + 4)))) l (at_ + 8) hlen hl (by omega)) (by decide) rfl rfl (Nat.le_of_ble_eq_true rfl) ?_
                                refine R2.B (ls2 := [some (.ref 48), some (.int (nI (n + 1))), some (.int (nI (at_ + 8))), some (.int (tat l (F 50) at_)), some (.int (prA l (F 50) (at_ + 2))), some (.int (prA l (F 50) (at_ + 4))), some (.int (prA l (F 50) (at_ + 6)))]) (st2 := [.int 59, .int (tat l (F 50) (at_ + 8))]) b_X11_reads_257_259 rfl (fun hd => ?_)
                                refine R2.icmp_eq 264 hd (by decide) (fun c259 => ?_) (fun c259 => ?_)
                                · refine R2.B (ls2 := [some (.ref 48), some (.int (nI (n + 1))), some (.int ((nI (at_ + 8)) + 1)), some (.int (tat l (F 50) at_)), some (.int (prA l (F 50) (at_ + 2))), some (.int (prA l (F 50) (at_ + 4))), some (.int (prA l (F 50) (at_ + 6)))]) (st2 := []) b_X11_reads_264_9 rfl (fun hd => ?_)
                                  rw [show ((nI (at_ + 8)) + 1 : Int32) = nI ((at_ + 8) + 1) from nI_add (at_ + 8) 1]
                                  have e : mrdL l (k + 1) n at_ F = mrdL l k (n + 1) (at_ + 8 + 1) (up2 (up2 (up2 (up2 F 52 n 0) 53 n ((tat l (F 50) (at_ + 1)) - 48)) 54 n (prA l (F 50) (at_ + 2))) 55 n ((32 * (prA l (F 50) (at_ + 6))) + (prA l (F 50) (at_ + 4)))) := by
                                    clear hd ih; simp only [mrdL, mSt, cKind] <;> grind
                                  rw [e]
                                  refine R2.forget (ls2 := [some (.ref 48), some (.int (nI (n + 1))), some (.int (nI (at_ + 8 + 1))), none, none, none, none]) ⟨rfl, ⟨rfl, ⟨rfl, trivial⟩⟩⟩ ?_
                                  exact ih (n + 1) (at_ + 8 + 1) _ (by omega) (by clear hd ih; grind) (by omega) hlen
                                · refine R2.B (ls2 := [some (.ref 48), some (.int (nI (n + 1))), some (.int (nI (at_ + 8))), some (.int (tat l (F 50) at_)), some (.int (prA l (F 50) (at_ + 2))), some (.int (prA l (F 50) (at_ + 4))), some (.int (prA l (F 50) (at_ + 6)))]) (st2 := [.int (nI (at_ + 8))]) b_X11_reads_262_263 rfl (fun hd => ?_)
                                  have e : mrdL l (k + 1) n at_ F = (nI (at_ + 8), (up2 (up2 (up2 (up2 F 52 n 0) 53 n ((tat l (F 50) (at_ + 1)) - 48)) 54 n (prA l (F 50) (at_ + 2))) 55 n ((32 * (prA l (F 50) (at_ + 6))) + (prA l (F 50) (at_ + 4))))) := by
                                    clear hd ih; simp only [mrdL, mSt, cKind] <;> grind
                                  exact R2.ret3 (r := some (.int (nI (at_ + 8)))) hd trivial rfl (by rw [e]) (by rw [e])
                              · have nc241 : (at_ + 8) = l := (nI_eq (a := (at_ + 8)) (b := l) (by omega) (by omega)).mp c241
                                refine R2.B (ls2 := [some (.ref 48), some (.int (nI (n + 1))), some (.int (nI (at_ + 8))), some (.int (tat l (F 50) at_)), some (.int (prA l (F 50) (at_ + 2))), some (.int (prA l (F 50) (at_ + 4))), some (.int (prA l (F 50) (at_ + 6)))]) (st2 := [.int (nI (n + 1)), .ref 48]) b_X11_reads_244_246 rfl (fun hd => ?_)
                                refine R2.putf (a := 11) (b := 3) hd (by decide) (by decide) rfl rfl (fun _ => rfl) ?_
                                refine R2.B (ls2 := [some (.ref 48), some (.int (nI (n + 1))), some (.int (nI (at_ + 8))), some (.int (tat l (F 50) at_)), some (.int (prA l (F 50) (at_ + 2))), some (.int (prA l (F 50) (at_ + 4))), some (.int (prA l (F 50) (at_ + 6)))]) (st2 := [.int (-1)]) b_X11_reads_249_250 rfl (fun hd => ?_)
                                have e : mrdL l (k + 1) n at_ F = ((-1), (up2 (up2 (up2 (up2 (up2 F 52 n 0) 53 n ((tat l (F 50) (at_ + 1)) - 48)) 54 n (prA l (F 50) (at_ + 2))) 55 n ((32 * (prA l (F 50) (at_ + 6))) + (prA l (F 50) (at_ + 4)))) 48 3 (nI (n + 1)))) := by
                                  clear hd ih; simp only [mrdL, mSt, cKind] <;> grind
                                exact R2.ret3 (r := some (.int (-1))) hd trivial rfl (by rw [e]) (by rw [e])
                          · refine R2.B (ls2 := [some (.ref 48), some (.int (nI n)), some (.int (nI at_)), some (.int (tat l (F 50) at_)), some (.int (prA l (F 50) (at_ + 2))), some (.int (prA l (F 50) (at_ + 4))), some (.int (prA l (F 50) (at_ + 6)))]) (st2 := [.int ((nI at_) + 6)]) b_X11_reads_157_161 rfl (fun hd => ?_)
                            rw [show ((nI at_) + 6 : Int32) = nI (at_ + 6) from nI_add at_ 6]
                            have e : mrdL l (k + 1) n at_ F = (nI (at_ + 6), F) := by
                              clear hd ih; simp only [mrdL, mSt, cKind] <;> grind
                            exact R2.ret3 (r := some (.int (nI (at_ + 6)))) hd trivial rfl (by rw [e]) (by rw [e])
                        · refine R2.B (ls2 := [some (.ref 48), some (.int (nI n)), some (.int (nI at_)), some (.int (tat l (F 50) at_)), some (.int (prA l (F 50) (at_ + 2))), some (.int (prA l (F 50) (at_ + 4))), some (.int (prA l (F 50) (at_ + 6)))]) (st2 := [.int ((-2) - (prA l (F 50) (at_ + 6)))]) b_X11_reads_144_149 rfl (fun hd => ?_)
                          have e : mrdL l (k + 1) n at_ F = ((-2) - (prA l (F 50) (at_ + 6)), F) := by
                            clear hd ih; simp only [mrdL, mSt, cKind] <;> grind
                          exact R2.ret3 (r := some (.int ((-2) - (prA l (F 50) (at_ + 6))))) hd trivial rfl (by rw [e]) (by rw [e])
                      · refine R2.B (ls2 := [some (.ref 48), some (.int (nI n)), some (.int (nI at_)), some (.int (tat l (F 50) at_)), some (.int (prA l (F 50) (at_ + 2))), some (.int (prA l (F 50) (at_ + 4))), none]) (st2 := [.int ((nI at_) + 4)]) b_X11_reads_125_128 rfl (fun hd => ?_)
                        rw [show ((nI at_) + 4 : Int32) = nI (at_ + 4) from nI_add at_ 4]
                        have e : mrdL l (k + 1) n at_ F = (nI (at_ + 4), F) := by
                          clear hd ih; simp only [mrdL, mSt, cKind] <;> grind
                        exact R2.ret3 (r := some (.int (nI (at_ + 4)))) hd trivial rfl (by rw [e]) (by rw [e])
                    · refine R2.B (ls2 := [some (.ref 48), some (.int (nI n)), some (.int (nI at_)), some (.int (tat l (F 50) at_)), some (.int (prA l (F 50) (at_ + 2))), some (.int (prA l (F 50) (at_ + 4))), none]) (st2 := [.int ((-2) - (prA l (F 50) (at_ + 4)))]) b_X11_reads_112_117 rfl (fun hd => ?_)
                      have e : mrdL l (k + 1) n at_ F = ((-2) - (prA l (F 50) (at_ + 4)), F) := by
                        clear hd ih; simp only [mrdL, mSt, cKind] <;> grind
                      exact R2.ret3 (r := some (.int ((-2) - (prA l (F 50) (at_ + 4))))) hd trivial rfl (by rw [e]) (by rw [e])
                  · refine R2.B (ls2 := [some (.ref 48), some (.int (nI n)), some (.int (nI at_)), some (.int (tat l (F 50) at_)), some (.int (prA l (F 50) (at_ + 2))), none, none]) (st2 := [.int ((-2) - (prA l (F 50) (at_ + 2)))]) b_X11_reads_92_97 rfl (fun hd => ?_)
                    have e : mrdL l (k + 1) n at_ F = ((-2) - (prA l (F 50) (at_ + 2)), F) := by
                      clear hd ih; simp only [mrdL, mSt, cKind] <;> grind
                    exact R2.ret3 (r := some (.int ((-2) - (prA l (F 50) (at_ + 2))))) hd trivial rfl (by rw [e]) (by rw [e])
                · have nc71 : ¬ (48 ≤ (tat l (F 50) (at_ + 1)) ∧ (tat l (F 50) (at_ + 1)) ≤ 51) := b2i_zero.mp c71
                  refine R2.B (ls2 := [some (.ref 48), some (.int (nI n)), some (.int (nI at_)), some (.int (tat l (F 50) at_)), none, none, none]) (st2 := [.int ((nI at_) + 1)]) b_X11_reads_74_77 rfl (fun hd => ?_)
                  rw [show ((nI at_) + 1 : Int32) = nI (at_ + 1) from nI_add at_ 1]
                  have e : mrdL l (k + 1) n at_ F = (nI (at_ + 1), F) := by
                    clear hd ih; simp only [mrdL, mSt, cKind] <;> grind
                  exact R2.ret3 (r := some (.int (nI (at_ + 1)))) hd trivial rfl (by rw [e]) (by rw [e])
              · refine R2.B (ls2 := [some (.ref 48), some (.int (nI n)), some (.int (nI at_)), some (.int (tat l (F 50) at_)), none, none, none]) (st2 := [.int (nI at_)]) b_X11_reads_54_55 rfl (fun hd => ?_)
                have e : mrdL l (k + 1) n at_ F = (nI at_, F) := by
                  clear hd ih; simp only [mrdL, mSt, cKind] <;> grind
                exact R2.ret3 (r := some (.int (nI at_))) hd trivial rfl (by rw [e]) (by rw [e])
