/-! Posts, fill, Sheet. Printed by wip/whole/gen/spec5.py. -/
def fillF (F : FF) (q n : Nat) (v : Int32) : FF := fun a j => if a = q ∧ j < n then v else F a j
theorem fill_0 (F : FF) (q : Nat) (v : Int32) : fillF F q 0 v = F := by funext a j; simp [fillF]
theorem fill_s (F : FF) (q n : Nat) (v : Int32) : up2 (fillF F q n v) q n v = fillF F q (n + 1) v := by
  funext a j
  simp only [up2, fillF]
  by_cases ha : a = q
  · subst ha
    by_cases hj : j = n
    · subst hj; simp
    · by_cases hl : j < n
      · simp [hj, hl, show j < n + 1 by omega]
      · simp [hj, hl, show ¬ j < n + 1 by omega]
  · simp [ha]
def gPA (X : Nat → Int32) (ds : Int32) (a b : Nat) : Int32 := if awy (X a) (X b) = ds then 1 else 0
def gSF (X : Nat → Int32) (w ds : Int32) (a : Nat) : Int32 := if awy (X a) w = ds then 1 else 0
def seenS (X : Nat → Int32) (m : Nat) (w ds : Int32) : Int32 := sumI (gSF X w ds) m 0 0
abbrev isCm (X : Nat → Int32) (a b : Nat) (ds : Int32) (w : Nat) : Prop := awy (X a) (nI w) = ds ∧ awy (X b) (nI w) = ds
def gCS (X : Nat → Int32) (a b : Nat) (ds : Int32) (w : Nat) : Int32 := if isCm X a b ds w then 1 else 0
def csL (X : Nat → Int32) (a b : Nat) (ds : Int32) : Nat → Nat → Int32 → Int32
  | 0, _, _ => -1
  | k + 1, w, left => if isCm X a b ds w then (if left = 0 then nI w else csL X a b ds k (w + 1) (left + -1)) else csL X a b ds k (w + 1) left
def fndA (lost form size f i : Int32) : Int32 := if ¬ lost = 0 then 1 else if ¬ f = form then 3 else if i < 0 ∨ ¬ i < size then 2 else 0
def nrw (f v : Int32) : Int32 := if f = 0 then v.toInt8.toInt32 else if f = 1 then v.toInt16.toInt32 else v
theorem b_J7_fill_53178_5_7 : bl2 mJ7_fill_53178 5 [(.iload_n 2, 1, 2, 0, .null), (.iload_n 3, 1, 3, 0, .null)] 7 (.if_icmp .ge 13) 3 = true := by decide +kernel
theorem b_J7_fill_53178_20_20 : bl2 mJ7_fill_53178 20 [] 20 (.return_) 1 = true := by decide +kernel
theorem b_J7_fill_53178_10_13 : bl2 mJ7_fill_53178 10 [(.aload_n 0, 1, 0, 0, .null), (.iload_n 2, 1, 2, 0, .null), (.iload_n 1, 1, 1, 0, .null)] 13 (.iastore) 1 = true := by decide +kernel
theorem b_J7_fill_53178_14_5 : bl2 mJ7_fill_53178 14 [(.iinc 2 1, 3, 2, 0, .int 1), (.goto (-12), 3, 5, 0, .null)] 5 (.iload_n 2) 1 = true := by decide +kernel
set_option maxRecDepth 20000 in
set_option maxHeartbeats 2000000 in
theorem lp_fill (E : EE) (L : Nat) (F : FF) (q n : Nat) (v : Int32) (hq : shg (SH L) q = some (.inr (.int, n))) (hr : ∀ z : Nat, nthR rowsL q z = none) (h5 : 5 ≤ q) (hn : n ≤ 4096) : ∀ (k : Nat) (i : Nat), i + k = n → R2 E L mJ7_fill_53178 1 5 [some (.ref q), some (.int v), some (.int (nI i)), some (.int (nI n))] [] (fillF F q i v) (fun r' F' => r' = none ∧ F' = fillF F q n v) := by
  intro k
  induction k with
  | zero =>
    intro i hi
    refine R2.B (ls2 := [some (.ref q), some (.int v), some (.int (nI i)), some (.int (nI n))]) (st2 := [.int (nI n), .int (nI i)]) b_J7_fill_53178_5_7 rfl (fun hd => ?_)
    refine R2.icmp_ge 20 hd (by decide) (fun c7 => ?_) (fun c7 => absurd (nI_le (by omega) (by omega)) c7)
    refine R2.B (ls2 := [some (.ref q), some (.int v), some (.int (nI i)), some (.int (nI n))]) (st2 := []) b_J7_fill_53178_20_20 rfl (fun hd => ?_)
    exact R2.ret3 (r := none) hd trivial rfl rfl (by rw [show i = n by omega])
  | succ k ih =>
    intro i hi
    refine R2.B (ls2 := [some (.ref q), some (.int v), some (.int (nI i)), some (.int (nI n))]) (st2 := [.int (nI n), .int (nI i)]) b_J7_fill_53178_5_7 rfl (fun hd => ?_)
    refine R2.icmp_ge 20 hd (by decide) (fun c7 => absurd c7 (nI_ge (by omega) (by omega))) (fun c7 => ?_)
    refine R2.B (ls2 := [some (.ref q), some (.int v), some (.int (nI i)), some (.int (nI n))]) (st2 := [.int v, .int (nI i), .ref q]) b_J7_fill_53178_10_13 rfl (fun hd => ?_)
    refine R2.iast i rfl hd h5 hq hr (by omega) (by omega) ?_
    refine R2.B (ls2 := [some (.ref q), some (.int v), some (.int ((nI i) + 1)), some (.int (nI n))]) (st2 := []) b_J7_fill_53178_14_5 rfl (fun hd => ?_)
    rw [show ((nI i) + 1 : Int32) = nI (i + 1) from nI_add i 1]
    refine R2.eqF (fill_s F q i v) ?_
    exact ih (i + 1) (by omega)
theorem b_fill_0 : bl2 mJ7_fill_53178 0 [(.iconst 0, 1, 0, 0, .int 0), (.istore_n 2, 1, 2, 0, .null), (.aload_n 0, 1, 0, 0, .null)] 3 (.arraylength) 1 = true := by decide +kernel
theorem b_fill_4 : bl2 mJ7_fill_53178 4 [(.istore_n 3, 1, 3, 0, .null)] 5 (.iload_n 2) 1 = true := by decide +kernel
set_option maxRecDepth 20000 in
theorem ev_fill (E : EE) (L : Nat) (F : FF) (q n : Nat) (v : Int32) (hq : shg (SH L) q = some (.inr (.int, n))) (hr : ∀ z : Nat, nthR rowsL q z = none) (h5 : 5 ≤ q) (hn : n ≤ 4096) : Ev3 E L 1 mJ7_fill_53178 [.ref q, .int v] F none (fillF F q n v) := by
  refine Ev3.of okJ7_fill_53178.2.1 (Nat.le_of_ble_eq_true rfl) ?_
  show R2 E L mJ7_fill_53178 1 0 [some (.ref q), some (.int v), none, none] [] F _
  refine R2.B (ls2 := [some (.ref q), some (.int v), some (.int 0), none]) (st2 := [.ref q]) b_fill_0 rfl (fun hd => ?_)
  refine Rn.alen hd (Or.inl rfl) (by rw [← shg_eq]; exact hq) ?_
  refine R2.B (ls2 := [some (.ref q), some (.int v), some (.int 0), some (.int (nI n))]) (st2 := []) b_fill_4 rfl (fun hd => ?_)
  refine R2.eqF (fill_0 F q v).symm ?_
  exact lp_fill E L F q n v hq hr h5 hn n 0 (by omega)
theorem b_X4_isFull_0_6 : bl2 mX4_isFull 0 [(.aload_n 0, 1, 0, 0, .null), (.getfield 15, 3, 4, 1, .null), (.bipush 8, 2, 0, 0, .int 8)] 6 (.if_icmp .lt 7) 3 = true := by decide +kernel
theorem b_X4_isFull_13_14 : bl2 mX4_isFull 13 [(.iconst 0, 1, 0, 0, .int 0)] 14 (.ireturn) 1 = true := by decide +kernel
theorem b_X4_isFull_9_14 : bl2 mX4_isFull 9 [(.iconst 1, 1, 0, 0, .int 1), (.goto 4, 3, 14, 0, .null)] 14 (.ireturn) 1 = true := by decide +kernel
set_option maxRecDepth 20000 in
set_option maxHeartbeats 1000000 in
theorem ev_pFull (E : EE) (L : Nat) (F : FF) : Ev3 E L 1 mX4_isFull [.ref 33] F (some (.int (b2i (¬ F 33 1 < 8)))) F := by
  refine Ev3.of okX4_isFull.2.2.1 (Nat.le_of_ble_eq_true rfl) ?_
  show R2 E L mX4_isFull 1 0 [some (.ref 33)] [] F _
  refine R2.B (ls2 := [some (.ref 33)]) (st2 := [.int 8, .int (F 33 1)]) b_X4_isFull_0_6 rfl (fun hd => ?_)
  refine R2.icmp_lt 13 hd (by decide) (fun c6 => ?_) (fun c6 => ?_)
  · refine R2.B (ls2 := [some (.ref 33)]) (st2 := [.int 0]) b_X4_isFull_13_14 rfl (fun hd => ?_)
    exact R2.ret3 (r := some (.int 0)) hd (Or.inl rfl) rfl (congrArg (fun z => some (Value.int z)) (b2i_f (by clear hd; grind))) rfl
  · refine R2.B (ls2 := [some (.ref 33)]) (st2 := [.int 1]) b_X4_isFull_9_14 rfl (fun hd => ?_)
    exact R2.ret3 (r := some (.int 1)) hd (Or.inr rfl) rfl (congrArg (fun z => some (Value.int z)) (b2i_t (by clear hd; grind))) rfl
theorem b_X4_has_0_1 : bl2 mX4_has 0 [(.iload_n 1, 1, 1, 0, .null)] 1 (.ifCond .lt 15) 3 = true := by decide +kernel
theorem b_X4_has_16_17 : bl2 mX4_has 16 [(.iconst 0, 1, 0, 0, .int 0)] 17 (.ireturn) 1 = true := by decide +kernel
theorem b_X4_has_4_9 : bl2 mX4_has 4 [(.iload_n 1, 1, 1, 0, .null), (.aload_n 0, 1, 0, 0, .null), (.getfield 15, 3, 4, 1, .null)] 9 (.if_icmp .ge 7) 3 = true := by decide +kernel
theorem b_X4_has_12_17 : bl2 mX4_has 12 [(.iconst 1, 1, 0, 0, .int 1), (.goto 4, 3, 17, 0, .null)] 17 (.ireturn) 1 = true := by decide +kernel
set_option maxRecDepth 20000 in
set_option maxHeartbeats 1000000 in
theorem ev_has (E : EE) (L : Nat) (F : FF) (x : Int32) : Ev3 E L 1 mX4_has [.ref 33, .int x] F (some (.int (b2i (0 ≤ x ∧ x < F 33 1)))) F := by
  refine Ev3.of okX4_has.2.2.1 (Nat.le_of_ble_eq_true rfl) ?_
  show R2 E L mX4_has 1 0 [some (.ref 33), some (.int x)] [] F _
  refine R2.B (ls2 := [some (.ref 33), some (.int x)]) (st2 := [.int x]) b_X4_has_0_1 rfl (fun hd => ?_)
  refine R2.if_lt 16 hd (by decide) (fun c1 => ?_) (fun c1 => ?_)
  · refine R2.B (ls2 := [some (.ref 33), some (.int x)]) (st2 := [.int 0]) b_X4_has_16_17 rfl (fun hd => ?_)
    exact R2.ret3 (r := some (.int 0)) hd (Or.inl rfl) rfl (congrArg (fun z => some (Value.int z)) (b2i_f (by clear hd; grind))) rfl
  · refine R2.B (ls2 := [some (.ref 33), some (.int x)]) (st2 := [.int (F 33 1), .int x]) b_X4_has_4_9 rfl (fun hd => ?_)
    refine R2.icmp_ge 16 hd (by decide) (fun c9 => ?_) (fun c9 => ?_)
    · refine R2.B (ls2 := [some (.ref 33), some (.int x)]) (st2 := [.int 0]) b_X4_has_16_17 rfl (fun hd => ?_)
      exact R2.ret3 (r := some (.int 0)) hd (Or.inl rfl) rfl (congrArg (fun z => some (Value.int z)) (b2i_f (by clear hd; grind))) rfl
    · refine R2.B (ls2 := [some (.ref 33), some (.int x)]) (st2 := [.int 1]) b_X4_has_12_17 rfl (fun hd => ?_)
      exact R2.ret3 (r := some (.int 1)) hd (Or.inr rfl) rfl (congrArg (fun z => some (Value.int z)) (b2i_t (by clear hd; grind))) rfl
theorem b_X4_add_0_1 : bl2 mX4_add 0 [(.aload_n 0, 1, 0, 0, .null)] 1 (.invokevirtual 19) 3 = true := by decide +kernel
theorem b_X4_add_4_4 : bl2 mX4_add 4 [] 4 (.ifCond .eq 5) 3 = true := by decide +kernel
theorem b_X4_add_9_18 : bl2 mX4_add 9 [(.aload_n 0, 1, 0, 0, .null), (.getfield 9, 3, 4, 0, .null), (.aload_n 0, 1, 0, 0, .null), (.getfield 15, 3, 4, 1, .null), (.iload_n 1, 1, 1, 0, .null)] 18 (.iastore) 1 = true := by decide +kernel
theorem b_X4_add_19_26 : bl2 mX4_add 19 [(.aload_n 0, 1, 0, 0, .null), (.dup, 1, 0, 0, .null), (.getfield 15, 3, 4, 1, .null), (.iconst 1, 1, 0, 0, .int 1), (.iadd, 1, 0, 0, .null)] 26 (.putfield 15) 3 = true := by decide +kernel
theorem b_X4_add_29_35 : bl2 mX4_add 29 [(.aload_n 0, 1, 0, 0, .null), (.getfield 15, 3, 4, 1, .null), (.iconst 1, 1, 0, 0, .int 1), (.isub, 1, 0, 0, .null)] 35 (.ireturn) 1 = true := by decide +kernel
set_option maxRecDepth 20000 in
set_option maxHeartbeats 1000000 in
theorem ev_pAdd (E : EE) (L : Nat) (F : FF) (m : Nat) (hm : F 33 1 = nI m) (hm8 : m < 8) (x : Int32) : Ev3 E L 2 mX4_add [.ref 33, .int x] F (some (.int (nI m))) (up2 (up2 F 34 m x) 33 1 (nI (m + 1))) := by
  refine Ev3.of okX4_add.2.2.1 (Nat.le_of_ble_eq_true rfl) ?_
  show R2 E L mX4_add 2 0 [some (.ref 33), some (.int x)] [] F _
  refine R2.B (ls2 := [some (.ref 33), some (.int x)]) (st2 := [.ref 33]) b_X4_add_0_1 rfl (fun hd => ?_)
  refine R2.callV3 (M2 := mX4_isFull) (As := []) (rest := []) hd lk_4_19 okX4_isFull (by decide) rfl (ev_pFull E L _) (by decide) rfl rfl (Nat.le_of_ble_eq_true rfl) ?_
  refine R2.B (ls2 := [some (.ref 33), some (.int x)]) (st2 := [.int (b2i (¬ F 33 1 < 8))]) b_X4_add_4_4 rfl (fun hd => ?_)
  refine R2.if_eq 9 hd (by decide) (fun c4 => ?_) (fun c4 => absurd (by rw [show b2i (¬ F 33 1 < 8) = 0 from (b2i_f (fun z => z (by rw [hm]; exact nI_lt hm8 (by decide)))).symm]) c4)
  refine R2.B (ls2 := [some (.ref 33), some (.int x)]) (st2 := [.int x, .int (F 33 1), .ref 34]) b_X4_add_9_18 rfl (fun hd => ?_)
  refine R2.iast m hm hd (by decide) rfl (fun _ => rfl) (by decide) (by omega) ?_
  refine R2.B (ls2 := [some (.ref 33), some (.int x)]) (st2 := [.int ((F 33 1) + 1), .ref 33]) b_X4_add_19_26 rfl (fun hd => ?_)
  refine R2.putf (a := 4) (b := 1) hd (by decide) (by decide) rfl rfl (fun _ => rfl) ?_
  refine R2.B (ls2 := [some (.ref 33), some (.int x)]) (st2 := [.int (((F 33 1) + 1) - 1)]) b_X4_add_29_35 rfl (fun hd => ?_)
  exact R2.ret3 (r := some (.int (((F 33 1) + 1) - 1))) hd trivial rfl (congrArg (fun z => some (Value.int z)) (by rw [hm, nI_1, nI_pred])) (by rw [hm, nI_1])
theorem b_X4_clear_0_7 : bl2 mX4_clear 0 [(.aload_n 0, 1, 0, 0, .null), (.getfield 15, 3, 4, 1, .null), (.istore_n 1, 1, 1, 0, .null), (.aload_n 0, 1, 0, 0, .null), (.iconst 0, 1, 0, 0, .int 0)] 7 (.putfield 15) 3 = true := by decide +kernel
theorem b_X4_clear_10_11 : bl2 mX4_clear 10 [(.iload_n 1, 1, 1, 0, .null)] 11 (.ireturn) 1 = true := by decide +kernel
set_option maxRecDepth 20000 in
set_option maxHeartbeats 1000000 in
theorem ev_pClear (E : EE) (L : Nat) (F : FF) : Ev3 E L 1 mX4_clear [.ref 33] F (some (.int (F 33 1))) (up2 F 33 1 0) := by
  refine Ev3.of okX4_clear.2.2.1 (Nat.le_of_ble_eq_true rfl) ?_
  show R2 E L mX4_clear 1 0 [some (.ref 33), none] [] F _
  refine R2.B (ls2 := [some (.ref 33), some (.int (F 33 1))]) (st2 := [.int 0, .ref 33]) b_X4_clear_0_7 rfl (fun hd => ?_)
  refine R2.putf (a := 4) (b := 1) hd (by decide) (by decide) rfl rfl (fun _ => rfl) ?_
  refine R2.B (ls2 := [some (.ref 33), some (.int (F 33 1))]) (st2 := [.int (F 33 1)]) b_X4_clear_10_11 rfl (fun hd => ?_)
  exact R2.ret3 (r := some (.int (F 33 1))) hd trivial rfl rfl rfl
theorem b_X4_pairsAt_17_23 : bl2 mX4_pairsAt 17 [(.iload 4, 2, 4, 0, .null), (.aload_n 0, 1, 0, 0, .null), (.getfield 15, 3, 4, 1, .null)] 23 (.if_icmp .ge 32) 3 = true := by decide +kernel
theorem b_X4_pairsAt_55_55 : bl2 mX4_pairsAt 55 [] 55 (.iinc 3 1) 3 = true := by decide +kernel
theorem b_X4_pairsAt_26_31 : bl2 mX4_pairsAt 26 [(.aload_n 0, 1, 0, 0, .null), (.getfield 9, 3, 4, 0, .null), (.iload_n 3, 1, 3, 0, .null)] 31 (.iaload) 1 = true := by decide +kernel
theorem b_X4_pairsAt_32_38 : bl2 mX4_pairsAt 32 [(.aload_n 0, 1, 0, 0, .null), (.getfield 9, 3, 4, 0, .null), (.iload 4, 2, 4, 0, .null)] 38 (.iaload) 1 = true := by decide +kernel
theorem b_X4_pairsAt_39_39 : bl2 mX4_pairsAt 39 [] 39 (.invokestatic 23) 3 = true := by decide +kernel
theorem b_X4_pairsAt_42_43 : bl2 mX4_pairsAt 42 [(.iload_n 1, 1, 1, 0, .null)] 43 (.if_icmp .ne 6) 3 = true := by decide +kernel
theorem b_X4_pairsAt_49_17 : bl2 mX4_pairsAt 49 [(.iinc 4 1, 3, 4, 0, .int 1), (.goto (-35), 3, 17, 0, .null)] 17 (.iload 4) 2 = true := by decide +kernel
theorem b_X4_pairsAt_46_17 : bl2 mX4_pairsAt 46 [(.iinc 2 1, 3, 2, 0, .int 1), (.iinc 4 1, 3, 4, 0, .int 1), (.goto (-35), 3, 17, 0, .null)] 17 (.iload 4) 2 = true := by decide +kernel
set_option maxRecDepth 20000 in
set_option maxHeartbeats 2000000 in
theorem lp_paI (E : EE) (L : Nat) (F : FF) (m : Nat) (hm : F 33 1 = nI m) (hm8 : m ≤ 8) (ds : Int32) (Q : Q2) (a : Nat) (ha : a < m) : ∀ (k : Nat) (b : Nat) (acc : Int32), b + k = m → R2 E L mX4_pairsAt 2 55 [some (.ref 33), some (.int ds), some (.int (sumI (gPA (F 34) ds a) k b acc)), some (.int (nI a)), none] [] F Q → R2 E L mX4_pairsAt 2 17 [some (.ref 33), some (.int ds), some (.int acc), some (.int (nI a)), some (.int (nI b))] [] F Q := by
  intro k
  induction k with
  | zero =>
    intro b acc hi ex
    refine R2.B (ls2 := [some (.ref 33), some (.int ds), some (.int acc), some (.int (nI a)), some (.int (nI b))]) (st2 := [.int (F 33 1), .int (nI b)]) b_X4_pairsAt_17_23 rfl (fun hd => ?_)
    rw [show (F 33 1 : Int32) = nI m from hm]
    refine R2.icmp_ge 55 hd (by decide) (fun c23 => ?_) (fun c23 => absurd (nI_le (by omega) (by omega)) c23)
    refine R2.B (ls2 := [some (.ref 33), some (.int ds), some (.int acc), some (.int (nI a)), some (.int (nI b))]) (st2 := []) b_X4_pairsAt_55_55 rfl (fun hd => ?_)
    refine R2.forget (ls2 := [some (.ref 33), some (.int ds), some (.int acc), some (.int (nI a)), none]) ⟨rfl, ⟨rfl, ⟨rfl, ⟨rfl, trivial⟩⟩⟩⟩ ?_
    exact ex
  | succ k ih =>
    intro b acc hi ex
    refine R2.B (ls2 := [some (.ref 33), some (.int ds), some (.int acc), some (.int (nI a)), some (.int (nI b))]) (st2 := [.int (F 33 1), .int (nI b)]) b_X4_pairsAt_17_23 rfl (fun hd => ?_)
    rw [show (F 33 1 : Int32) = nI m from hm]
    refine R2.icmp_ge 55 hd (by decide) (fun c23 => absurd c23 (nI_ge (by omega) (by omega))) (fun c23 => ?_)
    refine R2.B (ls2 := [some (.ref 33), some (.int ds), some (.int acc), some (.int (nI a)), some (.int (nI b))]) (st2 := [.int (nI a), .ref 34]) b_X4_pairsAt_26_31 rfl (fun hd => ?_)
    refine R2.iald a rfl hd rfl (fun _ => rfl) (by decide) (by omega) ?_
    refine R2.B (ls2 := [some (.ref 33), some (.int ds), some (.int acc), some (.int (nI a)), some (.int (nI b))]) (st2 := [.int (nI b), .ref 34, .int (F 34 a)]) b_X4_pairsAt_32_38 rfl (fun hd => ?_)
    refine R2.iald b rfl hd rfl (fun _ => rfl) (by decide) (by omega) ?_
    refine R2.B (ls2 := [some (.ref 33), some (.int ds), some (.int acc), some (.int (nI a)), some (.int (nI b))]) (st2 := [.int (F 34 b), .int (F 34 a)]) b_X4_pairsAt_39_39 rfl (fun hd => ?_)
    refine R2.callS3 (M2 := mX10_between) (As := [.int (F 34 a), .int (F 34 b)]) (rest := []) hd lk_4_23 okX10_between (by decide) (ev_between E L F (F 34 a) (F 34 b)) (by decide) rfl rfl (Nat.le_of_ble_eq_true rfl) ?_
    refine R2.B (ls2 := [some (.ref 33), some (.int ds), some (.int acc), some (.int (nI a)), some (.int (nI b))]) (st2 := [.int ds, .int (awy (F 34 a) (F 34 b))]) b_X4_pairsAt_42_43 rfl (fun hd => ?_)
    refine R2.icmp_ne 49 hd (by decide) (fun c43 => ?_) (fun c43 => ?_)
    · refine R2.B (ls2 := [some (.ref 33), some (.int ds), some (.int acc), some (.int (nI a)), some (.int ((nI b) + 1))]) (st2 := []) b_X4_pairsAt_49_17 rfl (fun hd => ?_)
      rw [show ((nI b) + 1 : Int32) = nI (b + 1) from nI_add b 1]
      have e : sumI (gPA (F 34) ds a) (k + 1) b acc = sumI (gPA (F 34) ds a) k (b + 1) acc := by
        simp only [sumI, gPA]; rw [if_neg c43, Int32.add_zero]
      rw [e] at ex
      exact ih (b + 1) acc (by omega) ex
    · refine R2.B (ls2 := [some (.ref 33), some (.int ds), some (.int (acc + 1)), some (.int (nI a)), some (.int ((nI b) + 1))]) (st2 := []) b_X4_pairsAt_46_17 rfl (fun hd => ?_)
      rw [show ((nI b) + 1 : Int32) = nI (b + 1) from nI_add b 1]
      have e : sumI (gPA (F 34) ds a) (k + 1) b acc = sumI (gPA (F 34) ds a) k (b + 1) (acc + 1) := by
        simp only [sumI, gPA]; rw [if_pos c43]
      rw [e] at ex
      exact ih (b + 1) (acc + 1) (by omega) ex
theorem b_X4_pairsAt_4_9 : bl2 mX4_pairsAt 4 [(.iload_n 3, 1, 3, 0, .null), (.aload_n 0, 1, 0, 0, .null), (.getfield 15, 3, 4, 1, .null)] 9 (.if_icmp .ge 52) 3 = true := by decide +kernel
theorem b_X4_pairsAt_61_62 : bl2 mX4_pairsAt 61 [(.iload_n 2, 1, 2, 0, .null)] 62 (.ireturn) 1 = true := by decide +kernel
theorem b_X4_pairsAt_12_17 : bl2 mX4_pairsAt 12 [(.iload_n 3, 1, 3, 0, .null), (.iconst 1, 1, 0, 0, .int 1), (.iadd, 1, 0, 0, .null), (.istore 4, 2, 4, 0, .null)] 17 (.iload 4) 2 = true := by decide +kernel
theorem b_X4_pairsAt_55_4 : bl2 mX4_pairsAt 55 [(.iinc 3 1, 3, 3, 0, .int 1), (.goto (-54), 3, 4, 0, .null)] 4 (.iload_n 3) 1 = true := by decide +kernel
set_option maxRecDepth 20000 in
set_option maxHeartbeats 2000000 in
theorem lp_paO (E : EE) (L : Nat) (F : FF) (m : Nat) (hm : F 33 1 = nI m) (hm8 : m ≤ 8) (ds : Int32) : ∀ (k : Nat) (a : Nat) (acc : Int32), a + k = m → R2 E L mX4_pairsAt 2 4 [some (.ref 33), some (.int ds), some (.int acc), some (.int (nI a)), none] [] F (fun r' F' => r' = some (.int (sumO (gPA (F 34) ds) m k a acc)) ∧ F' = F) := by
  intro k
  induction k with
  | zero =>
    intro a acc hi
    refine R2.B (ls2 := [some (.ref 33), some (.int ds), some (.int acc), some (.int (nI a)), none]) (st2 := [.int (F 33 1), .int (nI a)]) b_X4_pairsAt_4_9 rfl (fun hd => ?_)
    rw [show (F 33 1 : Int32) = nI m from hm]
    refine R2.icmp_ge 61 hd (by decide) (fun c9 => ?_) (fun c9 => absurd (nI_le (by omega) (by omega)) c9)
    refine R2.B (ls2 := [some (.ref 33), some (.int ds), some (.int acc), some (.int (nI a)), none]) (st2 := [.int acc]) b_X4_pairsAt_61_62 rfl (fun hd => ?_)
    exact R2.ret3 (r := some (.int acc)) hd trivial rfl rfl rfl
  | succ k ih =>
    intro a acc hi
    refine R2.B (ls2 := [some (.ref 33), some (.int ds), some (.int acc), some (.int (nI a)), none]) (st2 := [.int (F 33 1), .int (nI a)]) b_X4_pairsAt_4_9 rfl (fun hd => ?_)
    rw [show (F 33 1 : Int32) = nI m from hm]
    refine R2.icmp_ge 61 hd (by decide) (fun c9 => absurd c9 (nI_ge (by omega) (by omega))) (fun c9 => ?_)
    refine R2.B (ls2 := [some (.ref 33), some (.int ds), some (.int acc), some (.int (nI a)), some (.int ((nI a) + 1))]) (st2 := []) b_X4_pairsAt_12_17 rfl (fun hd => ?_)
    rw [show ((nI a) + 1 : Int32) = nI (a + 1) from nI_add a 1]
    refine lp_paI E L F m hm hm8 ds _ a (by omega) (m - (a + 1)) (a + 1) acc (by omega) ?_
    refine R2.B (ls2 := [some (.ref 33), some (.int ds), some (.int (sumI (gPA (F 34) ds a) (m - (a + 1)) (a + 1) acc)), some (.int ((nI a) + 1)), none]) (st2 := []) b_X4_pairsAt_55_4 rfl (fun hd => ?_)
    rw [show ((nI a) + 1 : Int32) = nI (a + 1) from nI_add a 1]
    exact ih (a + 1) _ (by omega)
theorem b_X4_pairsAt_0_4 : bl2 mX4_pairsAt 0 [(.iconst 0, 1, 0, 0, .int 0), (.istore_n 2, 1, 2, 0, .null), (.iconst 0, 1, 0, 0, .int 0), (.istore_n 3, 1, 3, 0, .null)] 4 (.iload_n 3) 1 = true := by decide +kernel
set_option maxRecDepth 20000 in
set_option maxHeartbeats 1000000 in
theorem ev_pairsAt (E : EE) (L : Nat) (F : FF) (m : Nat) (hm : F 33 1 = nI m) (hm8 : m ≤ 8) (ds : Int32) : Ev3 E L 2 mX4_pairsAt [.ref 33, .int ds] F (some (.int (sumO (gPA (F 34) ds) m m 0 0))) F := by
  refine Ev3.of okX4_pairsAt.2.2.1 (Nat.le_of_ble_eq_true rfl) ?_
  show R2 E L mX4_pairsAt 2 0 [some (.ref 33), some (.int ds), none, none, none] [] F _
  refine R2.B (ls2 := [some (.ref 33), some (.int ds), some (.int 0), some (.int 0), none]) (st2 := []) b_X4_pairsAt_0_4 rfl (fun hd => ?_)
  exact lp_paO E L F m hm hm8 ds m 0 0 (by omega)
theorem b_X4_seenFrom_5_11 : bl2 mX4_seenFrom 5 [(.iload 4, 2, 4, 0, .null), (.aload_n 0, 1, 0, 0, .null), (.getfield 15, 3, 4, 1, .null)] 11 (.if_icmp .ge 27) 3 = true := by decide +kernel
theorem b_X4_seenFrom_38_39 : bl2 mX4_seenFrom 38 [(.iload_n 3, 1, 3, 0, .null)] 39 (.ireturn) 1 = true := by decide +kernel
theorem b_X4_seenFrom_14_20 : bl2 mX4_seenFrom 14 [(.aload_n 0, 1, 0, 0, .null), (.getfield 9, 3, 4, 0, .null), (.iload 4, 2, 4, 0, .null)] 20 (.iaload) 1 = true := by decide +kernel
theorem b_X4_seenFrom_21_22 : bl2 mX4_seenFrom 21 [(.iload_n 1, 1, 1, 0, .null)] 22 (.invokestatic 23) 3 = true := by decide +kernel
theorem b_X4_seenFrom_25_26 : bl2 mX4_seenFrom 25 [(.iload_n 2, 1, 2, 0, .null)] 26 (.if_icmp .ne 6) 3 = true := by decide +kernel
theorem b_X4_seenFrom_32_5 : bl2 mX4_seenFrom 32 [(.iinc 4 1, 3, 4, 0, .int 1), (.goto (-30), 3, 5, 0, .null)] 5 (.iload 4) 2 = true := by decide +kernel
theorem b_X4_seenFrom_29_5 : bl2 mX4_seenFrom 29 [(.iinc 3 1, 3, 3, 0, .int 1), (.iinc 4 1, 3, 4, 0, .int 1), (.goto (-30), 3, 5, 0, .null)] 5 (.iload 4) 2 = true := by decide +kernel
set_option maxRecDepth 20000 in
set_option maxHeartbeats 2000000 in
theorem lp_seen (E : EE) (L : Nat) (F : FF) (m : Nat) (hm : F 33 1 = nI m) (hm8 : m ≤ 8) (w ds : Int32) : ∀ (k : Nat) (b : Nat) (acc : Int32), b + k = m → R2 E L mX4_seenFrom 2 5 [some (.ref 33), some (.int w), some (.int ds), some (.int acc), some (.int (nI b))] [] F (fun r' F' => r' = some (.int (sumI (gSF (F 34) w ds) k b acc)) ∧ F' = F) := by
  intro k
  induction k with
  | zero =>
    intro b acc hi
    refine R2.B (ls2 := [some (.ref 33), some (.int w), some (.int ds), some (.int acc), some (.int (nI b))]) (st2 := [.int (F 33 1), .int (nI b)]) b_X4_seenFrom_5_11 rfl (fun hd => ?_)
    rw [show (F 33 1 : Int32) = nI m from hm]
    refine R2.icmp_ge 38 hd (by decide) (fun c11 => ?_) (fun c11 => absurd (nI_le (by omega) (by omega)) c11)
    refine R2.B (ls2 := [some (.ref 33), some (.int w), some (.int ds), some (.int acc), some (.int (nI b))]) (st2 := [.int acc]) b_X4_seenFrom_38_39 rfl (fun hd => ?_)
    exact R2.ret3 (r := some (.int acc)) hd trivial rfl rfl rfl
  | succ k ih =>
    intro b acc hi
    refine R2.B (ls2 := [some (.ref 33), some (.int w), some (.int ds), some (.int acc), some (.int (nI b))]) (st2 := [.int (F 33 1), .int (nI b)]) b_X4_seenFrom_5_11 rfl (fun hd => ?_)
    rw [show (F 33 1 : Int32) = nI m from hm]
    refine R2.icmp_ge 38 hd (by decide) (fun c11 => absurd c11 (nI_ge (by omega) (by omega))) (fun c11 => ?_)
    refine R2.B (ls2 := [some (.ref 33), some (.int w), some (.int ds), some (.int acc), some (.int (nI b))]) (st2 := [.int (nI b), .ref 34]) b_X4_seenFrom_14_20 rfl (fun hd => ?_)
    refine R2.iald b rfl hd rfl (fun _ => rfl) (by decide) (by omega) ?_
    refine R2.B (ls2 := [some (.ref 33), some (.int w), some (.int ds), some (.int acc), some (.int (nI b))]) (st2 := [.int w, .int (F 34 b)]) b_X4_seenFrom_21_22 rfl (fun hd => ?_)
    refine R2.callS3 (M2 := mX10_between) (As := [.int (F 34 b), .int w]) (rest := []) hd lk_4_23 okX10_between (by decide) (ev_between E L F (F 34 b) w) (by decide) rfl rfl (Nat.le_of_ble_eq_true rfl) ?_
    refine R2.B (ls2 := [some (.ref 33), some (.int w), some (.int ds), some (.int acc), some (.int (nI b))]) (st2 := [.int ds, .int (awy (F 34 b) w)]) b_X4_seenFrom_25_26 rfl (fun hd => ?_)
    refine R2.icmp_ne 32 hd (by decide) (fun c26 => ?_) (fun c26 => ?_)
    · refine R2.B (ls2 := [some (.ref 33), some (.int w), some (.int ds), some (.int acc), some (.int ((nI b) + 1))]) (st2 := []) b_X4_seenFrom_32_5 rfl (fun hd => ?_)
      rw [show ((nI b) + 1 : Int32) = nI (b + 1) from nI_add b 1]
      rw [show sumI (gSF (F 34) w ds) (k + 1) b acc = sumI (gSF (F 34) w ds) k (b + 1) acc from (by simp only [sumI, gSF]; rw [if_neg c26, Int32.add_zero])]
      exact ih (b + 1) _ (by omega)
    · refine R2.B (ls2 := [some (.ref 33), some (.int w), some (.int ds), some (.int (acc + 1)), some (.int ((nI b) + 1))]) (st2 := []) b_X4_seenFrom_29_5 rfl (fun hd => ?_)
      rw [show ((nI b) + 1 : Int32) = nI (b + 1) from nI_add b 1]
      rw [show sumI (gSF (F 34) w ds) (k + 1) b acc = sumI (gSF (F 34) w ds) k (b + 1) (acc + 1) from (by simp only [sumI, gSF]; rw [if_pos c26])]
      exact ih (b + 1) _ (by omega)
theorem b_X4_seenFrom_0_5 : bl2 mX4_seenFrom 0 [(.iconst 0, 1, 0, 0, .int 0), (.istore_n 3, 1, 3, 0, .null), (.iconst 0, 1, 0, 0, .int 0), (.istore 4, 2, 4, 0, .null)] 5 (.iload 4) 2 = true := by decide +kernel
set_option maxRecDepth 20000 in
set_option maxHeartbeats 1000000 in
theorem ev_seenFrom (E : EE) (L : Nat) (F : FF) (m : Nat) (hm : F 33 1 = nI m) (hm8 : m ≤ 8) (w ds : Int32) : Ev3 E L 2 mX4_seenFrom [.ref 33, .int w, .int ds] F (some (.int (seenS (F 34) m w ds))) F := by
  refine Ev3.of okX4_seenFrom.2.2.1 (Nat.le_of_ble_eq_true rfl) ?_
  show R2 E L mX4_seenFrom 2 0 [some (.ref 33), some (.int w), some (.int ds), none, none] [] F _
  refine R2.B (ls2 := [some (.ref 33), some (.int w), some (.int ds), some (.int 0), some (.int 0)]) (st2 := []) b_X4_seenFrom_0_5 rfl (fun hd => ?_)
  exact lp_seen E L F m hm hm8 w ds m 0 0 (by omega)
theorem b_X4_bestSpot_7_12 : bl2 mX4_bestSpot 7 [(.iload 4, 2, 4, 0, .null), (.sipush 1024, 3, 0, 0, .int 1024)] 12 (.if_icmp .ge 30) 3 = true := by decide +kernel
theorem b_X4_bestSpot_42_43 : bl2 mX4_bestSpot 42 [(.iload_n 2, 1, 2, 0, .null)] 43 (.ireturn) 1 = true := by decide +kernel
theorem b_X4_bestSpot_15_19 : bl2 mX4_bestSpot 15 [(.aload_n 0, 1, 0, 0, .null), (.iload 4, 2, 4, 0, .null), (.iload_n 1, 1, 1, 0, .null)] 19 (.invokevirtual 27) 3 = true := by decide +kernel
theorem b_X4_bestSpot_22_27 : bl2 mX4_bestSpot 22 [(.istore 5, 2, 5, 0, .null), (.iload 5, 2, 5, 0, .null), (.iload_n 3, 1, 3, 0, .null)] 27 (.if_icmp .le 9) 3 = true := by decide +kernel
theorem b_X4_bestSpot_36_7 : bl2 mX4_bestSpot 36 [(.iinc 4 1, 3, 4, 0, .int 1), (.goto (-32), 3, 7, 0, .null)] 7 (.iload 4) 2 = true := by decide +kernel
theorem b_X4_bestSpot_30_7 : bl2 mX4_bestSpot 30 [(.iload 5, 2, 5, 0, .null), (.istore_n 3, 1, 3, 0, .null), (.iload 4, 2, 4, 0, .null), (.istore_n 2, 1, 2, 0, .null), (.iinc 4 1, 3, 4, 0, .int 1), (.goto (-32), 3, 7, 0, .null)] 7 (.iload 4) 2 = true := by decide +kernel
set_option maxRecDepth 20000 in
set_option maxHeartbeats 2000000 in
theorem lp_bestSpot (E : EE) (L : Nat) (F : FF) (m : Nat) (hm : F 33 1 = nI m) (hm8 : m ≤ 8) (ds : Int32) : ∀ (k : Nat) (w best : Nat) (most : Int32), w + k = 1024 → R2 E L mX4_bestSpot 3 7 [some (.ref 33), some (.int ds), some (.int (nI best)), some (.int most), some (.int (nI w)), none] [] F (fun r' F' => r' = some (.int (nI (bdL (fun w => seenS (F 34) m (nI w) ds) k w best most))) ∧ F' = F) := by
  intro k
  induction k with
  | zero =>
    intro w best most hi
    refine R2.B (ls2 := [some (.ref 33), some (.int ds), some (.int (nI best)), some (.int most), some (.int (nI w)), none]) (st2 := [.int 1024, .int (nI w)]) b_X4_bestSpot_7_12 rfl (fun hd => ?_)
    refine R2.icmp_ge 42 hd (by decide) (fun c12 => ?_) (fun c12 => absurd (nI_le (a := 1024) (b := w) (by omega) (by omega)) c12)
    refine R2.B (ls2 := [some (.ref 33), some (.int ds), some (.int (nI best)), some (.int most), some (.int (nI w)), none]) (st2 := [.int (nI best)]) b_X4_bestSpot_42_43 rfl (fun hd => ?_)
    exact R2.ret3 (r := some (.int (nI best))) hd trivial rfl rfl rfl
  | succ k ih =>
    intro w best most hi
    refine R2.B (ls2 := [some (.ref 33), some (.int ds), some (.int (nI best)), some (.int most), some (.int (nI w)), none]) (st2 := [.int 1024, .int (nI w)]) b_X4_bestSpot_7_12 rfl (fun hd => ?_)
    refine R2.icmp_ge 42 hd (by decide) (fun c12 => absurd c12 (nI_ge (b := 1024) (by omega) (by omega))) (fun c12 => ?_)
    refine R2.B (ls2 := [some (.ref 33), some (.int ds), some (.int (nI best)), some (.int most), some (.int (nI w)), none]) (st2 := [.int ds, .int (nI w), .ref 33]) b_X4_bestSpot_15_19 rfl (fun hd => ?_)
    refine R2.callV3 (M2 := mX4_seenFrom) (As := [.int (nI w), .int ds]) (rest := []) hd lk_4_27 okX4_seenFrom (by decide) rfl (ev_seenFrom E L F m hm hm8 (nI w) ds) (by decide) rfl rfl (Nat.le_of_ble_eq_true rfl) ?_
    refine R2.B (ls2 := [some (.ref 33), some (.int ds), some (.int (nI best)), some (.int most), some (.int (nI w)), some (.int (seenS (F 34) m (nI w) ds))]) (st2 := [.int most, .int (seenS (F 34) m (nI w) ds)]) b_X4_bestSpot_22_27 rfl (fun hd => ?_)
    refine R2.icmp_le 36 hd (by decide) (fun c27 => ?_) (fun c27 => ?_)
    · refine R2.B (ls2 := [some (.ref 33), some (.int ds), some (.int (nI best)), some (.int most), some (.int ((nI w) + 1)), some (.int (seenS (F 34) m (nI w) ds))]) (st2 := []) b_X4_bestSpot_36_7 rfl (fun hd => ?_)
      rw [show ((nI w) + 1 : Int32) = nI (w + 1) from nI_add w 1]
      rw [show bdL (fun w => seenS (F 34) m (nI w) ds) (k + 1) w best most = bdL (fun w => seenS (F 34) m (nI w) ds) k (w + 1) best most from (by simp only [bdL]; rw [if_neg (Int32.not_lt.mpr c27)])]
      refine R2.forget (ls2 := [some (.ref 33), some (.int ds), some (.int (nI best)), some (.int most), some (.int (nI (w + 1))), none]) ⟨rfl, ⟨rfl, ⟨rfl, ⟨rfl, ⟨rfl, trivial⟩⟩⟩⟩⟩ ?_
      exact ih (w + 1) _ _ (by omega)
    · refine R2.B (ls2 := [some (.ref 33), some (.int ds), some (.int (nI w)), some (.int (seenS (F 34) m (nI w) ds)), some (.int ((nI w) + 1)), some (.int (seenS (F 34) m (nI w) ds))]) (st2 := []) b_X4_bestSpot_30_7 rfl (fun hd => ?_)
      rw [show ((nI w) + 1 : Int32) = nI (w + 1) from nI_add w 1]
      rw [show bdL (fun w => seenS (F 34) m (nI w) ds) (k + 1) w best most = bdL (fun w => seenS (F 34) m (nI w) ds) k (w + 1) w (seenS (F 34) m (nI w) ds) from (by simp only [bdL]; rw [if_pos (Int32.not_le.mp c27)])]
      refine R2.forget (ls2 := [some (.ref 33), some (.int ds), some (.int (nI w)), some (.int (seenS (F 34) m (nI w) ds)), some (.int (nI (w + 1))), none]) ⟨rfl, ⟨rfl, ⟨rfl, ⟨rfl, ⟨rfl, trivial⟩⟩⟩⟩⟩ ?_
      exact ih (w + 1) _ _ (by omega)
theorem b_X4_bestSpot_0_7 : bl2 mX4_bestSpot 0 [(.iconst 0, 1, 0, 0, .int 0), (.istore_n 2, 1, 2, 0, .null), (.iconst 0, 1, 0, 0, .int 0), (.istore_n 3, 1, 3, 0, .null), (.iconst 0, 1, 0, 0, .int 0), (.istore 4, 2, 4, 0, .null)] 7 (.iload 4) 2 = true := by decide +kernel
set_option maxRecDepth 20000 in
set_option maxHeartbeats 1000000 in
theorem ev_bestSpot (E : EE) (L : Nat) (F : FF) (m : Nat) (hm : F 33 1 = nI m) (hm8 : m ≤ 8) (ds : Int32) : Ev3 E L 3 mX4_bestSpot [.ref 33, .int ds] F (some (.int (nI (bdL (fun w => seenS (F 34) m (nI w) ds) 1024 0 0 0)))) F := by
  refine Ev3.of okX4_bestSpot.2.2.1 (Nat.le_of_ble_eq_true rfl) ?_
  show R2 E L mX4_bestSpot 3 0 [some (.ref 33), some (.int ds), none, none, none, none] [] F _
  refine R2.B (ls2 := [some (.ref 33), some (.int ds), some (.int 0), some (.int 0), some (.int 0), none]) (st2 := []) b_X4_bestSpot_0_7 rfl (fun hd => ?_)
  exact lp_bestSpot E L F m hm hm8 ds 1024 0 0 0 (by omega)
theorem b_X4_isCommon_0_5 : bl2 mX4_isCommon 0 [(.aload_n 0, 1, 0, 0, .null), (.getfield 9, 3, 4, 0, .null), (.iload_n 2, 1, 2, 0, .null)] 5 (.iaload) 1 = true := by decide +kernel
theorem b_X4_isCommon_6_7 : bl2 mX4_isCommon 6 [(.iload_n 1, 1, 1, 0, .null)] 7 (.invokestatic 23) 3 = true := by decide +kernel
theorem b_X4_isCommon_10_12 : bl2 mX4_isCommon 10 [(.iload 4, 2, 4, 0, .null)] 12 (.if_icmp .ne 22) 3 = true := by decide +kernel
theorem b_X4_isCommon_34_35 : bl2 mX4_isCommon 34 [(.iconst 0, 1, 0, 0, .int 0)] 35 (.ireturn) 1 = true := by decide +kernel
theorem b_X4_isCommon_15_20 : bl2 mX4_isCommon 15 [(.aload_n 0, 1, 0, 0, .null), (.getfield 9, 3, 4, 0, .null), (.iload_n 3, 1, 3, 0, .null)] 20 (.iaload) 1 = true := by decide +kernel
theorem b_X4_isCommon_21_22 : bl2 mX4_isCommon 21 [(.iload_n 1, 1, 1, 0, .null)] 22 (.invokestatic 23) 3 = true := by decide +kernel
theorem b_X4_isCommon_25_27 : bl2 mX4_isCommon 25 [(.iload 4, 2, 4, 0, .null)] 27 (.if_icmp .ne 7) 3 = true := by decide +kernel
theorem b_X4_isCommon_30_35 : bl2 mX4_isCommon 30 [(.iconst 1, 1, 0, 0, .int 1), (.goto 4, 3, 35, 0, .null)] 35 (.ireturn) 1 = true := by decide +kernel
set_option maxRecDepth 20000 in
set_option maxHeartbeats 1000000 in
theorem ev_isCommon (E : EE) (L : Nat) (F : FF) (w a b : Nat) (ds : Int32) (ha : a < 8) (hb : b < 8) : Ev3 E L 2 mX4_isCommon [.ref 33, .int (nI w), .int (nI a), .int (nI b), .int ds] F (some (.int (b2i (isCm (F 34) a b ds w)))) F := by
  refine Ev3.of okX4_isCommon.2.2.1 (Nat.le_of_ble_eq_true rfl) ?_
  show R2 E L mX4_isCommon 2 0 [some (.ref 33), some (.int (nI w)), some (.int (nI a)), some (.int (nI b)), some (.int ds)] [] F _
  refine R2.B (ls2 := [some (.ref 33), some (.int (nI w)), some (.int (nI a)), some (.int (nI b)), some (.int ds)]) (st2 := [.int (nI a), .ref 34]) b_X4_isCommon_0_5 rfl (fun hd => ?_)
  refine R2.iald a rfl hd rfl (fun _ => rfl) (by decide) (by omega) ?_
  refine R2.B (ls2 := [some (.ref 33), some (.int (nI w)), some (.int (nI a)), some (.int (nI b)), some (.int ds)]) (st2 := [.int (nI w), .int (F 34 a)]) b_X4_isCommon_6_7 rfl (fun hd => ?_)
  refine R2.callS3 (M2 := mX10_between) (As := [.int (F 34 a), .int (nI w)]) (rest := []) hd lk_4_23 okX10_between (by decide) (ev_between E L F (F 34 a) (nI w)) (by decide) rfl rfl (Nat.le_of_ble_eq_true rfl) ?_
  refine R2.B (ls2 := [some (.ref 33), some (.int (nI w)), some (.int (nI a)), some (.int (nI b)), some (.int ds)]) (st2 := [.int ds, .int (awy (F 34 a) (nI w))]) b_X4_isCommon_10_12 rfl (fun hd => ?_)
  refine R2.icmp_ne 34 hd (by decide) (fun c12 => ?_) (fun c12 => ?_)
  · refine R2.B (ls2 := [some (.ref 33), some (.int (nI w)), some (.int (nI a)), some (.int (nI b)), some (.int ds)]) (st2 := [.int 0]) b_X4_isCommon_34_35 rfl (fun hd => ?_)
    exact R2.ret3 (r := some (.int 0)) hd (Or.inl rfl) rfl (congrArg (fun z => some (Value.int z)) (b2i_f (by clear hd; grind))) rfl
  · refine R2.B (ls2 := [some (.ref 33), some (.int (nI w)), some (.int (nI a)), some (.int (nI b)), some (.int ds)]) (st2 := [.int (nI b), .ref 34]) b_X4_isCommon_15_20 rfl (fun hd => ?_)
    refine R2.iald b rfl hd rfl (fun _ => rfl) (by decide) (by omega) ?_
    refine R2.B (ls2 := [some (.ref 33), some (.int (nI w)), some (.int (nI a)), some (.int (nI b)), some (.int ds)]) (st2 := [.int (nI w), .int (F 34 b)]) b_X4_isCommon_21_22 rfl (fun hd => ?_)
    refine R2.callS3 (M2 := mX10_between) (As := [.int (F 34 b), .int (nI w)]) (rest := []) hd lk_4_23 okX10_between (by decide) (ev_between E L F (F 34 b) (nI w)) (by decide) rfl rfl (Nat.le_of_ble_eq_true rfl) ?_
    refine R2.B (ls2 := [some (.ref 33), some (.int (nI w)), some (.int (nI a)), some (.int (nI b)), some (.int ds)]) (st2 := [.int ds, .int (awy (F 34 b) (nI w))]) b_X4_isCommon_25_27 rfl (fun hd => ?_)
    refine R2.icmp_ne 34 hd (by decide) (fun c27 => ?_) (fun c27 => ?_)
    · refine R2.B (ls2 := [some (.ref 33), some (.int (nI w)), some (.int (nI a)), some (.int (nI b)), some (.int ds)]) (st2 := [.int 0]) b_X4_isCommon_34_35 rfl (fun hd => ?_)
      exact R2.ret3 (r := some (.int 0)) hd (Or.inl rfl) rfl (congrArg (fun z => some (Value.int z)) (b2i_f (by clear hd; grind))) rfl
    · refine R2.B (ls2 := [some (.ref 33), some (.int (nI w)), some (.int (nI a)), some (.int (nI b)), some (.int ds)]) (st2 := [.int 1]) b_X4_isCommon_30_35 rfl (fun hd => ?_)
      exact R2.ret3 (r := some (.int 1)) hd (Or.inr rfl) rfl (congrArg (fun z => some (Value.int z)) (b2i_t (by clear hd; grind))) rfl
theorem b_X4_commonSpots_6_11 : bl2 mX4_commonSpots 6 [(.iload 5, 2, 5, 0, .null), (.sipush 1024, 3, 0, 0, .int 1024)] 11 (.if_icmp .ge 24) 3 = true := by decide +kernel
theorem b_X4_commonSpots_35_37 : bl2 mX4_commonSpots 35 [(.iload 4, 2, 4, 0, .null)] 37 (.ireturn) 1 = true := by decide +kernel
theorem b_X4_commonSpots_14_20 : bl2 mX4_commonSpots 14 [(.aload_n 0, 1, 0, 0, .null), (.iload 5, 2, 5, 0, .null), (.iload_n 1, 1, 1, 0, .null), (.iload_n 2, 1, 2, 0, .null), (.iload_n 3, 1, 3, 0, .null)] 20 (.invokevirtual 30) 3 = true := by decide +kernel
theorem b_X4_commonSpots_23_23 : bl2 mX4_commonSpots 23 [] 23 (.ifCond .eq 6) 3 = true := by decide +kernel
theorem b_X4_commonSpots_29_6 : bl2 mX4_commonSpots 29 [(.iinc 5 1, 3, 5, 0, .int 1), (.goto (-26), 3, 6, 0, .null)] 6 (.iload 5) 2 = true := by decide +kernel
theorem b_X4_commonSpots_26_6 : bl2 mX4_commonSpots 26 [(.iinc 4 1, 3, 4, 0, .int 1), (.iinc 5 1, 3, 5, 0, .int 1), (.goto (-26), 3, 6, 0, .null)] 6 (.iload 5) 2 = true := by decide +kernel
set_option maxRecDepth 20000 in
set_option maxHeartbeats 2000000 in
theorem lp_cSpots (E : EE) (L : Nat) (F : FF) (a b : Nat) (ds : Int32) (ha : a < 8) (hb : b < 8) : ∀ (k : Nat) (w : Nat) (acc : Int32), w + k = 1024 → R2 E L mX4_commonSpots 3 6 [some (.ref 33), some (.int (nI a)), some (.int (nI b)), some (.int ds), some (.int acc), some (.int (nI w))] [] F (fun r' F' => r' = some (.int (sumI (gCS (F 34) a b ds) k w acc)) ∧ F' = F) := by
  intro k
  induction k with
  | zero =>
    intro w acc hi
    refine R2.B (ls2 := [some (.ref 33), some (.int (nI a)), some (.int (nI b)), some (.int ds), some (.int acc), some (.int (nI w))]) (st2 := [.int 1024, .int (nI w)]) b_X4_commonSpots_6_11 rfl (fun hd => ?_)
    refine R2.icmp_ge 35 hd (by decide) (fun c11 => ?_) (fun c11 => absurd (nI_le (a := 1024) (b := w) (by omega) (by omega)) c11)
    refine R2.B (ls2 := [some (.ref 33), some (.int (nI a)), some (.int (nI b)), some (.int ds), some (.int acc), some (.int (nI w))]) (st2 := [.int acc]) b_X4_commonSpots_35_37 rfl (fun hd => ?_)
    exact R2.ret3 (r := some (.int acc)) hd trivial rfl rfl rfl
  | succ k ih =>
    intro w acc hi
    refine R2.B (ls2 := [some (.ref 33), some (.int (nI a)), some (.int (nI b)), some (.int ds), some (.int acc), some (.int (nI w))]) (st2 := [.int 1024, .int (nI w)]) b_X4_commonSpots_6_11 rfl (fun hd => ?_)
    refine R2.icmp_ge 35 hd (by decide) (fun c11 => absurd c11 (nI_ge (b := 1024) (by omega) (by omega))) (fun c11 => ?_)
    refine R2.B (ls2 := [some (.ref 33), some (.int (nI a)), some (.int (nI b)), some (.int ds), some (.int acc), some (.int (nI w))]) (st2 := [.int ds, .int (nI b), .int (nI a), .int (nI w), .ref 33]) b_X4_commonSpots_14_20 rfl (fun hd => ?_)
    refine R2.callV3 (M2 := mX4_isCommon) (As := [.int (nI w), .int (nI a), .int (nI b), .int ds]) (rest := []) hd lk_4_30 okX4_isCommon (by decide) rfl (ev_isCommon E L F w a b ds (by omega) (by omega)) (by decide) rfl rfl (Nat.le_of_ble_eq_true rfl) ?_
    refine R2.B (ls2 := [some (.ref 33), some (.int (nI a)), some (.int (nI b)), some (.int ds), some (.int acc), some (.int (nI w))]) (st2 := [.int (b2i (isCm (F 34) a b ds w))]) b_X4_commonSpots_23_23 rfl (fun hd => ?_)
    refine R2.if_eq 29 hd (by decide) (fun c23 => ?_) (fun c23 => ?_)
    · have nc23 : ¬ (isCm (F 34) a b ds w) := b2i_zero.mp c23
      refine R2.B (ls2 := [some (.ref 33), some (.int (nI a)), some (.int (nI b)), some (.int ds), some (.int acc), some (.int ((nI w) + 1))]) (st2 := []) b_X4_commonSpots_29_6 rfl (fun hd => ?_)
      rw [show ((nI w) + 1 : Int32) = nI (w + 1) from nI_add w 1]
      rw [show sumI (gCS (F 34) a b ds) (k + 1) w acc = sumI (gCS (F 34) a b ds) k (w + 1) acc from (by simp only [sumI, gCS]; rw [if_neg nc23, Int32.add_zero])]
      exact ih (w + 1) _ (by omega)
    · have nc23 : isCm (F 34) a b ds w := b2i_nz.mp c23
      refine R2.B (ls2 := [some (.ref 33), some (.int (nI a)), some (.int (nI b)), some (.int ds), some (.int (acc + 1)), some (.int ((nI w) + 1))]) (st2 := []) b_X4_commonSpots_26_6 rfl (fun hd => ?_)
      rw [show ((nI w) + 1 : Int32) = nI (w + 1) from nI_add w 1]
      rw [show sumI (gCS (F 34) a b ds) (k + 1) w acc = sumI (gCS (F 34) a b ds) k (w + 1) (acc + 1) from (by simp only [sumI, gCS]; rw [if_pos nc23])]
      exact ih (w + 1) _ (by omega)
theorem b_X4_commonSpots_0_6 : bl2 mX4_commonSpots 0 [(.iconst 0, 1, 0, 0, .int 0), (.istore 4, 2, 4, 0, .null), (.iconst 0, 1, 0, 0, .int 0), (.istore 5, 2, 5, 0, .null)] 6 (.iload 5) 2 = true := by decide +kernel
set_option maxRecDepth 20000 in
set_option maxHeartbeats 1000000 in
theorem ev_commonSpots (E : EE) (L : Nat) (F : FF) (a b : Nat) (ds : Int32) (ha : a < 8) (hb : b < 8) : Ev3 E L 3 mX4_commonSpots [.ref 33, .int (nI a), .int (nI b), .int ds] F (some (.int (sumI (gCS (F 34) a b ds) 1024 0 0))) F := by
  refine Ev3.of okX4_commonSpots.2.2.1 (Nat.le_of_ble_eq_true rfl) ?_
  show R2 E L mX4_commonSpots 3 0 [some (.ref 33), some (.int (nI a)), some (.int (nI b)), some (.int ds), none, none] [] F _
  refine R2.B (ls2 := [some (.ref 33), some (.int (nI a)), some (.int (nI b)), some (.int ds), some (.int 0), some (.int 0)]) (st2 := []) b_X4_commonSpots_0_6 rfl (fun hd => ?_)
  exact lp_cSpots E L F a b ds ha hb 1024 0 0 (by omega)
theorem b_X4_commonSpot_7_12 : bl2 mX4_commonSpot 7 [(.iload 6, 2, 6, 0, .null), (.sipush 1024, 3, 0, 0, .int 1024)] 12 (.if_icmp .ge 32) 3 = true := by decide +kernel
theorem b_X4_commonSpot_44_45 : bl2 mX4_commonSpot 44 [(.iconst (-1), 1, 0, 0, .int (-1))] 45 (.ireturn) 1 = true := by decide +kernel
theorem b_X4_commonSpot_15_21 : bl2 mX4_commonSpot 15 [(.aload_n 0, 1, 0, 0, .null), (.iload 6, 2, 6, 0, .null), (.iload_n 1, 1, 1, 0, .null), (.iload_n 2, 1, 2, 0, .null), (.iload_n 3, 1, 3, 0, .null)] 21 (.invokevirtual 30) 3 = true := by decide +kernel
theorem b_X4_commonSpot_24_24 : bl2 mX4_commonSpot 24 [] 24 (.ifCond .eq 14) 3 = true := by decide +kernel
theorem b_X4_commonSpot_38_7 : bl2 mX4_commonSpot 38 [(.iinc 6 1, 3, 6, 0, .int 1), (.goto (-34), 3, 7, 0, .null)] 7 (.iload 6) 2 = true := by decide +kernel
theorem b_X4_commonSpot_27_29 : bl2 mX4_commonSpot 27 [(.iload 5, 2, 5, 0, .null)] 29 (.ifCond .ne 6) 3 = true := by decide +kernel
theorem b_X4_commonSpot_35_7 : bl2 mX4_commonSpot 35 [(.iinc 5 (-1), 3, 5, 0, .int (-1)), (.iinc 6 1, 3, 6, 0, .int 1), (.goto (-34), 3, 7, 0, .null)] 7 (.iload 6) 2 = true := by decide +kernel
theorem b_X4_commonSpot_32_34 : bl2 mX4_commonSpot 32 [(.iload 6, 2, 6, 0, .null)] 34 (.ireturn) 1 = true := by decide +kernel
set_option maxRecDepth 20000 in
set_option maxHeartbeats 2000000 in
theorem lp_cSpot (E : EE) (L : Nat) (F : FF) (a b : Nat) (ds : Int32) (ha : a < 8) (hb : b < 8) (x : Int32) : ∀ (k : Nat) (w : Nat) (left : Int32), w + k = 1024 → R2 E L mX4_commonSpot 3 7 [some (.ref 33), some (.int (nI a)), some (.int (nI b)), some (.int ds), some (.int x), some (.int left), some (.int (nI w))] [] F (fun r' F' => r' = some (.int (csL (F 34) a b ds k w left)) ∧ F' = F) := by
  intro k
  induction k with
  | zero =>
    intro w left hi
    refine R2.B (ls2 := [some (.ref 33), some (.int (nI a)), some (.int (nI b)), some (.int ds), some (.int x), some (.int left), some (.int (nI w))]) (st2 := [.int 1024, .int (nI w)]) b_X4_commonSpot_7_12 rfl (fun hd => ?_)
    refine R2.icmp_ge 44 hd (by decide) (fun c12 => ?_) (fun c12 => absurd (nI_le (a := 1024) (b := w) (by omega) (by omega)) c12)
    refine R2.B (ls2 := [some (.ref 33), some (.int (nI a)), some (.int (nI b)), some (.int ds), some (.int x), some (.int left), some (.int (nI w))]) (st2 := [.int (-1)]) b_X4_commonSpot_44_45 rfl (fun hd => ?_)
    exact R2.ret3 (r := some (.int (-1))) hd trivial rfl (congrArg (fun z => some (Value.int z)) (by clear hd; simp only [csL] <;> grind)) rfl
  | succ k ih =>
    intro w left hi
    refine R2.B (ls2 := [some (.ref 33), some (.int (nI a)), some (.int (nI b)), some (.int ds), some (.int x), some (.int left), some (.int (nI w))]) (st2 := [.int 1024, .int (nI w)]) b_X4_commonSpot_7_12 rfl (fun hd => ?_)
    refine R2.icmp_ge 44 hd (by decide) (fun c12 => absurd c12 (nI_ge (b := 1024) (by omega) (by omega))) (fun c12 => ?_)
    refine R2.B (ls2 := [some (.ref 33), some (.int (nI a)), some (.int (nI b)), some (.int ds), some (.int x), some (.int left), some (.int (nI w))]) (st2 := [.int ds, .int (nI b), .int (nI a), .int (nI w), .ref 33]) b_X4_commonSpot_15_21 rfl (fun hd => ?_)
    refine R2.callV3 (M2 := mX4_isCommon) (As := [.int (nI w), .int (nI a), .int (nI b), .int ds]) (rest := []) hd lk_4_30 okX4_isCommon (by decide) rfl (ev_isCommon E L F w a b ds (by omega) (by omega)) (by decide) rfl rfl (Nat.le_of_ble_eq_true rfl) ?_
    refine R2.B (ls2 := [some (.ref 33), some (.int (nI a)), some (.int (nI b)), some (.int ds), some (.int x), some (.int left), some (.int (nI w))]) (st2 := [.int (b2i (isCm (F 34) a b ds w))]) b_X4_commonSpot_24_24 rfl (fun hd => ?_)
    refine R2.if_eq 38 hd (by decide) (fun c24 => ?_) (fun c24 => ?_)
    · have nc24 : ¬ (isCm (F 34) a b ds w) := b2i_zero.mp c24
      refine R2.B (ls2 := [some (.ref 33), some (.int (nI a)), some (.int (nI b)), some (.int ds), some (.int x), some (.int left), some (.int ((nI w) + 1))]) (st2 := []) b_X4_commonSpot_38_7 rfl (fun hd => ?_)
      rw [show ((nI w) + 1 : Int32) = nI (w + 1) from nI_add w 1]
      rw [show csL (F 34) a b ds (k + 1) w left = csL (F 34) a b ds k (w + 1) left from (by clear hd; simp only [csL] <;> grind)]
      exact ih (w + 1) _ (by omega)
    · have nc24 : isCm (F 34) a b ds w := b2i_nz.mp c24
      refine R2.B (ls2 := [some (.ref 33), some (.int (nI a)), some (.int (nI b)), some (.int ds), some (.int x), some (.int left), some (.int (nI w))]) (st2 := [.int left]) b_X4_commonSpot_27_29 rfl (fun hd => ?_)
      refine R2.if_ne 35 hd (by decide) (fun c29 => ?_) (fun c29 => ?_)
      · refine R2.B (ls2 := [some (.ref 33), some (.int (nI a)), some (.int (nI b)), some (.int ds), some (.int x), some (.int (left + (-1))), some (.int ((nI w) + 1))]) (st2 := []) b_X4_commonSpot_35_7 rfl (fun hd => ?_)
        rw [show ((nI w) + 1 : Int32) = nI (w + 1) from nI_add w 1]
        rw [show csL (F 34) a b ds (k + 1) w left = csL (F 34) a b ds k (w + 1) (left + (-1)) from (by clear hd; simp only [csL] <;> grind)]
        exact ih (w + 1) _ (by omega)
      · refine R2.B (ls2 := [some (.ref 33), some (.int (nI a)), some (.int (nI b)), some (.int ds), some (.int x), some (.int left), some (.int (nI w))]) (st2 := [.int (nI w)]) b_X4_commonSpot_32_34 rfl (fun hd => ?_)
        exact R2.ret3 (r := some (.int (nI w))) hd trivial rfl (congrArg (fun z => some (Value.int z)) (by clear hd; simp only [csL] <;> grind)) rfl
theorem b_X4_commonSpot_0_7 : bl2 mX4_commonSpot 0 [(.iload 4, 2, 4, 0, .null), (.istore 5, 2, 5, 0, .null), (.iconst 0, 1, 0, 0, .int 0), (.istore 6, 2, 6, 0, .null)] 7 (.iload 6) 2 = true := by decide +kernel
set_option maxRecDepth 20000 in
set_option maxHeartbeats 1000000 in
theorem ev_commonSpot (E : EE) (L : Nat) (F : FF) (a b : Nat) (ds : Int32) (ha : a < 8) (hb : b < 8) (x : Int32) : Ev3 E L 3 mX4_commonSpot [.ref 33, .int (nI a), .int (nI b), .int ds, .int x] F (some (.int (csL (F 34) a b ds 1024 0 x))) F := by
  refine Ev3.of okX4_commonSpot.2.2.1 (Nat.le_of_ble_eq_true rfl) ?_
  show R2 E L mX4_commonSpot 3 0 [some (.ref 33), some (.int (nI a)), some (.int (nI b)), some (.int ds), some (.int x), none, none] [] F _
  refine R2.B (ls2 := [some (.ref 33), some (.int (nI a)), some (.int (nI b)), some (.int ds), some (.int x), some (.int x), some (.int 0)]) (st2 := []) b_X4_commonSpot_0_7 rfl (fun hd => ?_)
  exact lp_cSpot E L F a b ds ha hb x 1024 0 x (by omega)
