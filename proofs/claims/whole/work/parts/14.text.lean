/-! Text and Crowd. Printed by wip/whole/gen/spec2.py. -/
/-- what a text holds at a place: none beyond its end -/
def tat (l : Nat) (b : Nat → Int32) (j : Nat) : Int32 := if j < l then b j else -1
def nmb (l : Nat) (b : Nat → Int32) (j : Nat) : Int32 := 10 * fig (tat l b j) + fig (tat l b (j + 1))
def fltAt (l : Nat) (b : Nat → Int32) (j : Nat) : Int32 :=
  if 10 ≤ j / 9 then nI j
  else if j % 9 = 0 then (if tat l b j = 115 ∨ tat l b j = 98 ∨ tat l b j = 110 then -1 else nI j)
  else if j % 9 = 1 then (if fig (tat l b j) ≠ -1 ∧ fig (tat l b j) < 4 then -1 else nI j)
  else if j % 9 = 5 ∨ j % 9 = 7 then (if fig (tat l b j) = -1 then nI j else if nmb l b (j - 1) < 32 then -1 else nI (j - 1))
  else if j % 9 = 8 then (if tat l b j = 59 then -1 else nI j)
  else (if fig (tat l b j) ≠ -1 then -1 else nI j)
def cFlt (l : Nat) (b : Nat → Int32) : Nat → Nat → Int32
  | 0, _ => if l = 0 ∨ l % 9 = 8 then -1 else nI l
  | k + 1, i => if fltAt l b i = -1 then cFlt l b k (i + 1) else fltAt l b i
def cKind (x : Int32) : Int32 := if x = 115 then 0 else if x = 98 then 1 else 2
def plcF (F : FF) (l : Nat) (p : Nat) : FF :=
  up2 (up2 (up2 (up2 (up2 F 11 p (cKind (tat l (F 7) (p * 9)))) 12 p (fig (tat l (F 7) (p * 9 + 1)))) 13 p (nmb l (F 7) (p * 9 + 2))) 14 p (32 * nmb l (F 7) (p * 9 + 6) + nmb l (F 7) (p * 9 + 4))) 15 p (32 * nmb l (F 7) (p * 9 + 6) + nmb l (F 7) (p * 9 + 4))
def plcL (l : Nat) : Nat → Nat → FF → FF
  | 0, _, F => F
  | k + 1, p, F => plcL l k (p + 1) (plcF F l p)
/-- how many people the text tells -/
def cCnt (l : Nat) (b : Nat → Int32) : Nat := if cFlt l b l 0 = -1 then (if (l + 1) / 9 < 10 then (l + 1) / 9 else 10) else 0
def tellF (F : FF) (l : Nat) : FF := plcL l (cCnt l (F 7)) 0 (up2 (up2 F 10 6 (cFlt l (F 7) l 0)) 10 5 (nI (cCnt l (F 7))))
def homeL : Nat → Nat → Int32 → FF → Int32 × FF
  | 0, _, acc, F => (acc, F)
  | k + 1, p, acc, F => homeL k (p + 1) (if F 15 p = F 14 p then acc else acc + 1) (up2 F 15 p (F 14 p))
abbrev sls (K T P : Nat → Int32) (a b : Nat) : Prop := K a = 0 ∧ K b = 1 ∧ T a = T b ∧ P a ≤ P b
abbrev trd (K T P : Nat → Int32) (a b : Nat) : Prop := sls K T P a b ∨ sls K T P b a
def gan (K P : Nat → Int32) (a b : Nat) : Int32 := if K a = 1 then P a - P b else P b - P a
theorem b_X7_length_0_4 : bl2 mX7_length 0 [(.aload_n 0, 1, 0, 0, .null), (.getfield 21, 3, 7, 1, .null)] 4 (.ireturn) 1 = true := by decide +kernel
set_option maxRecDepth 20000 in
set_option maxHeartbeats 1000000 in
theorem ev_length6 (E : EE) (L : Nat) (F : FF) : Ev3 E L 1 mX7_length [.ref 6] F (some (.int (F 6 1))) F := by
  refine Ev3.of okX7_length.2.2.1 (Nat.le_of_ble_eq_true rfl) ?_
  show R2 E L mX7_length 1 0 [some (.ref 6)] [] F _
  refine R2.B (ls2 := [some (.ref 6)]) (st2 := [.int (F 6 1)]) b_X7_length_0_4 rfl (fun hd => ?_)
  exact R2.ret3 (r := some (.int (F 6 1))) hd trivial rfl rfl rfl
theorem b_X7_isFull_0_9 : bl2 mX7_isFull 0 [(.aload_n 0, 1, 0, 0, .null), (.getfield 21, 3, 7, 1, .null), (.aload_n 0, 1, 0, 0, .null), (.getfield 15, 3, 7, 0, .null), (.arraylength, 1, 0, 0, .null)] 9 (.if_icmp .lt 7) 3 = true := by decide +kernel
theorem b_X7_isFull_16_17 : bl2 mX7_isFull 16 [(.iconst 0, 1, 0, 0, .int 0)] 17 (.ireturn) 1 = true := by decide +kernel
theorem b_X7_isFull_12_17 : bl2 mX7_isFull 12 [(.iconst 1, 1, 0, 0, .int 1), (.goto 4, 3, 17, 0, .null)] 17 (.ireturn) 1 = true := by decide +kernel
set_option maxRecDepth 20000 in
set_option maxHeartbeats 1000000 in
theorem ev_isFull6 (E : EE) (L : Nat) (F : FF) : Ev3 E L 1 mX7_isFull [.ref 6] F (some (.int (b2i (¬ F 6 1 < 90)))) F := by
  refine Ev3.of okX7_isFull.2.2.1 (Nat.le_of_ble_eq_true rfl) ?_
  show R2 E L mX7_isFull 1 0 [some (.ref 6)] [] F _
  refine R2.B (ls2 := [some (.ref 6)]) (st2 := [.int 90, .int (F 6 1)]) b_X7_isFull_0_9 rfl (fun hd => ?_)
  refine R2.icmp_lt 16 hd (by decide) (fun c9 => ?_) (fun c9 => ?_)
  · refine R2.B (ls2 := [some (.ref 6)]) (st2 := [.int 0]) b_X7_isFull_16_17 rfl (fun hd => ?_)
    exact R2.ret3 (r := some (.int 0)) hd (Or.inl rfl) rfl (congrArg (fun z => some (Value.int z)) (b2i_f (by clear hd; grind))) rfl
  · refine R2.B (ls2 := [some (.ref 6)]) (st2 := [.int 1]) b_X7_isFull_12_17 rfl (fun hd => ?_)
    exact R2.ret3 (r := some (.int 1)) hd (Or.inr rfl) rfl (congrArg (fun z => some (Value.int z)) (b2i_t (by clear hd; grind))) rfl
theorem b_X7_clear_0_7 : bl2 mX7_clear 0 [(.aload_n 0, 1, 0, 0, .null), (.getfield 21, 3, 7, 1, .null), (.istore_n 1, 1, 1, 0, .null), (.aload_n 0, 1, 0, 0, .null), (.iconst 0, 1, 0, 0, .int 0)] 7 (.putfield 21) 3 = true := by decide +kernel
theorem b_X7_clear_10_11 : bl2 mX7_clear 10 [(.iload_n 1, 1, 1, 0, .null)] 11 (.ireturn) 1 = true := by decide +kernel
set_option maxRecDepth 20000 in
set_option maxHeartbeats 1000000 in
theorem ev_clear6 (E : EE) (L : Nat) (F : FF) : Ev3 E L 1 mX7_clear [.ref 6] F (some (.int (F 6 1))) (up2 F 6 1 0) := by
  refine Ev3.of okX7_clear.2.2.1 (Nat.le_of_ble_eq_true rfl) ?_
  show R2 E L mX7_clear 1 0 [some (.ref 6), none] [] F _
  refine R2.B (ls2 := [some (.ref 6), some (.int (F 6 1))]) (st2 := [.int 0, .ref 6]) b_X7_clear_0_7 rfl (fun hd => ?_)
  refine R2.putf (a := 7) (b := 1) hd (by decide) (by decide) rfl rfl (fun _ => rfl) ?_
  refine R2.B (ls2 := [some (.ref 6), some (.int (F 6 1))]) (st2 := [.int (F 6 1)]) b_X7_clear_10_11 rfl (fun hd => ?_)
  exact R2.ret3 (r := some (.int (F 6 1))) hd trivial rfl rfl rfl
set_option maxRecDepth 20000 in
set_option maxHeartbeats 1000000 in
theorem ev_length8 (E : EE) (L : Nat) (F : FF) : Ev3 E L 1 mX7_length [.ref 8] F (some (.int (F 8 1))) F := by
  refine Ev3.of okX7_length.2.2.1 (Nat.le_of_ble_eq_true rfl) ?_
  show R2 E L mX7_length 1 0 [some (.ref 8)] [] F _
  refine R2.B (ls2 := [some (.ref 8)]) (st2 := [.int (F 8 1)]) b_X7_length_0_4 rfl (fun hd => ?_)
  exact R2.ret3 (r := some (.int (F 8 1))) hd trivial rfl rfl rfl
set_option maxRecDepth 20000 in
set_option maxHeartbeats 1000000 in
theorem ev_isFull8 (E : EE) (L : Nat) (F : FF) : Ev3 E L 1 mX7_isFull [.ref 8] F (some (.int (b2i (¬ F 8 1 < 60)))) F := by
  refine Ev3.of okX7_isFull.2.2.1 (Nat.le_of_ble_eq_true rfl) ?_
  show R2 E L mX7_isFull 1 0 [some (.ref 8)] [] F _
  refine R2.B (ls2 := [some (.ref 8)]) (st2 := [.int 60, .int (F 8 1)]) b_X7_isFull_0_9 rfl (fun hd => ?_)
  refine R2.icmp_lt 16 hd (by decide) (fun c9 => ?_) (fun c9 => ?_)
  · refine R2.B (ls2 := [some (.ref 8)]) (st2 := [.int 0]) b_X7_isFull_16_17 rfl (fun hd => ?_)
    exact R2.ret3 (r := some (.int 0)) hd (Or.inl rfl) rfl (congrArg (fun z => some (Value.int z)) (b2i_f (by clear hd; grind))) rfl
  · refine R2.B (ls2 := [some (.ref 8)]) (st2 := [.int 1]) b_X7_isFull_12_17 rfl (fun hd => ?_)
    exact R2.ret3 (r := some (.int 1)) hd (Or.inr rfl) rfl (congrArg (fun z => some (Value.int z)) (b2i_t (by clear hd; grind))) rfl
set_option maxRecDepth 20000 in
set_option maxHeartbeats 1000000 in
theorem ev_clear8 (E : EE) (L : Nat) (F : FF) : Ev3 E L 1 mX7_clear [.ref 8] F (some (.int (F 8 1))) (up2 F 8 1 0) := by
  refine Ev3.of okX7_clear.2.2.1 (Nat.le_of_ble_eq_true rfl) ?_
  show R2 E L mX7_clear 1 0 [some (.ref 8), none] [] F _
  refine R2.B (ls2 := [some (.ref 8), some (.int (F 8 1))]) (st2 := [.int 0, .ref 8]) b_X7_clear_0_7 rfl (fun hd => ?_)
  refine R2.putf (a := 7) (b := 1) hd (by decide) (by decide) rfl rfl (fun _ => rfl) ?_
  refine R2.B (ls2 := [some (.ref 8), some (.int (F 8 1))]) (st2 := [.int (F 8 1)]) b_X7_clear_10_11 rfl (fun hd => ?_)
  exact R2.ret3 (r := some (.int (F 8 1))) hd trivial rfl rfl rfl
theorem b_X7_add_0_1 : bl2 mX7_add 0 [(.aload_n 0, 1, 0, 0, .null)] 1 (.invokevirtual 25) 3 = true := by decide +kernel
theorem b_X7_add_4_4 : bl2 mX7_add 4 [] 4 (.ifCond .ne 23) 3 = true := by decide +kernel
theorem b_X7_add_7_16 : bl2 mX7_add 7 [(.aload_n 0, 1, 0, 0, .null), (.getfield 15, 3, 7, 0, .null), (.aload_n 0, 1, 0, 0, .null), (.getfield 21, 3, 7, 1, .null), (.iload_n 1, 1, 1, 0, .null)] 16 (.iastore) 1 = true := by decide +kernel
theorem b_X7_add_17_24 : bl2 mX7_add 17 [(.aload_n 0, 1, 0, 0, .null), (.dup, 1, 0, 0, .null), (.getfield 21, 3, 7, 1, .null), (.iconst 1, 1, 0, 0, .int 1), (.iadd, 1, 0, 0, .null)] 24 (.putfield 21) 3 = true := by decide +kernel
theorem b_X7_add_27_27 : bl2 mX7_add 27 [] 27 (.return_) 1 = true := by decide +kernel
set_option maxRecDepth 20000 in
set_option maxHeartbeats 1000000 in
theorem ev_add6 (E : EE) (L : Nat) (F : FF) (l : Nat) (x : Int32) (hlen : F 6 1 = nI l) (hl : l < 90) : Ev3 E L 2 mX7_add [.ref 6, .int x] F none (up2 (up2 F 7 l x) 6 1 (nI (l + 1))) := by
  refine Ev3.of okX7_add.2.2.1 (Nat.le_of_ble_eq_true rfl) ?_
  show R2 E L mX7_add 2 0 [some (.ref 6), some (.int x)] [] F _
  refine R2.B (ls2 := [some (.ref 6), some (.int x)]) (st2 := [.ref 6]) b_X7_add_0_1 rfl (fun hd => ?_)
  refine R2.callV3 (M2 := mX7_isFull) (As := []) (rest := []) hd lk_7_25 okX7_isFull (by decide) rfl (ev_isFull6 E L _) (by decide) rfl rfl (Nat.le_of_ble_eq_true rfl) ?_
  refine R2.top (show (b2i (¬ F 6 1 < 90) : Int32) = b2i (¬ nI l < 90) from (by rw [hlen])) ?_
  refine R2.B (ls2 := [some (.ref 6), some (.int x)]) (st2 := [.int (b2i (¬ nI l < 90))]) b_X7_add_4_4 rfl (fun hd => ?_)
  refine R2.if_ne 27 hd (by decide) (fun c4 => absurd (by rw [show b2i (¬ nI l < 90) = 0 from (b2i_f (fun z => z (nI_lt hl (by decide)))).symm]) c4) (fun c4 => ?_)
  refine R2.B (ls2 := [some (.ref 6), some (.int x)]) (st2 := [.int x, .int (F 6 1), .ref 7]) b_X7_add_7_16 rfl (fun hd => ?_)
  rw [show (F 6 1 : Int32) = nI l from hlen]
  refine R2.iast l rfl hd (by decide) rfl (fun _ => rfl) (by decide) (by omega) ?_
  refine R2.B (ls2 := [some (.ref 6), some (.int x)]) (st2 := [.int ((F 6 1) + 1), .ref 6]) b_X7_add_17_24 rfl (fun hd => ?_)
  refine R2.putf (a := 7) (b := 1) hd (by decide) (by decide) rfl rfl (fun _ => rfl) ?_
  refine R2.B (ls2 := [some (.ref 6), some (.int x)]) (st2 := []) b_X7_add_27_27 rfl (fun hd => ?_)
  exact R2.ret3 (r := none) hd trivial rfl rfl (by rw [hlen, nI_1])
theorem b_X7_at_0_1 : bl2 mX7_at 0 [(.iload_n 1, 1, 1, 0, .null)] 1 (.ifCond .lt 20) 3 = true := by decide +kernel
theorem b_X7_at_4_9 : bl2 mX7_at 4 [(.iload_n 1, 1, 1, 0, .null), (.aload_n 0, 1, 0, 0, .null), (.getfield 21, 3, 7, 1, .null)] 9 (.if_icmp .ge 12) 3 = true := by decide +kernel
theorem b_X7_at_21_22 : bl2 mX7_at 21 [(.iconst (-1), 1, 0, 0, .int (-1))] 22 (.ireturn) 1 = true := by decide +kernel
theorem b_X7_at_12_17 : bl2 mX7_at 12 [(.aload_n 0, 1, 0, 0, .null), (.getfield 15, 3, 7, 0, .null), (.iload_n 1, 1, 1, 0, .null)] 17 (.iaload) 1 = true := by decide +kernel
theorem b_X7_at_18_22 : bl2 mX7_at 18 [(.goto 4, 3, 22, 0, .null)] 22 (.ireturn) 1 = true := by decide +kernel
set_option maxRecDepth 20000 in
set_option maxHeartbeats 1000000 in
theorem ev_at6 (E : EE) (L : Nat) (F : FF) (l j : Nat) (hlen : F 6 1 = nI l) (hl : l ≤ 90) (hj : j < 2000) : Ev3 E L 1 mX7_at [.ref 6, .int (nI j)] F (some (.int (tat l (F 7) j))) F := by
  refine Ev3.of okX7_at.2.2.1 (Nat.le_of_ble_eq_true rfl) ?_
  show R2 E L mX7_at 1 0 [some (.ref 6), some (.int (nI j))] [] F _
  refine R2.B (ls2 := [some (.ref 6), some (.int (nI j))]) (st2 := [.int (nI j)]) b_X7_at_0_1 rfl (fun hd => ?_)
  refine R2.if_lt 21 hd (by decide) (fun c1 => absurd c1 (nI_pos (by omega))) (fun c1 => ?_)
  refine R2.B (ls2 := [some (.ref 6), some (.int (nI j))]) (st2 := [.int (F 6 1), .int (nI j)]) b_X7_at_4_9 rfl (fun hd => ?_)
  rw [show (F 6 1 : Int32) = nI l from hlen]
  refine R2.icmp_ge 21 hd (by decide) (fun c9 => ?_) (fun c9 => ?_)
  · have nc9 : l ≤ j := (nI_leI (a := l) (b := j) (by omega) (by omega)).mp c9
    refine R2.B (ls2 := [some (.ref 6), some (.int (nI j))]) (st2 := [.int (-1)]) b_X7_at_21_22 rfl (fun hd => ?_)
    exact R2.ret3 (r := some (.int (-1))) hd trivial rfl (congrArg (fun z => some (Value.int z)) (by clear hd; unfold tat; grind)) rfl
  · have nc9 : ¬ l ≤ j := fun h9 => c9 ((nI_leI (a := l) (b := j) (by omega) (by omega)).mpr h9)
    refine R2.B (ls2 := [some (.ref 6), some (.int (nI j))]) (st2 := [.int (nI j), .ref 7]) b_X7_at_12_17 rfl (fun hd => ?_)
    refine R2.iald j rfl hd rfl (fun _ => rfl) (by decide) (by omega) ?_
    refine R2.B (ls2 := [some (.ref 6), some (.int (nI j))]) (st2 := [.int (F 7 j)]) b_X7_at_18_22 rfl (fun hd => ?_)
    exact R2.ret3 (r := some (.int (F 7 j))) hd trivial rfl (congrArg (fun z => some (Value.int z)) (by clear hd; unfold tat; grind)) rfl
set_option maxRecDepth 20000 in
set_option maxHeartbeats 1000000 in
theorem ev_add8 (E : EE) (L : Nat) (F : FF) (l : Nat) (x : Int32) (hlen : F 8 1 = nI l) (hl : l < 60) : Ev3 E L 2 mX7_add [.ref 8, .int x] F none (up2 (up2 F 9 l x) 8 1 (nI (l + 1))) := by
  refine Ev3.of okX7_add.2.2.1 (Nat.le_of_ble_eq_true rfl) ?_
  show R2 E L mX7_add 2 0 [some (.ref 8), some (.int x)] [] F _
  refine R2.B (ls2 := [some (.ref 8), some (.int x)]) (st2 := [.ref 8]) b_X7_add_0_1 rfl (fun hd => ?_)
  refine R2.callV3 (M2 := mX7_isFull) (As := []) (rest := []) hd lk_7_25 okX7_isFull (by decide) rfl (ev_isFull8 E L _) (by decide) rfl rfl (Nat.le_of_ble_eq_true rfl) ?_
  refine R2.top (show (b2i (¬ F 8 1 < 60) : Int32) = b2i (¬ nI l < 60) from (by rw [hlen])) ?_
  refine R2.B (ls2 := [some (.ref 8), some (.int x)]) (st2 := [.int (b2i (¬ nI l < 60))]) b_X7_add_4_4 rfl (fun hd => ?_)
  refine R2.if_ne 27 hd (by decide) (fun c4 => absurd (by rw [show b2i (¬ nI l < 60) = 0 from (b2i_f (fun z => z (nI_lt hl (by decide)))).symm]) c4) (fun c4 => ?_)
  refine R2.B (ls2 := [some (.ref 8), some (.int x)]) (st2 := [.int x, .int (F 8 1), .ref 9]) b_X7_add_7_16 rfl (fun hd => ?_)
  rw [show (F 8 1 : Int32) = nI l from hlen]
  refine R2.iast l rfl hd (by decide) rfl (fun _ => rfl) (by decide) (by omega) ?_
  refine R2.B (ls2 := [some (.ref 8), some (.int x)]) (st2 := [.int ((F 8 1) + 1), .ref 8]) b_X7_add_17_24 rfl (fun hd => ?_)
  refine R2.putf (a := 7) (b := 1) hd (by decide) (by decide) rfl rfl (fun _ => rfl) ?_
  refine R2.B (ls2 := [some (.ref 8), some (.int x)]) (st2 := []) b_X7_add_27_27 rfl (fun hd => ?_)
  exact R2.ret3 (r := none) hd trivial rfl rfl (by rw [hlen, nI_1])
set_option maxRecDepth 20000 in
set_option maxHeartbeats 1000000 in
theorem ev_at8 (E : EE) (L : Nat) (F : FF) (l j : Nat) (hlen : F 8 1 = nI l) (hl : l ≤ 60) (hj : j < 2000) : Ev3 E L 1 mX7_at [.ref 8, .int (nI j)] F (some (.int (tat l (F 9) j))) F := by
  refine Ev3.of okX7_at.2.2.1 (Nat.le_of_ble_eq_true rfl) ?_
  show R2 E L mX7_at 1 0 [some (.ref 8), some (.int (nI j))] [] F _
  refine R2.B (ls2 := [some (.ref 8), some (.int (nI j))]) (st2 := [.int (nI j)]) b_X7_at_0_1 rfl (fun hd => ?_)
  refine R2.if_lt 21 hd (by decide) (fun c1 => absurd c1 (nI_pos (by omega))) (fun c1 => ?_)
  refine R2.B (ls2 := [some (.ref 8), some (.int (nI j))]) (st2 := [.int (F 8 1), .int (nI j)]) b_X7_at_4_9 rfl (fun hd => ?_)
  rw [show (F 8 1 : Int32) = nI l from hlen]
  refine R2.icmp_ge 21 hd (by decide) (fun c9 => ?_) (fun c9 => ?_)
  · have nc9 : l ≤ j := (nI_leI (a := l) (b := j) (by omega) (by omega)).mp c9
    refine R2.B (ls2 := [some (.ref 8), some (.int (nI j))]) (st2 := [.int (-1)]) b_X7_at_21_22 rfl (fun hd => ?_)
    exact R2.ret3 (r := some (.int (-1))) hd trivial rfl (congrArg (fun z => some (Value.int z)) (by clear hd; unfold tat; grind)) rfl
  · have nc9 : ¬ l ≤ j := fun h9 => c9 ((nI_leI (a := l) (b := j) (by omega) (by omega)).mpr h9)
    refine R2.B (ls2 := [some (.ref 8), some (.int (nI j))]) (st2 := [.int (nI j), .ref 9]) b_X7_at_12_17 rfl (fun hd => ?_)
    refine R2.iald j rfl hd rfl (fun _ => rfl) (by decide) (by omega) ?_
    refine R2.B (ls2 := [some (.ref 8), some (.int (nI j))]) (st2 := [.int (F 9 j)]) b_X7_at_18_22 rfl (fun hd => ?_)
    exact R2.ret3 (r := some (.int (F 9 j))) hd trivial rfl (congrArg (fun z => some (Value.int z)) (by clear hd; unfold tat; grind)) rfl
theorem b_X0_number_0_4 : bl2 mX0_number 0 [(.bipush 10, 2, 0, 0, .int 10), (.aload_n 0, 1, 0, 0, .null), (.iload_n 1, 1, 1, 0, .null)] 4 (.invokevirtual 58) 3 = true := by decide +kernel
theorem b_X0_number_7_7 : bl2 mX0_number 7 [] 7 (.invokestatic 62) 3 = true := by decide +kernel
theorem b_X0_number_10_15 : bl2 mX0_number 10 [(.imul, 1, 0, 0, .null), (.aload_n 0, 1, 0, 0, .null), (.iload_n 1, 1, 1, 0, .null), (.iconst 1, 1, 0, 0, .int 1), (.iadd, 1, 0, 0, .null)] 15 (.invokevirtual 58) 3 = true := by decide +kernel
theorem b_X0_number_18_18 : bl2 mX0_number 18 [] 18 (.invokestatic 62) 3 = true := by decide +kernel
theorem b_X0_number_21_22 : bl2 mX0_number 21 [(.iadd, 1, 0, 0, .null)] 22 (.ireturn) 1 = true := by decide +kernel
set_option maxRecDepth 20000 in
set_option maxHeartbeats 1000000 in
theorem ev_number (E : EE) (L : Nat) (F : FF) (l j : Nat) (hlen : F 6 1 = nI l) (hl : l ≤ 90) (hj : j < 1900) : Ev3 E L 2 mX0_number [.ref 6, .int (nI j)] F (some (.int (nmb l (F 7) j))) F := by
  refine Ev3.of okX0_number.2.1 (Nat.le_of_ble_eq_true rfl) ?_
  show R2 E L mX0_number 2 0 [some (.ref 6), some (.int (nI j))] [] F _
  refine R2.B (ls2 := [some (.ref 6), some (.int (nI j))]) (st2 := [.int (nI j), .ref 6, .int 10]) b_X0_number_0_4 rfl (fun hd => ?_)
  refine R2.callV3 (M2 := mX7_at) (As := [.int (nI j)]) (rest := [.int 10]) hd lk_0_58 okX7_at (by decide) rfl (ev_at6 E L F l j hlen (by omega) (by omega)) (by decide) rfl rfl (Nat.le_of_ble_eq_true rfl) ?_
  refine R2.B (ls2 := [some (.ref 6), some (.int (nI j))]) (st2 := [.int (tat l (F 7) j), .int 10]) b_X0_number_7_7 rfl (fun hd => ?_)
  refine R2.callS3 (M2 := mX10_figure) (As := [.int (tat l (F 7) j)]) (rest := [.int 10]) hd lk_0_62 okX10_figure (by decide) (ev_figure E L F (tat l (F 7) j)) (by decide) rfl rfl (Nat.le_of_ble_eq_true rfl) ?_
  refine R2.B (ls2 := [some (.ref 6), some (.int (nI j))]) (st2 := [.int ((nI j) + 1), .ref 6, .int (10 * (fig (tat l (F 7) j)))]) b_X0_number_10_15 rfl (fun hd => ?_)
  rw [show ((nI j) + 1 : Int32) = nI (j + 1) from nI_add j 1]
  refine R2.callV3 (M2 := mX7_at) (As := [.int (nI (j + 1))]) (rest := [.int (10 * (fig (tat l (F 7) j)))]) hd lk_0_58 okX7_at (by decide) rfl (ev_at6 E L F l (j + 1) hlen (by omega) (by omega)) (by decide) rfl rfl (Nat.le_of_ble_eq_true rfl) ?_
  refine R2.B (ls2 := [some (.ref 6), some (.int (nI j))]) (st2 := [.int (tat l (F 7) (j + 1)), .int (10 * (fig (tat l (F 7) j)))]) b_X0_number_18_18 rfl (fun hd => ?_)
  refine R2.callS3 (M2 := mX10_figure) (As := [.int (tat l (F 7) (j + 1))]) (rest := [.int (10 * (fig (tat l (F 7) j)))]) hd lk_0_62 okX10_figure (by decide) (ev_figure E L F (tat l (F 7) (j + 1))) (by decide) rfl rfl (Nat.le_of_ble_eq_true rfl) ?_
  refine R2.B (ls2 := [some (.ref 6), some (.int (nI j))]) (st2 := [.int ((10 * (fig (tat l (F 7) j))) + (fig (tat l (F 7) (j + 1))))]) b_X0_number_21_22 rfl (fun hd => ?_)
  exact R2.ret3 (r := some (.int ((10 * (fig (tat l (F 7) j))) + (fig (tat l (F 7) (j + 1)))))) hd trivial rfl rfl rfl
theorem b_X0_faultAt_0_2 : bl2 mX0_faultAt 0 [(.aload_n 0, 1, 0, 0, .null), (.iload_n 1, 1, 1, 0, .null)] 2 (.invokevirtual 58) 3 = true := by decide +kernel
theorem b_X0_faultAt_5_9 : bl2 mX0_faultAt 5 [(.istore_n 2, 1, 2, 0, .null), (.iload_n 1, 1, 1, 0, .null), (.bipush 9, 2, 0, 0, .int 9)] 9 (.idiv) 1 = true := by decide +kernel
theorem b_X0_faultAt_10_12 : bl2 mX0_faultAt 10 [(.bipush 10, 2, 0, 0, .int 10)] 12 (.if_icmp .lt 5) 3 = true := by decide +kernel
theorem b_X0_faultAt_17_20 : bl2 mX0_faultAt 17 [(.iload_n 1, 1, 1, 0, .null), (.bipush 9, 2, 0, 0, .int 9)] 20 (.irem) 1 = true := by decide +kernel
theorem b_X0_faultAt_21_21 : bl2 mX0_faultAt 21 [] 21 (.tableswitch 141 0 8 #[51, 75, 141, 141, 141, 97, 141, 97, 129]) 51 = true := by decide +kernel
theorem b_X0_faultAt_72_75 : bl2 mX0_faultAt 72 [(.iload_n 2, 1, 2, 0, .null), (.bipush 115, 2, 0, 0, .int 115)] 75 (.if_icmp .eq 15) 3 = true := by decide +kernel
theorem b_X0_faultAt_90_95 : bl2 mX0_faultAt 90 [(.iconst (-1), 1, 0, 0, .int (-1)), (.goto 4, 3, 95, 0, .null)] 95 (.ireturn) 1 = true := by decide +kernel
theorem b_X0_faultAt_78_81 : bl2 mX0_faultAt 78 [(.iload_n 2, 1, 2, 0, .null), (.bipush 98, 2, 0, 0, .int 98)] 81 (.if_icmp .eq 9) 3 = true := by decide +kernel
theorem b_X0_faultAt_84_87 : bl2 mX0_faultAt 84 [(.iload_n 2, 1, 2, 0, .null), (.bipush 110, 2, 0, 0, .int 110)] 87 (.if_icmp .ne 7) 3 = true := by decide +kernel
theorem b_X0_faultAt_94_95 : bl2 mX0_faultAt 94 [(.iload_n 1, 1, 1, 0, .null)] 95 (.ireturn) 1 = true := by decide +kernel
theorem b_X0_faultAt_96_97 : bl2 mX0_faultAt 96 [(.iload_n 2, 1, 2, 0, .null)] 97 (.invokestatic 62) 3 = true := by decide +kernel
theorem b_X0_faultAt_100_101 : bl2 mX0_faultAt 100 [(.iconst (-1), 1, 0, 0, .int (-1))] 101 (.if_icmp .eq 15) 3 = true := by decide +kernel
theorem b_X0_faultAt_116_117 : bl2 mX0_faultAt 116 [(.iload_n 1, 1, 1, 0, .null)] 117 (.ireturn) 1 = true := by decide +kernel
theorem b_X0_faultAt_104_105 : bl2 mX0_faultAt 104 [(.iload_n 2, 1, 2, 0, .null)] 105 (.invokestatic 62) 3 = true := by decide +kernel
theorem b_X0_faultAt_108_109 : bl2 mX0_faultAt 108 [(.iconst 4, 1, 0, 0, .int 4)] 109 (.if_icmp .ge 7) 3 = true := by decide +kernel
theorem b_X0_faultAt_112_117 : bl2 mX0_faultAt 112 [(.iconst (-1), 1, 0, 0, .int (-1)), (.goto 4, 3, 117, 0, .null)] 117 (.ireturn) 1 = true := by decide +kernel
theorem b_X0_faultAt_162_163 : bl2 mX0_faultAt 162 [(.iload_n 2, 1, 2, 0, .null)] 163 (.invokestatic 62) 3 = true := by decide +kernel
theorem b_X0_faultAt_166_167 : bl2 mX0_faultAt 166 [(.iconst (-1), 1, 0, 0, .int (-1))] 167 (.if_icmp .eq 7) 3 = true := by decide +kernel
theorem b_X0_faultAt_174_175 : bl2 mX0_faultAt 174 [(.iload_n 1, 1, 1, 0, .null)] 175 (.ireturn) 1 = true := by decide +kernel
theorem b_X0_faultAt_170_175 : bl2 mX0_faultAt 170 [(.iconst (-1), 1, 0, 0, .int (-1)), (.goto 4, 3, 175, 0, .null)] 175 (.ireturn) 1 = true := by decide +kernel
theorem b_X0_faultAt_118_119 : bl2 mX0_faultAt 118 [(.iload_n 2, 1, 2, 0, .null)] 119 (.invokestatic 62) 3 = true := by decide +kernel
theorem b_X0_faultAt_122_123 : bl2 mX0_faultAt 122 [(.iconst (-1), 1, 0, 0, .int (-1))] 123 (.if_icmp .ne 7) 3 = true := by decide +kernel
theorem b_X0_faultAt_130_134 : bl2 mX0_faultAt 130 [(.aload_n 0, 1, 0, 0, .null), (.iload_n 1, 1, 1, 0, .null), (.iconst 1, 1, 0, 0, .int 1), (.isub, 1, 0, 0, .null)] 134 (.invokestatic 65) 3 = true := by decide +kernel
theorem b_X0_faultAt_137_139 : bl2 mX0_faultAt 137 [(.bipush 32, 2, 0, 0, .int 32)] 139 (.if_icmp .ge 7) 3 = true := by decide +kernel
theorem b_X0_faultAt_146_149 : bl2 mX0_faultAt 146 [(.iload_n 1, 1, 1, 0, .null), (.iconst 1, 1, 0, 0, .int 1), (.isub, 1, 0, 0, .null)] 149 (.ireturn) 1 = true := by decide +kernel
theorem b_X0_faultAt_142_149 : bl2 mX0_faultAt 142 [(.iconst (-1), 1, 0, 0, .int (-1)), (.goto 6, 3, 149, 0, .null)] 149 (.ireturn) 1 = true := by decide +kernel
theorem b_X0_faultAt_126_149 : bl2 mX0_faultAt 126 [(.iload_n 1, 1, 1, 0, .null), (.goto 22, 3, 149, 0, .null)] 149 (.ireturn) 1 = true := by decide +kernel
theorem b_X0_faultAt_150_153 : bl2 mX0_faultAt 150 [(.iload_n 2, 1, 2, 0, .null), (.bipush 59, 2, 0, 0, .int 59)] 153 (.if_icmp .ne 7) 3 = true := by decide +kernel
theorem b_X0_faultAt_160_161 : bl2 mX0_faultAt 160 [(.iload_n 1, 1, 1, 0, .null)] 161 (.ireturn) 1 = true := by decide +kernel
theorem b_X0_faultAt_156_161 : bl2 mX0_faultAt 156 [(.iconst (-1), 1, 0, 0, .int (-1)), (.goto 4, 3, 161, 0, .null)] 161 (.ireturn) 1 = true := by decide +kernel
theorem b_X0_faultAt_15_16 : bl2 mX0_faultAt 15 [(.iload_n 1, 1, 1, 0, .null)] 16 (.ireturn) 1 = true := by decide +kernel
set_option maxRecDepth 20000 in
set_option maxHeartbeats 1000000 in
theorem ev_faultAt (E : EE) (L : Nat) (F : FF) (l j : Nat) (hlen : F 6 1 = nI l) (hl : l ≤ 90) (hj : j < 90) : Ev3 E L 3 mX0_faultAt [.ref 6, .int (nI j)] F (some (.int (fltAt l (F 7) j))) F := by
  refine Ev3.of okX0_faultAt.2.1 (Nat.le_of_ble_eq_true rfl) ?_
  show R2 E L mX0_faultAt 3 0 [some (.ref 6), some (.int (nI j)), none] [] F _
  refine R2.B (ls2 := [some (.ref 6), some (.int (nI j)), none]) (st2 := [.int (nI j), .ref 6]) b_X0_faultAt_0_2 rfl (fun hd => ?_)
  refine R2.callV3 (M2 := mX7_at) (As := [.int (nI j)]) (rest := []) hd lk_0_58 okX7_at (by decide) rfl (ev_at6 E L F l j hlen (by omega) (by omega)) (by decide) rfl rfl (Nat.le_of_ble_eq_true rfl) ?_
  refine R2.B (ls2 := [some (.ref 6), some (.int (nI j)), some (.int (tat l (F 7) j))]) (st2 := [.int 9, .int (nI j)]) b_X0_faultAt_5_9 rfl (fun hd => ?_)
  refine R2.idiv hd (by decide) ?_
  refine R2.top (show ((nI j) / 9 : Int32) = nI (j / 9) from pk_div (by omega) (by decide) (by decide)) ?_
  refine R2.B (ls2 := [some (.ref 6), some (.int (nI j)), some (.int (tat l (F 7) j))]) (st2 := [.int 10, .int (nI (j / 9))]) b_X0_faultAt_10_12 rfl (fun hd => ?_)
  refine R2.icmp_lt 17 hd (by decide) (fun c12 => ?_) (fun c12 => ?_)
  · have nc12 : (j / 9) < 10 := (nI_ltI (a := (j / 9)) (b := 10) (by omega) (by omega)).mp c12
    refine R2.B (ls2 := [some (.ref 6), some (.int (nI j)), some (.int (tat l (F 7) j))]) (st2 := [.int 9, .int (nI j)]) b_X0_faultAt_17_20 rfl (fun hd => ?_)
    refine R2.irem hd (by decide) ?_
    refine R2.top (show ((nI j) - (nI j) / 9 * 9 : Int32) = nI (j % 9) from pk_rem (by omega) (by decide) (by decide)) ?_
    refine R2.B (ls2 := [some (.ref 6), some (.int (nI j)), some (.int (tat l (F 7) j))]) (st2 := [.int (nI (j % 9))]) b_X0_faultAt_21_21 rfl (fun hd => ?_)
    rcases (show j % 9 = 0 ∨ j % 9 = 1 ∨ j % 9 = 2 ∨ j % 9 = 3 ∨ j % 9 = 4 ∨ j % 9 = 5 ∨ j % 9 = 6 ∨ j % 9 = 7 ∨ j % 9 = 8 by omega) with h9 | h9 | h9 | h9 | h9 | h9 | h9 | h9 | h9
    · rw [h9]
      refine R2.tblIn (off := 51) 72 hd (by decide) (by decide) rfl (by decide) ?_
      refine R2.B (ls2 := [some (.ref 6), some (.int (nI j)), some (.int (tat l (F 7) j))]) (st2 := [.int 115, .int (tat l (F 7) j)]) b_X0_faultAt_72_75 rfl (fun hd => ?_)
      refine R2.icmp_eq 90 hd (by decide) (fun c75 => ?_) (fun c75 => ?_)
      · refine R2.B (ls2 := [some (.ref 6), some (.int (nI j)), some (.int (tat l (F 7) j))]) (st2 := [.int (-1)]) b_X0_faultAt_90_95 rfl (fun hd => ?_)
        exact R2.ret3 (r := some (.int (-1))) hd trivial rfl (congrArg (fun z => some (Value.int z)) (by clear hd; unfold fltAt; grind)) rfl
      · refine R2.B (ls2 := [some (.ref 6), some (.int (nI j)), some (.int (tat l (F 7) j))]) (st2 := [.int 98, .int (tat l (F 7) j)]) b_X0_faultAt_78_81 rfl (fun hd => ?_)
        refine R2.icmp_eq 90 hd (by decide) (fun c81 => ?_) (fun c81 => ?_)
        · refine R2.B (ls2 := [some (.ref 6), some (.int (nI j)), some (.int (tat l (F 7) j))]) (st2 := [.int (-1)]) b_X0_faultAt_90_95 rfl (fun hd => ?_)
          exact R2.ret3 (r := some (.int (-1))) hd trivial rfl (congrArg (fun z => some (Value.int z)) (by clear hd; unfold fltAt; grind)) rfl
        · refine R2.B (ls2 := [some (.ref 6), some (.int (nI j)), some (.int (tat l (F 7) j))]) (st2 := [.int 110, .int (tat l (F 7) j)]) b_X0_faultAt_84_87 rfl (fun hd => ?_)
          refine R2.icmp_ne 94 hd (by decide) (fun c87 => ?_) (fun c87 => ?_)
          · refine R2.B (ls2 := [some (.ref 6), some (.int (nI j)), some (.int (tat l (F 7) j))]) (st2 := [.int (nI j)]) b_X0_faultAt_94_95 rfl (fun hd => ?_)
            exact R2.ret3 (r := some (.int (nI j))) hd trivial rfl (congrArg (fun z => some (Value.int z)) (by clear hd; unfold fltAt; grind)) rfl
          · refine R2.B (ls2 := [some (.ref 6), some (.int (nI j)), some (.int (tat l (F 7) j))]) (st2 := [.int (-1)]) b_X0_faultAt_90_95 rfl (fun hd => ?_)
            exact R2.ret3 (r := some (.int (-1))) hd trivial rfl (congrArg (fun z => some (Value.int z)) (by clear hd; unfold fltAt; grind)) rfl
    · rw [h9]
      refine R2.tblIn (off := 75) 96 hd (by decide) (by decide) rfl (by decide) ?_
      refine R2.B (ls2 := [some (.ref 6), some (.int (nI j)), some (.int (tat l (F 7) j))]) (st2 := [.int (tat l (F 7) j)]) b_X0_faultAt_96_97 rfl (fun hd => ?_)
      refine R2.callS3 (M2 := mX10_figure) (As := [.int (tat l (F 7) j)]) (rest := []) hd lk_0_62 okX10_figure (by decide) (ev_figure E L F (tat l (F 7) j)) (by decide) rfl rfl (Nat.le_of_ble_eq_true rfl) ?_
      refine R2.B (ls2 := [some (.ref 6), some (.int (nI j)), some (.int (tat l (F 7) j))]) (st2 := [.int (-1), .int (fig (tat l (F 7) j))]) b_X0_faultAt_100_101 rfl (fun hd => ?_)
      refine R2.icmp_eq 116 hd (by decide) (fun c101 => ?_) (fun c101 => ?_)
      · refine R2.B (ls2 := [some (.ref 6), some (.int (nI j)), some (.int (tat l (F 7) j))]) (st2 := [.int (nI j)]) b_X0_faultAt_116_117 rfl (fun hd => ?_)
        exact R2.ret3 (r := some (.int (nI j))) hd trivial rfl (congrArg (fun z => some (Value.int z)) (by clear hd; unfold fltAt; grind)) rfl
      · refine R2.B (ls2 := [some (.ref 6), some (.int (nI j)), some (.int (tat l (F 7) j))]) (st2 := [.int (tat l (F 7) j)]) b_X0_faultAt_104_105 rfl (fun hd => ?_)
        refine R2.callS3 (M2 := mX10_figure) (As := [.int (tat l (F 7) j)]) (rest := []) hd lk_0_62 okX10_figure (by decide) (ev_figure E L F (tat l (F 7) j)) (by decide) rfl rfl (Nat.le_of_ble_eq_true rfl) ?_
        refine R2.B (ls2 := [some (.ref 6), some (.int (nI j)), some (.int (tat l (F 7) j))]) (st2 := [.int 4, .int (fig (tat l (F 7) j))]) b_X0_faultAt_108_109 rfl (fun hd => ?_)
        refine R2.icmp_ge 116 hd (by decide) (fun c109 => ?_) (fun c109 => ?_)
        · refine R2.B (ls2 := [some (.ref 6), some (.int (nI j)), some (.int (tat l (F 7) j))]) (st2 := [.int (nI j)]) b_X0_faultAt_116_117 rfl (fun hd => ?_)
          exact R2.ret3 (r := some (.int (nI j))) hd trivial rfl (congrArg (fun z => some (Value.int z)) (by clear hd; unfold fltAt; grind)) rfl
        · refine R2.B (ls2 := [some (.ref 6), some (.int (nI j)), some (.int (tat l (F 7) j))]) (st2 := [.int (-1)]) b_X0_faultAt_112_117 rfl (fun hd => ?_)
          exact R2.ret3 (r := some (.int (-1))) hd trivial rfl (congrArg (fun z => some (Value.int z)) (by clear hd; unfold fltAt; grind)) rfl
    · rw [h9]
      refine R2.tblIn (off := 141) 162 hd (by decide) (by decide) rfl (by decide) ?_
      refine R2.B (ls2 := [some (.ref 6), some (.int (nI j)), some (.int (tat l (F 7) j))]) (st2 := [.int (tat l (F 7) j)]) b_X0_faultAt_162_163 rfl (fun hd => ?_)
      refine R2.callS3 (M2 := mX10_figure) (As := [.int (tat l (F 7) j)]) (rest := []) hd lk_0_62 okX10_figure (by decide) (ev_figure E L F (tat l (F 7) j)) (by decide) rfl rfl (Nat.le_of_ble_eq_true rfl) ?_
      refine R2.B (ls2 := [some (.ref 6), some (.int (nI j)), some (.int (tat l (F 7) j))]) (st2 := [.int (-1), .int (fig (tat l (F 7) j))]) b_X0_faultAt_166_167 rfl (fun hd => ?_)
      refine R2.icmp_eq 174 hd (by decide) (fun c167 => ?_) (fun c167 => ?_)
      · refine R2.B (ls2 := [some (.ref 6), some (.int (nI j)), some (.int (tat l (F 7) j))]) (st2 := [.int (nI j)]) b_X0_faultAt_174_175 rfl (fun hd => ?_)
        exact R2.ret3 (r := some (.int (nI j))) hd trivial rfl (congrArg (fun z => some (Value.int z)) (by clear hd; unfold fltAt; grind)) rfl
      · refine R2.B (ls2 := [some (.ref 6), some (.int (nI j)), some (.int (tat l (F 7) j))]) (st2 := [.int (-1)]) b_X0_faultAt_170_175 rfl (fun hd => ?_)
        exact R2.ret3 (r := some (.int (-1))) hd trivial rfl (congrArg (fun z => some (Value.int z)) (by clear hd; unfold fltAt; grind)) rfl
    · rw [h9]
      refine R2.tblIn (off := 141) 162 hd (by decide) (by decide) rfl (by decide) ?_
      refine R2.B (ls2 := [some (.ref 6), some (.int (nI j)), some (.int (tat l (F 7) j))]) (st2 := [.int (tat l (F 7) j)]) b_X0_faultAt_162_163 rfl (fun hd => ?_)
      refine R2.callS3 (M2 := mX10_figure) (As := [.int (tat l (F 7) j)]) (rest := []) hd lk_0_62 okX10_figure (by decide) (ev_figure E L F (tat l (F 7) j)) (by decide) rfl rfl (Nat.le_of_ble_eq_true rfl) ?_
      refine R2.B (ls2 := [some (.ref 6), some (.int (nI j)), some (.int (tat l (F 7) j))]) (st2 := [.int (-1), .int (fig (tat l (F 7) j))]) b_X0_faultAt_166_167 rfl (fun hd => ?_)
      refine R2.icmp_eq 174 hd (by decide) (fun c167 => ?_) (fun c167 => ?_)
      · refine R2.B (ls2 := [some (.ref 6), some (.int (nI j)), some (.int (tat l (F 7) j))]) (st2 := [.int (nI j)]) b_X0_faultAt_174_175 rfl (fun hd => ?_)
        exact R2.ret3 (r := some (.int (nI j))) hd trivial rfl (congrArg (fun z => some (Value.int z)) (by clear hd; unfold fltAt; grind)) rfl
      · refine R2.B (ls2 := [some (.ref 6), some (.int (nI j)), some (.int (tat l (F 7) j))]) (st2 := [.int (-1)]) b_X0_faultAt_170_175 rfl (fun hd => ?_)
        exact R2.ret3 (r := some (.int (-1))) hd trivial rfl (congrArg (fun z => some (Value.int z)) (by clear hd; unfold fltAt; grind)) rfl
    · rw [h9]
      refine R2.tblIn (off := 141) 162 hd (by decide) (by decide) rfl (by decide) ?_
      refine R2.B (ls2 := [some (.ref 6), some (.int (nI j)), some (.int (tat l (F 7) j))]) (st2 := [.int (tat l (F 7) j)]) b_X0_faultAt_162_163 rfl (fun hd => ?_)
      refine R2.callS3 (M2 := mX10_figure) (As := [.int (tat l (F 7) j)]) (rest := []) hd lk_0_62 okX10_figure (by decide) (ev_figure E L F (tat l (F 7) j)) (by decide) rfl rfl (Nat.le_of_ble_eq_true rfl) ?_
      refine R2.B (ls2 := [some (.ref 6), some (.int (nI j)), some (.int (tat l (F 7) j))]) (st2 := [.int (-1), .int (fig (tat l (F 7) j))]) b_X0_faultAt_166_167 rfl (fun hd => ?_)
      refine R2.icmp_eq 174 hd (by decide) (fun c167 => ?_) (fun c167 => ?_)
      · refine R2.B (ls2 := [some (.ref 6), some (.int (nI j)), some (.int (tat l (F 7) j))]) (st2 := [.int (nI j)]) b_X0_faultAt_174_175 rfl (fun hd => ?_)
        exact R2.ret3 (r := some (.int (nI j))) hd trivial rfl (congrArg (fun z => some (Value.int z)) (by clear hd; unfold fltAt; grind)) rfl
      · refine R2.B (ls2 := [some (.ref 6), some (.int (nI j)), some (.int (tat l (F 7) j))]) (st2 := [.int (-1)]) b_X0_faultAt_170_175 rfl (fun hd => ?_)
        exact R2.ret3 (r := some (.int (-1))) hd trivial rfl (congrArg (fun z => some (Value.int z)) (by clear hd; unfold fltAt; grind)) rfl
    · rw [h9]
      refine R2.tblIn (off := 97) 118 hd (by decide) (by decide) rfl (by decide) ?_
      refine R2.B (ls2 := [some (.ref 6), some (.int (nI j)), some (.int (tat l (F 7) j))]) (st2 := [.int (tat l (F 7) j)]) b_X0_faultAt_118_119 rfl (fun hd => ?_)
      refine R2.callS3 (M2 := mX10_figure) (As := [.int (tat l (F 7) j)]) (rest := []) hd lk_0_62 okX10_figure (by decide) (ev_figure E L F (tat l (F 7) j)) (by decide) rfl rfl (Nat.le_of_ble_eq_true rfl) ?_
      refine R2.B (ls2 := [some (.ref 6), some (.int (nI j)), some (.int (tat l (F 7) j))]) (st2 := [.int (-1), .int (fig (tat l (F 7) j))]) b_X0_faultAt_122_123 rfl (fun hd => ?_)
      refine R2.icmp_ne 130 hd (by decide) (fun c123 => ?_) (fun c123 => ?_)
      · refine R2.B (ls2 := [some (.ref 6), some (.int (nI j)), some (.int (tat l (F 7) j))]) (st2 := [.int ((nI j) - 1), .ref 6]) b_X0_faultAt_130_134 rfl (fun hd => ?_)
        rw [show ((nI j) - 1 : Int32) = nI (j - 1) from pk_sub (show 1 ≤ j by omega)]
        refine R2.callS3 (M2 := mX0_number) (As := [.ref 6, .int (nI (j - 1))]) (rest := []) hd lk_0_65 okX0_number (by decide) (ev_number E L F l (j - 1) hlen (by omega) (by omega)) (by decide) rfl rfl (Nat.le_of_ble_eq_true rfl) ?_
        refine R2.B (ls2 := [some (.ref 6), some (.int (nI j)), some (.int (tat l (F 7) j))]) (st2 := [.int 32, .int (nmb l (F 7) (j - 1))]) b_X0_faultAt_137_139 rfl (fun hd => ?_)
        refine R2.icmp_ge 146 hd (by decide) (fun c139 => ?_) (fun c139 => ?_)
        · refine R2.B (ls2 := [some (.ref 6), some (.int (nI j)), some (.int (tat l (F 7) j))]) (st2 := [.int ((nI j) - 1)]) b_X0_faultAt_146_149 rfl (fun hd => ?_)
          rw [show ((nI j) - 1 : Int32) = nI (j - 1) from pk_sub (show 1 ≤ j by omega)]
          exact R2.ret3 (r := some (.int (nI (j - 1)))) hd trivial rfl (congrArg (fun z => some (Value.int z)) (by clear hd; unfold fltAt; grind)) rfl
        · refine R2.B (ls2 := [some (.ref 6), some (.int (nI j)), some (.int (tat l (F 7) j))]) (st2 := [.int (-1)]) b_X0_faultAt_142_149 rfl (fun hd => ?_)
          exact R2.ret3 (r := some (.int (-1))) hd trivial rfl (congrArg (fun z => some (Value.int z)) (by clear hd; unfold fltAt; grind)) rfl
      · refine R2.B (ls2 := [some (.ref 6), some (.int (nI j)), some (.int (tat l (F 7) j))]) (st2 := [.int (nI j)]) b_X0_faultAt_126_149 rfl (fun hd => ?_)
        exact R2.ret3 (r := some (.int (nI j))) hd trivial rfl (congrArg (fun z => some (Value.int z)) (by clear hd; unfold fltAt; grind)) rfl
    · rw [h9]
      refine R2.tblIn (off := 141) 162 hd (by decide) (by decide) rfl (by decide) ?_
      refine R2.B (ls2 := [some (.ref 6), some (.int (nI j)), some (.int (tat l (F 7) j))]) (st2 := [.int (tat l (F 7) j)]) b_X0_faultAt_162_163 rfl (fun hd => ?_)
      refine R2.callS3 (M2 := mX10_figure) (As := [.int (tat l (F 7) j)]) (rest := []) hd lk_0_62 okX10_figure (by decide) (ev_figure E L F (tat l (F 7) j)) (by decide) rfl rfl (Nat.le_of_ble_eq_true rfl) ?_
      refine R2.B (ls2 := [some (.ref 6), some (.int (nI j)), some (.int (tat l (F 7) j))]) (st2 := [.int (-1), .int (fig (tat l (F 7) j))]) b_X0_faultAt_166_167 rfl (fun hd => ?_)
      refine R2.icmp_eq 174 hd (by decide) (fun c167 => ?_) (fun c167 => ?_)
      · refine R2.B (ls2 := [some (.ref 6), some (.int (nI j)), some (.int (tat l (F 7) j))]) (st2 := [.int (nI j)]) b_X0_faultAt_174_175 rfl (fun hd => ?_)
        exact R2.ret3 (r := some (.int (nI j))) hd trivial rfl (congrArg (fun z => some (Value.int z)) (by clear hd; unfold fltAt; grind)) rfl
      · refine R2.B (ls2 := [some (.ref 6), some (.int (nI j)), some (.int (tat l (F 7) j))]) (st2 := [.int (-1)]) b_X0_faultAt_170_175 rfl (fun hd => ?_)
        exact R2.ret3 (r := some (.int (-1))) hd trivial rfl (congrArg (fun z => some (Value.int z)) (by clear hd; unfold fltAt; grind)) rfl
    · rw [h9]
      refine R2.tblIn (off := 97) 118 hd (by decide) (by decide) rfl (by decide) ?_
      refine R2.B (ls2 := [some (.ref 6), some (.int (nI j)), some (.int (tat l (F 7) j))]) (st2 := [.int (tat l (F 7) j)]) b_X0_faultAt_118_119 rfl (fun hd => ?_)
      refine R2.callS3 (M2 := mX10_figure) (As := [.int (tat l (F 7) j)]) (rest := []) hd lk_0_62 okX10_figure (by decide) (ev_figure E L F (tat l (F 7) j)) (by decide) rfl rfl (Nat.le_of_ble_eq_true rfl) ?_
      refine R2.B (ls2 := [some (.ref 6), some (.int (nI j)), some (.int (tat l (F 7) j))]) (st2 := [.int (-1), .int (fig (tat l (F 7) j))]) b_X0_faultAt_122_123 rfl (fun hd => ?_)
      refine R2.icmp_ne 130 hd (by decide) (fun c123 => ?_) (fun c123 => ?_)
      · refine R2.B (ls2 := [some (.ref 6), some (.int (nI j)), some (.int (tat l (F 7) j))]) (st2 := [.int ((nI j) - 1), .ref 6]) b_X0_faultAt_130_134 rfl (fun hd => ?_)
        rw [show ((nI j) - 1 : Int32) = nI (j - 1) from pk_sub (show 1 ≤ j by omega)]
        refine R2.callS3 (M2 := mX0_number) (As := [.ref 6, .int (nI (j - 1))]) (rest := []) hd lk_0_65 okX0_number (by decide) (ev_number E L F l (j - 1) hlen (by omega) (by omega)) (by decide) rfl rfl (Nat.le_of_ble_eq_true rfl) ?_
        refine R2.B (ls2 := [some (.ref 6), some (.int (nI j)), some (.int (tat l (F 7) j))]) (st2 := [.int 32, .int (nmb l (F 7) (j - 1))]) b_X0_faultAt_137_139 rfl (fun hd => ?_)
        refine R2.icmp_ge 146 hd (by decide) (fun c139 => ?_) (fun c139 => ?_)
        · refine R2.B (ls2 := [some (.ref 6), some (.int (nI j)), some (.int (tat l (F 7) j))]) (st2 := [.int ((nI j) - 1)]) b_X0_faultAt_146_149 rfl (fun hd => ?_)
          rw [show ((nI j) - 1 : Int32) = nI (j - 1) from pk_sub (show 1 ≤ j by omega)]
          exact R2.ret3 (r := some (.int (nI (j - 1)))) hd trivial rfl (congrArg (fun z => some (Value.int z)) (by clear hd; unfold fltAt; grind)) rfl
        · refine R2.B (ls2 := [some (.ref 6), some (.int (nI j)), some (.int (tat l (F 7) j))]) (st2 := [.int (-1)]) b_X0_faultAt_142_149 rfl (fun hd => ?_)
          exact R2.ret3 (r := some (.int (-1))) hd trivial rfl (congrArg (fun z => some (Value.int z)) (by clear hd; unfold fltAt; grind)) rfl
      · refine R2.B (ls2 := [some (.ref 6), some (.int (nI j)), some (.int (tat l (F 7) j))]) (st2 := [.int (nI j)]) b_X0_faultAt_126_149 rfl (fun hd => ?_)
        exact R2.ret3 (r := some (.int (nI j))) hd trivial rfl (congrArg (fun z => some (Value.int z)) (by clear hd; unfold fltAt; grind)) rfl
    · rw [h9]
      refine R2.tblIn (off := 129) 150 hd (by decide) (by decide) rfl (by decide) ?_
      refine R2.B (ls2 := [some (.ref 6), some (.int (nI j)), some (.int (tat l (F 7) j))]) (st2 := [.int 59, .int (tat l (F 7) j)]) b_X0_faultAt_150_153 rfl (fun hd => ?_)
      refine R2.icmp_ne 160 hd (by decide) (fun c153 => ?_) (fun c153 => ?_)
      · refine R2.B (ls2 := [some (.ref 6), some (.int (nI j)), some (.int (tat l (F 7) j))]) (st2 := [.int (nI j)]) b_X0_faultAt_160_161 rfl (fun hd => ?_)
        exact R2.ret3 (r := some (.int (nI j))) hd trivial rfl (congrArg (fun z => some (Value.int z)) (by clear hd; unfold fltAt; grind)) rfl
      · refine R2.B (ls2 := [some (.ref 6), some (.int (nI j)), some (.int (tat l (F 7) j))]) (st2 := [.int (-1)]) b_X0_faultAt_156_161 rfl (fun hd => ?_)
        exact R2.ret3 (r := some (.int (-1))) hd trivial rfl (congrArg (fun z => some (Value.int z)) (by clear hd; unfold fltAt; grind)) rfl
  · have nc12 : ¬ (j / 9) < 10 := fun h9 => c12 ((nI_ltI (a := (j / 9)) (b := 10) (by omega) (by omega)).mpr h9)
    refine R2.B (ls2 := [some (.ref 6), some (.int (nI j)), some (.int (tat l (F 7) j))]) (st2 := [.int (nI j)]) b_X0_faultAt_15_16 rfl (fun hd => ?_)
    exact R2.ret3 (r := some (.int (nI j))) hd trivial rfl (congrArg (fun z => some (Value.int z)) (by clear hd; unfold fltAt; grind)) rfl
theorem b_X0_faultOf_7_9 : bl2 mX0_faultOf 7 [(.iload_n 2, 1, 2, 0, .null), (.iload_n 1, 1, 1, 0, .null)] 9 (.if_icmp .ge 22) 3 = true := by decide +kernel
theorem b_X0_faultOf_31_32 : bl2 mX0_faultOf 31 [(.iload_n 1, 1, 1, 0, .null)] 32 (.ifCond .eq 12) 3 = true := by decide +kernel
theorem b_X0_faultOf_44_51 : bl2 mX0_faultOf 44 [(.iconst 1, 1, 0, 0, .int 1), (.goto 4, 3, 49, 0, .null), (.istore_n 2, 1, 2, 0, .null), (.iload_n 2, 1, 2, 0, .null)] 51 (.ifCond .eq 7) 3 = true := by decide +kernel
theorem b_X0_faultOf_54_59 : bl2 mX0_faultOf 54 [(.iconst (-1), 1, 0, 0, .int (-1)), (.goto 4, 3, 59, 0, .null)] 59 (.ireturn) 1 = true := by decide +kernel
theorem b_X0_faultOf_35_38 : bl2 mX0_faultOf 35 [(.iload_n 1, 1, 1, 0, .null), (.bipush 9, 2, 0, 0, .int 9)] 38 (.irem) 1 = true := by decide +kernel
theorem b_X0_faultOf_39_41 : bl2 mX0_faultOf 39 [(.bipush 8, 2, 0, 0, .int 8)] 41 (.if_icmp .ne 7) 3 = true := by decide +kernel
theorem b_X0_faultOf_48_51 : bl2 mX0_faultOf 48 [(.iconst 0, 1, 0, 0, .int 0), (.istore_n 2, 1, 2, 0, .null), (.iload_n 2, 1, 2, 0, .null)] 51 (.ifCond .eq 7) 3 = true := by decide +kernel
theorem b_X0_faultOf_58_59 : bl2 mX0_faultOf 58 [(.iload_n 1, 1, 1, 0, .null)] 59 (.ireturn) 1 = true := by decide +kernel
theorem b_X0_faultOf_12_14 : bl2 mX0_faultOf 12 [(.aload_n 0, 1, 0, 0, .null), (.iload_n 2, 1, 2, 0, .null)] 14 (.invokestatic 69) 3 = true := by decide +kernel
theorem b_X0_faultOf_17_20 : bl2 mX0_faultOf 17 [(.istore_n 3, 1, 3, 0, .null), (.iload_n 3, 1, 3, 0, .null), (.iconst (-1), 1, 0, 0, .int (-1))] 20 (.if_icmp .eq 5) 3 = true := by decide +kernel
theorem b_X0_faultOf_25_7 : bl2 mX0_faultOf 25 [(.iinc 2 1, 3, 2, 0, .int 1), (.goto (-21), 3, 7, 0, .null)] 7 (.iload_n 2) 1 = true := by decide +kernel
theorem b_X0_faultOf_23_24 : bl2 mX0_faultOf 23 [(.iload_n 3, 1, 3, 0, .null)] 24 (.ireturn) 1 = true := by decide +kernel
set_option maxRecDepth 20000 in
set_option maxHeartbeats 2000000 in
theorem lp_faultOf (E : EE) (L : Nat) (F : FF) (l : Nat) (hlen : F 6 1 = nI l) (hl : l ≤ 90) : ∀ (k : Nat) (i : Nat), i + k = l → R2 E L mX0_faultOf 4 7 [some (.ref 6), some (.int (nI l)), some (.int (nI i)), none] [] F (fun r' F' => r' = some (.int (cFlt l (F 7) k i)) ∧ F' = F) := by
  intro k
  induction k with
  | zero =>
    intro i hi
    refine R2.B (ls2 := [some (.ref 6), some (.int (nI l)), some (.int (nI i)), none]) (st2 := [.int (nI l), .int (nI i)]) b_X0_faultOf_7_9 rfl (fun hd => ?_)
    refine R2.icmp_ge 31 hd (by decide) (fun c9 => ?_) (fun c9 => absurd (nI_le (by omega) (by omega)) c9)
    refine R2.B (ls2 := [some (.ref 6), some (.int (nI l)), some (.int (nI i)), none]) (st2 := [.int (nI l)]) b_X0_faultOf_31_32 rfl (fun hd => ?_)
    refine R2.if_eq 44 hd (by decide) (fun c32 => ?_) (fun c32 => ?_)
    · have nc32 : l = 0 := (nI_eq (a := l) (b := 0) (by omega) (by omega)).mp c32
      refine R2.B (ls2 := [some (.ref 6), some (.int (nI l)), some (.int 1), none]) (st2 := [.int 1]) b_X0_faultOf_44_51 rfl (fun hd => ?_)
      refine R2.if_eq 58 hd (by decide) (fun c51 => absurd c51 (by decide)) (fun c51 => ?_)
      refine R2.B (ls2 := [some (.ref 6), some (.int (nI l)), some (.int 1), none]) (st2 := [.int (-1)]) b_X0_faultOf_54_59 rfl (fun hd => ?_)
      exact R2.ret3 (r := some (.int (-1))) hd trivial rfl (congrArg (fun z => some (Value.int z)) (by clear hd; unfold cFlt; grind)) rfl
    · have nc32 : ¬ l = 0 := fun h9 => c32 ((nI_eq (a := l) (b := 0) (by omega) (by omega)).mpr h9)
      refine R2.B (ls2 := [some (.ref 6), some (.int (nI l)), some (.int (nI i)), none]) (st2 := [.int 9, .int (nI l)]) b_X0_faultOf_35_38 rfl (fun hd => ?_)
      refine R2.irem hd (by decide) ?_
      refine R2.top (show ((nI l) - (nI l) / 9 * 9 : Int32) = nI (l % 9) from pk_rem (by omega) (by decide) (by decide)) ?_
      refine R2.B (ls2 := [some (.ref 6), some (.int (nI l)), some (.int (nI i)), none]) (st2 := [.int 8, .int (nI (l % 9))]) b_X0_faultOf_39_41 rfl (fun hd => ?_)
      refine R2.icmp_ne 48 hd (by decide) (fun c41 => ?_) (fun c41 => ?_)
      · have nc41 : ¬ (l % 9) = 8 := fun h9 => c41 ((nI_eq (a := (l % 9)) (b := 8) (by omega) (by omega)).mpr h9)
        refine R2.B (ls2 := [some (.ref 6), some (.int (nI l)), some (.int 0), none]) (st2 := [.int 0]) b_X0_faultOf_48_51 rfl (fun hd => ?_)
        refine R2.if_eq 58 hd (by decide) (fun c51 => ?_) (fun c51 => absurd (by decide) c51)
        refine R2.B (ls2 := [some (.ref 6), some (.int (nI l)), some (.int 0), none]) (st2 := [.int (nI l)]) b_X0_faultOf_58_59 rfl (fun hd => ?_)
        exact R2.ret3 (r := some (.int (nI l))) hd trivial rfl (congrArg (fun z => some (Value.int z)) (by clear hd; unfold cFlt; grind)) rfl
      · have nc41 : (l % 9) = 8 := (nI_eq (a := (l % 9)) (b := 8) (by omega) (by omega)).mp c41
        refine R2.B (ls2 := [some (.ref 6), some (.int (nI l)), some (.int 1), none]) (st2 := [.int 1]) b_X0_faultOf_44_51 rfl (fun hd => ?_)
        refine R2.if_eq 58 hd (by decide) (fun c51 => absurd c51 (by decide)) (fun c51 => ?_)
        refine R2.B (ls2 := [some (.ref 6), some (.int (nI l)), some (.int 1), none]) (st2 := [.int (-1)]) b_X0_faultOf_54_59 rfl (fun hd => ?_)
        exact R2.ret3 (r := some (.int (-1))) hd trivial rfl (congrArg (fun z => some (Value.int z)) (by clear hd; unfold cFlt; grind)) rfl
  | succ k ih =>
    intro i hi
    refine R2.B (ls2 := [some (.ref 6), some (.int (nI l)), some (.int (nI i)), none]) (st2 := [.int (nI l), .int (nI i)]) b_X0_faultOf_7_9 rfl (fun hd => ?_)
    refine R2.icmp_ge 31 hd (by decide) (fun c9 => absurd c9 (nI_ge (by omega) (by omega))) (fun c9 => ?_)
    refine R2.B (ls2 := [some (.ref 6), some (.int (nI l)), some (.int (nI i)), none]) (st2 := [.int (nI i), .ref 6]) b_X0_faultOf_12_14 rfl (fun hd => ?_)
    refine R2.callS3 (M2 := mX0_faultAt) (As := [.ref 6, .int (nI i)]) (rest := []) hd lk_0_69 okX0_faultAt (by decide) (ev_faultAt E L F l i hlen hl (by omega)) (by decide) rfl rfl (Nat.le_of_ble_eq_true rfl) ?_
    refine R2.B (ls2 := [some (.ref 6), some (.int (nI l)), some (.int (nI i)), some (.int (fltAt l (F 7) i))]) (st2 := [.int (-1), .int (fltAt l (F 7) i)]) b_X0_faultOf_17_20 rfl (fun hd => ?_)
    refine R2.icmp_eq 25 hd (by decide) (fun c20 => ?_) (fun c20 => ?_)
    · refine R2.B (ls2 := [some (.ref 6), some (.int (nI l)), some (.int ((nI i) + 1)), some (.int (fltAt l (F 7) i))]) (st2 := []) b_X0_faultOf_25_7 rfl (fun hd => ?_)
      rw [show ((nI i) + 1 : Int32) = nI (i + 1) from nI_add i 1]
      rw [show cFlt l (F 7) (k + 1) i = cFlt l (F 7) k (i + 1) from if_pos c20]
      refine R2.forget (ls2 := [some (.ref 6), some (.int (nI l)), some (.int (nI (i + 1))), none]) ⟨rfl, ⟨rfl, ⟨rfl, trivial⟩⟩⟩ ?_
      exact ih (i + 1) (by omega)
    · refine R2.B (ls2 := [some (.ref 6), some (.int (nI l)), some (.int (nI i)), some (.int (fltAt l (F 7) i))]) (st2 := [.int (fltAt l (F 7) i)]) b_X0_faultOf_23_24 rfl (fun hd => ?_)
      exact R2.ret3 (r := some (.int (fltAt l (F 7) i))) hd trivial rfl (congrArg (fun z => some (Value.int z)) (by clear hd; unfold cFlt; grind)) rfl
theorem b_X0_faultOf_0_1 : bl2 mX0_faultOf 0 [(.aload_n 0, 1, 0, 0, .null)] 1 (.invokevirtual 38) 3 = true := by decide +kernel
theorem b_X0_faultOf_4_7 : bl2 mX0_faultOf 4 [(.istore_n 1, 1, 1, 0, .null), (.iconst 0, 1, 0, 0, .int 0), (.istore_n 2, 1, 2, 0, .null)] 7 (.iload_n 2) 1 = true := by decide +kernel
set_option maxRecDepth 20000 in
set_option maxHeartbeats 1000000 in
theorem ev_faultOf (E : EE) (L : Nat) (F : FF) (l : Nat) (hlen : F 6 1 = nI l) (hl : l ≤ 90) : Ev3 E L 4 mX0_faultOf [.ref 6] F (some (.int (cFlt l (F 7) l 0))) F := by
  refine Ev3.of okX0_faultOf.2.1 (Nat.le_of_ble_eq_true rfl) ?_
  show R2 E L mX0_faultOf 4 0 [some (.ref 6), none, none, none] [] F _
  refine R2.B (ls2 := [some (.ref 6), none, none, none]) (st2 := [.ref 6]) b_X0_faultOf_0_1 rfl (fun hd => ?_)
  refine R2.callV3 (M2 := mX7_length) (As := []) (rest := []) hd lk_0_38 okX7_length (by decide) rfl (ev_length6 E L _) (by decide) rfl rfl (Nat.le_of_ble_eq_true rfl) ?_
  refine R2.top (show (F 6 1 : Int32) = nI l from hlen) ?_
  refine R2.B (ls2 := [some (.ref 6), some (.int (nI l)), some (.int 0), none]) (st2 := []) b_X0_faultOf_4_7 rfl (fun hd => ?_)
  rw [show (0 : Int32) = nI 0 from rfl]
  exact lp_faultOf E L F l hlen hl l 0 (by omega)
theorem b_X0_place_0_7 : bl2 mX0_place 0 [(.iload_n 2, 1, 2, 0, .null), (.bipush 9, 2, 0, 0, .int 9), (.imul, 1, 0, 0, .null), (.istore_n 3, 1, 3, 0, .null), (.aload_n 1, 1, 1, 0, .null), (.iload_n 3, 1, 3, 0, .null)] 7 (.invokevirtual 58) 3 = true := by decide +kernel
theorem b_X0_place_10_21 : bl2 mX0_place 10 [(.istore 4, 2, 4, 0, .null), (.aload_n 0, 1, 0, 0, .null), (.getfield 9, 3, 0, 0, .null), (.iload_n 2, 1, 2, 0, .null), (.iload 4, 2, 4, 0, .null), (.bipush 115, 2, 0, 0, .int 115)] 21 (.if_icmp .ne 7) 3 = true := by decide +kernel
theorem b_X0_place_28_32 : bl2 mX0_place 28 [(.iload 4, 2, 4, 0, .null), (.bipush 98, 2, 0, 0, .int 98)] 32 (.if_icmp .ne 7) 3 = true := by decide +kernel
theorem b_X0_place_39_40 : bl2 mX0_place 39 [(.iconst 2, 1, 0, 0, .int 2)] 40 (.iastore) 1 = true := by decide +kernel
theorem b_X0_place_41_50 : bl2 mX0_place 41 [(.aload_n 0, 1, 0, 0, .null), (.getfield 15, 3, 0, 1, .null), (.iload_n 2, 1, 2, 0, .null), (.aload_n 1, 1, 1, 0, .null), (.iload_n 3, 1, 3, 0, .null), (.iconst 1, 1, 0, 0, .int 1), (.iadd, 1, 0, 0, .null)] 50 (.invokevirtual 58) 3 = true := by decide +kernel
theorem b_X0_place_53_53 : bl2 mX0_place 53 [] 53 (.invokestatic 62) 3 = true := by decide +kernel
theorem b_X0_place_56_56 : bl2 mX0_place 56 [] 56 (.iastore) 1 = true := by decide +kernel
theorem b_X0_place_57_66 : bl2 mX0_place 57 [(.aload_n 0, 1, 0, 0, .null), (.getfield 18, 3, 0, 2, .null), (.iload_n 2, 1, 2, 0, .null), (.aload_n 1, 1, 1, 0, .null), (.iload_n 3, 1, 3, 0, .null), (.iconst 2, 1, 0, 0, .int 2), (.iadd, 1, 0, 0, .null)] 66 (.invokestatic 65) 3 = true := by decide +kernel
theorem b_X0_place_69_69 : bl2 mX0_place 69 [] 69 (.iastore) 1 = true := by decide +kernel
theorem b_X0_place_70_82 : bl2 mX0_place 70 [(.aload_n 0, 1, 0, 0, .null), (.getfield 21, 3, 0, 3, .null), (.iload_n 2, 1, 2, 0, .null), (.bipush 32, 2, 0, 0, .int 32), (.aload_n 1, 1, 1, 0, .null), (.iload_n 3, 1, 3, 0, .null), (.bipush 6, 2, 0, 0, .int 6), (.iadd, 1, 0, 0, .null)] 82 (.invokestatic 65) 3 = true := by decide +kernel
theorem b_X0_place_85_90 : bl2 mX0_place 85 [(.imul, 1, 0, 0, .null), (.aload_n 1, 1, 1, 0, .null), (.iload_n 3, 1, 3, 0, .null), (.iconst 4, 1, 0, 0, .int 4), (.iadd, 1, 0, 0, .null)] 90 (.invokestatic 65) 3 = true := by decide +kernel
theorem b_X0_place_93_94 : bl2 mX0_place 93 [(.iadd, 1, 0, 0, .null)] 94 (.iastore) 1 = true := by decide +kernel
theorem b_X0_place_95_105 : bl2 mX0_place 95 [(.aload_n 0, 1, 0, 0, .null), (.getfield 24, 3, 0, 4, .null), (.iload_n 2, 1, 2, 0, .null), (.aload_n 0, 1, 0, 0, .null), (.getfield 21, 3, 0, 3, .null), (.iload_n 2, 1, 2, 0, .null)] 105 (.iaload) 1 = true := by decide +kernel
theorem b_X0_place_106_106 : bl2 mX0_place 106 [] 106 (.iastore) 1 = true := by decide +kernel
theorem b_X0_place_107_107 : bl2 mX0_place 107 [] 107 (.return_) 1 = true := by decide +kernel
theorem b_X0_place_35_40 : bl2 mX0_place 35 [(.iconst 1, 1, 0, 0, .int 1), (.goto 4, 3, 40, 0, .null)] 40 (.iastore) 1 = true := by decide +kernel
theorem b_X0_place_24_40 : bl2 mX0_place 24 [(.iconst 0, 1, 0, 0, .int 0), (.goto 15, 3, 40, 0, .null)] 40 (.iastore) 1 = true := by decide +kernel
set_option maxRecDepth 20000 in
set_option maxHeartbeats 1000000 in
theorem ev_place (E : EE) (L : Nat) (F : FF) (l p : Nat) (hlen : F 6 1 = nI l) (hl : l ≤ 90) (hp : p < 10) : Ev3 E L 3 mX0_place [.ref 10, .ref 6, .int (nI p)] F none (plcF F l p) := by
  refine Ev3.of okX0_place.2.2.1 (Nat.le_of_ble_eq_true rfl) ?_
  show R2 E L mX0_place 3 0 [some (.ref 10), some (.ref 6), some (.int (nI p)), none, none] [] F _
  refine R2.B (ls2 := [some (.ref 10), some (.ref 6), some (.int (nI p)), some (.int ((nI p) * 9)), none]) (st2 := [.int ((nI p) * 9), .ref 6]) b_X0_place_0_7 rfl (fun hd => ?_)
  rw [show ((nI p) * 9 : Int32) = nI (p * 9) from pk_mul p 9]
  refine R2.callV3 (M2 := mX7_at) (As := [.int (nI (p * 9))]) (rest := []) hd lk_0_58 okX7_at (by decide) rfl (ev_at6 E L F l (p * 9) hlen (by omega) (by omega)) (by decide) rfl rfl (Nat.le_of_ble_eq_true rfl) ?_
  refine R2.B (ls2 := [some (.ref 10), some (.ref 6), some (.int (nI p)), some (.int (nI (p * 9))), some (.int (tat l (F 7) (p * 9)))]) (st2 := [.int 115, .int (tat l (F 7) (p * 9)), .int (nI p), .ref 11]) b_X0_place_10_21 rfl (fun hd => ?_)
  refine R2.icmp_ne 28 hd (by decide) (fun c21 => ?_) (fun c21 => ?_)
  · refine R2.B (ls2 := [some (.ref 10), some (.ref 6), some (.int (nI p)), some (.int (nI (p * 9))), some (.int (tat l (F 7) (p * 9)))]) (st2 := [.int 98, .int (tat l (F 7) (p * 9)), .int (nI p), .ref 11]) b_X0_place_28_32 rfl (fun hd => ?_)
    refine R2.icmp_ne 39 hd (by decide) (fun c32 => ?_) (fun c32 => ?_)
    · refine R2.B (ls2 := [some (.ref 10), some (.ref 6), some (.int (nI p)), some (.int (nI (p * 9))), some (.int (tat l (F 7) (p * 9)))]) (st2 := [.int 2, .int (nI p), .ref 11]) b_X0_place_39_40 rfl (fun hd => ?_)
      refine R2.iast p rfl hd (by decide) rfl (fun _ => rfl) (by decide) (by omega) ?_
      refine R2.B (ls2 := [some (.ref 10), some (.ref 6), some (.int (nI p)), some (.int (nI (p * 9))), some (.int (tat l (F 7) (p * 9)))]) (st2 := [.int ((nI (p * 9)) + 1), .ref 6, .int (nI p), .ref 12]) b_X0_place_41_50 rfl (fun hd => ?_)
      rw [show ((nI (p * 9)) + 1 : Int32) = nI ((p * 9) + 1) from nI_add (p * 9) 1]
      refine R2.callV3 (M2 := mX7_at) (As := [.int (nI ((p * 9) + 1))]) (rest := [.int (nI p), .ref 12]) hd lk_0_58 okX7_at (by decide) rfl (ev_at6 E L (up2 F 11 p 2) l ((p * 9) + 1) hlen (by omega) (by omega)) (by decide) rfl rfl (Nat.le_of_ble_eq_true rfl) ?_
      refine R2.B (ls2 := [some (.ref 10), some (.ref 6), some (.int (nI p)), some (.int (nI (p * 9))), some (.int (tat l (F 7) (p * 9)))]) (st2 := [.int (tat l (F 7) ((p * 9) + 1)), .int (nI p), .ref 12]) b_X0_place_53_53 rfl (fun hd => ?_)
      refine R2.callS3 (M2 := mX10_figure) (As := [.int (tat l (F 7) ((p * 9) + 1))]) (rest := [.int (nI p), .ref 12]) hd lk_0_62 okX10_figure (by decide) (ev_figure E L (up2 F 11 p 2) (tat l (F 7) ((p * 9) + 1))) (by decide) rfl rfl (Nat.le_of_ble_eq_true rfl) ?_
      refine R2.B (ls2 := [some (.ref 10), some (.ref 6), some (.int (nI p)), some (.int (nI (p * 9))), some (.int (tat l (F 7) (p * 9)))]) (st2 := [.int (fig (tat l (F 7) ((p * 9) + 1))), .int (nI p), .ref 12]) b_X0_place_56_56 rfl (fun hd => ?_)
      refine R2.iast p rfl hd (by decide) rfl (fun _ => rfl) (by decide) (by omega) ?_
      refine R2.B (ls2 := [some (.ref 10), some (.ref 6), some (.int (nI p)), some (.int (nI (p * 9))), some (.int (tat l (F 7) (p * 9)))]) (st2 := [.int ((nI (p * 9)) + 2), .ref 6, .int (nI p), .ref 13]) b_X0_place_57_66 rfl (fun hd => ?_)
      rw [show ((nI (p * 9)) + 2 : Int32) = nI ((p * 9) + 2) from nI_add (p * 9) 2]
      refine R2.callS3 (M2 := mX0_number) (As := [.ref 6, .int (nI ((p * 9) + 2))]) (rest := [.int (nI p), .ref 13]) hd lk_0_65 okX0_number (by decide) (ev_number E L (up2 (up2 F 11 p 2) 12 p (fig (tat l (F 7) ((p * 9) + 1)))) l ((p * 9) + 2) hlen (by omega) (by omega)) (by decide) rfl rfl (Nat.le_of_ble_eq_true rfl) ?_
      refine R2.B (ls2 := [some (.ref 10), some (.ref 6), some (.int (nI p)), some (.int (nI (p * 9))), some (.int (tat l (F 7) (p * 9)))]) (st2 := [.int (nmb l (F 7) ((p * 9) + 2)), .int (nI p), .ref 13]) b_X0_place_69_69 rfl (fun hd => ?_)
      refine R2.iast p rfl hd (by decide) rfl (fun _ => rfl) (by decide) (by omega) ?_
      refine R2.B (ls2 := [some (.ref 10), some (.ref 6), some (.int (nI p)), some (.int (nI (p * 9))), some (.int (tat l (F 7) (p * 9)))]) (st2 := [.int ((nI (p * 9)) + 6), .ref 6, .int 32, .int (nI p), .ref 14]) b_X0_place_70_82 rfl (fun hd => ?_)
      rw [show ((nI (p * 9)) + 6 : Int32) = nI ((p * 9) + 6) from nI_add (p * 9) 6]
      refine R2.callS3 (M2 := mX0_number) (As := [.ref 6, .int (nI ((p * 9) + 6))]) (rest := [.int 32, .int (nI p), .ref 14]) hd lk_0_65 okX0_number (by decide) (ev_number E L (up2 (up2 (up2 F 11 p 2) 12 p (fig (tat l (F 7) ((p * 9) + 1)))) 13 p (nmb l (F 7) ((p * 9) + 2))) l ((p * 9) + 6) hlen (by omega) (by omega)) (by decide) rfl rfl (Nat.le_of_ble_eq_true rfl) ?_
      refine R2.B (ls2 := [some (.ref 10), some (.ref 6), some (.int (nI p)), some (.int (nI (p * 9))), some (.int (tat l (F 7) (p * 9)))]) (st2 := [.int ((nI (p * 9)) + 4), .ref 6, .int (32 * (nmb l (F 7) ((p * 9) + 6))), .int (nI p), .ref 14]) b_X0_place_85_90 rfl (fun hd => ?_)
      rw [show ((nI (p * 9)) + 4 : Int32) = nI ((p * 9) + 4) from nI_add (p * 9) 4]
      refine R2.callS3 (M2 := mX0_number) (As := [.ref 6, .int (nI ((p * 9) + 4))]) (rest := [.int (32 * (nmb l (F 7) ((p * 9) + 6))), .int (nI p), .ref 14]) hd lk_0_65 okX0_number (by decide) (ev_number E L (up2 (up2 (up2 F 11 p 2) 12 p (fig (tat l (F 7) ((p * 9) + 1)))) 13 p (nmb l (F 7) ((p * 9) + 2))) l ((p * 9) + 4) hlen (by omega) (by omega)) (by decide) rfl rfl (Nat.le_of_ble_eq_true rfl) ?_
      refine R2.B (ls2 := [some (.ref 10), some (.ref 6), some (.int (nI p)), some (.int (nI (p * 9))), some (.int (tat l (F 7) (p * 9)))]) (st2 := [.int ((32 * (nmb l (F 7) ((p * 9) + 6))) + (nmb l (F 7) ((p * 9) + 4))), .int (nI p), .ref 14]) b_X0_place_93_94 rfl (fun hd => ?_)
      refine R2.iast p rfl hd (by decide) rfl (fun _ => rfl) (by decide) (by omega) ?_
      refine R2.B (ls2 := [some (.ref 10), some (.ref 6), some (.int (nI p)), some (.int (nI (p * 9))), some (.int (tat l (F 7) (p * 9)))]) (st2 := [.int (nI p), .ref 14, .int (nI p), .ref 15]) b_X0_place_95_105 rfl (fun hd => ?_)
      refine R2.iald p rfl hd rfl (fun _ => rfl) (by decide) (by omega) ?_
      refine R2.top (show ((up2 (up2 (up2 (up2 F 11 p 2) 12 p (fig (tat l (F 7) ((p * 9) + 1)))) 13 p (nmb l (F 7) ((p * 9) + 2))) 14 p ((32 * (nmb l (F 7) ((p * 9) + 6))) + (nmb l (F 7) ((p * 9) + 4)))) 14 p : Int32) = (32 * (nmb l (F 7) ((p * 9) + 6))) + (nmb l (F 7) ((p * 9) + 4)) from up2_same _ _ _ _) ?_
      refine R2.B (ls2 := [some (.ref 10), some (.ref 6), some (.int (nI p)), some (.int (nI (p * 9))), some (.int (tat l (F 7) (p * 9)))]) (st2 := [.int ((32 * (nmb l (F 7) ((p * 9) + 6))) + (nmb l (F 7) ((p * 9) + 4))), .int (nI p), .ref 15]) b_X0_place_106_106 rfl (fun hd => ?_)
      refine R2.iast p rfl hd (by decide) rfl (fun _ => rfl) (by decide) (by omega) ?_
      refine R2.B (ls2 := [some (.ref 10), some (.ref 6), some (.int (nI p)), some (.int (nI (p * 9))), some (.int (tat l (F 7) (p * 9)))]) (st2 := []) b_X0_place_107_107 rfl (fun hd => ?_)
      refine R2.ret3 (r := none) hd trivial rfl rfl ?_
      unfold plcF cKind
      first | (rw [if_pos c21]; done) | (rw [if_neg c21, if_pos c32]; done) | (rw [if_neg c21, if_neg c32]; done)
    · refine R2.B (ls2 := [some (.ref 10), some (.ref 6), some (.int (nI p)), some (.int (nI (p * 9))), some (.int (tat l (F 7) (p * 9)))]) (st2 := [.int 1, .int (nI p), .ref 11]) b_X0_place_35_40 rfl (fun hd => ?_)
      refine R2.iast p rfl hd (by decide) rfl (fun _ => rfl) (by decide) (by omega) ?_
      refine R2.B (ls2 := [some (.ref 10), some (.ref 6), some (.int (nI p)), some (.int (nI (p * 9))), some (.int (tat l (F 7) (p * 9)))]) (st2 := [.int ((nI (p * 9)) + 1), .ref 6, .int (nI p), .ref 12]) b_X0_place_41_50 rfl (fun hd => ?_)
      rw [show ((nI (p * 9)) + 1 : Int32) = nI ((p * 9) + 1) from nI_add (p * 9) 1]
      refine R2.callV3 (M2 := mX7_at) (As := [.int (nI ((p * 9) + 1))]) (rest := [.int (nI p), .ref 12]) hd lk_0_58 okX7_at (by decide) rfl (ev_at6 E L (up2 F 11 p 1) l ((p * 9) + 1) hlen (by omega) (by omega)) (by decide) rfl rfl (Nat.le_of_ble_eq_true rfl) ?_
      refine R2.B (ls2 := [some (.ref 10), some (.ref 6), some (.int (nI p)), some (.int (nI (p * 9))), some (.int (tat l (F 7) (p * 9)))]) (st2 := [.int (tat l (F 7) ((p * 9) + 1)), .int (nI p), .ref 12]) b_X0_place_53_53 rfl (fun hd => ?_)
      refine R2.callS3 (M2 := mX10_figure) (As := [.int (tat l (F 7) ((p * 9) + 1))]) (rest := [.int (nI p), .ref 12]) hd lk_0_62 okX10_figure (by decide) (ev_figure E L (up2 F 11 p 1) (tat l (F 7) ((p * 9) + 1))) (by decide) rfl rfl (Nat.le_of_ble_eq_true rfl) ?_
      refine R2.B (ls2 := [some (.ref 10), some (.ref 6), some (.int (nI p)), some (.int (nI (p * 9))), some (.int (tat l (F 7) (p * 9)))]) (st2 := [.int (fig (tat l (F 7) ((p * 9) + 1))), .int (nI p), .ref 12]) b_X0_place_56_56 rfl (fun hd => ?_)
      refine R2.iast p rfl hd (by decide) rfl (fun _ => rfl) (by decide) (by omega) ?_
      refine R2.B (ls2 := [some (.ref 10), some (.ref 6), some (.int (nI p)), some (.int (nI (p * 9))), some (.int (tat l (F 7) (p * 9)))]) (st2 := [.int ((nI (p * 9)) + 2), .ref 6, .int (nI p), .ref 13]) b_X0_place_57_66 rfl (fun hd => ?_)
      rw [show ((nI (p * 9)) + 2 : Int32) = nI ((p * 9) + 2) from nI_add (p * 9) 2]
      refine R2.callS3 (M2 := mX0_number) (As := [.ref 6, .int (nI ((p * 9) + 2))]) (rest := [.int (nI p), .ref 13]) hd lk_0_65 okX0_number (by decide) (ev_number E L (up2 (up2 F 11 p 1) 12 p (fig (tat l (F 7) ((p * 9) + 1)))) l ((p * 9) + 2) hlen (by omega) (by omega)) (by decide) rfl rfl (Nat.le_of_ble_eq_true rfl) ?_
      refine R2.B (ls2 := [some (.ref 10), some (.ref 6), some (.int (nI p)), some (.int (nI (p * 9))), some (.int (tat l (F 7) (p * 9)))]) (st2 := [.int (nmb l (F 7) ((p * 9) + 2)), .int (nI p), .ref 13]) b_X0_place_69_69 rfl (fun hd => ?_)
      refine R2.iast p rfl hd (by decide) rfl (fun _ => rfl) (by decide) (by omega) ?_
      refine R2.B (ls2 := [some (.ref 10), some (.ref 6), some (.int (nI p)), some (.int (nI (p * 9))), some (.int (tat l (F 7) (p * 9)))]) (st2 := [.int ((nI (p * 9)) + 6), .ref 6, .int 32, .int (nI p), .ref 14]) b_X0_place_70_82 rfl (fun hd => ?_)
      rw [show ((nI (p * 9)) + 6 : Int32) = nI ((p * 9) + 6) from nI_add (p * 9) 6]
      refine R2.callS3 (M2 := mX0_number) (As := [.ref 6, .int (nI ((p * 9) + 6))]) (rest := [.int 32, .int (nI p), .ref 14]) hd lk_0_65 okX0_number (by decide) (ev_number E L (up2 (up2 (up2 F 11 p 1) 12 p (fig (tat l (F 7) ((p * 9) + 1)))) 13 p (nmb l (F 7) ((p * 9) + 2))) l ((p * 9) + 6) hlen (by omega) (by omega)) (by decide) rfl rfl (Nat.le_of_ble_eq_true rfl) ?_
      refine R2.B (ls2 := [some (.ref 10), some (.ref 6), some (.int (nI p)), some (.int (nI (p * 9))), some (.int (tat l (F 7) (p * 9)))]) (st2 := [.int ((nI (p * 9)) + 4), .ref 6, .int (32 * (nmb l (F 7) ((p * 9) + 6))), .int (nI p), .ref 14]) b_X0_place_85_90 rfl (fun hd => ?_)
      rw [show ((nI (p * 9)) + 4 : Int32) = nI ((p * 9) + 4) from nI_add (p * 9) 4]
      refine R2.callS3 (M2 := mX0_number) (As := [.ref 6, .int (nI ((p * 9) + 4))]) (rest := [.int (32 * (nmb l (F 7) ((p * 9) + 6))), .int (nI p), .ref 14]) hd lk_0_65 okX0_number (by decide) (ev_number E L (up2 (up2 (up2 F 11 p 1) 12 p (fig (tat l (F 7) ((p * 9) + 1)))) 13 p (nmb l (F 7) ((p * 9) + 2))) l ((p * 9) + 4) hlen (by omega) (by omega)) (by decide) rfl rfl (Nat.le_of_ble_eq_true rfl) ?_
      refine R2.B (ls2 := [some (.ref 10), some (.ref 6), some (.int (nI p)), some (.int (nI (p * 9))), some (.int (tat l (F 7) (p * 9)))]) (st2 := [.int ((32 * (nmb l (F 7) ((p * 9) + 6))) + (nmb l (F 7) ((p * 9) + 4))), .int (nI p), .ref 14]) b_X0_place_93_94 rfl (fun hd => ?_)
      refine R2.iast p rfl hd (by decide) rfl (fun _ => rfl) (by decide) (by omega) ?_
      refine R2.B (ls2 := [some (.ref 10), some (.ref 6), some (.int (nI p)), some (.int (nI (p * 9))), some (.int (tat l (F 7) (p * 9)))]) (st2 := [.int (nI p), .ref 14, .int (nI p), .ref 15]) b_X0_place_95_105 rfl (fun hd => ?_)
      refine R2.iald p rfl hd rfl (fun _ => rfl) (by decide) (by omega) ?_
      refine R2.top (show ((up2 (up2 (up2 (up2 F 11 p 1) 12 p (fig (tat l (F 7) ((p * 9) + 1)))) 13 p (nmb l (F 7) ((p * 9) + 2))) 14 p ((32 * (nmb l (F 7) ((p * 9) + 6))) + (nmb l (F 7) ((p * 9) + 4)))) 14 p : Int32) = (32 * (nmb l (F 7) ((p * 9) + 6))) + (nmb l (F 7) ((p * 9) + 4)) from up2_same _ _ _ _) ?_
      refine R2.B (ls2 := [some (.ref 10), some (.ref 6), some (.int (nI p)), some (.int (nI (p * 9))), some (.int (tat l (F 7) (p * 9)))]) (st2 := [.int ((32 * (nmb l (F 7) ((p * 9) + 6))) + (nmb l (F 7) ((p * 9) + 4))), .int (nI p), .ref 15]) b_X0_place_106_106 rfl (fun hd => ?_)
      refine R2.iast p rfl hd (by decide) rfl (fun _ => rfl) (by decide) (by omega) ?_
      refine R2.B (ls2 := [some (.ref 10), some (.ref 6), some (.int (nI p)), some (.int (nI (p * 9))), some (.int (tat l (F 7) (p * 9)))]) (st2 := []) b_X0_place_107_107 rfl (fun hd => ?_)
      refine R2.ret3 (r := none) hd trivial rfl rfl ?_
      unfold plcF cKind
      first | (rw [if_pos c21]; done) | (rw [if_neg c21, if_pos c32]; done) | (rw [if_neg c21, if_neg c32]; done)
  · refine R2.B (ls2 := [some (.ref 10), some (.ref 6), some (.int (nI p)), some (.int (nI (p * 9))), some (.int (tat l (F 7) (p * 9)))]) (st2 := [.int 0, .int (nI p), .ref 11]) b_X0_place_24_40 rfl (fun hd => ?_)
    refine R2.iast p rfl hd (by decide) rfl (fun _ => rfl) (by decide) (by omega) ?_
    refine R2.B (ls2 := [some (.ref 10), some (.ref 6), some (.int (nI p)), some (.int (nI (p * 9))), some (.int (tat l (F 7) (p * 9)))]) (st2 := [.int ((nI (p * 9)) + 1), .ref 6, .int (nI p), .ref 12]) b_X0_place_41_50 rfl (fun hd => ?_)
    rw [show ((nI (p * 9)) + 1 : Int32) = nI ((p * 9) + 1) from nI_add (p * 9) 1]
    refine R2.callV3 (M2 := mX7_at) (As := [.int (nI ((p * 9) + 1))]) (rest := [.int (nI p), .ref 12]) hd lk_0_58 okX7_at (by decide) rfl (ev_at6 E L (up2 F 11 p 0) l ((p * 9) + 1) hlen (by omega) (by omega)) (by decide) rfl rfl (Nat.le_of_ble_eq_true rfl) ?_
    refine R2.B (ls2 := [some (.ref 10), some (.ref 6), some (.int (nI p)), some (.int (nI (p * 9))), some (.int (tat l (F 7) (p * 9)))]) (st2 := [.int (tat l (F 7) ((p * 9) + 1)), .int (nI p), .ref 12]) b_X0_place_53_53 rfl (fun hd => ?_)
    refine R2.callS3 (M2 := mX10_figure) (As := [.int (tat l (F 7) ((p * 9) + 1))]) (rest := [.int (nI p), .ref 12]) hd lk_0_62 okX10_figure (by decide) (ev_figure E L (up2 F 11 p 0) (tat l (F 7) ((p * 9) + 1))) (by decide) rfl rfl (Nat.le_of_ble_eq_true rfl) ?_
    refine R2.B (ls2 := [some (.ref 10), some (.ref 6), some (.int (nI p)), some (.int (nI (p * 9))), some (.int (tat l (F 7) (p * 9)))]) (st2 := [.int (fig (tat l (F 7) ((p * 9) + 1))), .int (nI p), .ref 12]) b_X0_place_56_56 rfl (fun hd => ?_)
    refine R2.iast p rfl hd (by decide) rfl (fun _ => rfl) (by decide) (by omega) ?_
    refine R2.B (ls2 := [some (.ref 10), some (.ref 6), some (.int (nI p)), some (.int (nI (p * 9))), some (.int (tat l (F 7) (p * 9)))]) (st2 := [.int ((nI (p * 9)) + 2), .ref 6, .int (nI p), .ref 13]) b_X0_place_57_66 rfl (fun hd => ?_)
    rw [show ((nI (p * 9)) + 2 : Int32) = nI ((p * 9) + 2) from nI_add (p * 9) 2]
    refine R2.callS3 (M2 := mX0_number) (As := [.ref 6, .int (nI ((p * 9) + 2))]) (rest := [.int (nI p), .ref 13]) hd lk_0_65 okX0_number (by decide) (ev_number E L (up2 (up2 F 11 p 0) 12 p (fig (tat l (F 7) ((p * 9) + 1)))) l ((p * 9) + 2) hlen (by omega) (by omega)) (by decide) rfl rfl (Nat.le_of_ble_eq_true rfl) ?_
    refine R2.B (ls2 := [some (.ref 10), some (.ref 6), some (.int (nI p)), some (.int (nI (p * 9))), some (.int (tat l (F 7) (p * 9)))]) (st2 := [.int (nmb l (F 7) ((p * 9) + 2)), .int (nI p), .ref 13]) b_X0_place_69_69 rfl (fun hd => ?_)
    refine R2.iast p rfl hd (by decide) rfl (fun _ => rfl) (by decide) (by omega) ?_
    refine R2.B (ls2 := [some (.ref 10), some (.ref 6), some (.int (nI p)), some (.int (nI (p * 9))), some (.int (tat l (F 7) (p * 9)))]) (st2 := [.int ((nI (p * 9)) + 6), .ref 6, .int 32, .int (nI p), .ref 14]) b_X0_place_70_82 rfl (fun hd => ?_)
    rw [show ((nI (p * 9)) + 6 : Int32) = nI ((p * 9) + 6) from nI_add (p * 9) 6]
    refine R2.callS3 (M2 := mX0_number) (As := [.ref 6, .int (nI ((p * 9) + 6))]) (rest := [.int 32, .int (nI p), .ref 14]) hd lk_0_65 okX0_number (by decide) (ev_number E L (up2 (up2 (up2 F 11 p 0) 12 p (fig (tat l (F 7) ((p * 9) + 1)))) 13 p (nmb l (F 7) ((p * 9) + 2))) l ((p * 9) + 6) hlen (by omega) (by omega)) (by decide) rfl rfl (Nat.le_of_ble_eq_true rfl) ?_
    refine R2.B (ls2 := [some (.ref 10), some (.ref 6), some (.int (nI p)), some (.int (nI (p * 9))), some (.int (tat l (F 7) (p * 9)))]) (st2 := [.int ((nI (p * 9)) + 4), .ref 6, .int (32 * (nmb l (F 7) ((p * 9) + 6))), .int (nI p), .ref 14]) b_X0_place_85_90 rfl (fun hd => ?_)
    rw [show ((nI (p * 9)) + 4 : Int32) = nI ((p * 9) + 4) from nI_add (p * 9) 4]
    refine R2.callS3 (M2 := mX0_number) (As := [.ref 6, .int (nI ((p * 9) + 4))]) (rest := [.int (32 * (nmb l (F 7) ((p * 9) + 6))), .int (nI p), .ref 14]) hd lk_0_65 okX0_number (by decide) (ev_number E L (up2 (up2 (up2 F 11 p 0) 12 p (fig (tat l (F 7) ((p * 9) + 1)))) 13 p (nmb l (F 7) ((p * 9) + 2))) l ((p * 9) + 4) hlen (by omega) (by omega)) (by decide) rfl rfl (Nat.le_of_ble_eq_true rfl) ?_
    refine R2.B (ls2 := [some (.ref 10), some (.ref 6), some (.int (nI p)), some (.int (nI (p * 9))), some (.int (tat l (F 7) (p * 9)))]) (st2 := [.int ((32 * (nmb l (F 7) ((p * 9) + 6))) + (nmb l (F 7) ((p * 9) + 4))), .int (nI p), .ref 14]) b_X0_place_93_94 rfl (fun hd => ?_)
    refine R2.iast p rfl hd (by decide) rfl (fun _ => rfl) (by decide) (by omega) ?_
    refine R2.B (ls2 := [some (.ref 10), some (.ref 6), some (.int (nI p)), some (.int (nI (p * 9))), some (.int (tat l (F 7) (p * 9)))]) (st2 := [.int (nI p), .ref 14, .int (nI p), .ref 15]) b_X0_place_95_105 rfl (fun hd => ?_)
    refine R2.iald p rfl hd rfl (fun _ => rfl) (by decide) (by omega) ?_
    refine R2.top (show ((up2 (up2 (up2 (up2 F 11 p 0) 12 p (fig (tat l (F 7) ((p * 9) + 1)))) 13 p (nmb l (F 7) ((p * 9) + 2))) 14 p ((32 * (nmb l (F 7) ((p * 9) + 6))) + (nmb l (F 7) ((p * 9) + 4)))) 14 p : Int32) = (32 * (nmb l (F 7) ((p * 9) + 6))) + (nmb l (F 7) ((p * 9) + 4)) from up2_same _ _ _ _) ?_
    refine R2.B (ls2 := [some (.ref 10), some (.ref 6), some (.int (nI p)), some (.int (nI (p * 9))), some (.int (tat l (F 7) (p * 9)))]) (st2 := [.int ((32 * (nmb l (F 7) ((p * 9) + 6))) + (nmb l (F 7) ((p * 9) + 4))), .int (nI p), .ref 15]) b_X0_place_106_106 rfl (fun hd => ?_)
    refine R2.iast p rfl hd (by decide) rfl (fun _ => rfl) (by decide) (by omega) ?_
    refine R2.B (ls2 := [some (.ref 10), some (.ref 6), some (.int (nI p)), some (.int (nI (p * 9))), some (.int (tat l (F 7) (p * 9)))]) (st2 := []) b_X0_place_107_107 rfl (fun hd => ?_)
    refine R2.ret3 (r := none) hd trivial rfl rfl ?_
    unfold plcF cKind
    first | (rw [if_pos c21]; done) | (rw [if_neg c21, if_pos c32]; done) | (rw [if_neg c21, if_neg c32]; done)
