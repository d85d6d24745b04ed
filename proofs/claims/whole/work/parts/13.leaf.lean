/-! Leaves of the class: pure words, and what the methods answer. Printed by wip/whole/gen/spec1.py. -/
def rem32 (x : Int32) : Int32 := x - x / 32 * 32
def awy (s t : Int32) : Int32 := 4 * ((rem32 s - rem32 t) * (rem32 s - rem32 t) + (s / 32 - t / 32) * (s / 32 - t / 32))
def b2i (p : Prop) [Decidable p] : Int32 := if p then 1 else 0
def exT (d : Nat) : Int32 := [0, 1, 1, 1, 0, -1, -1, -1].getD d 0
def syT (d : Nat) : Int32 := [-1, -1, 0, 1, 1, 1, 0, -1].getD d 0
def nbr (s : Int32) (d : Nat) : Int32 := if rem32 s + exT d < 0 ∨ 32 ≤ rem32 s + exT d ∨ s / 32 + syT d < 0 ∨ 32 ≤ s / 32 + syT d then -1 else 32 * (s / 32 + syT d) + (rem32 s + exT d)
def fig (b : Int32) : Int32 := if 48 ≤ b ∧ b ≤ 57 then b - 48 else -1
/-- the static tables, as the Statement gives them -/
def CST (F : FF) : Prop := (∀ j, j < 8 → F 1 j = exT j) ∧ (∀ j, j < 8 → F 2 j = syT j) ∧ (F 3 0 = 1 ∧ F 3 1 = 0 ∧ F 3 2 = 0) ∧ (F 4 0 = 90 ∧ F 4 1 = 90 ∧ F 4 2 = 40)
theorem up2_same {α : Type} (F : Nat → Nat → α) (k j : Nat) (v : α) : up2 F k j v k j = v := by simp [up2]
theorem b2i_t {p : Prop} [Decidable p] (h : p) : (1 : Int32) = b2i p := by unfold b2i; rw [if_pos h]
theorem b2i_f {p : Prop} [Decidable p] (h : ¬ p) : (0 : Int32) = b2i p := by unfold b2i; rw [if_neg h]
theorem b2i_zero {p : Prop} [Decidable p] : b2i p = 0 ↔ ¬ p := by unfold b2i; split <;> simp [*]
theorem b2i_nz {p : Prop} [Decidable p] : ¬ b2i p = 0 ↔ p := by unfold b2i; split <;> simp [*]
theorem b2i_01 {p : Prop} [Decidable p] : b2i p = 0 ∨ b2i p = 1 := by unfold b2i; split <;> simp
theorem b_X10_isText_0_1 : bl2 mX10_isText 0 [(.iload_n 0, 1, 0, 0, .null)] 1 (.ifCond .eq 8) 3 = true := by decide +kernel
theorem b_X10_isText_9_14 : bl2 mX10_isText 9 [(.iconst 1, 1, 0, 0, .int 1), (.goto 4, 3, 14, 0, .null)] 14 (.ireturn) 1 = true := by decide +kernel
theorem b_X10_isText_4_6 : bl2 mX10_isText 4 [(.iload_n 0, 1, 0, 0, .null), (.iconst 1, 1, 0, 0, .int 1)] 6 (.if_icmp .ne 7) 3 = true := by decide +kernel
theorem b_X10_isText_13_14 : bl2 mX10_isText 13 [(.iconst 0, 1, 0, 0, .int 0)] 14 (.ireturn) 1 = true := by decide +kernel
set_option maxRecDepth 20000 in
set_option maxHeartbeats 1000000 in
theorem ev_isText (E : EE) (L : Nat) (F : FF) (x : Int32) : Ev3 E L 1 mX10_isText [.int x] F (some (.int (b2i (x = 0 ∨ x = 1)))) F := by
  refine Ev3.of okX10_isText.2.1 (Nat.le_of_ble_eq_true rfl) ?_
  show R2 E L mX10_isText 1 0 [some (.int x)] [] F _
  refine R2.B (ls2 := [some (.int x)]) (st2 := [.int x]) b_X10_isText_0_1 rfl (fun hd => ?_)
  refine R2.if_eq 9 hd (by decide) (fun c1 => ?_) (fun c1 => ?_)
  · refine R2.B (ls2 := [some (.int x)]) (st2 := [.int 1]) b_X10_isText_9_14 rfl (fun hd => ?_)
    exact R2.ret3 (r := some (.int 1)) hd (Or.inr rfl) rfl (congrArg (fun z => some (Value.int z)) (b2i_t (by clear hd; grind))) rfl
  · refine R2.B (ls2 := [some (.int x)]) (st2 := [.int 1, .int x]) b_X10_isText_4_6 rfl (fun hd => ?_)
    refine R2.icmp_ne 13 hd (by decide) (fun c6 => ?_) (fun c6 => ?_)
    · refine R2.B (ls2 := [some (.int x)]) (st2 := [.int 0]) b_X10_isText_13_14 rfl (fun hd => ?_)
      exact R2.ret3 (r := some (.int 0)) hd (Or.inl rfl) rfl (congrArg (fun z => some (Value.int z)) (b2i_f (by clear hd; grind))) rfl
    · refine R2.B (ls2 := [some (.int x)]) (st2 := [.int 1]) b_X10_isText_9_14 rfl (fun hd => ?_)
      exact R2.ret3 (r := some (.int 1)) hd (Or.inr rfl) rfl (congrArg (fun z => some (Value.int z)) (b2i_t (by clear hd; grind))) rfl
theorem b_X10_isDirection_0_1 : bl2 mX10_isDirection 0 [(.iload_n 0, 1, 0, 0, .null)] 1 (.ifCond .lt 13) 3 = true := by decide +kernel
theorem b_X10_isDirection_14_15 : bl2 mX10_isDirection 14 [(.iconst 0, 1, 0, 0, .int 0)] 15 (.ireturn) 1 = true := by decide +kernel
theorem b_X10_isDirection_4_7 : bl2 mX10_isDirection 4 [(.iload_n 0, 1, 0, 0, .null), (.bipush 8, 2, 0, 0, .int 8)] 7 (.if_icmp .ge 7) 3 = true := by decide +kernel
theorem b_X10_isDirection_10_15 : bl2 mX10_isDirection 10 [(.iconst 1, 1, 0, 0, .int 1), (.goto 4, 3, 15, 0, .null)] 15 (.ireturn) 1 = true := by decide +kernel
set_option maxRecDepth 20000 in
set_option maxHeartbeats 1000000 in
theorem ev_isDirection (E : EE) (L : Nat) (F : FF) (x : Int32) : Ev3 E L 1 mX10_isDirection [.int x] F (some (.int (b2i (0 ≤ x ∧ x < 8)))) F := by
  refine Ev3.of okX10_isDirection.2.1 (Nat.le_of_ble_eq_true rfl) ?_
  show R2 E L mX10_isDirection 1 0 [some (.int x)] [] F _
  refine R2.B (ls2 := [some (.int x)]) (st2 := [.int x]) b_X10_isDirection_0_1 rfl (fun hd => ?_)
  refine R2.if_lt 14 hd (by decide) (fun c1 => ?_) (fun c1 => ?_)
  · refine R2.B (ls2 := [some (.int x)]) (st2 := [.int 0]) b_X10_isDirection_14_15 rfl (fun hd => ?_)
    exact R2.ret3 (r := some (.int 0)) hd (Or.inl rfl) rfl (congrArg (fun z => some (Value.int z)) (b2i_f (by clear hd; grind))) rfl
  · refine R2.B (ls2 := [some (.int x)]) (st2 := [.int 8, .int x]) b_X10_isDirection_4_7 rfl (fun hd => ?_)
    refine R2.icmp_ge 14 hd (by decide) (fun c7 => ?_) (fun c7 => ?_)
    · refine R2.B (ls2 := [some (.int x)]) (st2 := [.int 0]) b_X10_isDirection_14_15 rfl (fun hd => ?_)
      exact R2.ret3 (r := some (.int 0)) hd (Or.inl rfl) rfl (congrArg (fun z => some (Value.int z)) (b2i_f (by clear hd; grind))) rfl
    · refine R2.B (ls2 := [some (.int x)]) (st2 := [.int 1]) b_X10_isDirection_10_15 rfl (fun hd => ?_)
      exact R2.ret3 (r := some (.int 1)) hd (Or.inr rfl) rfl (congrArg (fun z => some (Value.int z)) (b2i_t (by clear hd; grind))) rfl
theorem b_X10_isSpot_0_1 : bl2 mX10_isSpot 0 [(.iload_n 0, 1, 0, 0, .null)] 1 (.ifCond .lt 14) 3 = true := by decide +kernel
theorem b_X10_isSpot_15_16 : bl2 mX10_isSpot 15 [(.iconst 0, 1, 0, 0, .int 0)] 16 (.ireturn) 1 = true := by decide +kernel
theorem b_X10_isSpot_4_8 : bl2 mX10_isSpot 4 [(.iload_n 0, 1, 0, 0, .null), (.sipush 1024, 3, 0, 0, .int 1024)] 8 (.if_icmp .ge 7) 3 = true := by decide +kernel
theorem b_X10_isSpot_11_16 : bl2 mX10_isSpot 11 [(.iconst 1, 1, 0, 0, .int 1), (.goto 4, 3, 16, 0, .null)] 16 (.ireturn) 1 = true := by decide +kernel
set_option maxRecDepth 20000 in
set_option maxHeartbeats 1000000 in
theorem ev_isSpot (E : EE) (L : Nat) (F : FF) (x : Int32) : Ev3 E L 1 mX10_isSpot [.int x] F (some (.int (b2i (0 ≤ x ∧ x < 1024)))) F := by
  refine Ev3.of okX10_isSpot.2.1 (Nat.le_of_ble_eq_true rfl) ?_
  show R2 E L mX10_isSpot 1 0 [some (.int x)] [] F _
  refine R2.B (ls2 := [some (.int x)]) (st2 := [.int x]) b_X10_isSpot_0_1 rfl (fun hd => ?_)
  refine R2.if_lt 15 hd (by decide) (fun c1 => ?_) (fun c1 => ?_)
  · refine R2.B (ls2 := [some (.int x)]) (st2 := [.int 0]) b_X10_isSpot_15_16 rfl (fun hd => ?_)
    exact R2.ret3 (r := some (.int 0)) hd (Or.inl rfl) rfl (congrArg (fun z => some (Value.int z)) (b2i_f (by clear hd; grind))) rfl
  · refine R2.B (ls2 := [some (.int x)]) (st2 := [.int 1024, .int x]) b_X10_isSpot_4_8 rfl (fun hd => ?_)
    refine R2.icmp_ge 15 hd (by decide) (fun c8 => ?_) (fun c8 => ?_)
    · refine R2.B (ls2 := [some (.int x)]) (st2 := [.int 0]) b_X10_isSpot_15_16 rfl (fun hd => ?_)
      exact R2.ret3 (r := some (.int 0)) hd (Or.inl rfl) rfl (congrArg (fun z => some (Value.int z)) (b2i_f (by clear hd; grind))) rfl
    · refine R2.B (ls2 := [some (.int x)]) (st2 := [.int 1]) b_X10_isSpot_11_16 rfl (fun hd => ?_)
      exact R2.ret3 (r := some (.int 1)) hd (Or.inr rfl) rfl (congrArg (fun z => some (Value.int z)) (b2i_t (by clear hd; grind))) rfl
theorem b_X10_isSheet_0_1 : bl2 mX10_isSheet 0 [(.iload_n 0, 1, 0, 0, .null)] 1 (.ifCond .lt 12) 3 = true := by decide +kernel
theorem b_X10_isSheet_13_14 : bl2 mX10_isSheet 13 [(.iconst 0, 1, 0, 0, .int 0)] 14 (.ireturn) 1 = true := by decide +kernel
theorem b_X10_isSheet_4_6 : bl2 mX10_isSheet 4 [(.iload_n 0, 1, 0, 0, .null), (.iconst 4, 1, 0, 0, .int 4)] 6 (.if_icmp .ge 7) 3 = true := by decide +kernel
theorem b_X10_isSheet_9_14 : bl2 mX10_isSheet 9 [(.iconst 1, 1, 0, 0, .int 1), (.goto 4, 3, 14, 0, .null)] 14 (.ireturn) 1 = true := by decide +kernel
set_option maxRecDepth 20000 in
set_option maxHeartbeats 1000000 in
theorem ev_isSheet (E : EE) (L : Nat) (F : FF) (x : Int32) : Ev3 E L 1 mX10_isSheet [.int x] F (some (.int (b2i (0 ≤ x ∧ x < 4)))) F := by
  refine Ev3.of okX10_isSheet.2.1 (Nat.le_of_ble_eq_true rfl) ?_
  show R2 E L mX10_isSheet 1 0 [some (.int x)] [] F _
  refine R2.B (ls2 := [some (.int x)]) (st2 := [.int x]) b_X10_isSheet_0_1 rfl (fun hd => ?_)
  refine R2.if_lt 13 hd (by decide) (fun c1 => ?_) (fun c1 => ?_)
  · refine R2.B (ls2 := [some (.int x)]) (st2 := [.int 0]) b_X10_isSheet_13_14 rfl (fun hd => ?_)
    exact R2.ret3 (r := some (.int 0)) hd (Or.inl rfl) rfl (congrArg (fun z => some (Value.int z)) (b2i_f (by clear hd; grind))) rfl
  · refine R2.B (ls2 := [some (.int x)]) (st2 := [.int 4, .int x]) b_X10_isSheet_4_6 rfl (fun hd => ?_)
    refine R2.icmp_ge 13 hd (by decide) (fun c6 => ?_) (fun c6 => ?_)
    · refine R2.B (ls2 := [some (.int x)]) (st2 := [.int 0]) b_X10_isSheet_13_14 rfl (fun hd => ?_)
      exact R2.ret3 (r := some (.int 0)) hd (Or.inl rfl) rfl (congrArg (fun z => some (Value.int z)) (b2i_f (by clear hd; grind))) rfl
    · refine R2.B (ls2 := [some (.int x)]) (st2 := [.int 1]) b_X10_isSheet_9_14 rfl (fun hd => ?_)
      exact R2.ret3 (r := some (.int 1)) hd (Or.inr rfl) rfl (congrArg (fun z => some (Value.int z)) (b2i_t (by clear hd; grind))) rfl
theorem b_X10_isForm_0_1 : bl2 mX10_isForm 0 [(.iload_n 0, 1, 0, 0, .null)] 1 (.ifCond .lt 12) 3 = true := by decide +kernel
theorem b_X10_isForm_13_14 : bl2 mX10_isForm 13 [(.iconst 0, 1, 0, 0, .int 0)] 14 (.ireturn) 1 = true := by decide +kernel
theorem b_X10_isForm_4_6 : bl2 mX10_isForm 4 [(.iload_n 0, 1, 0, 0, .null), (.iconst 3, 1, 0, 0, .int 3)] 6 (.if_icmp .ge 7) 3 = true := by decide +kernel
theorem b_X10_isForm_9_14 : bl2 mX10_isForm 9 [(.iconst 1, 1, 0, 0, .int 1), (.goto 4, 3, 14, 0, .null)] 14 (.ireturn) 1 = true := by decide +kernel
set_option maxRecDepth 20000 in
set_option maxHeartbeats 1000000 in
theorem ev_isForm (E : EE) (L : Nat) (F : FF) (x : Int32) : Ev3 E L 1 mX10_isForm [.int x] F (some (.int (b2i (0 ≤ x ∧ x < 3)))) F := by
  refine Ev3.of okX10_isForm.2.1 (Nat.le_of_ble_eq_true rfl) ?_
  show R2 E L mX10_isForm 1 0 [some (.int x)] [] F _
  refine R2.B (ls2 := [some (.int x)]) (st2 := [.int x]) b_X10_isForm_0_1 rfl (fun hd => ?_)
  refine R2.if_lt 13 hd (by decide) (fun c1 => ?_) (fun c1 => ?_)
  · refine R2.B (ls2 := [some (.int x)]) (st2 := [.int 0]) b_X10_isForm_13_14 rfl (fun hd => ?_)
    exact R2.ret3 (r := some (.int 0)) hd (Or.inl rfl) rfl (congrArg (fun z => some (Value.int z)) (b2i_f (by clear hd; grind))) rfl
  · refine R2.B (ls2 := [some (.int x)]) (st2 := [.int 3, .int x]) b_X10_isForm_4_6 rfl (fun hd => ?_)
    refine R2.icmp_ge 13 hd (by decide) (fun c6 => ?_) (fun c6 => ?_)
    · refine R2.B (ls2 := [some (.int x)]) (st2 := [.int 0]) b_X10_isForm_13_14 rfl (fun hd => ?_)
      exact R2.ret3 (r := some (.int 0)) hd (Or.inl rfl) rfl (congrArg (fun z => some (Value.int z)) (b2i_f (by clear hd; grind))) rfl
    · refine R2.B (ls2 := [some (.int x)]) (st2 := [.int 1]) b_X10_isForm_9_14 rfl (fun hd => ?_)
      exact R2.ret3 (r := some (.int 1)) hd (Or.inr rfl) rfl (congrArg (fun z => some (Value.int z)) (b2i_t (by clear hd; grind))) rfl
theorem b_X10_between_0_3 : bl2 mX10_between 0 [(.iload_n 0, 1, 0, 0, .null), (.bipush 32, 2, 0, 0, .int 32)] 3 (.irem) 1 = true := by decide +kernel
theorem b_X10_between_4_7 : bl2 mX10_between 4 [(.iload_n 1, 1, 1, 0, .null), (.bipush 32, 2, 0, 0, .int 32)] 7 (.irem) 1 = true := by decide +kernel
theorem b_X10_between_8_13 : bl2 mX10_between 8 [(.isub, 1, 0, 0, .null), (.istore_n 2, 1, 2, 0, .null), (.iload_n 0, 1, 0, 0, .null), (.bipush 32, 2, 0, 0, .int 32)] 13 (.idiv) 1 = true := by decide +kernel
theorem b_X10_between_14_17 : bl2 mX10_between 14 [(.iload_n 1, 1, 1, 0, .null), (.bipush 32, 2, 0, 0, .int 32)] 17 (.idiv) 1 = true := by decide +kernel
theorem b_X10_between_18_29 : bl2 mX10_between 18 [(.isub, 1, 0, 0, .null), (.istore_n 3, 1, 3, 0, .null), (.iconst 4, 1, 0, 0, .int 4), (.iload_n 2, 1, 2, 0, .null), (.iload_n 2, 1, 2, 0, .null), (.imul, 1, 0, 0, .null), (.iload_n 3, 1, 3, 0, .null), (.iload_n 3, 1, 3, 0, .null), (.imul, 1, 0, 0, .null), (.iadd, 1, 0, 0, .null), (.imul, 1, 0, 0, .null)] 29 (.ireturn) 1 = true := by decide +kernel
set_option maxRecDepth 20000 in
set_option maxHeartbeats 1000000 in
theorem ev_between (E : EE) (L : Nat) (F : FF) (s t : Int32) : Ev3 E L 1 mX10_between [.int s, .int t] F (some (.int (awy s t))) F := by
  refine Ev3.of okX10_between.2.1 (Nat.le_of_ble_eq_true rfl) ?_
  show R2 E L mX10_between 1 0 [some (.int s), some (.int t), none, none] [] F _
  refine R2.B (ls2 := [some (.int s), some (.int t), none, none]) (st2 := [.int 32, .int s]) b_X10_between_0_3 rfl (fun hd => ?_)
  refine R2.irem hd (by decide) ?_
  refine R2.B (ls2 := [some (.int s), some (.int t), none, none]) (st2 := [.int 32, .int t, .int (s - s / 32 * 32)]) b_X10_between_4_7 rfl (fun hd => ?_)
  refine R2.irem hd (by decide) ?_
  refine R2.B (ls2 := [some (.int s), some (.int t), some (.int ((s - s / 32 * 32) - (t - t / 32 * 32))), none]) (st2 := [.int 32, .int s]) b_X10_between_8_13 rfl (fun hd => ?_)
  refine R2.idiv hd (by decide) ?_
  refine R2.B (ls2 := [some (.int s), some (.int t), some (.int ((s - s / 32 * 32) - (t - t / 32 * 32))), none]) (st2 := [.int 32, .int t, .int (s / 32)]) b_X10_between_14_17 rfl (fun hd => ?_)
  refine R2.idiv hd (by decide) ?_
  refine R2.B (ls2 := [some (.int s), some (.int t), some (.int ((s - s / 32 * 32) - (t - t / 32 * 32))), some (.int ((s / 32) - (t / 32)))]) (st2 := [.int (4 * ((((s - s / 32 * 32) - (t - t / 32 * 32)) * ((s - s / 32 * 32) - (t - t / 32 * 32))) + (((s / 32) - (t / 32)) * ((s / 32) - (t / 32)))))]) b_X10_between_18_29 rfl (fun hd => ?_)
  exact R2.ret3 (r := some (.int (4 * ((((s - s / 32 * 32) - (t - t / 32 * 32)) * ((s - s / 32 * 32) - (t - t / 32 * 32))) + (((s / 32) - (t / 32)) * ((s / 32) - (t / 32))))))) hd trivial rfl (rfl) rfl
theorem b_X10_figure_0_3 : bl2 mX10_figure 0 [(.iload_n 0, 1, 0, 0, .null), (.bipush 48, 2, 0, 0, .int 48)] 3 (.if_icmp .lt 16) 3 = true := by decide +kernel
theorem b_X10_figure_19_20 : bl2 mX10_figure 19 [(.iconst (-1), 1, 0, 0, .int (-1))] 20 (.ireturn) 1 = true := by decide +kernel
theorem b_X10_figure_6_9 : bl2 mX10_figure 6 [(.iload_n 0, 1, 0, 0, .null), (.bipush 57, 2, 0, 0, .int 57)] 9 (.if_icmp .gt 10) 3 = true := by decide +kernel
theorem b_X10_figure_12_20 : bl2 mX10_figure 12 [(.iload_n 0, 1, 0, 0, .null), (.bipush 48, 2, 0, 0, .int 48), (.isub, 1, 0, 0, .null), (.goto 4, 3, 20, 0, .null)] 20 (.ireturn) 1 = true := by decide +kernel
set_option maxRecDepth 20000 in
set_option maxHeartbeats 1000000 in
theorem ev_figure (E : EE) (L : Nat) (F : FF) (b : Int32) : Ev3 E L 1 mX10_figure [.int b] F (some (.int (fig b))) F := by
  refine Ev3.of okX10_figure.2.1 (Nat.le_of_ble_eq_true rfl) ?_
  show R2 E L mX10_figure 1 0 [some (.int b)] [] F _
  refine R2.B (ls2 := [some (.int b)]) (st2 := [.int 48, .int b]) b_X10_figure_0_3 rfl (fun hd => ?_)
  refine R2.icmp_lt 19 hd (by decide) (fun c3 => ?_) (fun c3 => ?_)
  · refine R2.B (ls2 := [some (.int b)]) (st2 := [.int (-1)]) b_X10_figure_19_20 rfl (fun hd => ?_)
    exact R2.ret3 (r := some (.int (-1))) hd trivial rfl (congrArg (fun z => some (Value.int z)) (by clear hd; unfold fig; grind)) rfl
  · refine R2.B (ls2 := [some (.int b)]) (st2 := [.int 57, .int b]) b_X10_figure_6_9 rfl (fun hd => ?_)
    refine R2.icmp_gt 19 hd (by decide) (fun c9 => ?_) (fun c9 => ?_)
    · refine R2.B (ls2 := [some (.int b)]) (st2 := [.int (-1)]) b_X10_figure_19_20 rfl (fun hd => ?_)
      exact R2.ret3 (r := some (.int (-1))) hd trivial rfl (congrArg (fun z => some (Value.int z)) (by clear hd; unfold fig; grind)) rfl
    · refine R2.B (ls2 := [some (.int b)]) (st2 := [.int (b - 48)]) b_X10_figure_12_20 rfl (fun hd => ?_)
      exact R2.ret3 (r := some (.int (b - 48))) hd trivial rfl (congrArg (fun z => some (Value.int z)) (by clear hd; unfold fig; grind)) rfl
theorem b_X10_mixed_0_8 : bl2 mX10_mixed 0 [(.ldc2_w 316, 3, 0, 0, .long 31), (.lload_n 0, 1, 0, 0, .null), (.lmul, 1, 0, 0, .null), (.iload_n 2, 1, 2, 0, .null), (.i2l, 1, 0, 0, .null), (.ladd, 1, 0, 0, .null)] 8 (.lreturn) 1 = true := by decide +kernel
set_option maxRecDepth 20000 in
set_option maxHeartbeats 1000000 in
theorem ev_mixed (E : EE) (L : Nat) (F : FF) (h : Int64) (v : Int32) : Ev3 E L 1 mX10_mixed [.long h, .int v] F (some (.long (31 * h + v.toInt64))) F := by
  refine Ev3.of okX10_mixed.2.1 (Nat.le_of_ble_eq_true rfl) ?_
  show R2 E L mX10_mixed 1 0 [some (.long h), none, some (.int v)] [] F _
  refine R2.B (ls2 := [some (.long h), none, some (.int v)]) (st2 := [.long ((31 * h) + (Int32.toInt64 v))]) b_X10_mixed_0_8 rfl (fun hd => ?_)
  exact R2.ret3 (r := some (.long ((31 * h) + (Int32.toInt64 v)))) hd trivial rfl (rfl) rfl
theorem b_X10_neighbour_0_3 : bl2 mX10_neighbour 0 [(.iload_n 0, 1, 0, 0, .null), (.bipush 32, 2, 0, 0, .int 32)] 3 (.irem) 1 = true := by decide +kernel
theorem b_X10_neighbour_4_8 : bl2 mX10_neighbour 4 [(.getstatic 329, 3, 1, 0, .null), (.iload_n 1, 1, 1, 0, .null)] 8 (.iaload) 1 = true := by decide +kernel
theorem b_X10_neighbour_9_14 : bl2 mX10_neighbour 9 [(.iadd, 1, 0, 0, .null), (.istore_n 2, 1, 2, 0, .null), (.iload_n 0, 1, 0, 0, .null), (.bipush 32, 2, 0, 0, .int 32)] 14 (.idiv) 1 = true := by decide +kernel
theorem b_X10_neighbour_15_19 : bl2 mX10_neighbour 15 [(.getstatic 332, 3, 2, 0, .null), (.iload_n 1, 1, 1, 0, .null)] 19 (.iaload) 1 = true := by decide +kernel
theorem b_X10_neighbour_20_23 : bl2 mX10_neighbour 20 [(.iadd, 1, 0, 0, .null), (.istore_n 3, 1, 3, 0, .null), (.iload_n 2, 1, 2, 0, .null)] 23 (.ifCond .lt 19) 3 = true := by decide +kernel
theorem b_X10_neighbour_42_52 : bl2 mX10_neighbour 42 [(.iconst (-1), 1, 0, 0, .int (-1)), (.goto 9, 3, 52, 0, .null)] 52 (.ireturn) 1 = true := by decide +kernel
theorem b_X10_neighbour_26_29 : bl2 mX10_neighbour 26 [(.iload_n 2, 1, 2, 0, .null), (.bipush 32, 2, 0, 0, .int 32)] 29 (.if_icmp .ge 13) 3 = true := by decide +kernel
theorem b_X10_neighbour_32_33 : bl2 mX10_neighbour 32 [(.iload_n 3, 1, 3, 0, .null)] 33 (.ifCond .lt 9) 3 = true := by decide +kernel
theorem b_X10_neighbour_36_39 : bl2 mX10_neighbour 36 [(.iload_n 3, 1, 3, 0, .null), (.bipush 32, 2, 0, 0, .int 32)] 39 (.if_icmp .lt 7) 3 = true := by decide +kernel
theorem b_X10_neighbour_46_52 : bl2 mX10_neighbour 46 [(.bipush 32, 2, 0, 0, .int 32), (.iload_n 3, 1, 3, 0, .null), (.imul, 1, 0, 0, .null), (.iload_n 2, 1, 2, 0, .null), (.iadd, 1, 0, 0, .null)] 52 (.ireturn) 1 = true := by decide +kernel
set_option maxRecDepth 20000 in
set_option maxHeartbeats 1000000 in
theorem ev_neighbour (E : EE) (L : Nat) (F : FF) (hc : CST F) (s : Int32) (d : Nat) (hd8 : d < 8) : Ev3 E L 1 mX10_neighbour [.int s, .int (nI d)] F (some (.int (nbr s d))) F := by
  refine Ev3.of okX10_neighbour.2.1 (Nat.le_of_ble_eq_true rfl) ?_
  show R2 E L mX10_neighbour 1 0 [some (.int s), some (.int (nI d)), none, none] [] F _
  refine R2.B (ls2 := [some (.int s), some (.int (nI d)), none, none]) (st2 := [.int 32, .int s]) b_X10_neighbour_0_3 rfl (fun hd => ?_)
  refine R2.irem hd (by decide) ?_
  refine R2.B (ls2 := [some (.int s), some (.int (nI d)), none, none]) (st2 := [.int (nI d), .ref 1, .int (s - s / 32 * 32)]) b_X10_neighbour_4_8 rfl (fun hd => ?_)
  refine R2.iald d rfl hd rfl (fun _ => rfl) (by decide) (by omega) ?_
  refine R2.B (ls2 := [some (.int s), some (.int (nI d)), some (.int ((s - s / 32 * 32) + (F 1 d))), none]) (st2 := [.int 32, .int s]) b_X10_neighbour_9_14 rfl (fun hd => ?_)
  refine R2.idiv hd (by decide) ?_
  refine R2.B (ls2 := [some (.int s), some (.int (nI d)), some (.int ((s - s / 32 * 32) + (F 1 d))), none]) (st2 := [.int (nI d), .ref 2, .int (s / 32)]) b_X10_neighbour_15_19 rfl (fun hd => ?_)
  refine R2.iald d rfl hd rfl (fun _ => rfl) (by decide) (by omega) ?_
  refine R2.B (ls2 := [some (.int s), some (.int (nI d)), some (.int ((s - s / 32 * 32) + (F 1 d))), some (.int ((s / 32) + (F 2 d)))]) (st2 := [.int ((s - s / 32 * 32) + (F 1 d))]) b_X10_neighbour_20_23 rfl (fun hd => ?_)
  refine R2.if_lt 42 hd (by decide) (fun c23 => ?_) (fun c23 => ?_)
  · refine R2.B (ls2 := [some (.int s), some (.int (nI d)), some (.int ((s - s / 32 * 32) + (F 1 d))), some (.int ((s / 32) + (F 2 d)))]) (st2 := [.int (-1)]) b_X10_neighbour_42_52 rfl (fun hd => ?_)
    exact R2.ret3 (r := some (.int (-1))) hd trivial rfl (congrArg (fun z => some (Value.int z)) (by unfold nbr rem32; rw [← hc.1 d hd8, ← hc.2.1 d hd8]; clear hd; grind)) rfl
  · refine R2.B (ls2 := [some (.int s), some (.int (nI d)), some (.int ((s - s / 32 * 32) + (F 1 d))), some (.int ((s / 32) + (F 2 d)))]) (st2 := [.int 32, .int ((s - s / 32 * 32) + (F 1 d))]) b_X10_neighbour_26_29 rfl (fun hd => ?_)
    refine R2.icmp_ge 42 hd (by decide) (fun c29 => ?_) (fun c29 => ?_)
    · refine R2.B (ls2 := [some (.int s), some (.int (nI d)), some (.int ((s - s / 32 * 32) + (F 1 d))), some (.int ((s / 32) + (F 2 d)))]) (st2 := [.int (-1)]) b_X10_neighbour_42_52 rfl (fun hd => ?_)
      exact R2.ret3 (r := some (.int (-1))) hd trivial rfl (congrArg (fun z => some (Value.int z)) (by unfold nbr rem32; rw [← hc.1 d hd8, ← hc.2.1 d hd8]; clear hd; grind)) rfl
    · refine R2.B (ls2 := [some (.int s), some (.int (nI d)), some (.int ((s - s / 32 * 32) + (F 1 d))), some (.int ((s / 32) + (F 2 d)))]) (st2 := [.int ((s / 32) + (F 2 d))]) b_X10_neighbour_32_33 rfl (fun hd => ?_)
      refine R2.if_lt 42 hd (by decide) (fun c33 => ?_) (fun c33 => ?_)
      · refine R2.B (ls2 := [some (.int s), some (.int (nI d)), some (.int ((s - s / 32 * 32) + (F 1 d))), some (.int ((s / 32) + (F 2 d)))]) (st2 := [.int (-1)]) b_X10_neighbour_42_52 rfl (fun hd => ?_)
        exact R2.ret3 (r := some (.int (-1))) hd trivial rfl (congrArg (fun z => some (Value.int z)) (by unfold nbr rem32; rw [← hc.1 d hd8, ← hc.2.1 d hd8]; clear hd; grind)) rfl
      · refine R2.B (ls2 := [some (.int s), some (.int (nI d)), some (.int ((s - s / 32 * 32) + (F 1 d))), some (.int ((s / 32) + (F 2 d)))]) (st2 := [.int 32, .int ((s / 32) + (F 2 d))]) b_X10_neighbour_36_39 rfl (fun hd => ?_)
        refine R2.icmp_lt 46 hd (by decide) (fun c39 => ?_) (fun c39 => ?_)
        · refine R2.B (ls2 := [some (.int s), some (.int (nI d)), some (.int ((s - s / 32 * 32) + (F 1 d))), some (.int ((s / 32) + (F 2 d)))]) (st2 := [.int ((32 * ((s / 32) + (F 2 d))) + ((s - s / 32 * 32) + (F 1 d)))]) b_X10_neighbour_46_52 rfl (fun hd => ?_)
          exact R2.ret3 (r := some (.int ((32 * ((s / 32) + (F 2 d))) + ((s - s / 32 * 32) + (F 1 d))))) hd trivial rfl (congrArg (fun z => some (Value.int z)) (by unfold nbr rem32; rw [← hc.1 d hd8, ← hc.2.1 d hd8]; clear hd; grind)) rfl
        · refine R2.B (ls2 := [some (.int s), some (.int (nI d)), some (.int ((s - s / 32 * 32) + (F 1 d))), some (.int ((s / 32) + (F 2 d)))]) (st2 := [.int (-1)]) b_X10_neighbour_42_52 rfl (fun hd => ?_)
          exact R2.ret3 (r := some (.int (-1))) hd trivial rfl (congrArg (fun z => some (Value.int z)) (by unfold nbr rem32; rw [← hc.1 d hd8, ← hc.2.1 d hd8]; clear hd; grind)) rfl
