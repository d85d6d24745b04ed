/-! Fair, Trial. Printed by wip/whole/gen/spec6.py. -/
def fairP (F : FF) (part : Nat) (dn f1 f2 : Int32) : FF := up2 (up2 (up2 (up2 F 19 part dn) 20 part f1) 21 part f2) 18 3 (nI (part + 1))
def fairL (l n : Nat) : Nat → Nat → Nat → FF → Int32 × FF
  | 0, _, start, F => (nI start, F)
  | k + 1, part, start, F =>
    if tat l (F 9) start = 61 then
      if fig (tat l (F 9) (start + 1)) = -1 ∨ ¬ fig (tat l (F 9) (start + 1)) < nI n then (nI (start + 1), F)
      else if fig (tat l (F 9) (start + 1 + 1)) = -1 ∨ fig (tat l (F 9) (start + 1 + 1)) = fig (tat l (F 9) (start + 1)) ∨ ¬ fig (tat l (F 9) (start + 1 + 1)) < nI n then (nI (start + 1 + 1), F)
      else if start + 1 + 2 = l then (-1, fairP F part 1 (fig (tat l (F 9) (start + 1))) (fig (tat l (F 9) (start + 1 + 1))))
      else if ¬ tat l (F 9) (start + 1 + 2) = 59 then (nI (start + 1 + 2), fairP F part 1 (fig (tat l (F 9) (start + 1))) (fig (tat l (F 9) (start + 1 + 1))))
      else fairL l n k (part + 1) (start + 1 + 3) (fairP F part 1 (fig (tat l (F 9) (start + 1))) (fig (tat l (F 9) (start + 1 + 1))))
    else
      if fig (tat l (F 9) start) = -1 ∨ ¬ fig (tat l (F 9) start) < nI n then (nI start, F)
      else if fig (tat l (F 9) (start + 1)) = -1 ∨ ¬ (0 ≤ fig (tat l (F 9) (start + 1)) ∧ fig (tat l (F 9) (start + 1)) < 8) then (nI (start + 1), F)
      else if start + 2 = l then (-1, fairP F part 0 (fig (tat l (F 9) start)) (fig (tat l (F 9) (start + 1))))
      else if ¬ tat l (F 9) (start + 2) = 59 then (nI (start + 2), fairP F part 0 (fig (tat l (F 9) start)) (fig (tat l (F 9) (start + 1))))
      else fairL l n k (part + 1) (start + 3) (fairP F part 0 (fig (tat l (F 9) start)) (fig (tat l (F 9) (start + 1))))
def tfF (F : FF) (l n : Nat) : FF :=
  if l = 0 then up2 (up2 F 18 3 0) 18 4 (-1)
  else if (fairL l n 20 0 0 (up2 F 18 3 0)).1 = -1 then up2 (fairL l n 20 0 0 (up2 F 18 3 0)).2 18 4 (fairL l n 20 0 0 (up2 F 18 3 0)).1
  else up2 (up2 (fairL l n 20 0 0 (up2 F 18 3 0)).2 18 4 (fairL l n 20 0 0 (up2 F 18 3 0)).1) 18 3 0
abbrev strC (F : FF) (n a b : Nat) : Prop := F 24 a = 0 ∧ F 24 b = 0 ∧ cvd F (F 23) n (F 17 0) (-1) a b = 0
def strF (F : FF) (a b : Nat) : FF := up2 (up2 (up2 (up2 F 24 a 1) 24 b 1) 22 4 (F 22 4 + 1)) 22 5 (F 22 5 + gan (F 11) (F 13) a b)
def movT (F : FF) (n p d : Nat) : Int32 := lawS (F 23) p d (F 17 2 * F 17 2) n
def jcL : Nat → Nat → FF → FF
  | 0, _, F => F
  | k + 1, p, F => jcL k (p + 1) (up2 (up2 F 23 p (F 15 p)) 24 p 0)
/-- one part of the fair -/
def jgS (n : Nat) (F : FF) (q a b : Nat) : FF :=
  if F 19 q = 0 then (if movT F n a b = -1 then up2 F 22 3 (nI q) else up2 F 23 a (movT F n a b))
  else (if strC F n a b then strF F a b else up2 F 22 3 (nI q))
def jgL (n : Nat) : Nat → Nat → FF → FF
  | 0, _, F => F
  | k + 1, q, F => if F 22 3 = -1 then jgL n k (q + 1) (jgS n F q (F 20 q).toNatClampNeg (F 21 q).toNatClampNeg) else F
def jgF (F : FF) (n s : Nat) : FF := jgL n s 0 (up2 (up2 (up2 (jcL n 0 F) 22 4 0) 22 5 0) 22 3 (-1))
/-- what a fair's parts may be -/
def FairOK (F : FF) (n s : Nat) : Prop := F 18 3 = nI s ∧ s ≤ 20 ∧ ∀ q, q < s → ∃ a b : Nat, a < n ∧ F 20 q = nI a ∧ F 21 q = nI b ∧ ((F 19 q = 0 ∧ b < 8) ∨ (F 19 q = 1 ∧ b < n))
theorem b_X1_faultOf_5_9 : bl2 mX1_faultOf 5 [(.iload 4, 2, 4, 0, .null), (.bipush 20, 2, 0, 0, .int 20)] 9 (.if_icmp .ge 199) 3 = true := by decide +kernel
theorem b_X1_faultOf_208_209 : bl2 mX1_faultOf 208 [(.iload_n 3, 1, 3, 0, .null)] 209 (.ireturn) 1 = true := by decide +kernel
theorem b_X1_faultOf_12_14 : bl2 mX1_faultOf 12 [(.aload_n 1, 1, 1, 0, .null), (.iload_n 3, 1, 3, 0, .null)] 14 (.invokevirtual 39) 3 = true := by decide +kernel
theorem b_X1_faultOf_17_19 : bl2 mX1_faultOf 17 [(.bipush 61, 2, 0, 0, .int 61)] 19 (.if_icmp .ne 7) 3 = true := by decide +kernel
theorem b_X1_faultOf_26_31 : bl2 mX1_faultOf 26 [(.iconst 0, 1, 0, 0, .int 0), (.istore 5, 2, 5, 0, .null), (.iload 5, 2, 5, 0, .null)] 31 (.ifCond .eq 9) 3 = true := by decide +kernel
theorem b_X1_faultOf_40_46 : bl2 mX1_faultOf 40 [(.iload_n 3, 1, 3, 0, .null), (.istore 6, 2, 6, 0, .null), (.aload_n 1, 1, 1, 0, .null), (.iload 6, 2, 6, 0, .null)] 46 (.invokevirtual 39) 3 = true := by decide +kernel
theorem b_X1_faultOf_49_49 : bl2 mX1_faultOf 49 [] 49 (.invokestatic 43) 3 = true := by decide +kernel
theorem b_X1_faultOf_52_59 : bl2 mX1_faultOf 52 [(.istore 7, 2, 7, 0, .null), (.aload_n 1, 1, 1, 0, .null), (.iload 6, 2, 6, 0, .null), (.iconst 1, 1, 0, 0, .int 1), (.iadd, 1, 0, 0, .null)] 59 (.invokevirtual 39) 3 = true := by decide +kernel
theorem b_X1_faultOf_62_62 : bl2 mX1_faultOf 62 [] 62 (.invokestatic 43) 3 = true := by decide +kernel
theorem b_X1_faultOf_65_70 : bl2 mX1_faultOf 65 [(.istore 8, 2, 8, 0, .null), (.iload 7, 2, 7, 0, .null), (.iconst (-1), 1, 0, 0, .int (-1))] 70 (.if_icmp .eq 9) 3 = true := by decide +kernel
theorem b_X1_faultOf_79_81 : bl2 mX1_faultOf 79 [(.iload 6, 2, 6, 0, .null)] 81 (.ireturn) 1 = true := by decide +kernel
theorem b_X1_faultOf_73_76 : bl2 mX1_faultOf 73 [(.iload 7, 2, 7, 0, .null), (.iload_n 2, 1, 2, 0, .null)] 76 (.if_icmp .lt 6) 3 = true := by decide +kernel
theorem b_X1_faultOf_82_84 : bl2 mX1_faultOf 82 [(.iload 5, 2, 5, 0, .null)] 84 (.ifCond .eq 24) 3 = true := by decide +kernel
theorem b_X1_faultOf_108_110 : bl2 mX1_faultOf 108 [(.iload 8, 2, 8, 0, .null)] 110 (.invokestatic 46) 3 = true := by decide +kernel
theorem b_X1_faultOf_113_118 : bl2 mX1_faultOf 113 [(.istore 9, 2, 9, 0, .null), (.iload 8, 2, 8, 0, .null), (.iconst (-1), 1, 0, 0, .int (-1))] 118 (.if_icmp .eq 8) 3 = true := by decide +kernel
theorem b_X1_faultOf_126_130 : bl2 mX1_faultOf 126 [(.iload 6, 2, 6, 0, .null), (.iconst 1, 1, 0, 0, .int 1), (.iadd, 1, 0, 0, .null)] 130 (.ireturn) 1 = true := by decide +kernel
theorem b_X1_faultOf_121_123 : bl2 mX1_faultOf 121 [(.iload 9, 2, 9, 0, .null)] 123 (.ifCond .ne 8) 3 = true := by decide +kernel
theorem b_X1_faultOf_131_139 : bl2 mX1_faultOf 131 [(.aload_n 0, 1, 0, 0, .null), (.getfield 9, 3, 1, 0, .null), (.iload 4, 2, 4, 0, .null), (.iload 5, 2, 5, 0, .null)] 139 (.bastore) 1 = true := by decide +kernel
theorem b_X1_faultOf_140_148 : bl2 mX1_faultOf 140 [(.aload_n 0, 1, 0, 0, .null), (.getfield 15, 3, 1, 1, .null), (.iload 4, 2, 4, 0, .null), (.iload 7, 2, 7, 0, .null)] 148 (.iastore) 1 = true := by decide +kernel
theorem b_X1_faultOf_149_157 : bl2 mX1_faultOf 149 [(.aload_n 0, 1, 0, 0, .null), (.getfield 19, 3, 1, 2, .null), (.iload 4, 2, 4, 0, .null), (.iload 8, 2, 8, 0, .null)] 157 (.iastore) 1 = true := by decide +kernel
theorem b_X1_faultOf_158_163 : bl2 mX1_faultOf 158 [(.aload_n 0, 1, 0, 0, .null), (.iload 4, 2, 4, 0, .null), (.iconst 1, 1, 0, 0, .int 1), (.iadd, 1, 0, 0, .null)] 163 (.putfield 22) 3 = true := by decide +kernel
theorem b_X1_faultOf_166_171 : bl2 mX1_faultOf 166 [(.iload 6, 2, 6, 0, .null), (.iconst 2, 1, 0, 0, .int 2), (.iadd, 1, 0, 0, .null), (.aload_n 1, 1, 1, 0, .null)] 171 (.invokevirtual 29) 3 = true := by decide +kernel
theorem b_X1_faultOf_174_174 : bl2 mX1_faultOf 174 [] 174 (.if_icmp .ne 5) 3 = true := by decide +kernel
theorem b_X1_faultOf_179_184 : bl2 mX1_faultOf 179 [(.aload_n 1, 1, 1, 0, .null), (.iload 6, 2, 6, 0, .null), (.iconst 2, 1, 0, 0, .int 2), (.iadd, 1, 0, 0, .null)] 184 (.invokevirtual 39) 3 = true := by decide +kernel
theorem b_X1_faultOf_187_189 : bl2 mX1_faultOf 187 [(.bipush 59, 2, 0, 0, .int 59)] 189 (.if_icmp .eq 8) 3 = true := by decide +kernel
theorem b_X1_faultOf_197_5 : bl2 mX1_faultOf 197 [(.iload 6, 2, 6, 0, .null), (.iconst 3, 1, 0, 0, .int 3), (.iadd, 1, 0, 0, .null), (.istore_n 3, 1, 3, 0, .null), (.iinc 4 1, 3, 4, 0, .int 1), (.goto (-200), 3, 5, 0, .null)] 5 (.iload 4) 2 = true := by decide +kernel
theorem b_X1_faultOf_192_196 : bl2 mX1_faultOf 192 [(.iload 6, 2, 6, 0, .null), (.iconst 2, 1, 0, 0, .int 2), (.iadd, 1, 0, 0, .null)] 196 (.ireturn) 1 = true := by decide +kernel
theorem b_X1_faultOf_177_178 : bl2 mX1_faultOf 177 [(.iconst (-1), 1, 0, 0, .int (-1))] 178 (.ireturn) 1 = true := by decide +kernel
theorem b_X1_faultOf_22_31 : bl2 mX1_faultOf 22 [(.iconst 1, 1, 0, 0, .int 1), (.goto 4, 3, 27, 0, .null), (.istore 5, 2, 5, 0, .null), (.iload 5, 2, 5, 0, .null)] 31 (.ifCond .eq 9) 3 = true := by decide +kernel
theorem b_X1_faultOf_34_46 : bl2 mX1_faultOf 34 [(.iload_n 3, 1, 3, 0, .null), (.iconst 1, 1, 0, 0, .int 1), (.iadd, 1, 0, 0, .null), (.goto 4, 3, 41, 0, .null), (.istore 6, 2, 6, 0, .null), (.aload_n 1, 1, 1, 0, .null), (.iload 6, 2, 6, 0, .null)] 46 (.invokevirtual 39) 3 = true := by decide +kernel
theorem b_X1_faultOf_87_91 : bl2 mX1_faultOf 87 [(.iload 8, 2, 8, 0, .null), (.iload 7, 2, 7, 0, .null)] 91 (.if_icmp .eq 13) 3 = true := by decide +kernel
theorem b_X1_faultOf_104_118 : bl2 mX1_faultOf 104 [(.iconst 0, 1, 0, 0, .int 0), (.goto 8, 3, 113, 0, .null), (.istore 9, 2, 9, 0, .null), (.iload 8, 2, 8, 0, .null), (.iconst (-1), 1, 0, 0, .int (-1))] 118 (.if_icmp .eq 8) 3 = true := by decide +kernel
theorem b_X1_faultOf_94_97 : bl2 mX1_faultOf 94 [(.iload 8, 2, 8, 0, .null), (.iload_n 2, 1, 2, 0, .null)] 97 (.if_icmp .ge 7) 3 = true := by decide +kernel
theorem b_X1_faultOf_100_118 : bl2 mX1_faultOf 100 [(.iconst 1, 1, 0, 0, .int 1), (.goto 12, 3, 113, 0, .null), (.istore 9, 2, 9, 0, .null), (.iload 8, 2, 8, 0, .null), (.iconst (-1), 1, 0, 0, .int (-1))] 118 (.if_icmp .eq 8) 3 = true := by decide +kernel
set_option maxRecDepth 20000 in
set_option maxHeartbeats 2000000 in
theorem lp_fairF (E : EE) (L : Nat) (l n : Nat) (hl : l ≤ 60) (hn : n ≤ 10) : ∀ (k : Nat) (part start : Nat) (F : FF), part + k = 20 → start ≤ 4 * part → F 8 1 = nI l → R2 E L mX1_faultOf 2 5 [some (.ref 18), some (.ref 8), some (.int (nI n)), some (.int (nI start)), some (.int (nI part)), none, none, none, none, none] [] F (fun r' F' => r' = some (.int (fairL l n k part start F).1) ∧ F' = (fairL l n k part start F).2) := by
  intro k
  induction k with
  | zero =>
    intro part start F hi hst hlen
    refine R2.B (ls2 := [some (.ref 18), some (.ref 8), some (.int (nI n)), some (.int (nI start)), some (.int (nI part)), none, none, none, none, none]) (st2 := [.int 20, .int (nI part)]) b_X1_faultOf_5_9 rfl (fun hd => ?_)
    refine R2.icmp_ge 208 hd (by decide) (fun c9 => ?_) (fun c9 => absurd (nI_le (a := 20) (by omega) (by omega)) c9)
    refine R2.B (ls2 := [some (.ref 18), some (.ref 8), some (.int (nI n)), some (.int (nI start)), some (.int (nI part)), none, none, none, none, none]) (st2 := [.int (nI start)]) b_X1_faultOf_208_209 rfl (fun hd => ?_)
    exact R2.ret3 (r := some (.int (nI start))) hd trivial rfl rfl rfl
  | succ k ih =>
    intro part start F hi hst hlen
    refine R2.B (ls2 := [some (.ref 18), some (.ref 8), some (.int (nI n)), some (.int (nI start)), some (.int (nI part)), none, none, none, none, none]) (st2 := [.int 20, .int (nI part)]) b_X1_faultOf_5_9 rfl (fun hd => ?_)
    refine R2.icmp_ge 208 hd (by decide) (fun c9 => absurd c9 (nI_ge (b := 20) (by omega) (by omega))) (fun c9 => ?_)
    refine R2.B (ls2 := [some (.ref 18), some (.ref 8), some (.int (nI n)), some (.int (nI start)), some (.int (nI part)), none, none, none, none, none]) (st2 := [.int (nI start), .ref 8]) b_X1_faultOf_12_14 rfl (fun hd => ?_)
    refine R2.callV3 (M2 := mX7_at) (As := [.int (nI start)]) (rest := []) hd lk_1_39 okX7_at (by decide) rfl (ev_at8 E L F l start hlen (by omega) (by omega)) (by decide) rfl rfl (Nat.le_of_ble_eq_true rfl) ?_
    refine R2.B (ls2 := [some (.ref 18), some (.ref 8), some (.int (nI n)), some (.int (nI start)), some (.int (nI part)), none, none, none, none, none]) (st2 := [.int 61, .int (tat l (F 9) start)]) b_X1_faultOf_17_19 rfl (fun hd => ?_)
    refine R2.icmp_ne 26 hd (by decide) (fun c19 => ?_) (fun c19 => ?_)
    · refine R2.B (ls2 := [some (.ref 18), some (.ref 8), some (.int (nI n)), some (.int (nI start)), some (.int (nI part)), some (.int 0), none, none, none, none]) (st2 := [.int 0]) b_X1_faultOf_26_31 rfl (fun hd => ?_)
      refine R2.if_eq 40 hd (by decide) (fun c31 => ?_) (fun c31 => absurd (by decide) c31)
      refine R2.B (ls2 := [some (.ref 18), some (.ref 8), some (.int (nI n)), some (.int (nI start)), some (.int (nI part)), some (.int 0), some (.int (nI start)), none, none, none]) (st2 := [.int (nI start), .ref 8]) b_X1_faultOf_40_46 rfl (fun hd => ?_)
      refine R2.callV3 (M2 := mX7_at) (As := [.int (nI start)]) (rest := []) hd lk_1_39 okX7_at (by decide) rfl (ev_at8 E L F l start hlen (by omega) (by omega)) (by decide) rfl rfl (Nat.le_of_ble_eq_true rfl) ?_
      refine R2.B (ls2 := [some (.ref 18), some (.ref 8), some (.int (nI n)), some (.int (nI start)), some (.int (nI part)), some (.int 0), some (.int (nI start)), none, none, none]) (st2 := [.int (tat l (F 9) start)]) b_X1_faultOf_49_49 rfl (fun hd => ?_)
      refine R2.callS3 (M2 := mX10_figure) (As := [.int (tat l (F 9) start)]) (rest := []) hd lk_1_43 okX10_figure (by decide) (ev_figure E L F (tat l (F 9) start)) (by decide) rfl rfl (Nat.le_of_ble_eq_true rfl) ?_
      refine R2.B (ls2 := [some (.ref 18), some (.ref 8), some (.int (nI n)), some (.int (nI start)), some (.int (nI part)), some (.int 0), some (.int (nI start)), some (.int (fig (tat l (F 9) start))), none, none]) (st2 := [.int ((nI start) + 1), .ref 8]) b_X1_faultOf_52_59 rfl (fun hd => ?_)
      rw [show ((nI start) + 1 : Int32) = nI (start + 1) from nI_add start 1]
      refine R2.callV3 (M2 := mX7_at) (As := [.int (nI (start + 1))]) (rest := []) hd lk_1_39 okX7_at (by decide) rfl (ev_at8 E L F l (start + 1) hlen (by omega) (by omega)) (by decide) rfl rfl (Nat.le_of_ble_eq_true rfl) ?_
      refine R2.B (ls2 := [some (.ref 18), some (.ref 8), some (.int (nI n)), some (.int (nI start)), some (.int (nI part)), some (.int 0), some (.int (nI start)), some (.int (fig (tat l (F 9) start))), none, none]) (st2 := [.int (tat l (F 9) (start + 1))]) b_X1_faultOf_62_62 rfl (fun hd => ?_)
      refine R2.callS3 (M2 := mX10_figure) (As := [.int (tat l (F 9) (start + 1))]) (rest := []) hd lk_1_43 okX10_figure (by decide) (ev_figure E L F (tat l (F 9) (start + 1))) (by decide) rfl rfl (Nat.le_of_ble_eq_true rfl) ?_
      refine R2.B (ls2 := [some (.ref 18), some (.ref 8), some (.int (nI n)), some (.int (nI start)), some (.int (nI part)), some (.int 0), some (.int (nI start)), some (.int (fig (tat l (F 9) start))), some (.int (fig (tat l (F 9) (start + 1)))), none]) (st2 := [.int (-1), .int (fig (tat l (F 9) start))]) b_X1_faultOf_65_70 rfl (fun hd => ?_)
      refine R2.icmp_eq 79 hd (by decide) (fun c70 => ?_) (fun c70 => ?_)
      · refine R2.B (ls2 := [some (.ref 18), some (.ref 8), some (.int (nI n)), some (.int (nI start)), some (.int (nI part)), some (.int 0), some (.int (nI start)), some (.int (fig (tat l (F 9) start))), some (.int (fig (tat l (F 9) (start + 1)))), none]) (st2 := [.int (nI start)]) b_X1_faultOf_79_81 rfl (fun hd => ?_)
        have e : fairL l n (k + 1) part start F = (nI start, F) := by
          clear hd; simp only [fairL] <;> grind [fairP]
        exact R2.ret3 (r := some (.int (nI start))) hd trivial rfl (by rw [e]) (by rw [e])
      · refine R2.B (ls2 := [some (.ref 18), some (.ref 8), some (.int (nI n)), some (.int (nI start)), some (.int (nI part)), some (.int 0), some (.int (nI start)), some (.int (fig (tat l (F 9) start))), some (.int (fig (tat l (F 9) (start + 1)))), none]) (st2 := [.int (nI n), .int (fig (tat l (F 9) start))]) b_X1_faultOf_73_76 rfl (fun hd => ?_)
        refine R2.icmp_lt 82 hd (by decide) (fun c76 => ?_) (fun c76 => ?_)
        · refine R2.B (ls2 := [some (.ref 18), some (.ref 8), some (.int (nI n)), some (.int (nI start)), some (.int (nI part)), some (.int 0), some (.int (nI start)), some (.int (fig (tat l (F 9) start))), some (.int (fig (tat l (F 9) (start + 1)))), none]) (st2 := [.int 0]) b_X1_faultOf_82_84 rfl (fun hd => ?_)
          refine R2.if_eq 108 hd (by decide) (fun c84 => ?_) (fun c84 => absurd (by decide) c84)
          refine R2.B (ls2 := [some (.ref 18), some (.ref 8), some (.int (nI n)), some (.int (nI start)), some (.int (nI part)), some (.int 0), some (.int (nI start)), some (.int (fig (tat l (F 9) start))), some (.int (fig (tat l (F 9) (start + 1)))), none]) (st2 := [.int (fig (tat l (F 9) (start + 1)))]) b_X1_faultOf_108_110 rfl (fun hd => ?_)
          refine R2.callS3 (M2 := mX10_isDirection) (As := [.int (fig (tat l (F 9) (start + 1)))]) (rest := []) hd lk_1_46 okX10_isDirection (by decide) (ev_isDirection E L F (fig (tat l (F 9) (start + 1)))) (by decide) rfl rfl (Nat.le_of_ble_eq_true rfl) ?_
          refine R2.B (ls2 := [some (.ref 18), some (.ref 8), some (.int (nI n)), some (.int (nI start)), some (.int (nI part)), some (.int 0), some (.int (nI start)), some (.int (fig (tat l (F 9) start))), some (.int (fig (tat l (F 9) (start + 1)))), some (.int (b2i (0 ≤ (fig (tat l (F 9) (start + 1))) ∧ (fig (tat l (F 9) (start + 1))) < 8)))]) (st2 := [.int (-1), .int (fig (tat l (F 9) (start + 1)))]) b_X1_faultOf_113_118 rfl (fun hd => ?_)
          refine R2.icmp_eq 126 hd (by decide) (fun c118 => ?_) (fun c118 => ?_)
          · refine R2.B (ls2 := [some (.ref 18), some (.ref 8), some (.int (nI n)), some (.int (nI start)), some (.int (nI part)), some (.int 0), some (.int (nI start)), some (.int (fig (tat l (F 9) start))), some (.int (fig (tat l (F 9) (start + 1)))), some (.int (b2i (0 ≤ (fig (tat l (F 9) (start + 1))) ∧ (fig (tat l (F 9) (start + 1))) < 8)))]) (st2 := [.int ((nI start) + 1)]) b_X1_faultOf_126_130 rfl (fun hd => ?_)
            rw [show ((nI start) + 1 : Int32) = nI (start + 1) from nI_add start 1]
            have e : fairL l n (k + 1) part start F = (nI (start + 1), F) := by
              clear hd; simp only [fairL] <;> grind [fairP]
            exact R2.ret3 (r := some (.int (nI (start + 1)))) hd trivial rfl (by rw [e]) (by rw [e])
          · refine R2.B (ls2 := [some (.ref 18), some (.ref 8), some (.int (nI n)), some (.int (nI start)), some (.int (nI part)), some (.int 0), some (.int (nI start)), some (.int (fig (tat l (F 9) start))), some (.int (fig (tat l (F 9) (start + 1)))), some (.int (b2i (0 ≤ (fig (tat l (F 9) (start + 1))) ∧ (fig (tat l (F 9) (start + 1))) < 8)))]) (st2 := [.int (b2i (0 ≤ (fig (tat l (F 9) (start + 1))) ∧ (fig (tat l (F 9) (start + 1))) < 8))]) b_X1_faultOf_121_123 rfl (fun hd => ?_)
            refine R2.if_ne 131 hd (by decide) (fun c123 => ?_) (fun c123 => ?_)
            · have nc123 : 0 ≤ (fig (tat l (F 9) (start + 1))) ∧ (fig (tat l (F 9) (start + 1))) < 8 := b2i_nz.mp c123
              refine R2.B (ls2 := [some (.ref 18), some (.ref 8), some (.int (nI n)), some (.int (nI start)), some (.int (nI part)), some (.int 0), some (.int (nI start)), some (.int (fig (tat l (F 9) start))), some (.int (fig (tat l (F 9) (start + 1)))), some (.int (b2i (0 ≤ (fig (tat l (F 9) (start + 1))) ∧ (fig (tat l (F 9) (start + 1))) < 8)))]) (st2 := [.int 0, .int (nI part), .ref 19]) b_X1_faultOf_131_139 rfl (fun hd => ?_)
              refine R2.zast part rfl hd (by decide) rfl (fun _ => rfl) (by decide) (by omega) (by decide) ?_
              refine R2.B (ls2 := [some (.ref 18), some (.ref 8), some (.int (nI n)), some (.int (nI start)), some (.int (nI part)), some (.int 0), some (.int (nI start)), some (.int (fig (tat l (F 9) start))), some (.int (fig (tat l (F 9) (start + 1)))), some (.int (b2i (0 ≤ (fig (tat l (F 9) (start + 1))) ∧ (fig (tat l (F 9) (start + 1))) < 8)))]) (st2 := [.int (fig (tat l (F 9) start)), .int (nI part), .ref 20]) b_X1_faultOf_140_148 rfl (fun hd => ?_)
              refine R2.iast part rfl hd (by decide) rfl (fun _ => rfl) (by decide) (by omega) ?_
              refine R2.B (ls2 := [some (.ref 18), some (.ref 8), some (.int (nI n)), some (.int (nI start)), some (.int (nI part)), some (.int 0), some (.int (nI start)), some (.int (fig (tat l (F 9) start))), some (.int (fig (tat l (F 9) (start + 1)))), some (.int (b2i (0 ≤ (fig (tat l (F 9) (start + 1))) ∧ (fig (tat l (F 9) (start + 1))) < 8)))]) (st2 := [.int (fig (tat l (F 9) (start + 1))), .int (nI part), .ref 21]) b_X1_faultOf_149_157 rfl (fun hd => ?_)
              refine R2.iast part rfl hd (by decide) rfl (fun _ => rfl) (by decide) (by omega) ?_
              refine R2.B (ls2 := [some (.ref 18), some (.ref 8), some (.int (nI n)), some (.int (nI start)), some (.int (nI part)), some (.int 0), some (.int (nI start)), some (.int (fig (tat l (F 9) start))), some (.int (fig (tat l (F 9) (start + 1)))), some (.int (b2i (0 ≤ (fig (tat l (F 9) (start + 1))) ∧ (fig (tat l (F 9) (start + 1))) < 8)))]) (st2 := [.int ((nI part) + 1), .ref 18]) b_X1_faultOf_158_163 rfl (fun hd => ?_)
              rw [show ((nI part) + 1 : Int32) = nI (part + 1) from nI_add part 1]
              refine R2.putf (a := 1) (b := 3) hd (by decide) (by decide) rfl rfl (fun _ => rfl) ?_
              refine R2.B (ls2 := [some (.ref 18), some (.ref 8), some (.int (nI n)), some (.int (nI start)), some (.int (nI part)), some (.int 0), some (.int (nI start)), some (.int (fig (tat l (F 9) start))), some (.int (fig (tat l (F 9) (start + 1)))), some (.int (b2i (0 ≤ (fig (tat l (F 9) (start + 1))) ∧ (fig (tat l (F 9) (start + 1))) < 8)))]) (st2 := [.ref 8, .int ((nI start) + 2)]) b_X1_faultOf_166_171 rfl (fun hd => ?_)
              rw [show ((nI start) + 2 : Int32) = nI (start + 2) from nI_add start 2]
              refine R2.callV3 (M2 := mX7_length) (As := []) (rest := [.int (nI (start + 2))]) hd lk_1_29 okX7_length (by decide) rfl (ev_length8 E L _) (by decide) rfl rfl (Nat.le_of_ble_eq_true rfl) ?_
              refine R2.top (show (F 8 1 : Int32) = nI l from hlen) ?_
              refine R2.B (ls2 := [some (.ref 18), some (.ref 8), some (.int (nI n)), some (.int (nI start)), some (.int (nI part)), some (.int 0), some (.int (nI start)), some (.int (fig (tat l (F 9) start))), some (.int (fig (tat l (F 9) (start + 1)))), some (.int (b2i (0 ≤ (fig (tat l (F 9) (start + 1))) ∧ (fig (tat l (F 9) (start + 1))) < 8)))]) (st2 := [.int (nI l), .int (nI (start + 2))]) b_X1_faultOf_174_174 rfl (fun hd => ?_)
              refine R2.icmp_ne 179 hd (by decide) (fun c174 => ?_) (fun c174 => ?_)
              · have nc174 : ¬ (start + 2) = l := fun h9 => c174 ((nI_eq (a := (start + 2)) (b := l) (by omega) (by omega)).mpr h9)
                refine R2.B (ls2 := [some (.ref 18), some (.ref 8), some (.int (nI n)), some (.int (nI start)), some (.int (nI part)), some (.int 0), some (.int (nI start)), some (.int (fig (tat l (F 9) start))), some (.int (fig (tat l (F 9) (start + 1)))), some (.int (b2i (0 ≤ (fig (tat l (F 9) (start + 1))) ∧ (fig (tat l (F 9) (start + 1))) < 8)))]) (st2 := [.int ((nI start) + 2), .ref 8]) b_X1_faultOf_179_184 rfl (fun hd => ?_)
                rw [show ((nI start) + 2 : Int32) = nI (start + 2) from nI_add start 2]
                refine R2.callV3 (M2 := mX7_at) (As := [.int (nI (start + 2))]) (rest := []) hd lk_1_39 okX7_at (by decide) rfl (ev_at8 E L (up2 (up2 (up2 (up2 F 19 part 0) 20 part (fig (tat l (F 9) start))) 21 part (fig (tat l (F 9) (start + 1)))) 18 3 (nI (part + 1))) l (start + 2) hlen (by omega) (by omega)) (by decide) rfl rfl (Nat.le_of_ble_eq_true rfl) ?_
                refine R2.B (ls2 := [some (.ref 18), some (.ref 8), some (.int (nI n)), some (.int (nI start)), some (.int (nI part)), some (.int 0), some (.int (nI start)), some (.int (fig (tat l (F 9) start))), some (.int (fig (tat l (F 9) (start + 1)))), some (.int (b2i (0 ≤ (fig (tat l (F 9) (start + 1))) ∧ (fig (tat l (F 9) (start + 1))) < 8)))]) (st2 := [.int 59, .int (tat l (F 9) (start + 2))]) b_X1_faultOf_187_189 rfl (fun hd => ?_)
                refine R2.icmp_eq 197 hd (by decide) (fun c189 => ?_) (fun c189 => ?_)
                · refine R2.B (ls2 := [some (.ref 18), some (.ref 8), some (.int (nI n)), some (.int ((nI start) + 3)), some (.int ((nI part) + 1)), some (.int 0), some (.int (nI start)), some (.int (fig (tat l (F 9) start))), some (.int (fig (tat l (F 9) (start + 1)))), some (.int (b2i (0 ≤ (fig (tat l (F 9) (start + 1))) ∧ (fig (tat l (F 9) (start + 1))) < 8)))]) (st2 := []) b_X1_faultOf_197_5 rfl (fun hd => ?_)
                  rw [show ((nI start) + 3 : Int32) = nI (start + 3) from nI_add start 3]
                  rw [show ((nI part) + 1 : Int32) = nI (part + 1) from nI_add part 1]
                  have e : fairL l n (k + 1) part start F = fairL l n k (part + 1) ((start + 3)) (up2 (up2 (up2 (up2 F 19 part 0) 20 part (fig (tat l (F 9) start))) 21 part (fig (tat l (F 9) (start + 1)))) 18 3 (nI (part + 1))) := by
                    clear hd; simp only [fairL] <;> grind [fairP]
                  rw [e]
                  refine R2.forget (ls2 := [some (.ref 18), some (.ref 8), some (.int (nI n)), some (.int (nI (start + 3))), some (.int (nI (part + 1))), none, none, none, none, none]) ⟨rfl, ⟨rfl, ⟨rfl, ⟨rfl, ⟨rfl, trivial⟩⟩⟩⟩⟩ ?_
                  exact ih (part + 1) _ _ (by omega) (by omega) hlen
                · refine R2.B (ls2 := [some (.ref 18), some (.ref 8), some (.int (nI n)), some (.int (nI start)), some (.int (nI part)), some (.int 0), some (.int (nI start)), some (.int (fig (tat l (F 9) start))), some (.int (fig (tat l (F 9) (start + 1)))), some (.int (b2i (0 ≤ (fig (tat l (F 9) (start + 1))) ∧ (fig (tat l (F 9) (start + 1))) < 8)))]) (st2 := [.int ((nI start) + 2)]) b_X1_faultOf_192_196 rfl (fun hd => ?_)
                  rw [show ((nI start) + 2 : Int32) = nI (start + 2) from nI_add start 2]
                  have e : fairL l n (k + 1) part start F = (nI (start + 2), (up2 (up2 (up2 (up2 F 19 part 0) 20 part (fig (tat l (F 9) start))) 21 part (fig (tat l (F 9) (start + 1)))) 18 3 (nI (part + 1)))) := by
                    clear hd; simp only [fairL] <;> grind [fairP]
                  exact R2.ret3 (r := some (.int (nI (start + 2)))) hd trivial rfl (by rw [e]) (by rw [e])
              · have nc174 : (start + 2) = l := (nI_eq (a := (start + 2)) (b := l) (by omega) (by omega)).mp c174
                refine R2.B (ls2 := [some (.ref 18), some (.ref 8), some (.int (nI n)), some (.int (nI start)), some (.int (nI part)), some (.int 0), some (.int (nI start)), some (.int (fig (tat l (F 9) start))), some (.int (fig (tat l (F 9) (start + 1)))), some (.int (b2i (0 ≤ (fig (tat l (F 9) (start + 1))) ∧ (fig (tat l (F 9) (start + 1))) < 8)))]) (st2 := [.int (-1)]) b_X1_faultOf_177_178 rfl (fun hd => ?_)
                have e : fairL l n (k + 1) part start F = ((-1), (up2 (up2 (up2 (up2 F 19 part 0) 20 part (fig (tat l (F 9) start))) 21 part (fig (tat l (F 9) (start + 1)))) 18 3 (nI (part + 1)))) := by
                  clear hd; simp only [fairL] <;> grind [fairP]
                exact R2.ret3 (r := some (.int (-1))) hd trivial rfl (by rw [e]) (by rw [e])
            · have nc123 : ¬ (0 ≤ (fig (tat l (F 9) (start + 1))) ∧ (fig (tat l (F 9) (start + 1))) < 8) := b2i_zero.mp c123
              refine R2.B (ls2 := [some (.ref 18), some (.ref 8), some (.int (nI n)), some (.int (nI start)), some (.int (nI part)), some (.int 0), some (.int (nI start)), some (.int (fig (tat l (F 9) start))), some (.int (fig (tat l (F 9) (start + 1)))), some (.int (b2i (0 ≤ (fig (tat l (F 9) (start + 1))) ∧ (fig (tat l (F 9) (start + 1))) < 8)))]) (st2 := [.int ((nI start) + 1)]) b_X1_faultOf_126_130 rfl (fun hd => ?_)
              rw [show ((nI start) + 1 : Int32) = nI (start + 1) from nI_add start 1]
              have e : fairL l n (k + 1) part start F = (nI (start + 1), F) := by
                clear hd; simp only [fairL] <;> grind [fairP]
              exact R2.ret3 (r := some (.int (nI (start + 1)))) hd trivial rfl (by rw [e]) (by rw [e])
        · refine R2.B (ls2 := [some (.ref 18), some (.ref 8), some (.int (nI n)), some (.int (nI start)), some (.int (nI part)), some (.int 0), some (.int (nI start)), some (.int (fig (tat l (F 9) start))), some (.int (fig (tat l (F 9) (start + 1)))), none]) (st2 := [.int (nI start)]) b_X1_faultOf_79_81 rfl (fun hd => ?_)
          have e : fairL l n (k + 1) part start F = (nI start, F) := by
            clear hd; simp only [fairL] <;> grind [fairP]
          exact R2.ret3 (r := some (.int (nI start))) hd trivial rfl (by rw [e]) (by rw [e])
    · refine R2.B (ls2 := [some (.ref 18), some (.ref 8), some (.int (nI n)), some (.int (nI start)), some (.int (nI part)), some (.int 1), none, none, none, none]) (st2 := [.int 1]) b_X1_faultOf_22_31 rfl (fun hd => ?_)
      refine R2.if_eq 40 hd (by decide) (fun c31 => absurd c31 (by decide)) (fun c31 => ?_)
      refine R2.B (ls2 := [some (.ref 18), some (.ref 8), some (.int (nI n)), some (.int (nI start)), some (.int (nI part)), some (.int 1), some (.int ((nI start) + 1)), none, none, none]) (st2 := [.int ((nI start) + 1), .ref 8]) b_X1_faultOf_34_46 rfl (fun hd => ?_)
      rw [show ((nI start) + 1 : Int32) = nI (start + 1) from nI_add start 1]
      refine R2.callV3 (M2 := mX7_at) (As := [.int (nI (start + 1))]) (rest := []) hd lk_1_39 okX7_at (by decide) rfl (ev_at8 E L F l (start + 1) hlen (by omega) (by omega)) (by decide) rfl rfl (Nat.le_of_ble_eq_true rfl) ?_
      refine R2.B (ls2 := [some (.ref 18), some (.ref 8), some (.int (nI n)), some (.int (nI start)), some (.int (nI part)), some (.int 1), some (.int (nI (start + 1))), none, none, none]) (st2 := [.int (tat l (F 9) (start + 1))]) b_X1_faultOf_49_49 rfl (fun hd => ?_)
      refine R2.callS3 (M2 := mX10_figure) (As := [.int (tat l (F 9) (start + 1))]) (rest := []) hd lk_1_43 okX10_figure (by decide) (ev_figure E L F (tat l (F 9) (start + 1))) (by decide) rfl rfl (Nat.le_of_ble_eq_true rfl) ?_
      refine R2.B (ls2 := [some (.ref 18), some (.ref 8), some (.int (nI n)), some (.int (nI start)), some (.int (nI part)), some (.int 1), some (.int (nI (start + 1))), some (.int (fig (tat l (F 9) (start + 1)))), none, none]) (st2 := [.int ((nI (start + 1)) + 1), .ref 8]) b_X1_faultOf_52_59 rfl (fun hd => ?_)
      rw [show ((nI (start + 1)) + 1 : Int32) = nI ((start + 1) + 1) from nI_add (start + 1) 1]
      refine R2.callV3 (M2 := mX7_at) (As := [.int (nI ((start + 1) + 1))]) (rest := []) hd lk_1_39 okX7_at (by decide) rfl (ev_at8 E L F l ((start + 1) + 1) hlen (by omega) (by omega)) (by decide) rfl rfl (Nat.le_of_ble_eq_true rfl) ?_
      refine R2.B (ls2 := [some (.ref 18), some (.ref 8), some (.int (nI n)), some (.int (nI start)), some (.int (nI part)), some (.int 1), some (.int (nI (start + 1))), some (.int (fig (tat l (F 9) (start + 1)))), none, none]) (st2 := [.int (tat l (F 9) ((start + 1) + 1))]) b_X1_faultOf_62_62 rfl (fun hd => ?_)
      refine R2.callS3 (M2 := mX10_figure) (As := [.int (tat l (F 9) ((start + 1) + 1))]) (rest := []) hd lk_1_43 okX10_figure (by decide) (ev_figure E L F (tat l (F 9) ((start + 1) + 1))) (by decide) rfl rfl (Nat.le_of_ble_eq_true rfl) ?_
      refine R2.B (ls2 := [some (.ref 18), some (.ref 8), some (.int (nI n)), some (.int (nI start)), some (.int (nI part)), some (.int 1), some (.int (nI (start + 1))), some (.int (fig (tat l (F 9) (start + 1)))), some (.int (fig (tat l (F 9) ((start + 1) + 1)))), none]) (st2 := [.int (-1), .int (fig (tat l (F 9) (start + 1)))]) b_X1_faultOf_65_70 rfl (fun hd => ?_)
      refine R2.icmp_eq 79 hd (by decide) (fun c70 => ?_) (fun c70 => ?_)
      · refine R2.B (ls2 := [some (.ref 18), some (.ref 8), some (.int (nI n)), some (.int (nI start)), some (.int (nI part)), some (.int 1), some (.int (nI (start + 1))), some (.int (fig (tat l (F 9) (start + 1)))), some (.int (fig (tat l (F 9) ((start + 1) + 1)))), none]) (st2 := [.int (nI (start + 1))]) b_X1_faultOf_79_81 rfl (fun hd => ?_)
        have e : fairL l n (k + 1) part start F = (nI (start + 1), F) := by
          clear hd; simp only [fairL] <;> grind [fairP]
        exact R2.ret3 (r := some (.int (nI (start + 1)))) hd trivial rfl (by rw [e]) (by rw [e])
      · refine R2.B (ls2 := [some (.ref 18), some (.ref 8), some (.int (nI n)), some (.int (nI start)), some (.int (nI part)), some (.int 1), some (.int (nI (start + 1))), some (.int (fig (tat l (F 9) (start + 1)))), some (.int (fig (tat l (F 9) ((start + 1) + 1)))), none]) (st2 := [.int (nI n), .int (fig (tat l (F 9) (start + 1)))]) b_X1_faultOf_73_76 rfl (fun hd => ?_)
        refine R2.icmp_lt 82 hd (by decide) (fun c76 => ?_) (fun c76 => ?_)
        · refine R2.B (ls2 := [some (.ref 18), some (.ref 8), some (.int (nI n)), some (.int (nI start)), some (.int (nI part)), some (.int 1), some (.int (nI (start + 1))), some (.int (fig (tat l (F 9) (start + 1)))), some (.int (fig (tat l (F 9) ((start + 1) + 1)))), none]) (st2 := [.int 1]) b_X1_faultOf_82_84 rfl (fun hd => ?_)
          refine R2.if_eq 108 hd (by decide) (fun c84 => absurd c84 (by decide)) (fun c84 => ?_)
          refine R2.B (ls2 := [some (.ref 18), some (.ref 8), some (.int (nI n)), some (.int (nI start)), some (.int (nI part)), some (.int 1), some (.int (nI (start + 1))), some (.int (fig (tat l (F 9) (start + 1)))), some (.int (fig (tat l (F 9) ((start + 1) + 1)))), none]) (st2 := [.int (fig (tat l (F 9) (start + 1))), .int (fig (tat l (F 9) ((start + 1) + 1)))]) b_X1_faultOf_87_91 rfl (fun hd => ?_)
          refine R2.icmp_eq 104 hd (by decide) (fun c91 => ?_) (fun c91 => ?_)
          · refine R2.B (ls2 := [some (.ref 18), some (.ref 8), some (.int (nI n)), some (.int (nI start)), some (.int (nI part)), some (.int 1), some (.int (nI (start + 1))), some (.int (fig (tat l (F 9) (start + 1)))), some (.int (fig (tat l (F 9) ((start + 1) + 1)))), some (.int 0)]) (st2 := [.int (-1), .int (fig (tat l (F 9) ((start + 1) + 1)))]) b_X1_faultOf_104_118 rfl (fun hd => ?_)
            refine R2.icmp_eq 126 hd (by decide) (fun c118 => ?_) (fun c118 => ?_)
            · refine R2.B (ls2 := [some (.ref 18), some (.ref 8), some (.int (nI n)), some (.int (nI start)), some (.int (nI part)), some (.int 1), some (.int (nI (start + 1))), some (.int (fig (tat l (F 9) (start + 1)))), some (.int (fig (tat l (F 9) ((start + 1) + 1)))), some (.int 0)]) (st2 := [.int ((nI (start + 1)) + 1)]) b_X1_faultOf_126_130 rfl (fun hd => ?_)
              rw [show ((nI (start + 1)) + 1 : Int32) = nI ((start + 1) + 1) from nI_add (start + 1) 1]
              have e : fairL l n (k + 1) part start F = (nI ((start + 1) + 1), F) := by
                clear hd; simp only [fairL] <;> grind [fairP]
              exact R2.ret3 (r := some (.int (nI ((start + 1) + 1)))) hd trivial rfl (by rw [e]) (by rw [e])
            · refine R2.B (ls2 := [some (.ref 18), some (.ref 8), some (.int (nI n)), some (.int (nI start)), some (.int (nI part)), some (.int 1), some (.int (nI (start + 1))), some (.int (fig (tat l (F 9) (start + 1)))), some (.int (fig (tat l (F 9) ((start + 1) + 1)))), some (.int 0)]) (st2 := [.int 0]) b_X1_faultOf_121_123 rfl (fun hd => ?_)
              refine R2.if_ne 131 hd (by decide) (fun c123 => absurd (by decide) c123) (fun c123 => ?_)
              refine R2.B (ls2 := [some (.ref 18), some (.ref 8), some (.int (nI n)), some (.int (nI start)), some (.int (nI part)), some (.int 1), some (.int (nI (start + 1))), some (.int (fig (tat l (F 9) (start + 1)))), some (.int (fig (tat l (F 9) ((start + 1) + 1)))), some (.int 0)]) (st2 := [.int ((nI (start + 1)) + 1)]) b_X1_faultOf_126_130 rfl (fun hd => ?_)
              rw [show ((nI (start + 1)) + 1 : Int32) = nI ((start + 1) + 1) from nI_add (start + 1) 1]
              have e : fairL l n (k + 1) part start F = (nI ((start + 1) + 1), F) := by
                clear hd; simp only [fairL] <;> grind [fairP]
              exact R2.ret3 (r := some (.int (nI ((start + 1) + 1)))) hd trivial rfl (by rw [e]) (by rw [e])
          · refine R2.B (ls2 := [some (.ref 18), some (.ref 8), some (.int (nI n)), some (.int (nI start)), some (.int (nI part)), some (.int 1), some (.int (nI (start + 1))), some (.int (fig (tat l (F 9) (start + 1)))), some (.int (fig (tat l (F 9) ((start + 1) + 1)))), none]) (st2 := [.int (nI n), .int (fig (tat l (F 9) ((start + 1) + 1)))]) b_X1_faultOf_94_97 rfl (fun hd => ?_)
            refine R2.icmp_ge 104 hd (by decide) (fun c97 => ?_) (fun c97 => ?_)
            · refine R2.B (ls2 := [some (.ref 18), some (.ref 8), some (.int (nI n)), some (.int (nI start)), some (.int (nI part)), some (.int 1), some (.int (nI (start + 1))), some (.int (fig (tat l (F 9) (start + 1)))), some (.int (fig (tat l (F 9) ((start + 1) + 1)))), some (.int 0)]) (st2 := [.int (-1), .int (fig (tat l (F 9) ((start + 1) + 1)))]) b_X1_faultOf_104_118 rfl (fun hd => ?_)
              refine R2.icmp_eq 126 hd (by decide) (fun c118 => ?_) (fun c118 => ?_)
              · refine R2.B (ls2 := [some (.ref 18), some (.ref 8), some (.int (nI n)), some (.int (nI start)), some (.int (nI part)), some (.int 1), some (.int (nI (start + 1))), some (.int (fig (tat l (F 9) (start + 1)))), some (.int (fig (tat l (F 9) ((start + 1) + 1)))), some (.int 0)]) (st2 := [.int ((nI (start + 1)) + 1)]) b_X1_faultOf_126_130 rfl (fun hd => ?_)
                rw [show ((nI (start + 1)) + 1 : Int32) = nI ((start + 1) + 1) from nI_add (start + 1) 1]
                have e : fairL l n (k + 1) part start F = (nI ((start + 1) + 1), F) := by
                  clear hd; simp only [fairL] <;> grind [fairP]
                exact R2.ret3 (r := some (.int (nI ((start + 1) + 1)))) hd trivial rfl (by rw [e]) (by rw [e])
              · refine R2.B (ls2 := [some (.ref 18), some (.ref 8), some (.int (nI n)), some (.int (nI start)), some (.int (nI part)), some (.int 1), some (.int (nI (start + 1))), some (.int (fig (tat l (F 9) (start + 1)))), some (.int (fig (tat l (F 9) ((start + 1) + 1)))), some (.int 0)]) (st2 := [.int 0]) b_X1_faultOf_121_123 rfl (fun hd => ?_)
                refine R2.if_ne 131 hd (by decide) (fun c123 => absurd (by decide) c123) (fun c123 => ?_)
                refine R2.B (ls2 := [some (.ref 18), some (.ref 8), some (.int (nI n)), some (.int (nI start)), some (.int (nI part)), some (.int 1), some (.int (nI (start + 1))), some (.int (fig (tat l (F 9) (start + 1)))), some (.int (fig (tat l (F 9) ((start + 1) + 1)))), some (.int 0)]) (st2 := [.int ((nI (start + 1)) + 1)]) b_X1_faultOf_126_130 rfl (fun hd => ?_)
                rw [show ((nI (start + 1)) + 1 : Int32) = nI ((start + 1) + 1) from nI_add (start + 1) 1]
                have e : fairL l n (k + 1) part start F = (nI ((start + 1) + 1), F) := by
                  clear hd; simp only [fairL] <;> grind [fairP]
                exact R2.ret3 (r := some (.int (nI ((start + 1) + 1)))) hd trivial rfl (by rw [e]) (by rw [e])
            · refine R2.B (ls2 := [some (.ref 18), some (.ref 8), some (.int (nI n)), some (.int (nI start)), some (.int (nI part)), some (.int 1), some (.int (nI (start + 1))), some (.int (fig (tat l (F 9) (start + 1)))), some (.int (fig (tat l (F 9) ((start + 1) + 1)))), some (.int 1)]) (st2 := [.int (-1), .int (fig (tat l (F 9) ((start + 1) + 1)))]) b_X1_faultOf_100_118 rfl (fun hd => ?_)
              refine R2.icmp_eq 126 hd (by decide) (fun c118 => ?_) (fun c118 => ?_)
              · refine R2.B (ls2 := [some (.ref 18), some (.ref 8), some (.int (nI n)), some (.int (nI start)), some (.int (nI part)), some (.int 1), some (.int (nI (start + 1))), some (.int (fig (tat l (F 9) (start + 1)))), some (.int (fig (tat l (F 9) ((start + 1) + 1)))), some (.int 1)]) (st2 := [.int ((nI (start + 1)) + 1)]) b_X1_faultOf_126_130 rfl (fun hd => ?_)
                rw [show ((nI (start + 1)) + 1 : Int32) = nI ((start + 1) + 1) from nI_add (start + 1) 1]
                have e : fairL l n (k + 1) part start F = (nI ((start + 1) + 1), F) := by
                  clear hd; simp only [fairL] <;> grind [fairP]
                exact R2.ret3 (r := some (.int (nI ((start + 1) + 1)))) hd trivial rfl (by rw [e]) (by rw [e])
              · refine R2.B (ls2 := [some (.ref 18), some (.ref 8), some (.int (nI n)), some (.int (nI start)), some (.int (nI part)), some (.int 1), some (.int (nI (start + 1))), some (.int (fig (tat l (F 9) (start + 1)))), some (.int (fig (tat l (F 9) ((start + 1) + 1)))), some (.int 1)]) (st2 := [.int 1]) b_X1_faultOf_121_123 rfl (fun hd => ?_)
                refine R2.if_ne 131 hd (by decide) (fun c123 => ?_) (fun c123 => absurd c123 (by decide))
                refine R2.B (ls2 := [some (.ref 18), some (.ref 8), some (.int (nI n)), some (.int (nI start)), some (.int (nI part)), some (.int 1), some (.int (nI (start + 1))), some (.int (fig (tat l (F 9) (start + 1)))), some (.int (fig (tat l (F 9) ((start + 1) + 1)))), some (.int 1)]) (st2 := [.int 1, .int (nI part), .ref 19]) b_X1_faultOf_131_139 rfl (fun hd => ?_)
                refine R2.zast part rfl hd (by decide) rfl (fun _ => rfl) (by decide) (by omega) (by decide) ?_
                refine R2.B (ls2 := [some (.ref 18), some (.ref 8), some (.int (nI n)), some (.int (nI start)), some (.int (nI part)), some (.int 1), some (.int (nI (start + 1))), some (.int (fig (tat l (F 9) (start + 1)))), some (.int (fig (tat l (F 9) ((start + 1) + 1)))), some (.int 1)]) (st2 := [.int (fig (tat l (F 9) (start + 1))), .int (nI part), .ref 20]) b_X1_faultOf_140_148 rfl (fun hd => ?_)
                refine R2.iast part rfl hd (by decide) rfl (fun _ => rfl) (by decide) (by omega) ?_
                refine R2.B (ls2 := [some (.ref 18), some (.ref 8), some (.int (nI n)), some (.int (nI start)), some (.int (nI part)), some (.int 1), some (.int (nI (start + 1))), some (.int (fig (tat l (F 9) (start + 1)))), some (.int (fig (tat l (F 9) ((start + 1) + 1)))), some (.int 1)]) (st2 := [.int (fig (tat l (F 9) ((start + 1) + 1))), .int (nI part), .ref 21]) b_X1_faultOf_149_157 rfl (fun hd => ?_)
                refine R2.iast part rfl hd (by decide) rfl (fun _ => rfl) (by decide) (by omega) ?_
                refine R2.B (ls2 := [some (.ref 18), some (.ref 8), some (.int (nI n)), some (.int (nI start)), some (.int (nI part)), some (.int 1), some (.int (nI (start + 1))), some (.int (fig (tat l (F 9) (start + 1)))), some (.int (fig (tat l (F 9) ((start + 1) + 1)))), some (.int 1)]) (st2 := [.int ((nI part) + 1), .ref 18]) b_X1_faultOf_158_163 rfl (fun hd => ?_)
                rw [show ((nI part) + 1 : Int32) = nI (part + 1) from nI_add part 1]
                refine R2.putf (a := 1) (b := 3) hd (by decide) (by decide) rfl rfl (fun _ => rfl) ?_
                refine R2.B (ls2 := [some (.ref 18), some (.ref 8), some (.int (nI n)), some (.int (nI start)), some (.int (nI part)), some (.int 1), some (.int (nI (start + 1))), some (.int (fig (tat l (F 9) (start + 1)))), some (.int (fig (tat l (F 9) ((start + 1) + 1)))), some (.int 1)]) (st2 := [.ref 8, .int ((nI (start + 1)) + 2)]) b_X1_faultOf_166_171 rfl (fun hd => ?_)
                rw [show ((nI (start + 1)) + 2 : Int32) = nI ((start + 1) + 2) from nI_add (start + 1) 2]
                refine R2.callV3 (M2 := mX7_length) (As := []) (rest := [.int (nI ((start + 1) + 2))]) hd lk_1_29 okX7_length (by decide) rfl (ev_length8 E L _) (by decide) rfl rfl (Nat.le_of_ble_eq_true rfl) ?_
                refine R2.top (show (F 8 1 : Int32) = nI l from hlen) ?_
                refine R2.B (ls2 := [some (.ref 18), some (.ref 8), some (.int (nI n)), some (.int (nI start)), some (.int (nI part)), some (.int 1), some (.int (nI (start + 1))), some (.int (fig (tat l (F 9) (start + 1)))), some (.int (fig (tat l (F 9) ((start + 1) + 1)))), some (.int 1)]) (st2 := [.int (nI l), .int (nI ((start + 1) + 2))]) b_X1_faultOf_174_174 rfl (fun hd => ?_)
                refine R2.icmp_ne 179 hd (by decide) (fun c174 => ?_) (fun c174 => ?_)
                · have nc174 : ¬ ((start + 1) + 2) = l := fun h9 => c174 ((nI_eq (a := ((start + 1) + 2)) (b := l) (by omega) (by omega)).mpr h9)
                  refine R2.B (ls2 := [some (.ref 18), some (.ref 8), some (.int (nI n)), some (.int (nI start)), some (.int (nI part)), some (.int 1), some (.int (nI (start + 1))), some (.int (fig (tat l (F 9) (start + 1)))), some (.int (fig (tat l (F 9) ((start + 1) + 1)))), some (.int 1)]) (st2 := [.int ((nI (start + 1)) + 2), .ref 8]) b_X1_faultOf_179_184 rfl (fun hd => ?_)
                  rw [show ((nI (start + 1)) + 2 : Int32) = nI ((start + 1) + 2) from nI_add (start + 1) 2]
                  refine R2.callV3 (M2 := mX7_at) (As := [.int (nI ((start + 1) + 2))]) (rest := []) hd lk_1_39 okX7_at (by decide) rfl (ev_at8 E L (up2 (up2 (up2 (up2 F 19 part 1) 20 part (fig (tat l (F 9) (start + 1)))) 21 part (fig (tat l (F 9) ((start + 1) + 1)))) 18 3 (nI (part + 1))) l ((start + 1) + 2) hlen (by omega) (by omega)) (by decide) rfl rfl (Nat.le_of_ble_eq_true rfl) ?_
                  refine R2.B (ls2 := [some (.ref 18), some (.ref 8), some (.int (nI n)), some (.int (nI start)), some (.int (nI part)), some (.int 1), some (.int (nI (start + 1))), some (.int (fig (tat l (F 9) (start + 1)))), some (.int (fig (tat l (F 9) ((start + 1) + 1)))), some (.int 1)]) (st2 := [.int 59, .int (tat l (F 9) ((start + 1) + 2))]) b_X1_faultOf_187_189 rfl (fun hd => ?_)
                  refine R2.icmp_eq 197 hd (by decide) (fun c189 => ?_) (fun c189 => ?_)
                  · refine R2.B (ls2 := [some (.ref 18), some (.ref 8), some (.int (nI n)), some (.int ((nI (start + 1)) + 3)), some (.int ((nI part) + 1)), some (.int 1), some (.int (nI (start + 1))), some (.int (fig (tat l (F 9) (start + 1)))), some (.int (fig (tat l (F 9) ((start + 1) + 1)))), some (.int 1)]) (st2 := []) b_X1_faultOf_197_5 rfl (fun hd => ?_)
                    rw [show ((nI (start + 1)) + 3 : Int32) = nI ((start + 1) + 3) from nI_add (start + 1) 3]
                    rw [show ((nI part) + 1 : Int32) = nI (part + 1) from nI_add part 1]
                    have e : fairL l n (k + 1) part start F = fairL l n k (part + 1) (((start + 1) + 3)) (up2 (up2 (up2 (up2 F 19 part 1) 20 part (fig (tat l (F 9) (start + 1)))) 21 part (fig (tat l (F 9) ((start + 1) + 1)))) 18 3 (nI (part + 1))) := by
                      clear hd; simp only [fairL] <;> grind [fairP]
                    rw [e]
                    refine R2.forget (ls2 := [some (.ref 18), some (.ref 8), some (.int (nI n)), some (.int (nI ((start + 1) + 3))), some (.int (nI (part + 1))), none, none, none, none, none]) ⟨rfl, ⟨rfl, ⟨rfl, ⟨rfl, ⟨rfl, trivial⟩⟩⟩⟩⟩ ?_
                    exact ih (part + 1) _ _ (by omega) (by omega) hlen
                  · refine R2.B (ls2 := [some (.ref 18), some (.ref 8), some (.int (nI n)), some (.int (nI start)), some (.int (nI part)), some (.int 1), some (.int (nI (start + 1))), some (.int (fig (tat l (F 9) (start + 1)))), some (.int (fig (tat l (F 9) ((start + 1) + 1)))), some (.int 1)]) (st2 := [.int ((nI (start + 1)) + 2)]) b_X1_faultOf_192_196 rfl (fun hd => ?_)
                    rw [show ((nI (start + 1)) + 2 : Int32) = nI ((start + 1) + 2) from nI_add (start + 1) 2]
                    have e : fairL l n (k + 1) part start F = (nI ((start + 1) + 2), (up2 (up2 (up2 (up2 F 19 part 1) 20 part (fig (tat l (F 9) (start + 1)))) 21 part (fig (tat l (F 9) ((start + 1) + 1)))) 18 3 (nI (part + 1)))) := by
                      clear hd; simp only [fairL] <;> grind [fairP]
                    exact R2.ret3 (r := some (.int (nI ((start + 1) + 2)))) hd trivial rfl (by rw [e]) (by rw [e])
                · have nc174 : ((start + 1) + 2) = l := (nI_eq (a := ((start + 1) + 2)) (b := l) (by omega) (by omega)).mp c174
                  refine R2.B (ls2 := [some (.ref 18), some (.ref 8), some (.int (nI n)), some (.int (nI start)), some (.int (nI part)), some (.int 1), some (.int (nI (start + 1))), some (.int (fig (tat l (F 9) (start + 1)))), some (.int (fig (tat l (F 9) ((start + 1) + 1)))), some (.int 1)]) (st2 := [.int (-1)]) b_X1_faultOf_177_178 rfl (fun hd => ?_)
                  have e : fairL l n (k + 1) part start F = ((-1), (up2 (up2 (up2 (up2 F 19 part 1) 20 part (fig (tat l (F 9) (start + 1)))) 21 part (fig (tat l (F 9) ((start + 1) + 1)))) 18 3 (nI (part + 1)))) := by
                    clear hd; simp only [fairL] <;> grind [fairP]
                  exact R2.ret3 (r := some (.int (-1))) hd trivial rfl (by rw [e]) (by rw [e])
        · refine R2.B (ls2 := [some (.ref 18), some (.ref 8), some (.int (nI n)), some (.int (nI start)), some (.int (nI part)), some (.int 1), some (.int (nI (start + 1))), some (.int (fig (tat l (F 9) (start + 1)))), some (.int (fig (tat l (F 9) ((start + 1) + 1)))), none]) (st2 := [.int (nI (start + 1))]) b_X1_faultOf_79_81 rfl (fun hd => ?_)
          have e : fairL l n (k + 1) part start F = (nI (start + 1), F) := by
            clear hd; simp only [fairL] <;> grind [fairP]
          exact R2.ret3 (r := some (.int (nI (start + 1)))) hd trivial rfl (by rw [e]) (by rw [e])
theorem b_X1_faultOf_0_5 : bl2 mX1_faultOf 0 [(.iconst 0, 1, 0, 0, .int 0), (.istore_n 3, 1, 3, 0, .null), (.iconst 0, 1, 0, 0, .int 0), (.istore 4, 2, 4, 0, .null)] 5 (.iload 4) 2 = true := by decide +kernel
set_option maxRecDepth 20000 in
set_option maxHeartbeats 1000000 in
theorem ev_fairFaultOf (E : EE) (L : Nat) (F : FF) (l n : Nat) (hl : l ≤ 60) (hn : n ≤ 10) (hlen : F 8 1 = nI l) : Ev3 E L 2 mX1_faultOf [.ref 18, .ref 8, .int (nI n)] F (some (.int (fairL l n 20 0 0 F).1)) (fairL l n 20 0 0 F).2 := by
  refine Ev3.of okX1_faultOf.2.2.1 (Nat.le_of_ble_eq_true rfl) ?_
  show R2 E L mX1_faultOf 2 0 [some (.ref 18), some (.ref 8), some (.int (nI n)), none, none, none, none, none, none, none] [] F _
  refine R2.B (ls2 := [some (.ref 18), some (.ref 8), some (.int (nI n)), some (.int 0), some (.int 0), none, none, none, none, none]) (st2 := []) b_X1_faultOf_0_5 rfl (fun hd => ?_)
  exact lp_fairF E L l n hl hn 20 0 0 F (by omega) (by omega) hlen
theorem b_X1_tell_0_2 : bl2 mX1_tell 0 [(.aload_n 0, 1, 0, 0, .null), (.iconst 0, 1, 0, 0, .int 0)] 2 (.putfield 22) 3 = true := by decide +kernel
theorem b_X1_tell_5_7 : bl2 mX1_tell 5 [(.aload_n 0, 1, 0, 0, .null), (.aload_n 1, 1, 1, 0, .null)] 7 (.invokevirtual 29) 3 = true := by decide +kernel
theorem b_X1_tell_10_10 : bl2 mX1_tell 10 [] 10 (.ifCond .ne 7) 3 = true := by decide +kernel
theorem b_X1_tell_17_20 : bl2 mX1_tell 17 [(.aload_n 0, 1, 0, 0, .null), (.aload_n 1, 1, 1, 0, .null), (.iload_n 2, 1, 2, 0, .null)] 20 (.invokevirtual 35) 3 = true := by decide +kernel
theorem b_X1_tell_23_23 : bl2 mX1_tell 23 [] 23 (.putfield 26) 3 = true := by decide +kernel
theorem b_X1_tell_26_31 : bl2 mX1_tell 26 [(.aload_n 0, 1, 0, 0, .null), (.getfield 26, 3, 1, 4, .null), (.iconst (-1), 1, 0, 0, .int (-1))] 31 (.if_icmp .eq 8) 3 = true := by decide +kernel
theorem b_X1_tell_39_39 : bl2 mX1_tell 39 [] 39 (.return_) 1 = true := by decide +kernel
theorem b_X1_tell_34_36 : bl2 mX1_tell 34 [(.aload_n 0, 1, 0, 0, .null), (.iconst 0, 1, 0, 0, .int 0)] 36 (.putfield 22) 3 = true := by decide +kernel
theorem b_X1_tell_13_23 : bl2 mX1_tell 13 [(.iconst (-1), 1, 0, 0, .int (-1)), (.goto 9, 3, 23, 0, .null)] 23 (.putfield 26) 3 = true := by decide +kernel
set_option maxRecDepth 20000 in
set_option maxHeartbeats 1000000 in
theorem ev_fairTell (E : EE) (L : Nat) (F : FF) (l n : Nat) (hl : l ≤ 60) (hn : n ≤ 10) (hlen : F 8 1 = nI l) : Ev3 E L 3 mX1_tell [.ref 18, .ref 8, .int (nI n)] F none (tfF F l n) := by
  refine Ev3.of okX1_tell.2.2.1 (Nat.le_of_ble_eq_true rfl) ?_
  show R2 E L mX1_tell 3 0 [some (.ref 18), some (.ref 8), some (.int (nI n))] [] F _
  refine R2.B (ls2 := [some (.ref 18), some (.ref 8), some (.int (nI n))]) (st2 := [.int 0, .ref 18]) b_X1_tell_0_2 rfl (fun hd => ?_)
  refine R2.putf (a := 1) (b := 3) hd (by decide) (by decide) rfl rfl (fun _ => rfl) ?_
  refine R2.B (ls2 := [some (.ref 18), some (.ref 8), some (.int (nI n))]) (st2 := [.ref 8, .ref 18]) b_X1_tell_5_7 rfl (fun hd => ?_)
  refine R2.callV3 (M2 := mX7_length) (As := []) (rest := [.ref 18]) hd lk_1_29 okX7_length (by decide) rfl (ev_length8 E L _) (by decide) rfl rfl (Nat.le_of_ble_eq_true rfl) ?_
  refine R2.top (show (F 8 1 : Int32) = nI l from hlen) ?_
  refine R2.B (ls2 := [some (.ref 18), some (.ref 8), some (.int (nI n))]) (st2 := [.int (nI l), .ref 18]) b_X1_tell_10_10 rfl (fun hd => ?_)
  refine R2.if_ne 17 hd (by decide) (fun c10 => ?_) (fun c10 => ?_)
  · have nc10 : ¬ l = 0 := fun h9 => c10 ((nI_eq (a := l) (b := 0) (by omega) (by omega)).mpr h9)
    refine R2.B (ls2 := [some (.ref 18), some (.ref 8), some (.int (nI n))]) (st2 := [.int (nI n), .ref 8, .ref 18, .ref 18]) b_X1_tell_17_20 rfl (fun hd => ?_)
    refine R2.callV3 (M2 := mX1_faultOf) (As := [.ref 8, .int (nI n)]) (rest := [.ref 18]) hd lk_1_35 okX1_faultOf (by decide) rfl (ev_fairFaultOf E L (up2 F 18 3 0) l n hl hn hlen) (by decide) rfl rfl (Nat.le_of_ble_eq_true rfl) ?_
    refine R2.B (ls2 := [some (.ref 18), some (.ref 8), some (.int (nI n))]) (st2 := [.int ((fairL l n 20 0 0 (up2 F 18 3 0)).1), .ref 18]) b_X1_tell_23_23 rfl (fun hd => ?_)
    refine R2.putf (a := 1) (b := 4) hd (by decide) (by decide) rfl rfl (fun _ => rfl) ?_
    refine R2.B (ls2 := [some (.ref 18), some (.ref 8), some (.int (nI n))]) (st2 := [.int (-1), .int ((fairL l n 20 0 0 (up2 F 18 3 0)).1)]) b_X1_tell_26_31 rfl (fun hd => ?_)
    refine R2.icmp_eq 39 hd (by decide) (fun c31 => ?_) (fun c31 => ?_)
    · refine R2.B (ls2 := [some (.ref 18), some (.ref 8), some (.int (nI n))]) (st2 := []) b_X1_tell_39_39 rfl (fun hd => ?_)
      exact R2.ret3 (r := none) hd trivial rfl rfl (by clear hd; unfold tfF; grind)
    · refine R2.B (ls2 := [some (.ref 18), some (.ref 8), some (.int (nI n))]) (st2 := [.int 0, .ref 18]) b_X1_tell_34_36 rfl (fun hd => ?_)
      refine R2.putf (a := 1) (b := 3) hd (by decide) (by decide) rfl rfl (fun _ => rfl) ?_
      refine R2.B (ls2 := [some (.ref 18), some (.ref 8), some (.int (nI n))]) (st2 := []) b_X1_tell_39_39 rfl (fun hd => ?_)
      exact R2.ret3 (r := none) hd trivial rfl rfl (by clear hd; unfold tfF; grind)
  · have nc10 : l = 0 := (nI_eq (a := l) (b := 0) (by omega) (by omega)).mp c10
    refine R2.B (ls2 := [some (.ref 18), some (.ref 8), some (.int (nI n))]) (st2 := [.int (-1), .ref 18]) b_X1_tell_13_23 rfl (fun hd => ?_)
    refine R2.putf (a := 1) (b := 4) hd (by decide) (by decide) rfl rfl (fun _ => rfl) ?_
    refine R2.B (ls2 := [some (.ref 18), some (.ref 8), some (.int (nI n))]) (st2 := [.int (-1), .int (-1)]) b_X1_tell_26_31 rfl (fun hd => ?_)
    refine R2.icmp_eq 39 hd (by decide) (fun c31 => ?_) (fun c31 => absurd (by decide) c31)
    refine R2.B (ls2 := [some (.ref 18), some (.ref 8), some (.int (nI n))]) (st2 := []) b_X1_tell_39_39 rfl (fun hd => ?_)
    exact R2.ret3 (r := none) hd trivial rfl rfl (by clear hd; unfold tfF; grind)
theorem b_X8_moves_0_10 : bl2 mX8_moves 0 [(.aload_n 0, 1, 0, 0, .null), (.getfield 29, 3, 8, 0, .null), (.aload_n 0, 1, 0, 0, .null), (.getfield 9, 3, 8, 1, .null), (.iload_n 1, 1, 1, 0, .null), (.iload_n 2, 1, 2, 0, .null)] 10 (.invokevirtual 64) 3 = true := by decide +kernel
theorem b_X8_moves_13_16 : bl2 mX8_moves 13 [(.istore_n 3, 1, 3, 0, .null), (.iload_n 3, 1, 3, 0, .null), (.iconst (-1), 1, 0, 0, .int (-1))] 16 (.if_icmp .ne 5) 3 = true := by decide +kernel
theorem b_X8_moves_21_27 : bl2 mX8_moves 21 [(.aload_n 0, 1, 0, 0, .null), (.getfield 9, 3, 8, 1, .null), (.iload_n 1, 1, 1, 0, .null), (.iload_n 3, 1, 3, 0, .null)] 27 (.iastore) 1 = true := by decide +kernel
theorem b_X8_moves_28_29 : bl2 mX8_moves 28 [(.iconst 1, 1, 0, 0, .int 1)] 29 (.ireturn) 1 = true := by decide +kernel
theorem b_X8_moves_19_20 : bl2 mX8_moves 19 [(.iconst 0, 1, 0, 0, .int 0)] 20 (.ireturn) 1 = true := by decide +kernel
set_option maxRecDepth 20000 in
set_option maxHeartbeats 1000000 in
theorem ev_moves (E : EE) (L : Nat) (F : FF) (hc : CST F) (n : Nat) (hn : F 10 5 = nI n) (hn10 : n ≤ 10) (p d : Nat) (hp : p < 10) (hd8 : d < 8) : Ev3 E L 4 mX8_moves [.ref 22, .int (nI p), .int (nI d)] F (some (.int (b2i (¬ movT F n p d = -1)))) (if movT F n p d = -1 then F else up2 F 23 p (movT F n p d)) := by
  refine Ev3.of okX8_moves.2.2.1 (Nat.le_of_ble_eq_true rfl) ?_
  show R2 E L mX8_moves 4 0 [some (.ref 22), some (.int (nI p)), some (.int (nI d)), none] [] F _
  refine R2.B (ls2 := [some (.ref 22), some (.int (nI p)), some (.int (nI d)), none]) (st2 := [.int (nI d), .int (nI p), .ref 23, .ref 16]) b_X8_moves_0_10 rfl (fun hd => ?_)
  refine R2.callV3 (M2 := mX2_lawfulStep) (As := [.ref 23, .int (nI p), .int (nI d)]) (rest := []) hd lk_8_64 okX2_lawfulStep (by decide) rfl (ev_lawfulStep E L F hc n hn hn10 23 rfl (fun _ => rfl) p d (by omega) (by omega)) (by decide) rfl rfl (Nat.le_of_ble_eq_true rfl) ?_
  refine R2.B (ls2 := [some (.ref 22), some (.int (nI p)), some (.int (nI d)), some (.int (lawS (F 23) p d ((F 17 2) * (F 17 2)) n))]) (st2 := [.int (-1), .int (lawS (F 23) p d ((F 17 2) * (F 17 2)) n)]) b_X8_moves_13_16 rfl (fun hd => ?_)
  refine R2.icmp_ne 21 hd (by decide) (fun c16 => ?_) (fun c16 => ?_)
  · refine R2.B (ls2 := [some (.ref 22), some (.int (nI p)), some (.int (nI d)), some (.int (lawS (F 23) p d ((F 17 2) * (F 17 2)) n))]) (st2 := [.int (lawS (F 23) p d ((F 17 2) * (F 17 2)) n), .int (nI p), .ref 23]) b_X8_moves_21_27 rfl (fun hd => ?_)
    refine R2.iast p rfl hd (by decide) rfl (fun _ => rfl) (by decide) (by omega) ?_
    refine R2.B (ls2 := [some (.ref 22), some (.int (nI p)), some (.int (nI d)), some (.int (lawS (F 23) p d ((F 17 2) * (F 17 2)) n))]) (st2 := [.int 1]) b_X8_moves_28_29 rfl (fun hd => ?_)
    exact R2.ret3 (r := some (.int 1)) hd (Or.inr rfl) rfl (congrArg (fun z => some (Value.int z)) (b2i_t (by clear hd; unfold movT; grind))) (by clear hd; unfold movT; grind)
  · refine R2.B (ls2 := [some (.ref 22), some (.int (nI p)), some (.int (nI d)), some (.int (lawS (F 23) p d ((F 17 2) * (F 17 2)) n))]) (st2 := [.int 0]) b_X8_moves_19_20 rfl (fun hd => ?_)
    exact R2.ret3 (r := some (.int 0)) hd (Or.inl rfl) rfl (congrArg (fun z => some (Value.int z)) (b2i_f (by clear hd; unfold movT; grind))) (by clear hd; unfold movT; grind)
theorem b_X8_strikes_0_5 : bl2 mX8_strikes 0 [(.aload_n 0, 1, 0, 0, .null), (.getfield 15, 3, 8, 2, .null), (.iload_n 1, 1, 1, 0, .null)] 5 (.baload) 1 = true := by decide +kernel
theorem b_X8_strikes_6_6 : bl2 mX8_strikes 6 [] 6 (.ifCond .ne 29) 3 = true := by decide +kernel
theorem b_X8_strikes_35_36 : bl2 mX8_strikes 35 [(.iconst 0, 1, 0, 0, .int 0)] 36 (.ireturn) 1 = true := by decide +kernel
theorem b_X8_strikes_9_14 : bl2 mX8_strikes 9 [(.aload_n 0, 1, 0, 0, .null), (.getfield 15, 3, 8, 2, .null), (.iload_n 2, 1, 2, 0, .null)] 14 (.baload) 1 = true := by decide +kernel
theorem b_X8_strikes_15_15 : bl2 mX8_strikes 15 [] 15 (.ifCond .ne 20) 3 = true := by decide +kernel
theorem b_X8_strikes_18_29 : bl2 mX8_strikes 18 [(.aload_n 0, 1, 0, 0, .null), (.getfield 29, 3, 8, 0, .null), (.aload_n 0, 1, 0, 0, .null), (.getfield 9, 3, 8, 1, .null), (.iload_n 1, 1, 1, 0, .null), (.iload_n 2, 1, 2, 0, .null), (.iconst (-1), 1, 0, 0, .int (-1))] 29 (.invokevirtual 68) 3 = true := by decide +kernel
theorem b_X8_strikes_32_32 : bl2 mX8_strikes 32 [] 32 (.ifCond .eq 5) 3 = true := by decide +kernel
theorem b_X8_strikes_37_43 : bl2 mX8_strikes 37 [(.aload_n 0, 1, 0, 0, .null), (.getfield 15, 3, 8, 2, .null), (.iload_n 1, 1, 1, 0, .null), (.iconst 1, 1, 0, 0, .int 1)] 43 (.bastore) 1 = true := by decide +kernel
theorem b_X8_strikes_44_50 : bl2 mX8_strikes 44 [(.aload_n 0, 1, 0, 0, .null), (.getfield 15, 3, 8, 2, .null), (.iload_n 2, 1, 2, 0, .null), (.iconst 1, 1, 0, 0, .int 1)] 50 (.bastore) 1 = true := by decide +kernel
theorem b_X8_strikes_51_58 : bl2 mX8_strikes 51 [(.aload_n 0, 1, 0, 0, .null), (.dup, 1, 0, 0, .null), (.getfield 23, 3, 8, 4, .null), (.iconst 1, 1, 0, 0, .int 1), (.iadd, 1, 0, 0, .null)] 58 (.putfield 23) 3 = true := by decide +kernel
theorem b_X8_strikes_61_75 : bl2 mX8_strikes 61 [(.aload_n 0, 1, 0, 0, .null), (.dup, 1, 0, 0, .null), (.getfield 26, 3, 8, 5, .null), (.aload_n 0, 1, 0, 0, .null), (.getfield 29, 3, 8, 0, .null), (.getfield 33, 3, 2, 0, .null), (.iload_n 1, 1, 1, 0, .null), (.iload_n 2, 1, 2, 0, .null)] 75 (.invokevirtual 72) 3 = true := by decide +kernel
theorem b_X8_strikes_78_79 : bl2 mX8_strikes 78 [(.iadd, 1, 0, 0, .null)] 79 (.putfield 26) 3 = true := by decide +kernel
theorem b_X8_strikes_82_83 : bl2 mX8_strikes 82 [(.iconst 1, 1, 0, 0, .int 1)] 83 (.ireturn) 1 = true := by decide +kernel
set_option maxRecDepth 20000 in
set_option maxHeartbeats 1000000 in
theorem ev_strikes (E : EE) (L : Nat) (F : FF) (n : Nat) (hn : F 10 5 = nI n) (hn10 : n ≤ 10) (a b : Nat) (ha : a < 10) (hb : b < 10) : Ev3 E L 5 mX8_strikes [.ref 22, .int (nI a), .int (nI b)] F (some (.int (b2i (strC F n a b)))) (if strC F n a b then strF F a b else F) := by
  refine Ev3.of okX8_strikes.2.2.1 (Nat.le_of_ble_eq_true rfl) ?_
  show R2 E L mX8_strikes 5 0 [some (.ref 22), some (.int (nI a)), some (.int (nI b))] [] F _
  refine R2.B (ls2 := [some (.ref 22), some (.int (nI a)), some (.int (nI b))]) (st2 := [.int (nI a), .ref 24]) b_X8_strikes_0_5 rfl (fun hd => ?_)
  refine R2.zald a rfl hd rfl (fun _ => rfl) (by decide) (by omega) ?_
  refine R2.B (ls2 := [some (.ref 22), some (.int (nI a)), some (.int (nI b))]) (st2 := [.int (F 24 a)]) b_X8_strikes_6_6 rfl (fun hd => ?_)
  refine R2.if_ne 35 hd (by decide) (fun c6 => ?_) (fun c6 => ?_)
  · refine R2.B (ls2 := [some (.ref 22), some (.int (nI a)), some (.int (nI b))]) (st2 := [.int 0]) b_X8_strikes_35_36 rfl (fun hd => ?_)
    exact R2.ret3 (r := some (.int 0)) hd (Or.inl rfl) rfl (congrArg (fun z => some (Value.int z)) (b2i_f (by clear hd; grind))) (by clear hd; unfold strF; grind)
  · refine R2.B (ls2 := [some (.ref 22), some (.int (nI a)), some (.int (nI b))]) (st2 := [.int (nI b), .ref 24]) b_X8_strikes_9_14 rfl (fun hd => ?_)
    refine R2.zald b rfl hd rfl (fun _ => rfl) (by decide) (by omega) ?_
    refine R2.B (ls2 := [some (.ref 22), some (.int (nI a)), some (.int (nI b))]) (st2 := [.int (F 24 b)]) b_X8_strikes_15_15 rfl (fun hd => ?_)
    refine R2.if_ne 35 hd (by decide) (fun c15 => ?_) (fun c15 => ?_)
    · refine R2.B (ls2 := [some (.ref 22), some (.int (nI a)), some (.int (nI b))]) (st2 := [.int 0]) b_X8_strikes_35_36 rfl (fun hd => ?_)
      exact R2.ret3 (r := some (.int 0)) hd (Or.inl rfl) rfl (congrArg (fun z => some (Value.int z)) (b2i_f (by clear hd; grind))) (by clear hd; unfold strF; grind)
    · refine R2.B (ls2 := [some (.ref 22), some (.int (nI a)), some (.int (nI b))]) (st2 := [.int (-1), .int (nI b), .int (nI a), .ref 23, .ref 16]) b_X8_strikes_18_29 rfl (fun hd => ?_)
      refine R2.callV3 (M2 := mX2_verdict) (As := [.ref 23, .int (nI a), .int (nI b), .int (-1)]) (rest := []) hd lk_8_68 okX2_verdict (by decide) rfl (ev_verdict E L F n hn hn10 23 rfl (fun _ => rfl) a b (-1) (by omega) (by omega)) (by decide) rfl rfl (Nat.le_of_ble_eq_true rfl) ?_
      refine R2.B (ls2 := [some (.ref 22), some (.int (nI a)), some (.int (nI b))]) (st2 := [.int (cvd F (F 23) n (F 17 0) (-1) a b)]) b_X8_strikes_32_32 rfl (fun hd => ?_)
      refine R2.if_eq 37 hd (by decide) (fun c32 => ?_) (fun c32 => ?_)
      · refine R2.B (ls2 := [some (.ref 22), some (.int (nI a)), some (.int (nI b))]) (st2 := [.int 1, .int (nI a), .ref 24]) b_X8_strikes_37_43 rfl (fun hd => ?_)
        refine R2.zast a rfl hd (by decide) rfl (fun _ => rfl) (by decide) (by omega) (by decide) ?_
        refine R2.B (ls2 := [some (.ref 22), some (.int (nI a)), some (.int (nI b))]) (st2 := [.int 1, .int (nI b), .ref 24]) b_X8_strikes_44_50 rfl (fun hd => ?_)
        refine R2.zast b rfl hd (by decide) rfl (fun _ => rfl) (by decide) (by omega) (by decide) ?_
        refine R2.B (ls2 := [some (.ref 22), some (.int (nI a)), some (.int (nI b))]) (st2 := [.int ((F 22 4) + 1), .ref 22]) b_X8_strikes_51_58 rfl (fun hd => ?_)
        refine R2.putf (a := 8) (b := 4) hd (by decide) (by decide) rfl rfl (fun _ => rfl) ?_
        refine R2.B (ls2 := [some (.ref 22), some (.int (nI a)), some (.int (nI b))]) (st2 := [.int (nI b), .int (nI a), .ref 10, .int (F 22 5), .ref 22]) b_X8_strikes_61_75 rfl (fun hd => ?_)
        refine R2.callV3 (M2 := mX0_gain) (As := [.int (nI a), .int (nI b)]) (rest := [.int (F 22 5), .ref 22]) hd lk_8_72 okX0_gain (by decide) rfl (ev_gain E L (up2 (up2 (up2 F 24 a 1) 24 b 1) 22 4 ((F 22 4) + 1)) a b (by omega) (by omega)) (by decide) rfl rfl (Nat.le_of_ble_eq_true rfl) ?_
        refine R2.B (ls2 := [some (.ref 22), some (.int (nI a)), some (.int (nI b))]) (st2 := [.int ((F 22 5) + (gan (F 11) (F 13) a b)), .ref 22]) b_X8_strikes_78_79 rfl (fun hd => ?_)
        refine R2.putf (a := 8) (b := 5) hd (by decide) (by decide) rfl rfl (fun _ => rfl) ?_
        refine R2.B (ls2 := [some (.ref 22), some (.int (nI a)), some (.int (nI b))]) (st2 := [.int 1]) b_X8_strikes_82_83 rfl (fun hd => ?_)
        exact R2.ret3 (r := some (.int 1)) hd (Or.inr rfl) rfl (congrArg (fun z => some (Value.int z)) (b2i_t (by clear hd; grind))) (by clear hd; unfold strF; grind)
      · refine R2.B (ls2 := [some (.ref 22), some (.int (nI a)), some (.int (nI b))]) (st2 := [.int 0]) b_X8_strikes_35_36 rfl (fun hd => ?_)
        exact R2.ret3 (r := some (.int 0)) hd (Or.inl rfl) rfl (congrArg (fun z => some (Value.int z)) (b2i_f (by clear hd; grind))) (by clear hd; unfold strF; grind)
theorem b_X8_result_0_1 : bl2 mX8_result 0 [(.iload_n 1, 1, 1, 0, .null)] 1 (.ifCond .ne 10) 3 = true := by decide +kernel
theorem b_X8_result_11_13 : bl2 mX8_result 11 [(.iload_n 1, 1, 1, 0, .null), (.iconst 1, 1, 0, 0, .int 1)] 13 (.if_icmp .ne 10) 3 = true := by decide +kernel
theorem b_X8_result_23_27 : bl2 mX8_result 23 [(.aload_n 0, 1, 0, 0, .null), (.getfield 26, 3, 8, 5, .null)] 27 (.ireturn) 1 = true := by decide +kernel
theorem b_X8_result_16_27 : bl2 mX8_result 16 [(.aload_n 0, 1, 0, 0, .null), (.getfield 23, 3, 8, 4, .null), (.goto 7, 3, 27, 0, .null)] 27 (.ireturn) 1 = true := by decide +kernel
theorem b_X8_result_4_27 : bl2 mX8_result 4 [(.aload_n 0, 1, 0, 0, .null), (.getfield 19, 3, 8, 3, .null), (.goto 19, 3, 27, 0, .null)] 27 (.ireturn) 1 = true := by decide +kernel
set_option maxRecDepth 20000 in
set_option maxHeartbeats 1000000 in
theorem ev_result (E : EE) (L : Nat) (F : FF) (x : Int32) : Ev3 E L 1 mX8_result [.ref 22, .int x] F (some (.int (if x = 0 then F 22 3 else if x = 1 then F 22 4 else F 22 5))) F := by
  refine Ev3.of okX8_result.2.2.1 (Nat.le_of_ble_eq_true rfl) ?_
  show R2 E L mX8_result 1 0 [some (.ref 22), some (.int x)] [] F _
  refine R2.B (ls2 := [some (.ref 22), some (.int x)]) (st2 := [.int x]) b_X8_result_0_1 rfl (fun hd => ?_)
  refine R2.if_ne 11 hd (by decide) (fun c1 => ?_) (fun c1 => ?_)
  · refine R2.B (ls2 := [some (.ref 22), some (.int x)]) (st2 := [.int 1, .int x]) b_X8_result_11_13 rfl (fun hd => ?_)
    refine R2.icmp_ne 23 hd (by decide) (fun c13 => ?_) (fun c13 => ?_)
    · refine R2.B (ls2 := [some (.ref 22), some (.int x)]) (st2 := [.int (F 22 5)]) b_X8_result_23_27 rfl (fun hd => ?_)
      exact R2.ret3 (r := some (.int (F 22 5))) hd trivial rfl (congrArg (fun z => some (Value.int z)) (by clear hd; grind)) rfl
    · refine R2.B (ls2 := [some (.ref 22), some (.int x)]) (st2 := [.int (F 22 4)]) b_X8_result_16_27 rfl (fun hd => ?_)
      exact R2.ret3 (r := some (.int (F 22 4))) hd trivial rfl (congrArg (fun z => some (Value.int z)) (by clear hd; grind)) rfl
  · refine R2.B (ls2 := [some (.ref 22), some (.int x)]) (st2 := [.int (F 22 3)]) b_X8_result_4_27 rfl (fun hd => ?_)
    exact R2.ret3 (r := some (.int (F 22 3))) hd trivial rfl (congrArg (fun z => some (Value.int z)) (by clear hd; grind)) rfl
