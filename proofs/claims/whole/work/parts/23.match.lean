/-! Match. Printed by wip/whole/gen/spec8.py. -/
def keepF (F : FF) (made gained : Int32) : FF := if F 25 4 < made ∨ (made = F 25 4 ∧ F 25 5 < gained) then cpyF (up2 (up2 F 25 4 made) 25 5 gained) 27 28 0 0 10 else F
def qfold (body : Nat → FF → FF) : Nat → Nat → FF → FF
  | 0, _, F => F
  | j + 1, q, F => qfold body j (q + 1) (body q F)
def chB (rc : Int32 → Int32 → Int32 → FF → FF) (p : Nat) (free made gained : Int32) (q : Nat) (F : FF) : FF :=
  if F 27 q = -1 ∧ ¬ F 26 (p * 10 + q) = 0 then
    up2 (up2 (rc (free - 2) (made + 1) (gained + gan (F 11) (F 13) p q) (up2 (up2 F 27 p (nI q)) 27 q (nI p))) 27 p (-1)) 27 q (-1)
  else F
def chF : Nat → Nat → Int32 → Int32 → Int32 → FF → FF
  | 0, _, free, made, gained, F => if made + free / 2 < F 25 4 then F else keepF F made gained
  | k + 1, p, free, made, gained, F =>
    if made + free / 2 < F 25 4 then F
    else if F 27 p = -1 then chF k (p + 1) (free - 1) made gained (qfold (chB (chF k (p + 1)) p free made gained) k (p + 1) F)
    else chF k (p + 1) free made gained F
def slI (n a : Nat) : Nat → Nat → FF → FF
  | 0, _, F => F
  | k + 1, b, F => slI n a k (b + 1) (up2 F 26 (a * 10 + b) (if cvd F (F 15) n (F 17 0) (-1) a b = 0 then 1 else 0))
def slO (n : Nat) : Nat → Nat → FF → FF
  | 0, _, F => F
  | k + 1, a, F => slO n k (a + 1) (slI n a (n - (a + 1)) (a + 1) (up2 F 27 a (-1)))
def solF (F : FF) (n : Nat) : FF := chF n 0 (nI n) 0 0 (up2 (up2 (slO n n 0 F) 25 4 (-1)) 25 5 (-1))
theorem keepF_row {F : FF} {x y : Int32} {a : Nat} (h1 : a ≠ 25) (h3 : a ≠ 28) : keepF F x y a = F a := by
  unfold keepF; split
  · funext j; simp [cpyF, up2, h1, h3]
  · rfl
theorem qfold_row {body : Nat → FF → FF} {a : Nat} (hb : ∀ q F, body q F a = F a) : ∀ (j q : Nat) (F : FF), qfold body j q F a = F a
  | 0, _, _ => rfl
  | j + 1, q, F => by rw [qfold, qfold_row hb j (q + 1), hb]
theorem chF_row {a : Nat} (h1 : a ≠ 25) (h2 : a ≠ 27) (h3 : a ≠ 28) : ∀ (k p : Nat) (free made gained : Int32) (F : FF), chF k p free made gained F a = F a
  | 0, _, free, made, gained, F => by
    simp only [chF]; split
    · rfl
    · exact keepF_row h1 h3
  | k + 1, p, free, made, gained, F => by
    simp only [chF]; split
    · rfl
    · split
      · rw [chF_row h1 h2 h3 k]
        refine qfold_row (fun q F => ?_) _ _ _
        unfold chB; split
        · funext j
          simp only [up2, h2, if_false]
          rw [chF_row h1 h2 h3 k]
          simp [up2, h2]
        · rfl
      · exact chF_row h1 h2 h3 k _ _ _ _ _
theorem slI_row {n a0 : Nat} {a : Nat} (h1 : a ≠ 26) : ∀ (k b : Nat) (F : FF), slI n a0 k b F a = F a
  | 0, _, _ => rfl
  | k + 1, b, F => by rw [slI, slI_row h1 k]; funext j; simp [up2, h1]
theorem slO_row {n : Nat} {a : Nat} (h1 : a ≠ 26) (h2 : a ≠ 27) : ∀ (k b : Nat) (F : FF), slO n k b F a = F a
  | 0, _, _ => rfl
  | k + 1, b, F => by rw [slO, slO_row h1 h2 k, slI_row h1]; funext j; simp [up2, h2]
theorem b_X3_keepIfBetter_0_5 : bl2 mX3_keepIfBetter 0 [(.iload_n 1, 1, 1, 0, .null), (.aload_n 0, 1, 0, 0, .null), (.getfield 22, 3, 3, 4, .null)] 5 (.if_icmp .gt 19) 3 = true := by decide +kernel
theorem b_X3_keepIfBetter_24_26 : bl2 mX3_keepIfBetter 24 [(.aload_n 0, 1, 0, 0, .null), (.iload_n 1, 1, 1, 0, .null)] 26 (.putfield 22) 3 = true := by decide +kernel
theorem b_X3_keepIfBetter_29_31 : bl2 mX3_keepIfBetter 29 [(.aload_n 0, 1, 0, 0, .null), (.iload_n 2, 1, 2, 0, .null)] 31 (.putfield 26) 3 = true := by decide +kernel
theorem b_X3_keepIfBetter_34_46 : bl2 mX3_keepIfBetter 34 [(.aload_n 0, 1, 0, 0, .null), (.getfield 15, 3, 3, 2, .null), (.iconst 0, 1, 0, 0, .int 0), (.aload_n 0, 1, 0, 0, .null), (.getfield 19, 3, 3, 3, .null), (.iconst 0, 1, 0, 0, .int 0), (.bipush 10, 2, 0, 0, .int 10)] 46 (.invokestatic 63) 3 = true := by decide +kernel
theorem b_X3_keepIfBetter_49_49 : bl2 mX3_keepIfBetter 49 [] 49 (.return_) 1 = true := by decide +kernel
theorem b_X3_keepIfBetter_8_13 : bl2 mX3_keepIfBetter 8 [(.iload_n 1, 1, 1, 0, .null), (.aload_n 0, 1, 0, 0, .null), (.getfield 22, 3, 3, 4, .null)] 13 (.if_icmp .ne 36) 3 = true := by decide +kernel
theorem b_X3_keepIfBetter_16_21 : bl2 mX3_keepIfBetter 16 [(.iload_n 2, 1, 2, 0, .null), (.aload_n 0, 1, 0, 0, .null), (.getfield 26, 3, 3, 5, .null)] 21 (.if_icmp .le 28) 3 = true := by decide +kernel
set_option maxRecDepth 20000 in
set_option maxHeartbeats 1000000 in
theorem ev_keepIfBetter (E : EE) (L : Nat) (F : FF) (x y : Int32) : Ev3 E L 2 mX3_keepIfBetter [.ref 25, .int x, .int y] F none (keepF F x y) := by
  refine Ev3.of okX3_keepIfBetter.2.2.1 (Nat.le_of_ble_eq_true rfl) ?_
  show R2 E L mX3_keepIfBetter 2 0 [some (.ref 25), some (.int x), some (.int y)] [] F _
  refine R2.B (ls2 := [some (.ref 25), some (.int x), some (.int y)]) (st2 := [.int (F 25 4), .int x]) b_X3_keepIfBetter_0_5 rfl (fun hd => ?_)
  refine R2.icmp_gt 24 hd (by decide) (fun c5 => ?_) (fun c5 => ?_)
  · refine R2.B (ls2 := [some (.ref 25), some (.int x), some (.int y)]) (st2 := [.int x, .ref 25]) b_X3_keepIfBetter_24_26 rfl (fun hd => ?_)
    refine R2.putf (a := 3) (b := 4) hd (by decide) (by decide) rfl rfl (fun _ => rfl) ?_
    refine R2.B (ls2 := [some (.ref 25), some (.int x), some (.int y)]) (st2 := [.int y, .ref 25]) b_X3_keepIfBetter_29_31 rfl (fun hd => ?_)
    refine R2.putf (a := 3) (b := 5) hd (by decide) (by decide) rfl rfl (fun _ => rfl) ?_
    refine R2.B (ls2 := [some (.ref 25), some (.int x), some (.int y)]) (st2 := [.int 10, .int 0, .ref 28, .int 0, .ref 27]) b_X3_keepIfBetter_34_46 rfl (fun hd => ?_)
    refine R2.acopy (sp := 0) (dp := 0) (n := 10) rfl rfl rfl hd ac_3_63 (by decide) (by decide) rfl rfl (fun _ => rfl) (fun _ => rfl) (by decide) (by decide) (by decide) (by decide) (by decide) (Nat.le_of_ble_eq_true rfl) ?_
    refine R2.B (ls2 := [some (.ref 25), some (.int x), some (.int y)]) (st2 := []) b_X3_keepIfBetter_49_49 rfl (fun hd => ?_)
    exact R2.ret3 (r := none) hd trivial rfl rfl (by clear hd; unfold keepF; grind)
  · refine R2.B (ls2 := [some (.ref 25), some (.int x), some (.int y)]) (st2 := [.int (F 25 4), .int x]) b_X3_keepIfBetter_8_13 rfl (fun hd => ?_)
    refine R2.icmp_ne 49 hd (by decide) (fun c13 => ?_) (fun c13 => ?_)
    · refine R2.B (ls2 := [some (.ref 25), some (.int x), some (.int y)]) (st2 := []) b_X3_keepIfBetter_49_49 rfl (fun hd => ?_)
      exact R2.ret3 (r := none) hd trivial rfl rfl (by clear hd; unfold keepF; grind)
    · refine R2.B (ls2 := [some (.ref 25), some (.int x), some (.int y)]) (st2 := [.int (F 25 5), .int y]) b_X3_keepIfBetter_16_21 rfl (fun hd => ?_)
      refine R2.icmp_le 49 hd (by decide) (fun c21 => ?_) (fun c21 => ?_)
      · refine R2.B (ls2 := [some (.ref 25), some (.int x), some (.int y)]) (st2 := []) b_X3_keepIfBetter_49_49 rfl (fun hd => ?_)
        exact R2.ret3 (r := none) hd trivial rfl rfl (by clear hd; unfold keepF; grind)
      · refine R2.B (ls2 := [some (.ref 25), some (.int x), some (.int y)]) (st2 := [.int x, .ref 25]) b_X3_keepIfBetter_24_26 rfl (fun hd => ?_)
        refine R2.putf (a := 3) (b := 4) hd (by decide) (by decide) rfl rfl (fun _ => rfl) ?_
        refine R2.B (ls2 := [some (.ref 25), some (.int x), some (.int y)]) (st2 := [.int y, .ref 25]) b_X3_keepIfBetter_29_31 rfl (fun hd => ?_)
        refine R2.putf (a := 3) (b := 5) hd (by decide) (by decide) rfl rfl (fun _ => rfl) ?_
        refine R2.B (ls2 := [some (.ref 25), some (.int x), some (.int y)]) (st2 := [.int 10, .int 0, .ref 28, .int 0, .ref 27]) b_X3_keepIfBetter_34_46 rfl (fun hd => ?_)
        refine R2.acopy (sp := 0) (dp := 0) (n := 10) rfl rfl rfl hd ac_3_63 (by decide) (by decide) rfl rfl (fun _ => rfl) (fun _ => rfl) (by decide) (by decide) (by decide) (by decide) (by decide) (Nat.le_of_ble_eq_true rfl) ?_
        refine R2.B (ls2 := [some (.ref 25), some (.int x), some (.int y)]) (st2 := []) b_X3_keepIfBetter_49_49 rfl (fun hd => ?_)
        exact R2.ret3 (r := none) hd trivial rfl rfl (by clear hd; unfold keepF; grind)
theorem b_X3_choose_0_3 : bl2 mX3_choose 0 [(.iload_n 3, 1, 3, 0, .null), (.iload_n 2, 1, 2, 0, .null), (.iconst 2, 1, 0, 0, .int 2)] 3 (.idiv) 1 = true := by decide +kernel
theorem b_X3_choose_4_9 : bl2 mX3_choose 4 [(.iadd, 1, 0, 0, .null), (.aload_n 0, 1, 0, 0, .null), (.getfield 22, 3, 3, 4, .null)] 9 (.if_icmp .ge 4) 3 = true := by decide +kernel
theorem b_X3_choose_13_28 : bl2 mX3_choose 13 [(.aload_n 0, 1, 0, 0, .null), (.getfield 29, 3, 3, 0, .null), (.getfield 33, 3, 2, 0, .null), (.getfield 39, 3, 0, 5, .null), (.istore 5, 2, 5, 0, .null), (.iload_n 1, 1, 1, 0, .null), (.iload 5, 2, 5, 0, .null)] 28 (.if_icmp .lt 11) 3 = true := by decide +kernel
theorem b_X3_choose_31_35 : bl2 mX3_choose 31 [(.aload_n 0, 1, 0, 0, .null), (.iload_n 3, 1, 3, 0, .null), (.iload 4, 2, 4, 0, .null)] 35 (.invokevirtual 55) 3 = true := by decide +kernel
theorem b_X3_choose_38_38 : bl2 mX3_choose 38 [] 38 (.return_) 1 = true := by decide +kernel
theorem b_X3_choose_12_12 : bl2 mX3_choose 12 [] 12 (.return_) 1 = true := by decide +kernel
theorem b_X3_choose_39_44 : bl2 mX3_choose 39 [(.aload_n 0, 1, 0, 0, .null), (.getfield 15, 3, 3, 2, .null), (.iload_n 1, 1, 1, 0, .null)] 44 (.iaload) 1 = true := by decide +kernel
theorem b_X3_choose_45_46 : bl2 mX3_choose 45 [(.iconst (-1), 1, 0, 0, .int (-1))] 46 (.if_icmp .eq 15) 3 = true := by decide +kernel
theorem b_X3_choose_61_66 : bl2 mX3_choose 61 [(.iload_n 1, 1, 1, 0, .null), (.iconst 1, 1, 0, 0, .int 1), (.iadd, 1, 0, 0, .null), (.istore 6, 2, 6, 0, .null)] 66 (.iload 6) 2 = true := by decide +kernel
theorem b_X3_choose_165_175 : bl2 mX3_choose 165 [(.aload_n 0, 1, 0, 0, .null), (.iload_n 1, 1, 1, 0, .null), (.iconst 1, 1, 0, 0, .int 1), (.iadd, 1, 0, 0, .null), (.iload_n 2, 1, 2, 0, .null), (.iconst 1, 1, 0, 0, .int 1), (.isub, 1, 0, 0, .null), (.iload_n 3, 1, 3, 0, .null), (.iload 4, 2, 4, 0, .null)] 175 (.invokevirtual 51) 3 = true := by decide +kernel
theorem b_X3_choose_178_178 : bl2 mX3_choose 178 [] 178 (.return_) 1 = true := by decide +kernel
theorem b_X3_choose_49_57 : bl2 mX3_choose 49 [(.aload_n 0, 1, 0, 0, .null), (.iload_n 1, 1, 1, 0, .null), (.iconst 1, 1, 0, 0, .int 1), (.iadd, 1, 0, 0, .null), (.iload_n 2, 1, 2, 0, .null), (.iload_n 3, 1, 3, 0, .null), (.iload 4, 2, 4, 0, .null)] 57 (.invokevirtual 51) 3 = true := by decide +kernel
theorem b_X3_choose_60_60 : bl2 mX3_choose 60 [] 60 (.return_) 1 = true := by decide +kernel
theorem b_X3_choose_66_70 : bl2 mX3_choose 66 [(.iload 6, 2, 6, 0, .null), (.iload 5, 2, 5, 0, .null)] 70 (.if_icmp .ge 95) 3 = true := by decide +kernel
theorem b_X3_choose_165_165 : bl2 mX3_choose 165 [] 165 (.aload_n 0) 1 = true := by decide +kernel
theorem b_X3_choose_73_79 : bl2 mX3_choose 73 [(.aload_n 0, 1, 0, 0, .null), (.getfield 15, 3, 3, 2, .null), (.iload 6, 2, 6, 0, .null)] 79 (.iaload) 1 = true := by decide +kernel
theorem b_X3_choose_80_81 : bl2 mX3_choose 80 [(.iconst (-1), 1, 0, 0, .int (-1))] 81 (.if_icmp .ne 78) 3 = true := by decide +kernel
theorem b_X3_choose_159_66 : bl2 mX3_choose 159 [(.iinc 6 1, 3, 6, 0, .int 1), (.goto (-96), 3, 66, 0, .null)] 66 (.iload 6) 2 = true := by decide +kernel
theorem b_X3_choose_84_95 : bl2 mX3_choose 84 [(.aload_n 0, 1, 0, 0, .null), (.getfield 9, 3, 3, 1, .null), (.iload_n 1, 1, 1, 0, .null), (.bipush 10, 2, 0, 0, .int 10), (.imul, 1, 0, 0, .null), (.iload 6, 2, 6, 0, .null), (.iadd, 1, 0, 0, .null)] 95 (.baload) 1 = true := by decide +kernel
theorem b_X3_choose_96_96 : bl2 mX3_choose 96 [] 96 (.ifCond .eq 63) 3 = true := by decide +kernel
theorem b_X3_choose_99_106 : bl2 mX3_choose 99 [(.aload_n 0, 1, 0, 0, .null), (.getfield 15, 3, 3, 2, .null), (.iload_n 1, 1, 1, 0, .null), (.iload 6, 2, 6, 0, .null)] 106 (.iastore) 1 = true := by decide +kernel
theorem b_X3_choose_107_114 : bl2 mX3_choose 107 [(.aload_n 0, 1, 0, 0, .null), (.getfield 15, 3, 3, 2, .null), (.iload 6, 2, 6, 0, .null), (.iload_n 1, 1, 1, 0, .null)] 114 (.iastore) 1 = true := by decide +kernel
theorem b_X3_choose_115_137 : bl2 mX3_choose 115 [(.aload_n 0, 1, 0, 0, .null), (.iload_n 1, 1, 1, 0, .null), (.iconst 1, 1, 0, 0, .int 1), (.iadd, 1, 0, 0, .null), (.iload_n 2, 1, 2, 0, .null), (.iconst 2, 1, 0, 0, .int 2), (.isub, 1, 0, 0, .null), (.iload_n 3, 1, 3, 0, .null), (.iconst 1, 1, 0, 0, .int 1), (.iadd, 1, 0, 0, .null), (.iload 4, 2, 4, 0, .null), (.aload_n 0, 1, 0, 0, .null), (.getfield 29, 3, 3, 0, .null), (.getfield 33, 3, 2, 0, .null), (.iload_n 1, 1, 1, 0, .null), (.iload 6, 2, 6, 0, .null)] 137 (.invokevirtual 59) 3 = true := by decide +kernel
theorem b_X3_choose_140_141 : bl2 mX3_choose 140 [(.iadd, 1, 0, 0, .null)] 141 (.invokevirtual 51) 3 = true := by decide +kernel
theorem b_X3_choose_144_150 : bl2 mX3_choose 144 [(.aload_n 0, 1, 0, 0, .null), (.getfield 15, 3, 3, 2, .null), (.iload_n 1, 1, 1, 0, .null), (.iconst (-1), 1, 0, 0, .int (-1))] 150 (.iastore) 1 = true := by decide +kernel
theorem b_X3_choose_151_158 : bl2 mX3_choose 151 [(.aload_n 0, 1, 0, 0, .null), (.getfield 15, 3, 3, 2, .null), (.iload 6, 2, 6, 0, .null), (.iconst (-1), 1, 0, 0, .int (-1))] 158 (.iastore) 1 = true := by decide +kernel
set_option maxRecDepth 20000 in
set_option maxHeartbeats 2000000 in
theorem ev_choose (E : EE) (L : Nat) (n : Nat) (hn10 : n ≤ 10) : ∀ (k p : Nat) (free made gained : Int32) (F : FF), p + k = n → F 10 5 = nI n → Ev3 E L (3 + k) mX3_choose [.ref 25, .int (nI p), .int free, .int made, .int gained] F none (chF k p free made gained F) := by
  intro k
  induction k with
  | zero =>
    intro p free made gained F hi h5
    refine Ev3.of okX3_choose.2.2.1 (Nat.le_of_ble_eq_true rfl) ?_
    show R2 E L mX3_choose (3 + 0) 0 [some (.ref 25), some (.int (nI p)), some (.int free), some (.int made), some (.int gained), none, none] [] F _
    refine R2.B (ls2 := [some (.ref 25), some (.int (nI p)), some (.int free), some (.int made), some (.int gained), none, none]) (st2 := [.int 2, .int free, .int made]) b_X3_choose_0_3 rfl (fun hd => ?_)
    refine R2.idiv hd (by decide) ?_
    refine R2.B (ls2 := [some (.ref 25), some (.int (nI p)), some (.int free), some (.int made), some (.int gained), none, none]) (st2 := [.int (F 25 4), .int (made + (free / 2))]) b_X3_choose_4_9 rfl (fun hd => ?_)
    refine R2.icmp_ge 13 hd (by decide) (fun c9 => ?_) (fun c9 => ?_)
    · refine R2.B (ls2 := [some (.ref 25), some (.int (nI p)), some (.int free), some (.int made), some (.int gained), some (.int (F 10 5)), none]) (st2 := [.int (F 10 5), .int (nI p)]) b_X3_choose_13_28 rfl (fun hd => ?_)
      rw [show (F 10 5 : Int32) = nI n from h5]
      refine R2.icmp_lt 39 hd (by decide) (fun c28 => absurd c28 (nI_nlt (by omega) (by omega))) (fun c28 => ?_)
      refine R2.B (ls2 := [some (.ref 25), some (.int (nI p)), some (.int free), some (.int made), some (.int gained), some (.int (nI n)), none]) (st2 := [.int gained, .int made, .ref 25]) b_X3_choose_31_35 rfl (fun hd => ?_)
      refine R2.callV3 (M2 := mX3_keepIfBetter) (As := [.int made, .int gained]) (rest := []) hd lk_3_55 okX3_keepIfBetter (by decide) rfl (ev_keepIfBetter E L F made gained) (by omega) rfl rfl (Nat.le_of_ble_eq_true rfl) ?_
      refine R2.B (ls2 := [some (.ref 25), some (.int (nI p)), some (.int free), some (.int made), some (.int gained), some (.int (nI n)), none]) (st2 := []) b_X3_choose_38_38 rfl (fun hd => ?_)
      exact R2.ret3 (r := none) hd trivial rfl rfl (by simp only [chF]; rw [if_neg (Int32.not_lt.mpr c9)])
    · refine R2.B (ls2 := [some (.ref 25), some (.int (nI p)), some (.int free), some (.int made), some (.int gained), none, none]) (st2 := []) b_X3_choose_12_12 rfl (fun hd => ?_)
      exact R2.ret3 (r := none) hd trivial rfl rfl (by simp only [chF]; rw [if_pos (Int32.not_le.mp c9)])
  | succ k ih =>
    intro p free made gained F hi h5
    have inner : ∀ (j q : Nat) (F : FF) (Q : Q2), q + j = n → p < q → F 10 5 = nI n → R2 E L mX3_choose (3 + (k + 1)) 165 [some (.ref 25), some (.int (nI p)), some (.int free), some (.int made), some (.int gained), some (.int (nI n)), none] [] (qfold (chB (chF k (p + 1)) p free made gained) j q F) Q → R2 E L mX3_choose (3 + (k + 1)) 66 [some (.ref 25), some (.int (nI p)), some (.int free), some (.int made), some (.int gained), some (.int (nI n)), some (.int (nI q))] [] F Q := by
      intro j
      induction j with
      | zero =>
        intro q F Q hi2 hpq h5 ex
        refine R2.B (ls2 := [some (.ref 25), some (.int (nI p)), some (.int free), some (.int made), some (.int gained), some (.int (nI n)), some (.int (nI q))]) (st2 := [.int (nI n), .int (nI q)]) b_X3_choose_66_70 rfl (fun hd => ?_)
        refine R2.icmp_ge 165 hd (by decide) (fun c70 => ?_) (fun c70 => absurd (nI_le (by omega) (by omega)) c70)
        refine R2.B (ls2 := [some (.ref 25), some (.int (nI p)), some (.int free), some (.int made), some (.int gained), some (.int (nI n)), some (.int (nI q))]) (st2 := []) b_X3_choose_165_165 rfl (fun hd => ?_)
        refine R2.forget (ls2 := [some (.ref 25), some (.int (nI p)), some (.int free), some (.int made), some (.int gained), some (.int (nI n)), none]) ⟨rfl, ⟨rfl, ⟨rfl, ⟨rfl, ⟨rfl, ⟨rfl, trivial⟩⟩⟩⟩⟩⟩ ?_
        exact ex
      | succ j jh =>
        intro q F Q hi2 hpq h5 ex
        refine R2.B (ls2 := [some (.ref 25), some (.int (nI p)), some (.int free), some (.int made), some (.int gained), some (.int (nI n)), some (.int (nI q))]) (st2 := [.int (nI n), .int (nI q)]) b_X3_choose_66_70 rfl (fun hd => ?_)
        refine R2.icmp_ge 165 hd (by decide) (fun c70 => absurd c70 (nI_ge (by omega) (by omega))) (fun c70 => ?_)
        refine R2.B (ls2 := [some (.ref 25), some (.int (nI p)), some (.int free), some (.int made), some (.int gained), some (.int (nI n)), some (.int (nI q))]) (st2 := [.int (nI q), .ref 27]) b_X3_choose_73_79 rfl (fun hd => ?_)
        refine R2.iald q rfl hd rfl (fun _ => rfl) (by decide) (by omega) ?_
        refine R2.B (ls2 := [some (.ref 25), some (.int (nI p)), some (.int free), some (.int made), some (.int gained), some (.int (nI n)), some (.int (nI q))]) (st2 := [.int (-1), .int (F 27 q)]) b_X3_choose_80_81 rfl (fun hd => ?_)
        refine R2.icmp_ne 159 hd (by decide) (fun c81 => ?_) (fun c81 => ?_)
        · refine R2.B (ls2 := [some (.ref 25), some (.int (nI p)), some (.int free), some (.int made), some (.int gained), some (.int (nI n)), some (.int ((nI q) + 1))]) (st2 := []) b_X3_choose_159_66 rfl (fun hd => ?_)
          rw [show ((nI q) + 1 : Int32) = nI (q + 1) from nI_add q 1]
          have e : qfold (chB (chF k (p + 1)) p free made gained) (j + 1) q F = qfold (chB (chF k (p + 1)) p free made gained) j (q + 1) F := by
            simp only [qfold, chB]; rw [if_neg (by clear hd; grind)]
          rw [e] at ex
          exact jh (q + 1) F Q (by omega) (by omega) h5 ex
        · refine R2.B (ls2 := [some (.ref 25), some (.int (nI p)), some (.int free), some (.int made), some (.int gained), some (.int (nI n)), some (.int (nI q))]) (st2 := [.int (((nI p) * 10) + (nI q)), .ref 26]) b_X3_choose_84_95 rfl (fun hd => ?_)
          refine R2.zald (p * 10 + q) (by rw [show (10 : Int32) = nI 10 from rfl, pk_mul, nI_add]) hd rfl (fun _ => rfl) (by decide) (by omega) ?_
          refine R2.B (ls2 := [some (.ref 25), some (.int (nI p)), some (.int free), some (.int made), some (.int gained), some (.int (nI n)), some (.int (nI q))]) (st2 := [.int (F 26 (p * 10 + q))]) b_X3_choose_96_96 rfl (fun hd => ?_)
          refine R2.if_eq 159 hd (by decide) (fun c96 => ?_) (fun c96 => ?_)
          · refine R2.B (ls2 := [some (.ref 25), some (.int (nI p)), some (.int free), some (.int made), some (.int gained), some (.int (nI n)), some (.int ((nI q) + 1))]) (st2 := []) b_X3_choose_159_66 rfl (fun hd => ?_)
            rw [show ((nI q) + 1 : Int32) = nI (q + 1) from nI_add q 1]
            have e : qfold (chB (chF k (p + 1)) p free made gained) (j + 1) q F = qfold (chB (chF k (p + 1)) p free made gained) j (q + 1) F := by
              simp only [qfold, chB]; rw [if_neg (by clear hd; grind)]
            rw [e] at ex
            exact jh (q + 1) F Q (by omega) (by omega) h5 ex
          · refine R2.B (ls2 := [some (.ref 25), some (.int (nI p)), some (.int free), some (.int made), some (.int gained), some (.int (nI n)), some (.int (nI q))]) (st2 := [.int (nI q), .int (nI p), .ref 27]) b_X3_choose_99_106 rfl (fun hd => ?_)
            refine R2.iast p rfl hd (by decide) rfl (fun _ => rfl) (by decide) (by omega) ?_
            refine R2.B (ls2 := [some (.ref 25), some (.int (nI p)), some (.int free), some (.int made), some (.int gained), some (.int (nI n)), some (.int (nI q))]) (st2 := [.int (nI p), .int (nI q), .ref 27]) b_X3_choose_107_114 rfl (fun hd => ?_)
            refine R2.iast q rfl hd (by decide) rfl (fun _ => rfl) (by decide) (by omega) ?_
            refine R2.B (ls2 := [some (.ref 25), some (.int (nI p)), some (.int free), some (.int made), some (.int gained), some (.int (nI n)), some (.int (nI q))]) (st2 := [.int (nI q), .int (nI p), .ref 10, .int gained, .int (made + 1), .int (free - 2), .int ((nI p) + 1), .ref 25]) b_X3_choose_115_137 rfl (fun hd => ?_)
            rw [show ((nI p) + 1 : Int32) = nI (p + 1) from nI_add p 1]
            refine R2.callV3 (M2 := mX0_gain) (As := [.int (nI p), .int (nI q)]) (rest := [.int gained, .int (made + 1), .int (free - 2), .int (nI (p + 1)), .ref 25]) hd lk_3_59 okX0_gain (by decide) rfl (ev_gain E L (up2 (up2 F 27 p (nI q)) 27 q (nI p)) p q (by omega) (by omega)) (by omega) rfl rfl (Nat.le_of_ble_eq_true rfl) ?_
            refine R2.B (ls2 := [some (.ref 25), some (.int (nI p)), some (.int free), some (.int made), some (.int gained), some (.int (nI n)), some (.int (nI q))]) (st2 := [.int (gained + (gan (F 11) (F 13) p q)), .int (made + 1), .int (free - 2), .int (nI (p + 1)), .ref 25]) b_X3_choose_140_141 rfl (fun hd => ?_)
            refine R2.callV3 (M2 := mX3_choose) (As := [.int (nI (p + 1)), .int (free - 2), .int (made + 1), .int (gained + (gan (F 11) (F 13) p q))]) (rest := []) hd lk_3_51 okX3_choose (by decide) rfl (ih (p + 1) (free - 2) (made + 1) _ _ (by omega) h5) (by omega) rfl rfl (Nat.le_of_ble_eq_true rfl) ?_
            refine R2.B (ls2 := [some (.ref 25), some (.int (nI p)), some (.int free), some (.int made), some (.int gained), some (.int (nI n)), some (.int (nI q))]) (st2 := [.int (-1), .int (nI p), .ref 27]) b_X3_choose_144_150 rfl (fun hd => ?_)
            refine R2.iast p rfl hd (by decide) rfl (fun _ => rfl) (by decide) (by omega) ?_
            refine R2.B (ls2 := [some (.ref 25), some (.int (nI p)), some (.int free), some (.int made), some (.int gained), some (.int (nI n)), some (.int (nI q))]) (st2 := [.int (-1), .int (nI q), .ref 27]) b_X3_choose_151_158 rfl (fun hd => ?_)
            refine R2.iast q rfl hd (by decide) rfl (fun _ => rfl) (by decide) (by omega) ?_
            refine R2.B (ls2 := [some (.ref 25), some (.int (nI p)), some (.int free), some (.int made), some (.int gained), some (.int (nI n)), some (.int ((nI q) + 1))]) (st2 := []) b_X3_choose_159_66 rfl (fun hd => ?_)
            rw [show ((nI q) + 1 : Int32) = nI (q + 1) from nI_add q 1]
            have e : qfold (chB (chF k (p + 1)) p free made gained) (j + 1) q F = qfold (chB (chF k (p + 1)) p free made gained) j (q + 1) (up2 (up2 (chF k (p + 1) (free - 2) (made + 1) (gained + gan (F 11) (F 13) p q) (up2 (up2 F 27 p (nI q)) 27 q (nI p))) 27 p (-1)) 27 q (-1)) := by
              simp only [qfold, chB]; rw [if_pos ⟨c81, c96⟩]
            rw [e] at ex
            refine jh (q + 1) _ Q (by omega) (by omega) ?_ ex
            show chF _ _ _ _ _ _ 10 5 = _
            rw [chF_row (by decide) (by decide) (by decide)]
            exact h5
    refine Ev3.of okX3_choose.2.2.1 (Nat.le_of_ble_eq_true rfl) ?_
    show R2 E L mX3_choose (3 + (k + 1)) 0 [some (.ref 25), some (.int (nI p)), some (.int free), some (.int made), some (.int gained), none, none] [] F _
    refine R2.B (ls2 := [some (.ref 25), some (.int (nI p)), some (.int free), some (.int made), some (.int gained), none, none]) (st2 := [.int 2, .int free, .int made]) b_X3_choose_0_3 rfl (fun hd => ?_)
    refine R2.idiv hd (by decide) ?_
    refine R2.B (ls2 := [some (.ref 25), some (.int (nI p)), some (.int free), some (.int made), some (.int gained), none, none]) (st2 := [.int (F 25 4), .int (made + (free / 2))]) b_X3_choose_4_9 rfl (fun hd => ?_)
    refine R2.icmp_ge 13 hd (by decide) (fun c9 => ?_) (fun c9 => ?_)
    · refine R2.B (ls2 := [some (.ref 25), some (.int (nI p)), some (.int free), some (.int made), some (.int gained), some (.int (F 10 5)), none]) (st2 := [.int (F 10 5), .int (nI p)]) b_X3_choose_13_28 rfl (fun hd => ?_)
      rw [show (F 10 5 : Int32) = nI n from h5]
      refine R2.icmp_lt 39 hd (by decide) (fun c28 => ?_) (fun c28 => absurd (nI_lt (by omega) (by omega)) c28)
      refine R2.B (ls2 := [some (.ref 25), some (.int (nI p)), some (.int free), some (.int made), some (.int gained), some (.int (nI n)), none]) (st2 := [.int (nI p), .ref 27]) b_X3_choose_39_44 rfl (fun hd => ?_)
      refine R2.iald p rfl hd rfl (fun _ => rfl) (by decide) (by omega) ?_
      refine R2.B (ls2 := [some (.ref 25), some (.int (nI p)), some (.int free), some (.int made), some (.int gained), some (.int (nI n)), none]) (st2 := [.int (-1), .int (F 27 p)]) b_X3_choose_45_46 rfl (fun hd => ?_)
      refine R2.icmp_eq 61 hd (by decide) (fun c46 => ?_) (fun c46 => ?_)
      · refine R2.B (ls2 := [some (.ref 25), some (.int (nI p)), some (.int free), some (.int made), some (.int gained), some (.int (nI n)), some (.int ((nI p) + 1))]) (st2 := []) b_X3_choose_61_66 rfl (fun hd => ?_)
        rw [show ((nI p) + 1 : Int32) = nI (p + 1) from nI_add p 1]
        have hF5 : (qfold (chB (chF k (p + 1)) p free made gained) k (p + 1) F) 10 5 = nI n := by
          rw [qfold_row (fun q F => ?_)]
          · exact h5
          · unfold chB; split
            · funext j
              simp only [up2]
              rw [chF_row (by decide) (by decide) (by decide)]
              simp [up2]
            · rfl
        refine inner k (p + 1) F _ (by omega) (by omega) h5 ?_
        refine R2.B (ls2 := [some (.ref 25), some (.int (nI p)), some (.int free), some (.int made), some (.int gained), some (.int (nI n)), none]) (st2 := [.int gained, .int made, .int (free - 1), .int ((nI p) + 1), .ref 25]) b_X3_choose_165_175 rfl (fun hd => ?_)
        rw [show ((nI p) + 1 : Int32) = nI (p + 1) from nI_add p 1]
        refine R2.callV3 (M2 := mX3_choose) (As := [.int (nI (p + 1)), .int (free - 1), .int made, .int gained]) (rest := []) hd lk_3_51 okX3_choose (by decide) rfl (ih (p + 1) (free - 1) made gained _ (by omega) hF5) (by omega) rfl rfl (Nat.le_of_ble_eq_true rfl) ?_
        refine R2.B (ls2 := [some (.ref 25), some (.int (nI p)), some (.int free), some (.int made), some (.int gained), some (.int (nI n)), none]) (st2 := []) b_X3_choose_178_178 rfl (fun hd => ?_)
        exact R2.ret3 (r := none) hd trivial rfl rfl (by simp only [chF]; rw [if_neg (Int32.not_lt.mpr c9), if_pos c46])
      · refine R2.B (ls2 := [some (.ref 25), some (.int (nI p)), some (.int free), some (.int made), some (.int gained), some (.int (nI n)), none]) (st2 := [.int gained, .int made, .int free, .int ((nI p) + 1), .ref 25]) b_X3_choose_49_57 rfl (fun hd => ?_)
        rw [show ((nI p) + 1 : Int32) = nI (p + 1) from nI_add p 1]
        refine R2.callV3 (M2 := mX3_choose) (As := [.int (nI (p + 1)), .int free, .int made, .int gained]) (rest := []) hd lk_3_51 okX3_choose (by decide) rfl (ih (p + 1) free made gained F (by omega) h5) (by omega) rfl rfl (Nat.le_of_ble_eq_true rfl) ?_
        refine R2.B (ls2 := [some (.ref 25), some (.int (nI p)), some (.int free), some (.int made), some (.int gained), some (.int (nI n)), none]) (st2 := []) b_X3_choose_60_60 rfl (fun hd => ?_)
        exact R2.ret3 (r := none) hd trivial rfl rfl (by simp only [chF]; rw [if_neg (Int32.not_lt.mpr c9), if_neg c46])
    · refine R2.B (ls2 := [some (.ref 25), some (.int (nI p)), some (.int free), some (.int made), some (.int gained), none, none]) (st2 := []) b_X3_choose_12_12 rfl (fun hd => ?_)
      exact R2.ret3 (r := none) hd trivial rfl rfl (by simp only [chF]; rw [if_pos (Int32.not_le.mp c9)])
theorem b_X3_solve_29_31 : bl2 mX3_solve 29 [(.iload_n 3, 1, 3, 0, .null), (.iload_n 1, 1, 1, 0, .null)] 31 (.if_icmp .ge 48) 3 = true := by decide +kernel
theorem b_X3_solve_79_79 : bl2 mX3_solve 79 [] 79 (.iinc 2 1) 3 = true := by decide +kernel
theorem b_X3_solve_34_61 : bl2 mX3_solve 34 [(.aload_n 0, 1, 0, 0, .null), (.getfield 9, 3, 3, 1, .null), (.iload_n 2, 1, 2, 0, .null), (.bipush 10, 2, 0, 0, .int 10), (.imul, 1, 0, 0, .null), (.iload_n 3, 1, 3, 0, .null), (.iadd, 1, 0, 0, .null), (.aload_n 0, 1, 0, 0, .null), (.getfield 29, 3, 3, 0, .null), (.aload_n 0, 1, 0, 0, .null), (.getfield 29, 3, 3, 0, .null), (.getfield 33, 3, 2, 0, .null), (.getfield 44, 3, 0, 4, .null), (.iload_n 2, 1, 2, 0, .null), (.iload_n 3, 1, 3, 0, .null), (.iconst (-1), 1, 0, 0, .int (-1))] 61 (.invokevirtual 47) 3 = true := by decide +kernel
theorem b_X3_solve_64_64 : bl2 mX3_solve 64 [] 64 (.ifCond .ne 7) 3 = true := by decide +kernel
theorem b_X3_solve_71_72 : bl2 mX3_solve 71 [(.iconst 0, 1, 0, 0, .int 0)] 72 (.bastore) 1 = true := by decide +kernel
theorem b_X3_solve_73_29 : bl2 mX3_solve 73 [(.iinc 3 1, 3, 3, 0, .int 1), (.goto (-47), 3, 29, 0, .null)] 29 (.iload_n 3) 1 = true := by decide +kernel
theorem b_X3_solve_67_72 : bl2 mX3_solve 67 [(.iconst 1, 1, 0, 0, .int 1), (.goto 4, 3, 72, 0, .null)] 72 (.bastore) 1 = true := by decide +kernel
set_option maxRecDepth 20000 in
set_option maxHeartbeats 2000000 in
theorem lp_slI (E : EE) (L : Nat) (n : Nat) (hn10 : n ≤ 10) (Q : Q2) (a : Nat) (ha : a < n) : ∀ (k : Nat) (b : Nat) (F : FF), b + k = n → F 10 5 = nI n → R2 E L mX3_solve 14 79 [some (.ref 25), some (.int (nI n)), some (.int (nI a)), none] [] (slI n a k b F) Q → R2 E L mX3_solve 14 29 [some (.ref 25), some (.int (nI n)), some (.int (nI a)), some (.int (nI b))] [] F Q := by
  intro k
  induction k with
  | zero =>
    intro b F hi h5 ex
    refine R2.B (ls2 := [some (.ref 25), some (.int (nI n)), some (.int (nI a)), some (.int (nI b))]) (st2 := [.int (nI n), .int (nI b)]) b_X3_solve_29_31 rfl (fun hd => ?_)
    refine R2.icmp_ge 79 hd (by decide) (fun c31 => ?_) (fun c31 => absurd (nI_le (by omega) (by omega)) c31)
    refine R2.B (ls2 := [some (.ref 25), some (.int (nI n)), some (.int (nI a)), some (.int (nI b))]) (st2 := []) b_X3_solve_79_79 rfl (fun hd => ?_)
    refine R2.forget (ls2 := [some (.ref 25), some (.int (nI n)), some (.int (nI a)), none]) ⟨rfl, ⟨rfl, ⟨rfl, trivial⟩⟩⟩ ?_
    exact ex
  | succ k ih =>
    intro b F hi h5 ex
    refine R2.B (ls2 := [some (.ref 25), some (.int (nI n)), some (.int (nI a)), some (.int (nI b))]) (st2 := [.int (nI n), .int (nI b)]) b_X3_solve_29_31 rfl (fun hd => ?_)
    refine R2.icmp_ge 79 hd (by decide) (fun c31 => absurd c31 (nI_ge (by omega) (by omega))) (fun c31 => ?_)
    refine R2.B (ls2 := [some (.ref 25), some (.int (nI n)), some (.int (nI a)), some (.int (nI b))]) (st2 := [.int (-1), .int (nI b), .int (nI a), .ref 15, .ref 16, .int (((nI a) * 10) + (nI b)), .ref 26]) b_X3_solve_34_61 rfl (fun hd => ?_)
    refine R2.callV3 (M2 := mX2_verdict) (As := [.ref 15, .int (nI a), .int (nI b), .int (-1)]) (rest := [.int (((nI a) * 10) + (nI b)), .ref 26]) hd lk_3_47 okX2_verdict (by decide) rfl (ev_verdict E L F n h5 hn10 15 rfl (fun _ => rfl) a b (-1) (by omega) (by omega)) (by decide) rfl rfl (Nat.le_of_ble_eq_true rfl) ?_
    refine R2.B (ls2 := [some (.ref 25), some (.int (nI n)), some (.int (nI a)), some (.int (nI b))]) (st2 := [.int (cvd F (F 15) n (F 17 0) (-1) a b), .int (((nI a) * 10) + (nI b)), .ref 26]) b_X3_solve_64_64 rfl (fun hd => ?_)
    refine R2.if_ne 71 hd (by decide) (fun c64 => ?_) (fun c64 => ?_)
    · refine R2.B (ls2 := [some (.ref 25), some (.int (nI n)), some (.int (nI a)), some (.int (nI b))]) (st2 := [.int 0, .int (((nI a) * 10) + (nI b)), .ref 26]) b_X3_solve_71_72 rfl (fun hd => ?_)
      refine R2.zast (a * 10 + b) (by rw [show (10 : Int32) = nI 10 from rfl, pk_mul, nI_add]) hd (by decide) rfl (fun _ => rfl) (by decide) (by omega) (by decide) ?_
      refine R2.B (ls2 := [some (.ref 25), some (.int (nI n)), some (.int (nI a)), some (.int ((nI b) + 1))]) (st2 := []) b_X3_solve_73_29 rfl (fun hd => ?_)
      rw [show ((nI b) + 1 : Int32) = nI (b + 1) from nI_add b 1]
      refine ih (b + 1) _ (by omega) h5 ?_
      have e : slI n a (k + 1) b F = slI n a k (b + 1) (up2 F 26 (a * 10 + b) 0) := by
        simp only [slI]; rw [if_neg c64]
      rw [← e]
      exact ex
    · refine R2.B (ls2 := [some (.ref 25), some (.int (nI n)), some (.int (nI a)), some (.int (nI b))]) (st2 := [.int 1, .int (((nI a) * 10) + (nI b)), .ref 26]) b_X3_solve_67_72 rfl (fun hd => ?_)
      refine R2.zast (a * 10 + b) (by rw [show (10 : Int32) = nI 10 from rfl, pk_mul, nI_add]) hd (by decide) rfl (fun _ => rfl) (by decide) (by omega) (by decide) ?_
      refine R2.B (ls2 := [some (.ref 25), some (.int (nI n)), some (.int (nI a)), some (.int ((nI b) + 1))]) (st2 := []) b_X3_solve_73_29 rfl (fun hd => ?_)
      rw [show ((nI b) + 1 : Int32) = nI (b + 1) from nI_add b 1]
      refine ih (b + 1) _ (by omega) h5 ?_
      have e : slI n a (k + 1) b F = slI n a k (b + 1) (up2 F 26 (a * 10 + b) 1) := by
        simp only [slI]; rw [if_pos c64]
      rw [← e]
      exact ex
theorem b_X3_solve_13_15 : bl2 mX3_solve 13 [(.iload_n 2, 1, 2, 0, .null), (.iload_n 1, 1, 1, 0, .null)] 15 (.if_icmp .ge 70) 3 = true := by decide +kernel
theorem b_X3_solve_85_85 : bl2 mX3_solve 85 [] 85 (.aload_n 0) 1 = true := by decide +kernel
theorem b_X3_solve_18_24 : bl2 mX3_solve 18 [(.aload_n 0, 1, 0, 0, .null), (.getfield 15, 3, 3, 2, .null), (.iload_n 2, 1, 2, 0, .null), (.iconst (-1), 1, 0, 0, .int (-1))] 24 (.iastore) 1 = true := by decide +kernel
theorem b_X3_solve_25_29 : bl2 mX3_solve 25 [(.iload_n 2, 1, 2, 0, .null), (.iconst 1, 1, 0, 0, .int 1), (.iadd, 1, 0, 0, .null), (.istore_n 3, 1, 3, 0, .null)] 29 (.iload_n 3) 1 = true := by decide +kernel
theorem b_X3_solve_79_13 : bl2 mX3_solve 79 [(.iinc 2 1, 3, 2, 0, .int 1), (.goto (-69), 3, 13, 0, .null)] 13 (.iload_n 2) 1 = true := by decide +kernel
set_option maxRecDepth 20000 in
set_option maxHeartbeats 2000000 in
theorem lp_slO (E : EE) (L : Nat) (n : Nat) (hn10 : n ≤ 10) (Q : Q2) : ∀ (k : Nat) (a : Nat) (F : FF), a + k = n → F 10 5 = nI n → R2 E L mX3_solve 14 85 [some (.ref 25), some (.int (nI n)), none, none] [] (slO n k a F) Q → R2 E L mX3_solve 14 13 [some (.ref 25), some (.int (nI n)), some (.int (nI a)), none] [] F Q := by
  intro k
  induction k with
  | zero =>
    intro a F hi h5 ex
    refine R2.B (ls2 := [some (.ref 25), some (.int (nI n)), some (.int (nI a)), none]) (st2 := [.int (nI n), .int (nI a)]) b_X3_solve_13_15 rfl (fun hd => ?_)
    refine R2.icmp_ge 85 hd (by decide) (fun c15 => ?_) (fun c15 => absurd (nI_le (by omega) (by omega)) c15)
    refine R2.B (ls2 := [some (.ref 25), some (.int (nI n)), some (.int (nI a)), none]) (st2 := []) b_X3_solve_85_85 rfl (fun hd => ?_)
    refine R2.forget (ls2 := [some (.ref 25), some (.int (nI n)), none, none]) ⟨rfl, ⟨rfl, trivial⟩⟩ ?_
    exact ex
  | succ k ih =>
    intro a F hi h5 ex
    refine R2.B (ls2 := [some (.ref 25), some (.int (nI n)), some (.int (nI a)), none]) (st2 := [.int (nI n), .int (nI a)]) b_X3_solve_13_15 rfl (fun hd => ?_)
    refine R2.icmp_ge 85 hd (by decide) (fun c15 => absurd c15 (nI_ge (by omega) (by omega))) (fun c15 => ?_)
    refine R2.B (ls2 := [some (.ref 25), some (.int (nI n)), some (.int (nI a)), none]) (st2 := [.int (-1), .int (nI a), .ref 27]) b_X3_solve_18_24 rfl (fun hd => ?_)
    refine R2.iast a rfl hd (by decide) rfl (fun _ => rfl) (by decide) (by omega) ?_
    refine R2.B (ls2 := [some (.ref 25), some (.int (nI n)), some (.int (nI a)), some (.int ((nI a) + 1))]) (st2 := []) b_X3_solve_25_29 rfl (fun hd => ?_)
    rw [show ((nI a) + 1 : Int32) = nI (a + 1) from nI_add a 1]
    refine lp_slI E L n hn10 Q a (by omega) (n - (a + 1)) (a + 1) _ (by omega) h5 ?_
    refine R2.B (ls2 := [some (.ref 25), some (.int (nI n)), some (.int ((nI a) + 1)), none]) (st2 := []) b_X3_solve_79_13 rfl (fun hd => ?_)
    rw [show ((nI a) + 1 : Int32) = nI (a + 1) from nI_add a 1]
    refine ih (a + 1) _ (by omega) ?_ ex
    rw [slI_row (by decide)]
    exact h5
theorem b_X3_solve_0_13 : bl2 mX3_solve 0 [(.aload_n 0, 1, 0, 0, .null), (.getfield 29, 3, 3, 0, .null), (.getfield 33, 3, 2, 0, .null), (.getfield 39, 3, 0, 5, .null), (.istore_n 1, 1, 1, 0, .null), (.iconst 0, 1, 0, 0, .int 0), (.istore_n 2, 1, 2, 0, .null)] 13 (.iload_n 2) 1 = true := by decide +kernel
theorem b_X3_solve_85_87 : bl2 mX3_solve 85 [(.aload_n 0, 1, 0, 0, .null), (.iconst (-1), 1, 0, 0, .int (-1))] 87 (.putfield 22) 3 = true := by decide +kernel
theorem b_X3_solve_90_92 : bl2 mX3_solve 90 [(.aload_n 0, 1, 0, 0, .null), (.iconst (-1), 1, 0, 0, .int (-1))] 92 (.putfield 26) 3 = true := by decide +kernel
theorem b_X3_solve_95_100 : bl2 mX3_solve 95 [(.aload_n 0, 1, 0, 0, .null), (.iconst 0, 1, 0, 0, .int 0), (.iload_n 1, 1, 1, 0, .null), (.iconst 0, 1, 0, 0, .int 0), (.iconst 0, 1, 0, 0, .int 0)] 100 (.invokevirtual 51) 3 = true := by decide +kernel
theorem b_X3_solve_103_103 : bl2 mX3_solve 103 [] 103 (.return_) 1 = true := by decide +kernel
set_option maxRecDepth 20000 in
set_option maxHeartbeats 1000000 in
theorem ev_solve (E : EE) (L : Nat) (F : FF) (n : Nat) (hn : F 10 5 = nI n) (hn10 : n ≤ 10) : Ev3 E L 14 mX3_solve [.ref 25] F none (solF F n) := by
  refine Ev3.of okX3_solve.2.2.1 (Nat.le_of_ble_eq_true rfl) ?_
  show R2 E L mX3_solve 14 0 [some (.ref 25), none, none, none] [] F _
  refine R2.B (ls2 := [some (.ref 25), some (.int (F 10 5)), some (.int 0), none]) (st2 := []) b_X3_solve_0_13 rfl (fun hd => ?_)
  rw [show (F 10 5 : Int32) = nI n from hn]
  refine lp_slO E L n hn10 _ n 0 F (by omega) hn ?_
  refine R2.B (ls2 := [some (.ref 25), some (.int (nI n)), none, none]) (st2 := [.int (-1), .ref 25]) b_X3_solve_85_87 rfl (fun hd => ?_)
  refine R2.putf (a := 3) (b := 4) hd (by decide) (by decide) rfl rfl (fun _ => rfl) ?_
  refine R2.B (ls2 := [some (.ref 25), some (.int (nI n)), none, none]) (st2 := [.int (-1), .ref 25]) b_X3_solve_90_92 rfl (fun hd => ?_)
  refine R2.putf (a := 3) (b := 5) hd (by decide) (by decide) rfl rfl (fun _ => rfl) ?_
  refine R2.B (ls2 := [some (.ref 25), some (.int (nI n)), none, none]) (st2 := [.int 0, .int 0, .int (nI n), .int 0, .ref 25]) b_X3_solve_95_100 rfl (fun hd => ?_)
  refine R2.callV3 (M2 := mX3_choose) (As := [.int 0, .int (nI n), .int 0, .int 0]) (rest := []) hd lk_3_51 okX3_choose (by decide) rfl (ev_choose E L n hn10 n 0 (nI n) 0 0 _ (by omega) (by show slO n n 0 F 10 5 = _; rw [slO_row (by decide) (by decide)]; exact hn)) (by omega) rfl rfl (Nat.le_of_ble_eq_true rfl) ?_
  refine R2.B (ls2 := [some (.ref 25), some (.int (nI n)), none, none]) (st2 := []) b_X3_solve_103_103 rfl (fun hd => ?_)
  exact R2.ret3 (r := none) hd trivial rfl rfl rfl
