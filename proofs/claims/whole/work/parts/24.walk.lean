/-! Walk. Printed by wip/whole/gen/spec9.py. -/
theorem nbr_dec : ((List.range 1024).all fun w => (List.range 8).all fun d => decide (nbr (nI w) d = -1) || decide (nbr (nI w) d = nI (nbr (nI w) d).toNatClampNeg ∧ (nbr (nI w) d).toNatClampNeg < 1024)) = true := by decide +kernel
theorem nbr_cases {w d : Nat} (hw : w < 1024) (hd : d < 8) : nbr (nI w) d = -1 ∨ ∃ v, v < 1024 ∧ nbr (nI w) d = nI v := by
  have h := List.all_eq_true.mp (List.all_eq_true.mp nbr_dec w (List.mem_range.mpr hw)) d (List.mem_range.mpr hd)
  rcases (Bool.or_eq_true _ _).mp h with h | h
  · exact Or.inl (of_decide_eq_true h)
  · exact Or.inr ⟨_, (of_decide_eq_true h).2, (of_decide_eq_true h).1⟩
def zq (F : FF) : Nat := (F 29 4).toNatClampNeg
def WOK (F : FF) : Prop := ∃ z, z ≤ 1024 ∧ F 29 4 = nI z ∧ ∀ h, h < z → ∃ w, w < 1024 ∧ F 32 h = nI w
theorem WOK.of {F F' : FF} (h : WOK F) (e1 : F' 29 = F 29) (e2 : F' 32 = F 32) : WOK F' := by unfold WOK; rw [e1, e2]; exact h
theorem zq_eq {F : FF} {z : Nat} (h : F 29 4 = nI z) (hz : z ≤ 1024) : zq F = z := by unfold zq; rw [h]; exact nI_clamp (by omega)
def enqF (F : FF) (w : Nat) (dist : Int32) : FF := if zq F < 1024 then up2 (up2 (up2 F 31 w dist) 32 (zq F) (nI w)) 29 4 (nI (zq F + 1)) else F
theorem enqF_row {F : FF} {w : Nat} {x : Int32} {a : Nat} (h1 : a ≠ 29) (h2 : a ≠ 31) (h3 : a ≠ 32) : enqF F w x a = F a := by
  unfold enqF; split
  · funext j; simp [up2, h1, h2, h3]
  · rfl
theorem WOK.enq {F : FF} (h : WOK F) {w : Nat} (hw : w < 1024) (x : Int32) : WOK (enqF F w x) := by
  obtain ⟨z, hz, e, hq⟩ := h
  unfold enqF
  rw [zq_eq e hz]
  by_cases hl : z < 1024
  · rw [if_pos hl]
    refine ⟨z + 1, by omega, rfl, fun j hj => ?_⟩
    show ∃ w', w' < 1024 ∧ (if j = z then nI w else F 32 j) = nI w'
    by_cases hjz : j = z
    · rw [if_pos hjz]; exact ⟨w, hw, rfl⟩
    · rw [if_neg hjz]; exact hq j (by omega)
  · rw [if_neg hl]; exact ⟨z, hz, e, hq⟩
abbrev opnC (F : FF) (n a : Nat) (x st : Int32) : Prop := x = st ∨ mayS (F 30) a x (F 17 2 * F 17 2) n 0 = true
def qgS (n a b : Nat) (st : Int32) (F : FF) (w : Nat) : FF :=
  if cvd (up2 F 30 a (nI w)) (up2 F 30 a (nI w) 30) n (F 17 0) (-1) a b = 0 ∧ opnC (up2 F 30 a (nI w)) n a (nI w) st then enqF (up2 F 30 a (nI w)) w 0 else up2 F 30 a (nI w)
def qgL (n a b : Nat) (st : Int32) : Nat → Nat → FF → FF
  | 0, _, F => F
  | k + 1, w, F => qgL n a b st k (w + 1) (qgS n a b st F w)
def qnS (n a : Nat) (st : Int32) (w d : Nat) (F : FF) : FF :=
  if nbr (nI w) d = -1 ∨ ¬ F 31 (nbr (nI w) d).toNatClampNeg = -1 then F
  else if opnC F n a (nbr (nI w) d) st then enqF F (nbr (nI w) d).toNatClampNeg (F 31 w + 1)
  else up2 F 31 (nbr (nI w) d).toNatClampNeg (-2)
def qnL (n a : Nat) (st : Int32) (w : Nat) : Nat → Nat → FF → FF
  | 0, _, F => F
  | k + 1, d, F => qnL n a st w k (d + 1) (qnS n a st w d F)
def srL (n a : Nat) (s0 : Nat) : Nat → Nat → FF → FF
  | 0, _, F => F
  | k + 1, h, F => if h < zq F ∧ F 31 s0 = -1 then srL n a s0 k (h + 1) (qnL n a (nI s0) (F 32 h).toNatClampNeg 8 0 F) else F
def srch (F : FF) (n a b s0 : Nat) : FF := srL n a s0 1024 0 (qgL n a b (nI s0) 1024 0 (up2 (fillF (cpyF F 15 30 0 0 10) 31 1024 (-1)) 29 4 0))
def ldL (S : Nat → Int32) (w : Nat) : Nat → Nat → Int32
  | 0, _ => -1
  | k + 1, d => if ¬ nbr (nI w) d = -1 ∧ S (nbr (nI w) d).toNatClampNeg = S w - 1 then nI d else ldL S w k (d + 1)
def ldD (S : Nat → Int32) (w : Nat) : Int32 := if 0 < S w then ldL S w 8 0 else -1
def drL (S : Nat → Int32) (i : Nat) : Nat → Nat → Nat → Int32 → Int32
  | 0, _, _, last => last
  | k + 1, c, w, last => if i < c then last else if ldD S w = -1 then -1 else drL S i k (c + 1) (nbr (nI w) (ldD S w).toNatClampNeg).toNatClampNeg (ldD S w)
theorem b_X9_isOpen_0_2 : bl2 mX9_isOpen 0 [(.iload_n 2, 1, 2, 0, .null), (.iload_n 3, 1, 3, 0, .null)] 2 (.if_icmp .eq 19) 3 = true := by decide +kernel
theorem b_X9_isOpen_21_26 : bl2 mX9_isOpen 21 [(.iconst 1, 1, 0, 0, .int 1), (.goto 4, 3, 26, 0, .null)] 26 (.ireturn) 1 = true := by decide +kernel
theorem b_X9_isOpen_5_15 : bl2 mX9_isOpen 5 [(.aload_n 0, 1, 0, 0, .null), (.getfield 25, 3, 9, 0, .null), (.aload_n 0, 1, 0, 0, .null), (.getfield 9, 3, 9, 1, .null), (.iload_n 1, 1, 1, 0, .null), (.iload_n 2, 1, 2, 0, .null)] 15 (.invokevirtual 83) 3 = true := by decide +kernel
theorem b_X9_isOpen_18_18 : bl2 mX9_isOpen 18 [] 18 (.ifCond .eq 7) 3 = true := by decide +kernel
theorem b_X9_isOpen_25_26 : bl2 mX9_isOpen 25 [(.iconst 0, 1, 0, 0, .int 0)] 26 (.ireturn) 1 = true := by decide +kernel
set_option maxRecDepth 20000 in
set_option maxHeartbeats 1000000 in
theorem ev_isOpen (E : EE) (L : Nat) (F : FF) (n : Nat) (hn : F 10 5 = nI n) (hn10 : n ≤ 10) (a : Nat) (ha : a < 10) (x st : Int32) : Ev3 E L 3 mX9_isOpen [.ref 29, .int (nI a), .int x, .int st] F (some (.int (b2i (opnC F n a x st)))) F := by
  refine Ev3.of okX9_isOpen.2.2.1 (Nat.le_of_ble_eq_true rfl) ?_
  show R2 E L mX9_isOpen 3 0 [some (.ref 29), some (.int (nI a)), some (.int x), some (.int st)] [] F _
  refine R2.B (ls2 := [some (.ref 29), some (.int (nI a)), some (.int x), some (.int st)]) (st2 := [.int st, .int x]) b_X9_isOpen_0_2 rfl (fun hd => ?_)
  refine R2.icmp_eq 21 hd (by decide) (fun c2 => ?_) (fun c2 => ?_)
  · refine R2.B (ls2 := [some (.ref 29), some (.int (nI a)), some (.int x), some (.int st)]) (st2 := [.int 1]) b_X9_isOpen_21_26 rfl (fun hd => ?_)
    exact R2.ret3 (r := some (.int 1)) hd (Or.inr rfl) rfl (congrArg (fun z => some (Value.int z)) (b2i_t (by clear hd; grind))) rfl
  · refine R2.B (ls2 := [some (.ref 29), some (.int (nI a)), some (.int x), some (.int st)]) (st2 := [.int x, .int (nI a), .ref 30, .ref 16]) b_X9_isOpen_5_15 rfl (fun hd => ?_)
    refine R2.callV3 (M2 := mX2_mayStand) (As := [.ref 30, .int (nI a), .int x]) (rest := []) hd lk_9_83 okX2_mayStand (by decide) rfl (ev_mayStand E L F n hn hn10 30 rfl (fun _ => rfl) a x (by omega)) (by decide) rfl rfl (Nat.le_of_ble_eq_true rfl) ?_
    refine R2.B (ls2 := [some (.ref 29), some (.int (nI a)), some (.int x), some (.int st)]) (st2 := [.int (b2i (mayS (F 30) a x ((F 17 2) * (F 17 2)) n 0 = true))]) b_X9_isOpen_18_18 rfl (fun hd => ?_)
    refine R2.if_eq 25 hd (by decide) (fun c18 => ?_) (fun c18 => ?_)
    · have nc18 : ¬ (mayS (F 30) a x ((F 17 2) * (F 17 2)) n 0 = true) := b2i_zero.mp c18
      refine R2.B (ls2 := [some (.ref 29), some (.int (nI a)), some (.int x), some (.int st)]) (st2 := [.int 0]) b_X9_isOpen_25_26 rfl (fun hd => ?_)
      exact R2.ret3 (r := some (.int 0)) hd (Or.inl rfl) rfl (congrArg (fun z => some (Value.int z)) (b2i_f (by clear hd; grind))) rfl
    · have nc18 : mayS (F 30) a x ((F 17 2) * (F 17 2)) n 0 = true := b2i_nz.mp c18
      refine R2.B (ls2 := [some (.ref 29), some (.int (nI a)), some (.int x), some (.int st)]) (st2 := [.int 1]) b_X9_isOpen_21_26 rfl (fun hd => ?_)
      exact R2.ret3 (r := some (.int 1)) hd (Or.inr rfl) rfl (congrArg (fun z => some (Value.int z)) (b2i_t (by clear hd; grind))) rfl
theorem b_X9_enqueue_0_7 : bl2 mX9_enqueue 0 [(.aload_n 0, 1, 0, 0, .null), (.getfield 21, 3, 9, 4, .null), (.sipush 1024, 3, 0, 0, .int 1024)] 7 (.if_icmp .ge 30) 3 = true := by decide +kernel
theorem b_X9_enqueue_37_37 : bl2 mX9_enqueue 37 [] 37 (.return_) 1 = true := by decide +kernel
theorem b_X9_enqueue_10_16 : bl2 mX9_enqueue 10 [(.aload_n 0, 1, 0, 0, .null), (.getfield 15, 3, 9, 2, .null), (.iload_n 1, 1, 1, 0, .null), (.iload_n 2, 1, 2, 0, .null)] 16 (.iastore) 1 = true := by decide +kernel
theorem b_X9_enqueue_17_26 : bl2 mX9_enqueue 17 [(.aload_n 0, 1, 0, 0, .null), (.getfield 18, 3, 9, 3, .null), (.aload_n 0, 1, 0, 0, .null), (.getfield 21, 3, 9, 4, .null), (.iload_n 1, 1, 1, 0, .null)] 26 (.iastore) 1 = true := by decide +kernel
theorem b_X9_enqueue_27_34 : bl2 mX9_enqueue 27 [(.aload_n 0, 1, 0, 0, .null), (.dup, 1, 0, 0, .null), (.getfield 21, 3, 9, 4, .null), (.iconst 1, 1, 0, 0, .int 1), (.iadd, 1, 0, 0, .null)] 34 (.putfield 21) 3 = true := by decide +kernel
set_option maxRecDepth 20000 in
set_option maxHeartbeats 1000000 in
theorem ev_enqueue (E : EE) (L : Nat) (F : FF) (h : WOK F) (w : Nat) (hw : w < 1024) (x : Int32) : Ev3 E L 1 mX9_enqueue [.ref 29, .int (nI w), .int x] F none (enqF F w x) := by
  obtain ⟨z, hz, e0, -⟩ := h
  refine Ev3.of okX9_enqueue.2.2.1 (Nat.le_of_ble_eq_true rfl) ?_
  show R2 E L mX9_enqueue 1 0 [some (.ref 29), some (.int (nI w)), some (.int x)] [] F _
  refine R2.B (ls2 := [some (.ref 29), some (.int (nI w)), some (.int x)]) (st2 := [.int 1024, .int (F 29 4)]) b_X9_enqueue_0_7 rfl (fun hd => ?_)
  rw [show (F 29 4 : Int32) = nI z from e0]
  refine R2.icmp_ge 37 hd (by decide) (fun c7 => ?_) (fun c7 => ?_)
  · have nc7 : 1024 ≤ z := (nI_leI (a := 1024) (b := z) (by omega) (by omega)).mp c7
    refine R2.B (ls2 := [some (.ref 29), some (.int (nI w)), some (.int x)]) (st2 := []) b_X9_enqueue_37_37 rfl (fun hd => ?_)
    exact R2.ret3 (r := none) hd trivial rfl rfl (by unfold enqF; rw [zq_eq e0 hz]; first | rw [if_pos (show z < 1024 by omega), ← nI_1, ← e0] | rw [if_neg (show ¬ z < 1024 by omega)])
  · have nc7 : ¬ 1024 ≤ z := fun h9 => c7 ((nI_leI (a := 1024) (b := z) (by omega) (by omega)).mpr h9)
    refine R2.B (ls2 := [some (.ref 29), some (.int (nI w)), some (.int x)]) (st2 := [.int x, .int (nI w), .ref 31]) b_X9_enqueue_10_16 rfl (fun hd => ?_)
    refine R2.iast w rfl hd (by decide) rfl (fun _ => rfl) (by decide) (by omega) ?_
    refine R2.B (ls2 := [some (.ref 29), some (.int (nI w)), some (.int x)]) (st2 := [.int (nI w), .int (F 29 4), .ref 32]) b_X9_enqueue_17_26 rfl (fun hd => ?_)
    rw [show (F 29 4 : Int32) = nI z from e0]
    refine R2.iast z rfl hd (by decide) rfl (fun _ => rfl) (by decide) (by omega) ?_
    refine R2.B (ls2 := [some (.ref 29), some (.int (nI w)), some (.int x)]) (st2 := [.int ((F 29 4) + 1), .ref 29]) b_X9_enqueue_27_34 rfl (fun hd => ?_)
    refine R2.putf (a := 9) (b := 4) hd (by decide) (by decide) rfl rfl (fun _ => rfl) ?_
    refine R2.B (ls2 := [some (.ref 29), some (.int (nI w)), some (.int x)]) (st2 := []) b_X9_enqueue_37_37 rfl (fun hd => ?_)
    exact R2.ret3 (r := none) hd trivial rfl rfl (by unfold enqF; rw [zq_eq e0 hz]; first | rw [if_pos (show z < 1024 by omega), ← nI_1, ← e0] | rw [if_neg (show ¬ z < 1024 by omega)])
theorem b_X9_queueGoals_3_8 : bl2 mX9_queueGoals 3 [(.iload 4, 2, 4, 0, .null), (.sipush 1024, 3, 0, 0, .int 1024)] 8 (.if_icmp .ge 52) 3 = true := by decide +kernel
theorem b_X9_queueGoals_60_60 : bl2 mX9_queueGoals 60 [] 60 (.return_) 1 = true := by decide +kernel
theorem b_X9_queueGoals_11_18 : bl2 mX9_queueGoals 11 [(.aload_n 0, 1, 0, 0, .null), (.getfield 9, 3, 9, 1, .null), (.iload_n 1, 1, 1, 0, .null), (.iload 4, 2, 4, 0, .null)] 18 (.iastore) 1 = true := by decide +kernel
theorem b_X9_queueGoals_19_30 : bl2 mX9_queueGoals 19 [(.aload_n 0, 1, 0, 0, .null), (.getfield 25, 3, 9, 0, .null), (.aload_n 0, 1, 0, 0, .null), (.getfield 9, 3, 9, 1, .null), (.iload_n 1, 1, 1, 0, .null), (.iload_n 2, 1, 2, 0, .null), (.iconst (-1), 1, 0, 0, .int (-1))] 30 (.invokevirtual 71) 3 = true := by decide +kernel
theorem b_X9_queueGoals_33_33 : bl2 mX9_queueGoals 33 [] 33 (.ifCond .ne 21) 3 = true := by decide +kernel
theorem b_X9_queueGoals_54_3 : bl2 mX9_queueGoals 54 [(.iinc 4 1, 3, 4, 0, .int 1), (.goto (-54), 3, 3, 0, .null)] 3 (.iload 4) 2 = true := by decide +kernel
theorem b_X9_queueGoals_36_41 : bl2 mX9_queueGoals 36 [(.aload_n 0, 1, 0, 0, .null), (.iload_n 1, 1, 1, 0, .null), (.iload 4, 2, 4, 0, .null), (.iload_n 3, 1, 3, 0, .null)] 41 (.invokevirtual 75) 3 = true := by decide +kernel
theorem b_X9_queueGoals_44_44 : bl2 mX9_queueGoals 44 [] 44 (.ifCond .eq 10) 3 = true := by decide +kernel
theorem b_X9_queueGoals_47_51 : bl2 mX9_queueGoals 47 [(.aload_n 0, 1, 0, 0, .null), (.iload 4, 2, 4, 0, .null), (.iconst 0, 1, 0, 0, .int 0)] 51 (.invokevirtual 79) 3 = true := by decide +kernel
set_option maxRecDepth 20000 in
set_option maxHeartbeats 2000000 in
theorem lp_goals (E : EE) (L : Nat) (n a b : Nat) (st : Int32) (hn10 : n ≤ 10) (ha : a < 10) (hb : b < 10) : ∀ (k : Nat) (w : Nat) (F : FF), w + k = 1024 → F 10 5 = nI n → WOK F → R2 E L mX9_queueGoals 5 3 [some (.ref 29), some (.int (nI a)), some (.int (nI b)), some (.int st), some (.int (nI w))] [] F (fun r' F' => r' = none ∧ F' = qgL n a b st k w F) := by
  intro k
  induction k with
  | zero =>
    intro w F hi h5 hw
    refine R2.B (ls2 := [some (.ref 29), some (.int (nI a)), some (.int (nI b)), some (.int st), some (.int (nI w))]) (st2 := [.int 1024, .int (nI w)]) b_X9_queueGoals_3_8 rfl (fun hd => ?_)
    refine R2.icmp_ge 60 hd (by decide) (fun c8 => ?_) (fun c8 => absurd (nI_le (a := 1024) (b := w) (by omega) (by omega)) c8)
    refine R2.B (ls2 := [some (.ref 29), some (.int (nI a)), some (.int (nI b)), some (.int st), some (.int (nI w))]) (st2 := []) b_X9_queueGoals_60_60 rfl (fun hd => ?_)
    exact R2.ret3 (r := none) hd trivial rfl rfl rfl
  | succ k ih =>
    intro w F hi h5 hw
    refine R2.B (ls2 := [some (.ref 29), some (.int (nI a)), some (.int (nI b)), some (.int st), some (.int (nI w))]) (st2 := [.int 1024, .int (nI w)]) b_X9_queueGoals_3_8 rfl (fun hd => ?_)
    refine R2.icmp_ge 60 hd (by decide) (fun c8 => absurd c8 (nI_ge (b := 1024) (by omega) (by omega))) (fun c8 => ?_)
    refine R2.B (ls2 := [some (.ref 29), some (.int (nI a)), some (.int (nI b)), some (.int st), some (.int (nI w))]) (st2 := [.int (nI w), .int (nI a), .ref 30]) b_X9_queueGoals_11_18 rfl (fun hd => ?_)
    refine R2.iast a rfl hd (by decide) rfl (fun _ => rfl) (by decide) (by omega) ?_
    refine R2.B (ls2 := [some (.ref 29), some (.int (nI a)), some (.int (nI b)), some (.int st), some (.int (nI w))]) (st2 := [.int (-1), .int (nI b), .int (nI a), .ref 30, .ref 16]) b_X9_queueGoals_19_30 rfl (fun hd => ?_)
    refine R2.callV3 (M2 := mX2_verdict) (As := [.ref 30, .int (nI a), .int (nI b), .int (-1)]) (rest := []) hd lk_9_71 okX2_verdict (by decide) rfl (ev_verdict E L (up2 F 30 a (nI w)) n h5 hn10 30 rfl (fun _ => rfl) a b (-1) (by omega) (by omega)) (by decide) rfl rfl (Nat.le_of_ble_eq_true rfl) ?_
    refine R2.B (ls2 := [some (.ref 29), some (.int (nI a)), some (.int (nI b)), some (.int st), some (.int (nI w))]) (st2 := [.int (cvd F ((up2 F 30 a (nI w)) 30) n (F 17 0) (-1) a b)]) b_X9_queueGoals_33_33 rfl (fun hd => ?_)
    refine R2.if_ne 54 hd (by decide) (fun c33 => ?_) (fun c33 => ?_)
    · refine R2.B (ls2 := [some (.ref 29), some (.int (nI a)), some (.int (nI b)), some (.int st), some (.int ((nI w) + 1))]) (st2 := []) b_X9_queueGoals_54_3 rfl (fun hd => ?_)
      rw [show ((nI w) + 1 : Int32) = nI (w + 1) from nI_add w 1]
      have e : qgL n a b st (k + 1) w F = qgL n a b st k (w + 1) (up2 F 30 a (nI w)) := by
        simp only [qgL, qgS]; rw [if_neg (fun z => c33 z.1)]
      rw [e]
      exact ih (w + 1) _ (by omega) h5 hw
    · refine R2.B (ls2 := [some (.ref 29), some (.int (nI a)), some (.int (nI b)), some (.int st), some (.int (nI w))]) (st2 := [.int st, .int (nI w), .int (nI a), .ref 29]) b_X9_queueGoals_36_41 rfl (fun hd => ?_)
      refine R2.callV3 (M2 := mX9_isOpen) (As := [.int (nI a), .int (nI w), .int st]) (rest := []) hd lk_9_75 okX9_isOpen (by decide) rfl (ev_isOpen E L (up2 F 30 a (nI w)) n h5 hn10 a (by omega) (nI w) st) (by decide) rfl rfl (Nat.le_of_ble_eq_true rfl) ?_
      refine R2.B (ls2 := [some (.ref 29), some (.int (nI a)), some (.int (nI b)), some (.int st), some (.int (nI w))]) (st2 := [.int (b2i (opnC (up2 F 30 a (nI w)) n a (nI w) st))]) b_X9_queueGoals_44_44 rfl (fun hd => ?_)
      refine R2.if_eq 54 hd (by decide) (fun c44 => ?_) (fun c44 => ?_)
      · have nc44 : ¬ (opnC (up2 F 30 a (nI w)) n a (nI w) st) := b2i_zero.mp c44
        refine R2.B (ls2 := [some (.ref 29), some (.int (nI a)), some (.int (nI b)), some (.int st), some (.int ((nI w) + 1))]) (st2 := []) b_X9_queueGoals_54_3 rfl (fun hd => ?_)
        rw [show ((nI w) + 1 : Int32) = nI (w + 1) from nI_add w 1]
        have e : qgL n a b st (k + 1) w F = qgL n a b st k (w + 1) (up2 F 30 a (nI w)) := by
          simp only [qgL, qgS]; rw [if_neg (fun z => nc44 z.2)]
        rw [e]
        exact ih (w + 1) _ (by omega) h5 hw
      · have nc44 : opnC (up2 F 30 a (nI w)) n a (nI w) st := b2i_nz.mp c44
        refine R2.B (ls2 := [some (.ref 29), some (.int (nI a)), some (.int (nI b)), some (.int st), some (.int (nI w))]) (st2 := [.int 0, .int (nI w), .ref 29]) b_X9_queueGoals_47_51 rfl (fun hd => ?_)
        refine R2.callV3 (M2 := mX9_enqueue) (As := [.int (nI w), .int 0]) (rest := []) hd lk_9_79 okX9_enqueue (by decide) rfl (ev_enqueue E L (up2 F 30 a (nI w)) hw w (by omega) 0) (by decide) rfl rfl (Nat.le_of_ble_eq_true rfl) ?_
        refine R2.B (ls2 := [some (.ref 29), some (.int (nI a)), some (.int (nI b)), some (.int st), some (.int ((nI w) + 1))]) (st2 := []) b_X9_queueGoals_54_3 rfl (fun hd => ?_)
        rw [show ((nI w) + 1 : Int32) = nI (w + 1) from nI_add w 1]
        have e : qgL n a b st (k + 1) w F = qgL n a b st k (w + 1) (enqF (up2 F 30 a (nI w)) w 0) := by
          simp only [qgL, qgS]; rw [if_pos ⟨c33, nc44⟩]
        rw [e]
        exact ih (w + 1) _ (by omega) ((congrFun (enqF_row (by decide) (by decide) (by decide)) 5).trans h5) ((show WOK (up2 F 30 a (nI w)) from hw).enq (show w < 1024 by omega) 0)
theorem b_X9_queueGoals_0_3 : bl2 mX9_queueGoals 0 [(.iconst 0, 1, 0, 0, .int 0), (.istore 4, 2, 4, 0, .null)] 3 (.iload 4) 2 = true := by decide +kernel
set_option maxRecDepth 20000 in
set_option maxHeartbeats 1000000 in
theorem ev_queueGoals (E : EE) (L : Nat) (F : FF) (n : Nat) (hn : F 10 5 = nI n) (hn10 : n ≤ 10) (a b : Nat) (ha : a < 10) (hb : b < 10) (st : Int32) (hw : WOK F) : Ev3 E L 5 mX9_queueGoals [.ref 29, .int (nI a), .int (nI b), .int st] F none (qgL n a b st 1024 0 F) := by
  refine Ev3.of okX9_queueGoals.2.2.1 (Nat.le_of_ble_eq_true rfl) ?_
  show R2 E L mX9_queueGoals 5 0 [some (.ref 29), some (.int (nI a)), some (.int (nI b)), some (.int st), none] [] F _
  refine R2.B (ls2 := [some (.ref 29), some (.int (nI a)), some (.int (nI b)), some (.int st), some (.int 0)]) (st2 := []) b_X9_queueGoals_0_3 rfl (fun hd => ?_)
  exact lp_goals E L n a b st hn10 ha hb 1024 0 F (by omega) hn hw
theorem b_X9_queueNeighbours_3_7 : bl2 mX9_queueNeighbours 3 [(.iload 4, 2, 4, 0, .null), (.bipush 8, 2, 0, 0, .int 8)] 7 (.if_icmp .ge 74) 3 = true := by decide +kernel
theorem b_X9_queueNeighbours_81_81 : bl2 mX9_queueNeighbours 81 [] 81 (.return_) 1 = true := by decide +kernel
theorem b_X9_queueNeighbours_10_13 : bl2 mX9_queueNeighbours 10 [(.iload_n 2, 1, 2, 0, .null), (.iload 4, 2, 4, 0, .null)] 13 (.invokestatic 67) 3 = true := by decide +kernel
theorem b_X9_queueNeighbours_16_21 : bl2 mX9_queueNeighbours 16 [(.istore 5, 2, 5, 0, .null), (.iload 5, 2, 5, 0, .null), (.iconst (-1), 1, 0, 0, .int (-1))] 21 (.if_icmp .eq 54) 3 = true := by decide +kernel
theorem b_X9_queueNeighbours_75_3 : bl2 mX9_queueNeighbours 75 [(.iinc 4 1, 3, 4, 0, .int 1), (.goto (-75), 3, 3, 0, .null)] 3 (.iload 4) 2 = true := by decide +kernel
theorem b_X9_queueNeighbours_24_30 : bl2 mX9_queueNeighbours 24 [(.aload_n 0, 1, 0, 0, .null), (.getfield 15, 3, 9, 2, .null), (.iload 5, 2, 5, 0, .null)] 30 (.iaload) 1 = true := by decide +kernel
theorem b_X9_queueNeighbours_31_32 : bl2 mX9_queueNeighbours 31 [(.iconst (-1), 1, 0, 0, .int (-1))] 32 (.if_icmp .eq 6) 3 = true := by decide +kernel
theorem b_X9_queueNeighbours_38_43 : bl2 mX9_queueNeighbours 38 [(.aload_n 0, 1, 0, 0, .null), (.iload_n 1, 1, 1, 0, .null), (.iload 5, 2, 5, 0, .null), (.iload_n 3, 1, 3, 0, .null)] 43 (.invokevirtual 75) 3 = true := by decide +kernel
theorem b_X9_queueNeighbours_46_46 : bl2 mX9_queueNeighbours 46 [] 46 (.ifCond .eq 20) 3 = true := by decide +kernel
theorem b_X9_queueNeighbours_66_74 : bl2 mX9_queueNeighbours 66 [(.aload_n 0, 1, 0, 0, .null), (.getfield 15, 3, 9, 2, .null), (.iload 5, 2, 5, 0, .null), (.bipush (-2), 2, 0, 0, .int (-2))] 74 (.iastore) 1 = true := by decide +kernel
theorem b_X9_queueNeighbours_49_57 : bl2 mX9_queueNeighbours 49 [(.aload_n 0, 1, 0, 0, .null), (.iload 5, 2, 5, 0, .null), (.aload_n 0, 1, 0, 0, .null), (.getfield 15, 3, 9, 2, .null), (.iload_n 2, 1, 2, 0, .null)] 57 (.iaload) 1 = true := by decide +kernel
theorem b_X9_queueNeighbours_58_60 : bl2 mX9_queueNeighbours 58 [(.iconst 1, 1, 0, 0, .int 1), (.iadd, 1, 0, 0, .null)] 60 (.invokevirtual 79) 3 = true := by decide +kernel
theorem b_X9_queueNeighbours_63_3 : bl2 mX9_queueNeighbours 63 [(.goto 12, 3, 75, 0, .null), (.iinc 4 1, 3, 4, 0, .int 1), (.goto (-75), 3, 3, 0, .null)] 3 (.iload 4) 2 = true := by decide +kernel
theorem b_X9_queueNeighbours_35_3 : bl2 mX9_queueNeighbours 35 [(.goto 40, 3, 75, 0, .null), (.iinc 4 1, 3, 4, 0, .int 1), (.goto (-75), 3, 3, 0, .null)] 3 (.iload 4) 2 = true := by decide +kernel
set_option maxRecDepth 20000 in
set_option maxHeartbeats 2000000 in
theorem lp_nbrs (E : EE) (L : Nat) (n a w : Nat) (st : Int32) (hn10 : n ≤ 10) (ha : a < 10) (hw0 : w < 1024) : ∀ (k d : Nat) (F : FF), d + k = 8 → F 10 5 = nI n → WOK F → CST F → R2 E L mX9_queueNeighbours 4 3 [some (.ref 29), some (.int (nI a)), some (.int (nI w)), some (.int st), some (.int (nI d)), none] [] F (fun r' F' => r' = none ∧ F' = qnL n a st w k d F) := by
  intro k
  induction k with
  | zero =>
    intro d F hi h5 hw hc
    refine R2.B (ls2 := [some (.ref 29), some (.int (nI a)), some (.int (nI w)), some (.int st), some (.int (nI d)), none]) (st2 := [.int 8, .int (nI d)]) b_X9_queueNeighbours_3_7 rfl (fun hd => ?_)
    refine R2.icmp_ge 81 hd (by decide) (fun c7 => ?_) (fun c7 => absurd (nI_le (a := 8) (by omega) (by omega)) c7)
    refine R2.B (ls2 := [some (.ref 29), some (.int (nI a)), some (.int (nI w)), some (.int st), some (.int (nI d)), none]) (st2 := []) b_X9_queueNeighbours_81_81 rfl (fun hd => ?_)
    exact R2.ret3 (r := none) hd trivial rfl rfl rfl
  | succ k ih =>
    intro d F hi h5 hw hc
    rcases nbr_cases hw0 (show d < 8 by omega) with hv | ⟨v, hv8, hv⟩
    · refine R2.B (ls2 := [some (.ref 29), some (.int (nI a)), some (.int (nI w)), some (.int st), some (.int (nI d)), none]) (st2 := [.int 8, .int (nI d)]) b_X9_queueNeighbours_3_7 rfl (fun hd => ?_)
      refine R2.icmp_ge 81 hd (by decide) (fun c7 => absurd c7 (nI_ge (b := 8) (by omega) (by omega))) (fun c7 => ?_)
      refine R2.B (ls2 := [some (.ref 29), some (.int (nI a)), some (.int (nI w)), some (.int st), some (.int (nI d)), none]) (st2 := [.int (nI d), .int (nI w)]) b_X9_queueNeighbours_10_13 rfl (fun hd => ?_)
      refine R2.callS3 (M2 := mX10_neighbour) (As := [.int (nI w), .int (nI d)]) (rest := []) hd lk_9_67 okX10_neighbour (by decide) (ev_neighbour E L F hc (nI w) d (by omega)) (by decide) rfl rfl (Nat.le_of_ble_eq_true rfl) ?_
      refine R2.top (show (nbr (nI w) d : Int32) = (-1) from hv) ?_
      refine R2.B (ls2 := [some (.ref 29), some (.int (nI a)), some (.int (nI w)), some (.int st), some (.int (nI d)), some (.int (-1))]) (st2 := [.int (-1), .int (-1)]) b_X9_queueNeighbours_16_21 rfl (fun hd => ?_)
      refine R2.icmp_eq 75 hd (by decide) (fun c21 => ?_) (fun c21 => absurd (by decide) c21)
      refine R2.B (ls2 := [some (.ref 29), some (.int (nI a)), some (.int (nI w)), some (.int st), some (.int ((nI d) + 1)), some (.int (-1))]) (st2 := []) b_X9_queueNeighbours_75_3 rfl (fun hd => ?_)
      rw [show ((nI d) + 1 : Int32) = nI (d + 1) from nI_add d 1]
      have e : qnL n a st w (k + 1) d F = qnL n a st w k (d + 1) F := by
        simp only [qnL, qnS]; rw [if_pos (Or.inl hv)]
      rw [e]
      refine R2.forget (ls2 := [some (.ref 29), some (.int (nI a)), some (.int (nI w)), some (.int st), some (.int (nI (d + 1))), none]) ⟨rfl, ⟨rfl, ⟨rfl, ⟨rfl, ⟨rfl, trivial⟩⟩⟩⟩⟩ ?_
      exact ih (d + 1) _ (by omega) h5 hw hc
    · have hv1 : ¬ nI v = -1 := fun z => by have := nI_pos (n := v) (by omega); rw [z] at this; exact this (by decide)
      refine R2.B (ls2 := [some (.ref 29), some (.int (nI a)), some (.int (nI w)), some (.int st), some (.int (nI d)), none]) (st2 := [.int 8, .int (nI d)]) b_X9_queueNeighbours_3_7 rfl (fun hd => ?_)
      refine R2.icmp_ge 81 hd (by decide) (fun c7 => absurd c7 (nI_ge (b := 8) (by omega) (by omega))) (fun c7 => ?_)
      refine R2.B (ls2 := [some (.ref 29), some (.int (nI a)), some (.int (nI w)), some (.int st), some (.int (nI d)), none]) (st2 := [.int (nI d), .int (nI w)]) b_X9_queueNeighbours_10_13 rfl (fun hd => ?_)
      refine R2.callS3 (M2 := mX10_neighbour) (As := [.int (nI w), .int (nI d)]) (rest := []) hd lk_9_67 okX10_neighbour (by decide) (ev_neighbour E L F hc (nI w) d (by omega)) (by decide) rfl rfl (Nat.le_of_ble_eq_true rfl) ?_
      refine R2.top (show (nbr (nI w) d : Int32) = nI v from hv) ?_
      refine R2.B (ls2 := [some (.ref 29), some (.int (nI a)), some (.int (nI w)), some (.int st), some (.int (nI d)), some (.int (nI v))]) (st2 := [.int (-1), .int (nI v)]) b_X9_queueNeighbours_16_21 rfl (fun hd => ?_)
      refine R2.icmp_eq 75 hd (by decide) (fun c21 => absurd c21 (show ¬ nI v = -1 from hv1)) (fun c21 => ?_)
      refine R2.B (ls2 := [some (.ref 29), some (.int (nI a)), some (.int (nI w)), some (.int st), some (.int (nI d)), some (.int (nI v))]) (st2 := [.int (nI v), .ref 31]) b_X9_queueNeighbours_24_30 rfl (fun hd => ?_)
      refine R2.iald v rfl hd rfl (fun _ => rfl) (by decide) (by omega) ?_
      refine R2.B (ls2 := [some (.ref 29), some (.int (nI a)), some (.int (nI w)), some (.int st), some (.int (nI d)), some (.int (nI v))]) (st2 := [.int (-1), .int (F 31 v)]) b_X9_queueNeighbours_31_32 rfl (fun hd => ?_)
      refine R2.icmp_eq 38 hd (by decide) (fun c32 => ?_) (fun c32 => ?_)
      · refine R2.B (ls2 := [some (.ref 29), some (.int (nI a)), some (.int (nI w)), some (.int st), some (.int (nI d)), some (.int (nI v))]) (st2 := [.int st, .int (nI v), .int (nI a), .ref 29]) b_X9_queueNeighbours_38_43 rfl (fun hd => ?_)
        refine R2.callV3 (M2 := mX9_isOpen) (As := [.int (nI a), .int (nI v), .int st]) (rest := []) hd lk_9_75 okX9_isOpen (by decide) rfl (ev_isOpen E L F n h5 hn10 a (by omega) (nI v) st) (by decide) rfl rfl (Nat.le_of_ble_eq_true rfl) ?_
        refine R2.B (ls2 := [some (.ref 29), some (.int (nI a)), some (.int (nI w)), some (.int st), some (.int (nI d)), some (.int (nI v))]) (st2 := [.int (b2i (opnC F n a (nI v) st))]) b_X9_queueNeighbours_46_46 rfl (fun hd => ?_)
        refine R2.if_eq 66 hd (by decide) (fun c46 => ?_) (fun c46 => ?_)
        · have nc46 : ¬ (opnC F n a (nI v) st) := b2i_zero.mp c46
          refine R2.B (ls2 := [some (.ref 29), some (.int (nI a)), some (.int (nI w)), some (.int st), some (.int (nI d)), some (.int (nI v))]) (st2 := [.int (-2), .int (nI v), .ref 31]) b_X9_queueNeighbours_66_74 rfl (fun hd => ?_)
          refine R2.iast v rfl hd (by decide) rfl (fun _ => rfl) (by decide) (by omega) ?_
          refine R2.B (ls2 := [some (.ref 29), some (.int (nI a)), some (.int (nI w)), some (.int st), some (.int ((nI d) + 1)), some (.int (nI v))]) (st2 := []) b_X9_queueNeighbours_75_3 rfl (fun hd => ?_)
          rw [show ((nI d) + 1 : Int32) = nI (d + 1) from nI_add d 1]
          have e : qnL n a st w (k + 1) d F = qnL n a st w k (d + 1) (up2 F 31 v (-2)) := by
            simp only [qnL, qnS]; rw [hv, nI_clamp (by omega), if_neg (show ¬ (nI v = -1 ∨ ¬ F 31 v = -1) from fun z => z.elim hv1 (fun z => z c32)), if_neg nc46]
          rw [e]
          refine R2.forget (ls2 := [some (.ref 29), some (.int (nI a)), some (.int (nI w)), some (.int st), some (.int (nI (d + 1))), none]) ⟨rfl, ⟨rfl, ⟨rfl, ⟨rfl, ⟨rfl, trivial⟩⟩⟩⟩⟩ ?_
          exact ih (d + 1) _ (by omega) h5 hw hc
        · have nc46 : opnC F n a (nI v) st := b2i_nz.mp c46
          refine R2.B (ls2 := [some (.ref 29), some (.int (nI a)), some (.int (nI w)), some (.int st), some (.int (nI d)), some (.int (nI v))]) (st2 := [.int (nI w), .ref 31, .int (nI v), .ref 29]) b_X9_queueNeighbours_49_57 rfl (fun hd => ?_)
          refine R2.iald w rfl hd rfl (fun _ => rfl) (by decide) (by omega) ?_
          refine R2.B (ls2 := [some (.ref 29), some (.int (nI a)), some (.int (nI w)), some (.int st), some (.int (nI d)), some (.int (nI v))]) (st2 := [.int ((F 31 w) + 1), .int (nI v), .ref 29]) b_X9_queueNeighbours_58_60 rfl (fun hd => ?_)
          refine R2.callV3 (M2 := mX9_enqueue) (As := [.int (nI v), .int ((F 31 w) + 1)]) (rest := []) hd lk_9_79 okX9_enqueue (by decide) rfl (ev_enqueue E L F hw v (by omega) ((F 31 w) + 1)) (by decide) rfl rfl (Nat.le_of_ble_eq_true rfl) ?_
          refine R2.B (ls2 := [some (.ref 29), some (.int (nI a)), some (.int (nI w)), some (.int st), some (.int ((nI d) + 1)), some (.int (nI v))]) (st2 := []) b_X9_queueNeighbours_63_3 rfl (fun hd => ?_)
          rw [show ((nI d) + 1 : Int32) = nI (d + 1) from nI_add d 1]
          have e : qnL n a st w (k + 1) d F = qnL n a st w k (d + 1) (enqF F v ((F 31 w) + 1)) := by
            simp only [qnL, qnS]; rw [hv, nI_clamp (by omega), if_neg (show ¬ (nI v = -1 ∨ ¬ F 31 v = -1) from fun z => z.elim hv1 (fun z => z c32)), if_pos nc46]
          rw [e]
          refine R2.forget (ls2 := [some (.ref 29), some (.int (nI a)), some (.int (nI w)), some (.int st), some (.int (nI (d + 1))), none]) ⟨rfl, ⟨rfl, ⟨rfl, ⟨rfl, ⟨rfl, trivial⟩⟩⟩⟩⟩ ?_
          exact ih (d + 1) _ (by omega) ((congrFun (enqF_row (by decide) (by decide) (by decide)) 5).trans h5) (hw.enq (by omega) _) (hc.of (enqF_row (by decide) (by decide) (by decide)) (enqF_row (by decide) (by decide) (by decide)) (enqF_row (by decide) (by decide) (by decide)) (enqF_row (by decide) (by decide) (by decide)))
      · refine R2.B (ls2 := [some (.ref 29), some (.int (nI a)), some (.int (nI w)), some (.int st), some (.int ((nI d) + 1)), some (.int (nI v))]) (st2 := []) b_X9_queueNeighbours_35_3 rfl (fun hd => ?_)
        rw [show ((nI d) + 1 : Int32) = nI (d + 1) from nI_add d 1]
        have e : qnL n a st w (k + 1) d F = qnL n a st w k (d + 1) F := by
          simp only [qnL, qnS]; rw [hv, nI_clamp (by omega), if_pos (Or.inr c32)]
        rw [e]
        refine R2.forget (ls2 := [some (.ref 29), some (.int (nI a)), some (.int (nI w)), some (.int st), some (.int (nI (d + 1))), none]) ⟨rfl, ⟨rfl, ⟨rfl, ⟨rfl, ⟨rfl, trivial⟩⟩⟩⟩⟩ ?_
        exact ih (d + 1) _ (by omega) h5 hw hc
theorem b_X9_queueNeighbours_0_3 : bl2 mX9_queueNeighbours 0 [(.iconst 0, 1, 0, 0, .int 0), (.istore 4, 2, 4, 0, .null)] 3 (.iload 4) 2 = true := by decide +kernel
set_option maxRecDepth 20000 in
set_option maxHeartbeats 1000000 in
theorem ev_queueNeighbours (E : EE) (L : Nat) (F : FF) (hc : CST F) (n : Nat) (hn : F 10 5 = nI n) (hn10 : n ≤ 10) (a w : Nat) (ha : a < 10) (hw0 : w < 1024) (st : Int32) (hw : WOK F) : Ev3 E L 4 mX9_queueNeighbours [.ref 29, .int (nI a), .int (nI w), .int st] F none (qnL n a st w 8 0 F) := by
  refine Ev3.of okX9_queueNeighbours.2.2.1 (Nat.le_of_ble_eq_true rfl) ?_
  show R2 E L mX9_queueNeighbours 4 0 [some (.ref 29), some (.int (nI a)), some (.int (nI w)), some (.int st), none, none] [] F _
  refine R2.B (ls2 := [some (.ref 29), some (.int (nI a)), some (.int (nI w)), some (.int st), some (.int 0), none]) (st2 := []) b_X9_queueNeighbours_0_3 rfl (fun hd => ?_)
  exact lp_nbrs E L n a w st hn10 ha hw0 8 0 F (by omega) hn hw hc
