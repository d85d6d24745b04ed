/-! Trial.judge, Stall. Printed by wip/whole/gen/spec7.py. -/
theorem b_X8_judge_2_13 : bl2 mX8_judge 2 [(.iload_n 2, 1, 2, 0, .null), (.aload_n 0, 1, 0, 0, .null), (.getfield 29, 3, 8, 0, .null), (.getfield 33, 3, 2, 0, .null), (.getfield 39, 3, 0, 5, .null)] 13 (.if_icmp .ge 34) 3 = true := by decide +kernel
theorem b_X8_judge_47_47 : bl2 mX8_judge 47 [] 47 (.aload_n 0) 1 = true := by decide +kernel
theorem b_X8_judge_16_32 : bl2 mX8_judge 16 [(.aload_n 0, 1, 0, 0, .null), (.getfield 9, 3, 8, 1, .null), (.iload_n 2, 1, 2, 0, .null), (.aload_n 0, 1, 0, 0, .null), (.getfield 29, 3, 8, 0, .null), (.getfield 33, 3, 2, 0, .null), (.getfield 44, 3, 0, 4, .null), (.iload_n 2, 1, 2, 0, .null)] 32 (.iaload) 1 = true := by decide +kernel
theorem b_X8_judge_33_33 : bl2 mX8_judge 33 [] 33 (.iastore) 1 = true := by decide +kernel
theorem b_X8_judge_34_40 : bl2 mX8_judge 34 [(.aload_n 0, 1, 0, 0, .null), (.getfield 15, 3, 8, 2, .null), (.iload_n 2, 1, 2, 0, .null), (.iconst 0, 1, 0, 0, .int 0)] 40 (.bastore) 1 = true := by decide +kernel
theorem b_X8_judge_41_2 : bl2 mX8_judge 41 [(.iinc 2 1, 3, 2, 0, .int 1), (.goto (-42), 3, 2, 0, .null)] 2 (.iload_n 2) 1 = true := by decide +kernel
set_option maxRecDepth 20000 in
set_option maxHeartbeats 2000000 in
theorem lp_jc (E : EE) (L : Nat) (n : Nat) (hn10 : n ≤ 10) (Q : Q2) : ∀ (k : Nat) (p : Nat) (F : FF), p + k = n → F 10 5 = nI n → R2 E L mX8_judge 6 47 [some (.ref 22), some (.ref 18), none, none] [] (jcL k p F) Q → R2 E L mX8_judge 6 2 [some (.ref 22), some (.ref 18), some (.int (nI p)), none] [] F Q := by
  intro k
  induction k with
  | zero =>
    intro p F hi h5 ex
    refine R2.B (ls2 := [some (.ref 22), some (.ref 18), some (.int (nI p)), none]) (st2 := [.int (F 10 5), .int (nI p)]) b_X8_judge_2_13 rfl (fun hd => ?_)
    rw [show (F 10 5 : Int32) = nI n from h5]
    refine R2.icmp_ge 47 hd (by decide) (fun c13 => ?_) (fun c13 => absurd (nI_le (by omega) (by omega)) c13)
    refine R2.B (ls2 := [some (.ref 22), some (.ref 18), some (.int (nI p)), none]) (st2 := []) b_X8_judge_47_47 rfl (fun hd => ?_)
    refine R2.forget (ls2 := [some (.ref 22), some (.ref 18), none, none]) ⟨rfl, ⟨rfl, trivial⟩⟩ ?_
    exact ex
  | succ k ih =>
    intro p F hi h5 ex
    refine R2.B (ls2 := [some (.ref 22), some (.ref 18), some (.int (nI p)), none]) (st2 := [.int (F 10 5), .int (nI p)]) b_X8_judge_2_13 rfl (fun hd => ?_)
    rw [show (F 10 5 : Int32) = nI n from h5]
    refine R2.icmp_ge 47 hd (by decide) (fun c13 => absurd c13 (nI_ge (by omega) (by omega))) (fun c13 => ?_)
    refine R2.B (ls2 := [some (.ref 22), some (.ref 18), some (.int (nI p)), none]) (st2 := [.int (nI p), .ref 15, .int (nI p), .ref 23]) b_X8_judge_16_32 rfl (fun hd => ?_)
    refine R2.iald p rfl hd rfl (fun _ => rfl) (by decide) (by omega) ?_
    refine R2.B (ls2 := [some (.ref 22), some (.ref 18), some (.int (nI p)), none]) (st2 := [.int (F 15 p), .int (nI p), .ref 23]) b_X8_judge_33_33 rfl (fun hd => ?_)
    refine R2.iast p rfl hd (by decide) rfl (fun _ => rfl) (by decide) (by omega) ?_
    refine R2.B (ls2 := [some (.ref 22), some (.ref 18), some (.int (nI p)), none]) (st2 := [.int 0, .int (nI p), .ref 24]) b_X8_judge_34_40 rfl (fun hd => ?_)
    refine R2.zast p rfl hd (by decide) rfl (fun _ => rfl) (by decide) (by omega) (by decide) ?_
    refine R2.B (ls2 := [some (.ref 22), some (.ref 18), some (.int ((nI p) + 1)), none]) (st2 := []) b_X8_judge_41_2 rfl (fun hd => ?_)
    rw [show ((nI p) + 1 : Int32) = nI (p + 1) from nI_add p 1]
    exact ih (p + 1) _ (by omega) h5 ex
theorem ev_moves0 (E : EE) (L : Nat) (F : FF) (hc : CST F) (n : Nat) (hn : F 10 5 = nI n) (hn10 : n ≤ 10) (p d : Nat) (hp : p < 10) (hd8 : d < 8) (h : movT F n p d = -1) : Ev3 E L 4 mX8_moves [.ref 22, .int (nI p), .int (nI d)] F (some (.int 0)) F :=
  (ev_moves E L F hc n hn hn10 p d hp hd8).eq (by rw [← b2i_f (fun z => z h)]) (if_pos h)
theorem ev_moves1 (E : EE) (L : Nat) (F : FF) (hc : CST F) (n : Nat) (hn : F 10 5 = nI n) (hn10 : n ≤ 10) (p d : Nat) (hp : p < 10) (hd8 : d < 8) (h : ¬ movT F n p d = -1) : Ev3 E L 4 mX8_moves [.ref 22, .int (nI p), .int (nI d)] F (some (.int 1)) (up2 F 23 p (movT F n p d)) :=
  (ev_moves E L F hc n hn hn10 p d hp hd8).eq (by rw [← b2i_t h]) (if_neg h)
theorem ev_strikes0 (E : EE) (L : Nat) (F : FF) (n : Nat) (hn : F 10 5 = nI n) (hn10 : n ≤ 10) (a b : Nat) (ha : a < 10) (hb : b < 10) (h : ¬ strC F n a b) : Ev3 E L 5 mX8_strikes [.ref 22, .int (nI a), .int (nI b)] F (some (.int 0)) F :=
  (ev_strikes E L F n hn hn10 a b ha hb).eq (by rw [← b2i_f h]) (if_neg h)
theorem ev_strikes1 (E : EE) (L : Nat) (F : FF) (n : Nat) (hn : F 10 5 = nI n) (hn10 : n ≤ 10) (a b : Nat) (ha : a < 10) (hb : b < 10) (h : strC F n a b) : Ev3 E L 5 mX8_strikes [.ref 22, .int (nI a), .int (nI b)] F (some (.int 1)) (strF F a b) :=
  (ev_strikes E L F n hn hn10 a b ha hb).eq (by rw [← b2i_t h]) (if_pos h)
theorem b_X8_judge_64_69 : bl2 mX8_judge 64 [(.iload_n 2, 1, 2, 0, .null), (.aload_n 1, 1, 1, 0, .null), (.getfield 45, 3, 1, 3, .null)] 69 (.if_icmp .ge 71) 3 = true := by decide +kernel
theorem b_X8_judge_140_140 : bl2 mX8_judge 140 [] 140 (.return_) 1 = true := by decide +kernel
theorem b_X8_judge_72_77 : bl2 mX8_judge 72 [(.aload_n 0, 1, 0, 0, .null), (.getfield 19, 3, 8, 3, .null), (.iconst (-1), 1, 0, 0, .int (-1))] 77 (.if_icmp .ne 63) 3 = true := by decide +kernel
theorem b_X8_judge_80_85 : bl2 mX8_judge 80 [(.aload_n 1, 1, 1, 0, .null), (.getfield 48, 3, 1, 0, .null), (.iload_n 2, 1, 2, 0, .null)] 85 (.baload) 1 = true := by decide +kernel
theorem b_X8_judge_86_86 : bl2 mX8_judge 86 [] 86 (.ifCond .eq 22) 3 = true := by decide +kernel
theorem b_X8_judge_108_114 : bl2 mX8_judge 108 [(.aload_n 0, 1, 0, 0, .null), (.aload_n 1, 1, 1, 0, .null), (.getfield 51, 3, 1, 1, .null), (.iload_n 2, 1, 2, 0, .null)] 114 (.iaload) 1 = true := by decide +kernel
theorem b_X8_judge_115_120 : bl2 mX8_judge 115 [(.aload_n 1, 1, 1, 0, .null), (.getfield 54, 3, 1, 2, .null), (.iload_n 2, 1, 2, 0, .null)] 120 (.iaload) 1 = true := by decide +kernel
theorem b_X8_judge_121_121 : bl2 mX8_judge 121 [] 121 (.invokevirtual 61) 3 = true := by decide +kernel
theorem b_X8_judge_124_126 : bl2 mX8_judge 124 [(.istore_n 3, 1, 3, 0, .null), (.iload_n 3, 1, 3, 0, .null)] 126 (.ifCond .ne 8) 3 = true := by decide +kernel
theorem b_X8_judge_129_131 : bl2 mX8_judge 129 [(.aload_n 0, 1, 0, 0, .null), (.iload_n 2, 1, 2, 0, .null)] 131 (.putfield 19) 3 = true := by decide +kernel
theorem b_X8_judge_134_64 : bl2 mX8_judge 134 [(.iinc 2 1, 3, 2, 0, .int 1), (.goto (-73), 3, 64, 0, .null)] 64 (.iload_n 2) 1 = true := by decide +kernel
theorem b_X8_judge_89_95 : bl2 mX8_judge 89 [(.aload_n 0, 1, 0, 0, .null), (.aload_n 1, 1, 1, 0, .null), (.getfield 51, 3, 1, 1, .null), (.iload_n 2, 1, 2, 0, .null)] 95 (.iaload) 1 = true := by decide +kernel
theorem b_X8_judge_96_101 : bl2 mX8_judge 96 [(.aload_n 1, 1, 1, 0, .null), (.getfield 54, 3, 1, 2, .null), (.iload_n 2, 1, 2, 0, .null)] 101 (.iaload) 1 = true := by decide +kernel
theorem b_X8_judge_102_102 : bl2 mX8_judge 102 [] 102 (.invokevirtual 57) 3 = true := by decide +kernel
theorem b_X8_judge_105_126 : bl2 mX8_judge 105 [(.goto 19, 3, 124, 0, .null), (.istore_n 3, 1, 3, 0, .null), (.iload_n 3, 1, 3, 0, .null)] 126 (.ifCond .ne 8) 3 = true := by decide +kernel
set_option maxRecDepth 20000 in
set_option maxHeartbeats 2000000 in
theorem lp_jg (E : EE) (L : Nat) (n s : Nat) (hn10 : n ≤ 10) : ∀ (k : Nat) (q : Nat) (F : FF), q + k = s → CST F → F 10 5 = nI n → FairOK F n s → R2 E L mX8_judge 6 64 [some (.ref 22), some (.ref 18), some (.int (nI q)), none] [] F (fun r' F' => r' = none ∧ F' = jgL n k q F) := by
  intro k
  induction k with
  | zero =>
    intro q F hi hc h5 hf
    have hs20 := hf.2.1
    refine R2.B (ls2 := [some (.ref 22), some (.ref 18), some (.int (nI q)), none]) (st2 := [.int (F 18 3), .int (nI q)]) b_X8_judge_64_69 rfl (fun hd => ?_)
    rw [show (F 18 3 : Int32) = nI s from hf.1]
    refine R2.icmp_ge 140 hd (by decide) (fun c69 => ?_) (fun c69 => absurd (nI_le (by omega) (by omega)) c69)
    refine R2.B (ls2 := [some (.ref 22), some (.ref 18), some (.int (nI q)), none]) (st2 := []) b_X8_judge_140_140 rfl (fun hd => ?_)
    exact R2.ret3 (r := none) hd trivial rfl rfl rfl
  | succ k ih =>
    intro q F hi hc h5 hf
    have hs20 := hf.2.1
    obtain ⟨a, b, ha, e1, e2, hk⟩ := hf.2.2 q (by omega)
    rcases hk with ⟨hz, hb⟩ | ⟨hz, hb⟩
    · refine R2.B (ls2 := [some (.ref 22), some (.ref 18), some (.int (nI q)), none]) (st2 := [.int (F 18 3), .int (nI q)]) b_X8_judge_64_69 rfl (fun hd => ?_)
      rw [show (F 18 3 : Int32) = nI s from hf.1]
      refine R2.icmp_ge 140 hd (by decide) (fun c69 => absurd c69 (nI_ge (by omega) (by omega))) (fun c69 => ?_)
      refine R2.B (ls2 := [some (.ref 22), some (.ref 18), some (.int (nI q)), none]) (st2 := [.int (-1), .int (F 22 3)]) b_X8_judge_72_77 rfl (fun hd => ?_)
      refine R2.icmp_ne 140 hd (by decide) (fun c77 => ?_) (fun c77 => ?_)
      · refine R2.B (ls2 := [some (.ref 22), some (.ref 18), some (.int (nI q)), none]) (st2 := []) b_X8_judge_140_140 rfl (fun hd => ?_)
        exact R2.ret3 (r := none) hd trivial rfl rfl (by simp only [jgL]; rw [if_neg c77])
      · refine R2.B (ls2 := [some (.ref 22), some (.ref 18), some (.int (nI q)), none]) (st2 := [.int (nI q), .ref 19]) b_X8_judge_80_85 rfl (fun hd => ?_)
        refine R2.zald q rfl hd rfl (fun _ => rfl) (by decide) (by omega) ?_
        refine R2.B (ls2 := [some (.ref 22), some (.ref 18), some (.int (nI q)), none]) (st2 := [.int (F 19 q)]) b_X8_judge_86_86 rfl (fun hd => ?_)
        refine R2.if_eq 108 hd (by decide) (fun c86 => ?_) (fun c86 => absurd (hz) c86)
        refine R2.B (ls2 := [some (.ref 22), some (.ref 18), some (.int (nI q)), none]) (st2 := [.int (nI q), .ref 20, .ref 22]) b_X8_judge_108_114 rfl (fun hd => ?_)
        refine R2.iald q rfl hd rfl (fun _ => rfl) (by decide) (by omega) ?_
        refine R2.top (show (F 20 q : Int32) = nI a from e1) ?_
        refine R2.B (ls2 := [some (.ref 22), some (.ref 18), some (.int (nI q)), none]) (st2 := [.int (nI q), .ref 21, .int (nI a), .ref 22]) b_X8_judge_115_120 rfl (fun hd => ?_)
        refine R2.iald q rfl hd rfl (fun _ => rfl) (by decide) (by omega) ?_
        refine R2.top (show (F 21 q : Int32) = nI b from e2) ?_
        refine R2.B (ls2 := [some (.ref 22), some (.ref 18), some (.int (nI q)), none]) (st2 := [.int (nI b), .int (nI a), .ref 22]) b_X8_judge_121_121 rfl (fun hd => ?_)
        by_cases hm : movT F n a b = -1
        · refine R2.callV3 (M2 := mX8_moves) (As := [.int (nI a), .int (nI b)]) (rest := []) hd lk_8_61 okX8_moves (by decide) rfl (ev_moves0 E L F hc n h5 hn10 a b (by omega) hb hm) (by decide) rfl rfl (Nat.le_of_ble_eq_true rfl) ?_
          refine R2.B (ls2 := [some (.ref 22), some (.ref 18), some (.int (nI q)), some (.int 0)]) (st2 := [.int 0]) b_X8_judge_124_126 rfl (fun hd => ?_)
          refine R2.if_ne 134 hd (by decide) (fun c126 => absurd (by decide) c126) (fun c126 => ?_)
          refine R2.B (ls2 := [some (.ref 22), some (.ref 18), some (.int (nI q)), some (.int 0)]) (st2 := [.int (nI q), .ref 22]) b_X8_judge_129_131 rfl (fun hd => ?_)
          refine R2.putf (a := 8) (b := 3) hd (by decide) (by decide) rfl rfl (fun _ => rfl) ?_
          refine R2.B (ls2 := [some (.ref 22), some (.ref 18), some (.int ((nI q) + 1)), some (.int 0)]) (st2 := []) b_X8_judge_134_64 rfl (fun hd => ?_)
          rw [show ((nI q) + 1 : Int32) = nI (q + 1) from nI_add q 1]
          have e : jgL n (k + 1) q F = jgL n k (q + 1) (up2 F 22 3 (nI q)) := by
            simp only [jgL]; rw [if_pos c77, e1, e2, nI_clamp (by omega), nI_clamp (by omega)]; unfold jgS; rw [if_pos hz]; first | rw [if_pos hm] | rw [if_neg hm]
          rw [e]
          refine R2.forget (ls2 := [some (.ref 22), some (.ref 18), some (.int (nI (q + 1))), none]) ⟨rfl, ⟨rfl, ⟨rfl, trivial⟩⟩⟩ ?_
          exact ih (q + 1) _ (by omega) hc h5 hf
        · refine R2.callV3 (M2 := mX8_moves) (As := [.int (nI a), .int (nI b)]) (rest := []) hd lk_8_61 okX8_moves (by decide) rfl (ev_moves1 E L F hc n h5 hn10 a b (by omega) hb hm) (by decide) rfl rfl (Nat.le_of_ble_eq_true rfl) ?_
          refine R2.B (ls2 := [some (.ref 22), some (.ref 18), some (.int (nI q)), some (.int 1)]) (st2 := [.int 1]) b_X8_judge_124_126 rfl (fun hd => ?_)
          refine R2.if_ne 134 hd (by decide) (fun c126 => ?_) (fun c126 => absurd c126 (by decide))
          refine R2.B (ls2 := [some (.ref 22), some (.ref 18), some (.int ((nI q) + 1)), some (.int 1)]) (st2 := []) b_X8_judge_134_64 rfl (fun hd => ?_)
          rw [show ((nI q) + 1 : Int32) = nI (q + 1) from nI_add q 1]
          have e : jgL n (k + 1) q F = jgL n k (q + 1) (up2 F 23 a (movT F n a b)) := by
            simp only [jgL]; rw [if_pos c77, e1, e2, nI_clamp (by omega), nI_clamp (by omega)]; unfold jgS; rw [if_pos hz]; first | rw [if_pos hm] | rw [if_neg hm]
          rw [e]
          refine R2.forget (ls2 := [some (.ref 22), some (.ref 18), some (.int (nI (q + 1))), none]) ⟨rfl, ⟨rfl, ⟨rfl, trivial⟩⟩⟩ ?_
          exact ih (q + 1) _ (by omega) hc h5 hf
    · refine R2.B (ls2 := [some (.ref 22), some (.ref 18), some (.int (nI q)), none]) (st2 := [.int (F 18 3), .int (nI q)]) b_X8_judge_64_69 rfl (fun hd => ?_)
      rw [show (F 18 3 : Int32) = nI s from hf.1]
      refine R2.icmp_ge 140 hd (by decide) (fun c69 => absurd c69 (nI_ge (by omega) (by omega))) (fun c69 => ?_)
      refine R2.B (ls2 := [some (.ref 22), some (.ref 18), some (.int (nI q)), none]) (st2 := [.int (-1), .int (F 22 3)]) b_X8_judge_72_77 rfl (fun hd => ?_)
      refine R2.icmp_ne 140 hd (by decide) (fun c77 => ?_) (fun c77 => ?_)
      · refine R2.B (ls2 := [some (.ref 22), some (.ref 18), some (.int (nI q)), none]) (st2 := []) b_X8_judge_140_140 rfl (fun hd => ?_)
        exact R2.ret3 (r := none) hd trivial rfl rfl (by simp only [jgL]; rw [if_neg c77])
      · refine R2.B (ls2 := [some (.ref 22), some (.ref 18), some (.int (nI q)), none]) (st2 := [.int (nI q), .ref 19]) b_X8_judge_80_85 rfl (fun hd => ?_)
        refine R2.zald q rfl hd rfl (fun _ => rfl) (by decide) (by omega) ?_
        refine R2.B (ls2 := [some (.ref 22), some (.ref 18), some (.int (nI q)), none]) (st2 := [.int (F 19 q)]) b_X8_judge_86_86 rfl (fun hd => ?_)
        refine R2.if_eq 108 hd (by decide) (fun c86 => absurd c86 (by rw [hz]; decide)) (fun c86 => ?_)
        refine R2.B (ls2 := [some (.ref 22), some (.ref 18), some (.int (nI q)), none]) (st2 := [.int (nI q), .ref 20, .ref 22]) b_X8_judge_89_95 rfl (fun hd => ?_)
        refine R2.iald q rfl hd rfl (fun _ => rfl) (by decide) (by omega) ?_
        refine R2.top (show (F 20 q : Int32) = nI a from e1) ?_
        refine R2.B (ls2 := [some (.ref 22), some (.ref 18), some (.int (nI q)), none]) (st2 := [.int (nI q), .ref 21, .int (nI a), .ref 22]) b_X8_judge_96_101 rfl (fun hd => ?_)
        refine R2.iald q rfl hd rfl (fun _ => rfl) (by decide) (by omega) ?_
        refine R2.top (show (F 21 q : Int32) = nI b from e2) ?_
        refine R2.B (ls2 := [some (.ref 22), some (.ref 18), some (.int (nI q)), none]) (st2 := [.int (nI b), .int (nI a), .ref 22]) b_X8_judge_102_102 rfl (fun hd => ?_)
        by_cases hm : strC F n a b
        · refine R2.callV3 (M2 := mX8_strikes) (As := [.int (nI a), .int (nI b)]) (rest := []) hd lk_8_57 okX8_strikes (by decide) rfl (ev_strikes1 E L F n h5 hn10 a b (by omega) (by omega) hm) (by decide) rfl rfl (Nat.le_of_ble_eq_true rfl) ?_
          refine R2.B (ls2 := [some (.ref 22), some (.ref 18), some (.int (nI q)), some (.int 1)]) (st2 := [.int 1]) b_X8_judge_105_126 rfl (fun hd => ?_)
          refine R2.if_ne 134 hd (by decide) (fun c126 => ?_) (fun c126 => absurd c126 (by decide))
          refine R2.B (ls2 := [some (.ref 22), some (.ref 18), some (.int ((nI q) + 1)), some (.int 1)]) (st2 := []) b_X8_judge_134_64 rfl (fun hd => ?_)
          rw [show ((nI q) + 1 : Int32) = nI (q + 1) from nI_add q 1]
          have e : jgL n (k + 1) q F = jgL n k (q + 1) (strF F a b) := by
            simp only [jgL]; rw [if_pos c77, e1, e2, nI_clamp (by omega), nI_clamp (by omega)]; unfold jgS; rw [if_neg (show ¬ F 19 q = 0 by rw [hz]; decide)]; first | rw [if_pos hm] | rw [if_neg hm]
          rw [e]
          refine R2.forget (ls2 := [some (.ref 22), some (.ref 18), some (.int (nI (q + 1))), none]) ⟨rfl, ⟨rfl, ⟨rfl, trivial⟩⟩⟩ ?_
          exact ih (q + 1) _ (by omega) hc h5 hf
        · refine R2.callV3 (M2 := mX8_strikes) (As := [.int (nI a), .int (nI b)]) (rest := []) hd lk_8_57 okX8_strikes (by decide) rfl (ev_strikes0 E L F n h5 hn10 a b (by omega) (by omega) hm) (by decide) rfl rfl (Nat.le_of_ble_eq_true rfl) ?_
          refine R2.B (ls2 := [some (.ref 22), some (.ref 18), some (.int (nI q)), some (.int 0)]) (st2 := [.int 0]) b_X8_judge_105_126 rfl (fun hd => ?_)
          refine R2.if_ne 134 hd (by decide) (fun c126 => absurd (by decide) c126) (fun c126 => ?_)
          refine R2.B (ls2 := [some (.ref 22), some (.ref 18), some (.int (nI q)), some (.int 0)]) (st2 := [.int (nI q), .ref 22]) b_X8_judge_129_131 rfl (fun hd => ?_)
          refine R2.putf (a := 8) (b := 3) hd (by decide) (by decide) rfl rfl (fun _ => rfl) ?_
          refine R2.B (ls2 := [some (.ref 22), some (.ref 18), some (.int ((nI q) + 1)), some (.int 0)]) (st2 := []) b_X8_judge_134_64 rfl (fun hd => ?_)
          rw [show ((nI q) + 1 : Int32) = nI (q + 1) from nI_add q 1]
          have e : jgL n (k + 1) q F = jgL n k (q + 1) (up2 F 22 3 (nI q)) := by
            simp only [jgL]; rw [if_pos c77, e1, e2, nI_clamp (by omega), nI_clamp (by omega)]; unfold jgS; rw [if_neg (show ¬ F 19 q = 0 by rw [hz]; decide)]; first | rw [if_pos hm] | rw [if_neg hm]
          rw [e]
          refine R2.forget (ls2 := [some (.ref 22), some (.ref 18), some (.int (nI (q + 1))), none]) ⟨rfl, ⟨rfl, ⟨rfl, trivial⟩⟩⟩ ?_
          exact ih (q + 1) _ (by omega) hc h5 hf
theorem jcL_row : ∀ (k p : Nat) (F : FF) (a : Nat), a ≠ 23 → a ≠ 24 → jcL k p F a = F a
  | 0, _, _, _, _, _ => rfl
  | k + 1, p, F, a, h1, h2 => by
    rw [jcL, jcL_row k (p + 1) _ a h1 h2]
    funext j
    simp [up2, h1, h2]
theorem CST.of {F F' : FF} (h : CST F) (e1 : F' 1 = F 1) (e2 : F' 2 = F 2) (e3 : F' 3 = F 3) (e4 : F' 4 = F 4) : CST F' := by unfold CST; rw [e1, e2, e3, e4]; exact h
theorem FairOK.of {F F' : FF} {n s : Nat} (h : FairOK F n s) (e1 : F' 18 = F 18) (e2 : F' 19 = F 19) (e3 : F' 20 = F 20) (e4 : F' 21 = F 21) : FairOK F' n s := by unfold FairOK; rw [e1, e2, e3, e4]; exact h
theorem b_X8_judge_0_2 : bl2 mX8_judge 0 [(.iconst 0, 1, 0, 0, .int 0), (.istore_n 2, 1, 2, 0, .null)] 2 (.iload_n 2) 1 = true := by decide +kernel
theorem b_X8_judge_47_49 : bl2 mX8_judge 47 [(.aload_n 0, 1, 0, 0, .null), (.iconst 0, 1, 0, 0, .int 0)] 49 (.putfield 23) 3 = true := by decide +kernel
theorem b_X8_judge_52_54 : bl2 mX8_judge 52 [(.aload_n 0, 1, 0, 0, .null), (.iconst 0, 1, 0, 0, .int 0)] 54 (.putfield 26) 3 = true := by decide +kernel
theorem b_X8_judge_57_59 : bl2 mX8_judge 57 [(.aload_n 0, 1, 0, 0, .null), (.iconst (-1), 1, 0, 0, .int (-1))] 59 (.putfield 19) 3 = true := by decide +kernel
theorem b_X8_judge_62_64 : bl2 mX8_judge 62 [(.iconst 0, 1, 0, 0, .int 0), (.istore_n 2, 1, 2, 0, .null)] 64 (.iload_n 2) 1 = true := by decide +kernel
set_option maxRecDepth 20000 in
set_option maxHeartbeats 1000000 in
theorem ev_judge (E : EE) (L : Nat) (F : FF) (hc : CST F) (n : Nat) (hn : F 10 5 = nI n) (hn10 : n ≤ 10) (s : Nat) (hf : FairOK F n s) : Ev3 E L 6 mX8_judge [.ref 22, .ref 18] F none (jgF F n s) := by
  refine Ev3.of okX8_judge.2.2.1 (Nat.le_of_ble_eq_true rfl) ?_
  show R2 E L mX8_judge 6 0 [some (.ref 22), some (.ref 18), none, none] [] F _
  refine R2.B (ls2 := [some (.ref 22), some (.ref 18), some (.int 0), none]) (st2 := []) b_X8_judge_0_2 rfl (fun hd => ?_)
  refine lp_jc E L n hn10 _ n 0 F (by omega) hn ?_
  refine R2.B (ls2 := [some (.ref 22), some (.ref 18), none, none]) (st2 := [.int 0, .ref 22]) b_X8_judge_47_49 rfl (fun hd => ?_)
  refine R2.putf (a := 8) (b := 4) hd (by decide) (by decide) rfl rfl (fun _ => rfl) ?_
  refine R2.B (ls2 := [some (.ref 22), some (.ref 18), none, none]) (st2 := [.int 0, .ref 22]) b_X8_judge_52_54 rfl (fun hd => ?_)
  refine R2.putf (a := 8) (b := 5) hd (by decide) (by decide) rfl rfl (fun _ => rfl) ?_
  refine R2.B (ls2 := [some (.ref 22), some (.ref 18), none, none]) (st2 := [.int (-1), .ref 22]) b_X8_judge_57_59 rfl (fun hd => ?_)
  refine R2.putf (a := 8) (b := 3) hd (by decide) (by decide) rfl rfl (fun _ => rfl) ?_
  refine R2.B (ls2 := [some (.ref 22), some (.ref 18), some (.int 0), none]) (st2 := []) b_X8_judge_62_64 rfl (fun hd => ?_)
  have hr := jcL_row n 0 F
  exact lp_jg E L n s hn10 s 0 _ (by omega) (hc.of (hr 1 (by decide) (by decide)) (hr 2 (by decide) (by decide)) (hr 3 (by decide) (by decide)) (hr 4 (by decide) (by decide))) ((congrFun (hr 10 (by decide) (by decide)) 5).trans hn) (hf.of (hr 18 (by decide) (by decide)) (hr 19 (by decide) (by decide)) (hr 20 (by decide) (by decide)) (hr 21 (by decide) (by decide)))
