/-! Walk: search, direction. Printed by wip/whole/gen/spec10.py. -/
theorem nI_m1 {v : Nat} (h : v < 2147483648) : ¬ nI v = -1 := fun z => by
  have := nI_pos (n := v) h
  rw [z] at this
  exact this (by decide)
theorem qnS_row {n a w d : Nat} {st : Int32} {F : FF} {x : Nat} (h1 : x ≠ 29) (h2 : x ≠ 31) (h3 : x ≠ 32) : qnS n a st w d F x = F x := by
  unfold qnS; split
  · rfl
  · split
    · exact enqF_row h1 h2 h3
    · funext j; simp [up2, h2]
theorem qnS_wok {n a w d : Nat} {st : Int32} {F : FF} (hw : w < 1024) (hd : d < 8) (h : WOK F) : WOK (qnS n a st w d F) := by
  unfold qnS; split
  · exact h
  · rename_i hx
    rcases nbr_cases hw hd with hv | ⟨v, hv8, hv⟩
    · exact absurd (Or.inl hv) hx
    · rw [hv, nI_clamp (by omega)]
      split
      · exact h.enq hv8 _
      · exact h.of rfl rfl
theorem qnL_row {n a w : Nat} {st : Int32} {x : Nat} (h1 : x ≠ 29) (h2 : x ≠ 31) (h3 : x ≠ 32) : ∀ (k d : Nat) (F : FF), qnL n a st w k d F x = F x
  | 0, _, _ => rfl
  | k + 1, d, F => by rw [qnL, qnL_row h1 h2 h3 k, qnS_row h1 h2 h3]
theorem qnL_wok {n a w : Nat} {st : Int32} (hw : w < 1024) : ∀ (k d : Nat) (F : FF), d + k = 8 → WOK F → WOK (qnL n a st w k d F)
  | 0, _, _, _, h => h
  | k + 1, d, F, hd, h => by rw [qnL]; exact qnL_wok hw k (d + 1) _ (by omega) (qnS_wok hw (by omega) h)
theorem qgS_row {n a b w : Nat} {st : Int32} {F : FF} {x : Nat} (h0 : x ≠ 30) (h1 : x ≠ 29) (h2 : x ≠ 31) (h3 : x ≠ 32) : qgS n a b st F w x = F x := by
  unfold qgS; split
  · rw [enqF_row h1 h2 h3]; funext j; simp [up2, h0]
  · funext j; simp [up2, h0]
theorem qgS_wok {n a b w : Nat} {st : Int32} {F : FF} (hw : w < 1024) (h : WOK F) : WOK (qgS n a b st F w) := by
  unfold qgS; split
  · exact (show WOK (up2 F 30 a (nI w)) from h).enq hw _
  · exact h
theorem qgL_row {n a b : Nat} {st : Int32} {x : Nat} (h0 : x ≠ 30) (h1 : x ≠ 29) (h2 : x ≠ 31) (h3 : x ≠ 32) : ∀ (k w : Nat) (F : FF), qgL n a b st k w F x = F x
  | 0, _, _ => rfl
  | k + 1, w, F => by rw [qgL, qgL_row h0 h1 h2 h3 k, qgS_row h0 h1 h2 h3]
theorem qgL_wok {n a b : Nat} {st : Int32} : ∀ (k w : Nat) (F : FF), w + k = 1024 → WOK F → WOK (qgL n a b st k w F)
  | 0, _, _, _, h => h
  | k + 1, w, F, hw, h => by rw [qgL]; exact qgL_wok k (w + 1) _ (by omega) (qgS_wok (by omega) h)
theorem b_X9_search_74_79 : bl2 mX9_search 74 [(.iload 4, 2, 4, 0, .null), (.sipush 1024, 3, 0, 0, .int 1024)] 79 (.if_icmp .ge 41) 3 = true := by decide +kernel
theorem b_X9_search_120_125 : bl2 mX9_search 120 [(.aload_n 0, 1, 0, 0, .null), (.getfield 15, 3, 9, 2, .null), (.iload_n 3, 1, 3, 0, .null)] 125 (.iaload) 1 = true := by decide +kernel
theorem b_X9_search_126_127 : bl2 mX9_search 126 [(.iconst (-1), 1, 0, 0, .int (-1))] 127 (.if_icmp .ne 7) 3 = true := by decide +kernel
theorem b_X9_search_134_139 : bl2 mX9_search 134 [(.aload_n 0, 1, 0, 0, .null), (.getfield 15, 3, 9, 2, .null), (.iload_n 3, 1, 3, 0, .null)] 139 (.iaload) 1 = true := by decide +kernel
theorem b_X9_search_140_140 : bl2 mX9_search 140 [] 140 (.ireturn) 1 = true := by decide +kernel
theorem b_X9_search_130_140 : bl2 mX9_search 130 [(.iconst (-1), 1, 0, 0, .int (-1)), (.goto 9, 3, 140, 0, .null)] 140 (.ireturn) 1 = true := by decide +kernel
theorem b_X9_search_82_88 : bl2 mX9_search 82 [(.iload 4, 2, 4, 0, .null), (.aload_n 0, 1, 0, 0, .null), (.getfield 21, 3, 9, 4, .null)] 88 (.if_icmp .ge 32) 3 = true := by decide +kernel
theorem b_X9_search_91_96 : bl2 mX9_search 91 [(.aload_n 0, 1, 0, 0, .null), (.getfield 15, 3, 9, 2, .null), (.iload_n 3, 1, 3, 0, .null)] 96 (.iaload) 1 = true := by decide +kernel
theorem b_X9_search_97_98 : bl2 mX9_search 97 [(.iconst (-1), 1, 0, 0, .int (-1))] 98 (.if_icmp .ne 22) 3 = true := by decide +kernel
theorem b_X9_search_101_109 : bl2 mX9_search 101 [(.aload_n 0, 1, 0, 0, .null), (.iload_n 1, 1, 1, 0, .null), (.aload_n 0, 1, 0, 0, .null), (.getfield 18, 3, 9, 3, .null), (.iload 4, 2, 4, 0, .null)] 109 (.iaload) 1 = true := by decide +kernel
theorem b_X9_search_110_111 : bl2 mX9_search 110 [(.iload_n 3, 1, 3, 0, .null)] 111 (.invokevirtual 60) 3 = true := by decide +kernel
theorem b_X9_search_114_74 : bl2 mX9_search 114 [(.iinc 4 1, 3, 4, 0, .int 1), (.goto (-43), 3, 74, 0, .null)] 74 (.iload 4) 2 = true := by decide +kernel
set_option maxRecDepth 20000 in
set_option maxHeartbeats 2000000 in
theorem lp_srch (E : EE) (L : Nat) (n a b s0 : Nat) (hn10 : n ≤ 10) (ha : a < 10) (hs0 : s0 < 1024) : ∀ (k : Nat) (h : Nat) (F : FF), h + k = 1024 → F 10 5 = nI n → WOK F → CST F → R2 E L mX9_search 6 74 [some (.ref 29), some (.int (nI a)), some (.int (nI b)), some (.int (nI s0)), some (.int (nI h))] [] F (fun r' F' => r' = some (.int (srL n a s0 k h F 31 s0)) ∧ F' = srL n a s0 k h F) := by
  intro k
  induction k with
  | zero =>
    intro h F hi h5 hw hc
    have hw1 := hw
    obtain ⟨z, hz, e0, hq⟩ := hw1
    refine R2.B (ls2 := [some (.ref 29), some (.int (nI a)), some (.int (nI b)), some (.int (nI s0)), some (.int (nI h))]) (st2 := [.int 1024, .int (nI h)]) b_X9_search_74_79 rfl (fun hd => ?_)
    refine R2.icmp_ge 120 hd (by decide) (fun c79 => ?_) (fun c79 => absurd (nI_le (a := 1024) (b := h) (by omega) (by omega)) c79)
    refine R2.B (ls2 := [some (.ref 29), some (.int (nI a)), some (.int (nI b)), some (.int (nI s0)), some (.int (nI h))]) (st2 := [.int (nI s0), .ref 31]) b_X9_search_120_125 rfl (fun hd => ?_)
    refine R2.iald s0 rfl hd rfl (fun _ => rfl) (by decide) (by omega) ?_
    refine R2.B (ls2 := [some (.ref 29), some (.int (nI a)), some (.int (nI b)), some (.int (nI s0)), some (.int (nI h))]) (st2 := [.int (-1), .int (F 31 s0)]) b_X9_search_126_127 rfl (fun hd => ?_)
    refine R2.icmp_ne 134 hd (by decide) (fun c127 => ?_) (fun c127 => ?_)
    · refine R2.B (ls2 := [some (.ref 29), some (.int (nI a)), some (.int (nI b)), some (.int (nI s0)), some (.int (nI h))]) (st2 := [.int (nI s0), .ref 31]) b_X9_search_134_139 rfl (fun hd => ?_)
      refine R2.iald s0 rfl hd rfl (fun _ => rfl) (by decide) (by omega) ?_
      refine R2.B (ls2 := [some (.ref 29), some (.int (nI a)), some (.int (nI b)), some (.int (nI s0)), some (.int (nI h))]) (st2 := [.int (F 31 s0)]) b_X9_search_140_140 rfl (fun hd => ?_)
      have e : srL n a s0 0 h F = F := rfl
      exact R2.ret3 (r := some (.int (F 31 s0))) hd trivial rfl (by first | (rw [e]; done) | rw [e, c127]) (by rw [e])
    · refine R2.B (ls2 := [some (.ref 29), some (.int (nI a)), some (.int (nI b)), some (.int (nI s0)), some (.int (nI h))]) (st2 := [.int (-1)]) b_X9_search_130_140 rfl (fun hd => ?_)
      have e : srL n a s0 0 h F = F := rfl
      exact R2.ret3 (r := some (.int (-1))) hd trivial rfl (by first | (rw [e]; done) | rw [e, c127]) (by rw [e])
  | succ k ih =>
    intro h F hi h5 hw hc
    have hw1 := hw
    obtain ⟨z, hz, e0, hq⟩ := hw1
    refine R2.B (ls2 := [some (.ref 29), some (.int (nI a)), some (.int (nI b)), some (.int (nI s0)), some (.int (nI h))]) (st2 := [.int 1024, .int (nI h)]) b_X9_search_74_79 rfl (fun hd => ?_)
    refine R2.icmp_ge 120 hd (by decide) (fun c79 => absurd c79 (nI_ge (b := 1024) (by omega) (by omega))) (fun c79 => ?_)
    refine R2.B (ls2 := [some (.ref 29), some (.int (nI a)), some (.int (nI b)), some (.int (nI s0)), some (.int (nI h))]) (st2 := [.int (F 29 4), .int (nI h)]) b_X9_search_82_88 rfl (fun hd => ?_)
    rw [show (F 29 4 : Int32) = nI z from e0]
    refine R2.icmp_ge 120 hd (by decide) (fun c88 => ?_) (fun c88 => ?_)
    · have nc88 : z ≤ h := (nI_leI (a := z) (b := h) (by omega) (by omega)).mp c88
      refine R2.B (ls2 := [some (.ref 29), some (.int (nI a)), some (.int (nI b)), some (.int (nI s0)), some (.int (nI h))]) (st2 := [.int (nI s0), .ref 31]) b_X9_search_120_125 rfl (fun hd => ?_)
      refine R2.iald s0 rfl hd rfl (fun _ => rfl) (by decide) (by omega) ?_
      refine R2.B (ls2 := [some (.ref 29), some (.int (nI a)), some (.int (nI b)), some (.int (nI s0)), some (.int (nI h))]) (st2 := [.int (-1), .int (F 31 s0)]) b_X9_search_126_127 rfl (fun hd => ?_)
      refine R2.icmp_ne 134 hd (by decide) (fun c127 => ?_) (fun c127 => ?_)
      · refine R2.B (ls2 := [some (.ref 29), some (.int (nI a)), some (.int (nI b)), some (.int (nI s0)), some (.int (nI h))]) (st2 := [.int (nI s0), .ref 31]) b_X9_search_134_139 rfl (fun hd => ?_)
        refine R2.iald s0 rfl hd rfl (fun _ => rfl) (by decide) (by omega) ?_
        refine R2.B (ls2 := [some (.ref 29), some (.int (nI a)), some (.int (nI b)), some (.int (nI s0)), some (.int (nI h))]) (st2 := [.int (F 31 s0)]) b_X9_search_140_140 rfl (fun hd => ?_)
        have e : srL n a s0 (k + 1) h F = F := by simp only [srL]; rw [if_neg (fun z9 => by rw [zq_eq e0 hz] at z9; omega)]
        exact R2.ret3 (r := some (.int (F 31 s0))) hd trivial rfl (by first | (rw [e]; done) | rw [e, c127]) (by rw [e])
      · refine R2.B (ls2 := [some (.ref 29), some (.int (nI a)), some (.int (nI b)), some (.int (nI s0)), some (.int (nI h))]) (st2 := [.int (-1)]) b_X9_search_130_140 rfl (fun hd => ?_)
        have e : srL n a s0 (k + 1) h F = F := by simp only [srL]; rw [if_neg (fun z9 => by rw [zq_eq e0 hz] at z9; omega)]
        exact R2.ret3 (r := some (.int (-1))) hd trivial rfl (by first | (rw [e]; done) | rw [e, c127]) (by rw [e])
    · have nc88 : ¬ z ≤ h := fun h9 => c88 ((nI_leI (a := z) (b := h) (by omega) (by omega)).mpr h9)
      refine R2.B (ls2 := [some (.ref 29), some (.int (nI a)), some (.int (nI b)), some (.int (nI s0)), some (.int (nI h))]) (st2 := [.int (nI s0), .ref 31]) b_X9_search_91_96 rfl (fun hd => ?_)
      refine R2.iald s0 rfl hd rfl (fun _ => rfl) (by decide) (by omega) ?_
      refine R2.B (ls2 := [some (.ref 29), some (.int (nI a)), some (.int (nI b)), some (.int (nI s0)), some (.int (nI h))]) (st2 := [.int (-1), .int (F 31 s0)]) b_X9_search_97_98 rfl (fun hd => ?_)
      refine R2.icmp_ne 120 hd (by decide) (fun c98 => ?_) (fun c98 => ?_)
      · refine R2.B (ls2 := [some (.ref 29), some (.int (nI a)), some (.int (nI b)), some (.int (nI s0)), some (.int (nI h))]) (st2 := [.int (nI s0), .ref 31]) b_X9_search_120_125 rfl (fun hd => ?_)
        refine R2.iald s0 rfl hd rfl (fun _ => rfl) (by decide) (by omega) ?_
        refine R2.B (ls2 := [some (.ref 29), some (.int (nI a)), some (.int (nI b)), some (.int (nI s0)), some (.int (nI h))]) (st2 := [.int (-1), .int (F 31 s0)]) b_X9_search_126_127 rfl (fun hd => ?_)
        refine R2.icmp_ne 134 hd (by decide) (fun c127 => ?_) (fun c127 => ?_)
        · refine R2.B (ls2 := [some (.ref 29), some (.int (nI a)), some (.int (nI b)), some (.int (nI s0)), some (.int (nI h))]) (st2 := [.int (nI s0), .ref 31]) b_X9_search_134_139 rfl (fun hd => ?_)
          refine R2.iald s0 rfl hd rfl (fun _ => rfl) (by decide) (by omega) ?_
          refine R2.B (ls2 := [some (.ref 29), some (.int (nI a)), some (.int (nI b)), some (.int (nI s0)), some (.int (nI h))]) (st2 := [.int (F 31 s0)]) b_X9_search_140_140 rfl (fun hd => ?_)
          have e : srL n a s0 (k + 1) h F = F := by simp only [srL]; rw [if_neg (fun z => c98 z.2)]
          exact R2.ret3 (r := some (.int (F 31 s0))) hd trivial rfl (by first | (rw [e]; done) | rw [e, c127]) (by rw [e])
        · refine R2.B (ls2 := [some (.ref 29), some (.int (nI a)), some (.int (nI b)), some (.int (nI s0)), some (.int (nI h))]) (st2 := [.int (-1)]) b_X9_search_130_140 rfl (fun hd => ?_)
          have e : srL n a s0 (k + 1) h F = F := by simp only [srL]; rw [if_neg (fun z => c98 z.2)]
          exact R2.ret3 (r := some (.int (-1))) hd trivial rfl (by first | (rw [e]; done) | rw [e, c127]) (by rw [e])
      · refine R2.B (ls2 := [some (.ref 29), some (.int (nI a)), some (.int (nI b)), some (.int (nI s0)), some (.int (nI h))]) (st2 := [.int (nI h), .ref 32, .int (nI a), .ref 29]) b_X9_search_101_109 rfl (fun hd => ?_)
        obtain ⟨w, hw0, ew⟩ := hq h (by omega)
        refine R2.iald h rfl hd rfl (fun _ => rfl) (by decide) (by omega) ?_
        refine R2.top (show (F 32 h : Int32) = nI w from ew) ?_
        refine R2.B (ls2 := [some (.ref 29), some (.int (nI a)), some (.int (nI b)), some (.int (nI s0)), some (.int (nI h))]) (st2 := [.int (nI s0), .int (nI w), .int (nI a), .ref 29]) b_X9_search_110_111 rfl (fun hd => ?_)
        refine R2.callV3 (M2 := mX9_queueNeighbours) (As := [.int (nI a), .int (nI w), .int (nI s0)]) (rest := []) hd lk_9_60 okX9_queueNeighbours (by decide) rfl (ev_queueNeighbours E L F hc n h5 hn10 a w ha hw0 (nI s0) hw) (by decide) rfl rfl (Nat.le_of_ble_eq_true rfl) ?_
        refine R2.B (ls2 := [some (.ref 29), some (.int (nI a)), some (.int (nI b)), some (.int (nI s0)), some (.int ((nI h) + 1))]) (st2 := []) b_X9_search_114_74 rfl (fun hd => ?_)
        rw [show ((nI h) + 1 : Int32) = nI (h + 1) from nI_add h 1]
        have e : srL n a s0 (k + 1) h F = srL n a s0 k (h + 1) (qnL n a (nI s0) w 8 0 F) := by
          simp only [srL]; rw [if_pos ⟨by rw [zq_eq e0 hz]; omega, c98⟩, ew, nI_clamp (by omega)]
        rw [e]
        have hr := fun x h1 h2 h3 => qnL_row (n := n) (a := a) (w := w) (st := nI s0) (x := x) h1 h2 h3 8 0 F
        exact ih (h + 1) _ (by omega) ((congrFun (hr 10 (by decide) (by decide) (by decide)) 5).trans h5) (qnL_wok hw0 8 0 F (by omega) hw) (hc.of (hr 1 (by decide) (by decide) (by decide)) (hr 2 (by decide) (by decide) (by decide)) (hr 3 (by decide) (by decide) (by decide)) (hr 4 (by decide) (by decide) (by decide)))
theorem b_X9_search_0_9 : bl2 mX9_search 0 [(.aload_n 0, 1, 0, 0, .null), (.getfield 25, 3, 9, 0, .null), (.getfield 29, 3, 2, 0, .null), (.iload_n 1, 1, 1, 0, .null), (.iload_n 2, 1, 2, 0, .null)] 9 (.invokevirtual 35) 3 = true := by decide +kernel
theorem b_X9_search_12_12 : bl2 mX9_search 12 [] 12 (.ifCond .ne 5) 3 = true := by decide +kernel
theorem b_X9_search_15_16 : bl2 mX9_search 15 [(.iconst (-1), 1, 0, 0, .int (-1))] 16 (.ireturn) 1 = true := by decide +kernel
set_option maxRecDepth 20000 in
set_option maxHeartbeats 1000000 in
theorem ev_search0 (E : EE) (L : Nat) (F : FF) (a b : Nat) (ha : a < 10) (hb : b < 10) (ht : ¬ trd (F 11) (F 12) (F 13) a b) : Ev3 E L 6 mX9_search [.ref 29, .int (nI a), .int (nI b)] F (some (.int (-1))) F := by
  refine Ev3.of okX9_search.2.2.1 (Nat.le_of_ble_eq_true rfl) ?_
  show R2 E L mX9_search 6 0 [some (.ref 29), some (.int (nI a)), some (.int (nI b)), none, none] [] F _
  refine R2.B (ls2 := [some (.ref 29), some (.int (nI a)), some (.int (nI b)), none, none]) (st2 := [.int (nI b), .int (nI a), .ref 10]) b_X9_search_0_9 rfl (fun hd => ?_)
  refine R2.callV3 (M2 := mX0_canTrade) (As := [.int (nI a), .int (nI b)]) (rest := []) hd lk_9_35 okX0_canTrade (by decide) rfl (ev_canTrade E L F a b (by omega) (by omega)) (by decide) rfl rfl (Nat.le_of_ble_eq_true rfl) ?_
  refine R2.B (ls2 := [some (.ref 29), some (.int (nI a)), some (.int (nI b)), none, none]) (st2 := [.int (b2i (trd (F 11) (F 12) (F 13) a b))]) b_X9_search_12_12 rfl (fun hd => ?_)
  refine R2.if_ne 17 hd (by decide) (fun c12 => absurd (b2i_zero.mpr ht) c12) (fun c12 => ?_)
  refine R2.B (ls2 := [some (.ref 29), some (.int (nI a)), some (.int (nI b)), none, none]) (st2 := [.int (-1)]) b_X9_search_15_16 rfl (fun hd => ?_)
  exact R2.ret3 (r := some (.int (-1))) hd trivial rfl rfl rfl
theorem b_X9_search_17_28 : bl2 mX9_search 17 [(.aload_n 0, 1, 0, 0, .null), (.getfield 25, 3, 9, 0, .null), (.getfield 29, 3, 2, 0, .null), (.getfield 41, 3, 0, 4, .null), (.iload_n 1, 1, 1, 0, .null)] 28 (.iaload) 1 = true := by decide +kernel
theorem b_X9_search_29_48 : bl2 mX9_search 29 [(.istore_n 3, 1, 3, 0, .null), (.aload_n 0, 1, 0, 0, .null), (.getfield 25, 3, 9, 0, .null), (.getfield 29, 3, 2, 0, .null), (.getfield 41, 3, 0, 4, .null), (.iconst 0, 1, 0, 0, .int 0), (.aload_n 0, 1, 0, 0, .null), (.getfield 9, 3, 9, 1, .null), (.iconst 0, 1, 0, 0, .int 0), (.bipush 10, 2, 0, 0, .int 10)] 48 (.invokestatic 44) 3 = true := by decide +kernel
theorem b_X9_search_51_56 : bl2 mX9_search 51 [(.aload_n 0, 1, 0, 0, .null), (.getfield 15, 3, 9, 2, .null), (.iconst (-1), 1, 0, 0, .int (-1))] 56 (.invokestatic 50) 3 = true := by decide +kernel
theorem b_X9_search_59_61 : bl2 mX9_search 59 [(.aload_n 0, 1, 0, 0, .null), (.iconst 0, 1, 0, 0, .int 0)] 61 (.putfield 21) 3 = true := by decide +kernel
theorem b_X9_search_64_68 : bl2 mX9_search 64 [(.aload_n 0, 1, 0, 0, .null), (.iload_n 1, 1, 1, 0, .null), (.iload_n 2, 1, 2, 0, .null), (.iload_n 3, 1, 3, 0, .null)] 68 (.invokevirtual 56) 3 = true := by decide +kernel
theorem b_X9_search_71_74 : bl2 mX9_search 71 [(.iconst 0, 1, 0, 0, .int 0), (.istore 4, 2, 4, 0, .null)] 74 (.iload 4) 2 = true := by decide +kernel
set_option maxRecDepth 20000 in
set_option maxHeartbeats 1000000 in
theorem ev_search1 (E : EE) (L : Nat) (F : FF) (hc : CST F) (n : Nat) (hn : F 10 5 = nI n) (hn10 : n ≤ 10) (a b s0 : Nat) (ha : a < 10) (hb : b < 10) (hs : F 15 a = nI s0) (hs0 : s0 < 1024) (ht : trd (F 11) (F 12) (F 13) a b) : Ev3 E L 6 mX9_search [.ref 29, .int (nI a), .int (nI b)] F (some (.int (srch F n a b s0 31 s0))) (srch F n a b s0) := by
  refine Ev3.of okX9_search.2.2.1 (Nat.le_of_ble_eq_true rfl) ?_
  show R2 E L mX9_search 6 0 [some (.ref 29), some (.int (nI a)), some (.int (nI b)), none, none] [] F _
  refine R2.B (ls2 := [some (.ref 29), some (.int (nI a)), some (.int (nI b)), none, none]) (st2 := [.int (nI b), .int (nI a), .ref 10]) b_X9_search_0_9 rfl (fun hd => ?_)
  refine R2.callV3 (M2 := mX0_canTrade) (As := [.int (nI a), .int (nI b)]) (rest := []) hd lk_9_35 okX0_canTrade (by decide) rfl (ev_canTrade E L F a b (by omega) (by omega)) (by decide) rfl rfl (Nat.le_of_ble_eq_true rfl) ?_
  refine R2.B (ls2 := [some (.ref 29), some (.int (nI a)), some (.int (nI b)), none, none]) (st2 := [.int (b2i (trd (F 11) (F 12) (F 13) a b))]) b_X9_search_12_12 rfl (fun hd => ?_)
  refine R2.if_ne 17 hd (by decide) (fun c12 => ?_) (fun c12 => absurd c12 (b2i_nz.mpr ht))
  refine R2.B (ls2 := [some (.ref 29), some (.int (nI a)), some (.int (nI b)), none, none]) (st2 := [.int (nI a), .ref 15]) b_X9_search_17_28 rfl (fun hd => ?_)
  refine R2.iald a rfl hd rfl (fun _ => rfl) (by decide) (by omega) ?_
  refine R2.top (show (F 15 a : Int32) = nI s0 from hs) ?_
  refine R2.B (ls2 := [some (.ref 29), some (.int (nI a)), some (.int (nI b)), some (.int (nI s0)), none]) (st2 := [.int 10, .int 0, .ref 30, .int 0, .ref 15]) b_X9_search_29_48 rfl (fun hd => ?_)
  refine R2.acopy (sp := 0) (dp := 0) (n := 10) rfl rfl rfl hd ac_9_44 (by decide) (by decide) rfl rfl (fun _ => rfl) (fun _ => rfl) (by decide) (by decide) (by decide) (by decide) (by decide) (Nat.le_of_ble_eq_true rfl) ?_
  refine R2.B (ls2 := [some (.ref 29), some (.int (nI a)), some (.int (nI b)), some (.int (nI s0)), none]) (st2 := [.int (-1), .ref 31]) b_X9_search_51_56 rfl (fun hd => ?_)
  refine R2.callS3 (M2 := mJ7_fill_53178) (As := [.ref 31, .int (-1)]) (rest := []) hd lk_9_50 okJ7_fill_53178 (by decide) (ev_fill E L (cpyF F 15 30 0 0 10) 31 1024 (-1) rfl (fun _ => rfl) (by decide) (by decide)) (by decide) rfl rfl (Nat.le_of_ble_eq_true rfl) ?_
  refine R2.B (ls2 := [some (.ref 29), some (.int (nI a)), some (.int (nI b)), some (.int (nI s0)), none]) (st2 := [.int 0, .ref 29]) b_X9_search_59_61 rfl (fun hd => ?_)
  refine R2.putf (a := 9) (b := 4) hd (by decide) (by decide) rfl rfl (fun _ => rfl) ?_
  refine R2.B (ls2 := [some (.ref 29), some (.int (nI a)), some (.int (nI b)), some (.int (nI s0)), none]) (st2 := [.int (nI s0), .int (nI b), .int (nI a), .ref 29]) b_X9_search_64_68 rfl (fun hd => ?_)
  refine R2.callV3 (M2 := mX9_queueGoals) (As := [.int (nI a), .int (nI b), .int (nI s0)]) (rest := []) hd lk_9_56 okX9_queueGoals (by decide) rfl (ev_queueGoals E L (up2 (fillF (cpyF F 15 30 0 0 10) 31 1024 (-1)) 29 4 0) n hn hn10 a b ha hb (nI s0) ⟨0, by omega, rfl, fun h hh => absurd hh (Nat.not_lt_zero _)⟩) (by decide) rfl rfl (Nat.le_of_ble_eq_true rfl) ?_
  refine R2.B (ls2 := [some (.ref 29), some (.int (nI a)), some (.int (nI b)), some (.int (nI s0)), some (.int 0)]) (st2 := []) b_X9_search_71_74 rfl (fun hd => ?_)
  have hr := fun x h0 h1 h2 h3 => qgL_row (n := n) (a := a) (b := b) (st := nI s0) (x := x) h0 h1 h2 h3 1024 0 (up2 (fillF (cpyF F 15 30 0 0 10) 31 1024 (-1)) 29 4 0)
  exact lp_srch E L n a b s0 hn10 ha hs0 1024 0 _ (by omega) ((congrFun (hr 10 (by decide) (by decide) (by decide) (by decide)) 5).trans hn) (qgL_wok 1024 0 _ (by omega) ⟨0, by omega, rfl, fun h hh => absurd hh (Nat.not_lt_zero _)⟩) (hc.of (hr 1 (by decide) (by decide) (by decide) (by decide)) (hr 2 (by decide) (by decide) (by decide) (by decide)) (hr 3 (by decide) (by decide) (by decide) (by decide)) (hr 4 (by decide) (by decide) (by decide) (by decide)))
theorem b_X9_leastDirection_13_16 : bl2 mX9_leastDirection 13 [(.iload_n 2, 1, 2, 0, .null), (.bipush 8, 2, 0, 0, .int 8)] 16 (.if_icmp .ge 39) 3 = true := by decide +kernel
theorem b_X9_leastDirection_55_56 : bl2 mX9_leastDirection 55 [(.iconst (-1), 1, 0, 0, .int (-1))] 56 (.ireturn) 1 = true := by decide +kernel
theorem b_X9_leastDirection_19_21 : bl2 mX9_leastDirection 19 [(.iload_n 1, 1, 1, 0, .null), (.iload_n 2, 1, 2, 0, .null)] 21 (.invokestatic 67) 3 = true := by decide +kernel
theorem b_X9_leastDirection_24_27 : bl2 mX9_leastDirection 24 [(.istore_n 3, 1, 3, 0, .null), (.iload_n 3, 1, 3, 0, .null), (.iconst (-1), 1, 0, 0, .int (-1))] 27 (.if_icmp .eq 22) 3 = true := by decide +kernel
theorem b_X9_leastDirection_49_13 : bl2 mX9_leastDirection 49 [(.iinc 2 1, 3, 2, 0, .int 1), (.goto (-39), 3, 13, 0, .null)] 13 (.iload_n 2) 1 = true := by decide +kernel
theorem b_X9_leastDirection_30_35 : bl2 mX9_leastDirection 30 [(.aload_n 0, 1, 0, 0, .null), (.getfield 15, 3, 9, 2, .null), (.iload_n 3, 1, 3, 0, .null)] 35 (.iaload) 1 = true := by decide +kernel
theorem b_X9_leastDirection_36_41 : bl2 mX9_leastDirection 36 [(.aload_n 0, 1, 0, 0, .null), (.getfield 15, 3, 9, 2, .null), (.iload_n 1, 1, 1, 0, .null)] 41 (.iaload) 1 = true := by decide +kernel
theorem b_X9_leastDirection_42_44 : bl2 mX9_leastDirection 42 [(.iconst 1, 1, 0, 0, .int 1), (.isub, 1, 0, 0, .null)] 44 (.if_icmp .ne 5) 3 = true := by decide +kernel
theorem b_X9_leastDirection_47_48 : bl2 mX9_leastDirection 47 [(.iload_n 2, 1, 2, 0, .null)] 48 (.ireturn) 1 = true := by decide +kernel
set_option maxRecDepth 20000 in
set_option maxHeartbeats 2000000 in
theorem lp_least (E : EE) (L : Nat) (F : FF) (hc : CST F) (w : Nat) (hw0 : w < 1024) : ∀ (k d : Nat), d + k = 8 → R2 E L mX9_leastDirection 2 13 [some (.ref 29), some (.int (nI w)), some (.int (nI d)), none] [] F (fun r' F' => r' = some (.int (ldL (F 31) w k d)) ∧ F' = F) := by
  intro k
  induction k with
  | zero =>
    intro d hi
    refine R2.B (ls2 := [some (.ref 29), some (.int (nI w)), some (.int (nI d)), none]) (st2 := [.int 8, .int (nI d)]) b_X9_leastDirection_13_16 rfl (fun hd => ?_)
    refine R2.icmp_ge 55 hd (by decide) (fun c16 => ?_) (fun c16 => absurd (nI_le (a := 8) (by omega) (by omega)) c16)
    refine R2.B (ls2 := [some (.ref 29), some (.int (nI w)), some (.int (nI d)), none]) (st2 := [.int (-1)]) b_X9_leastDirection_55_56 rfl (fun hd => ?_)
    exact R2.ret3 (r := some (.int (-1))) hd trivial rfl rfl rfl
  | succ k ih =>
    intro d hi
    rcases nbr_cases hw0 (show d < 8 by omega) with hv | ⟨v, hv8, hv⟩
    · refine R2.B (ls2 := [some (.ref 29), some (.int (nI w)), some (.int (nI d)), none]) (st2 := [.int 8, .int (nI d)]) b_X9_leastDirection_13_16 rfl (fun hd => ?_)
      refine R2.icmp_ge 55 hd (by decide) (fun c16 => absurd c16 (nI_ge (b := 8) (by omega) (by omega))) (fun c16 => ?_)
      refine R2.B (ls2 := [some (.ref 29), some (.int (nI w)), some (.int (nI d)), none]) (st2 := [.int (nI d), .int (nI w)]) b_X9_leastDirection_19_21 rfl (fun hd => ?_)
      refine R2.callS3 (M2 := mX10_neighbour) (As := [.int (nI w), .int (nI d)]) (rest := []) hd lk_9_67 okX10_neighbour (by decide) (ev_neighbour E L F hc (nI w) d (by omega)) (by decide) rfl rfl (Nat.le_of_ble_eq_true rfl) ?_
      refine R2.top (show (nbr (nI w) d : Int32) = (-1) from hv) ?_
      refine R2.B (ls2 := [some (.ref 29), some (.int (nI w)), some (.int (nI d)), some (.int (-1))]) (st2 := [.int (-1), .int (-1)]) b_X9_leastDirection_24_27 rfl (fun hd => ?_)
      refine R2.icmp_eq 49 hd (by decide) (fun c27 => ?_) (fun c27 => absurd (by decide) c27)
      refine R2.B (ls2 := [some (.ref 29), some (.int (nI w)), some (.int ((nI d) + 1)), some (.int (-1))]) (st2 := []) b_X9_leastDirection_49_13 rfl (fun hd => ?_)
      rw [show ((nI d) + 1 : Int32) = nI (d + 1) from nI_add d 1]
      rw [show ldL (F 31) w (k + 1) d = ldL (F 31) w k (d + 1) from (by simp only [ldL]; rw [if_neg (fun z => z.1 hv)])]
      refine R2.forget (ls2 := [some (.ref 29), some (.int (nI w)), some (.int (nI (d + 1))), none]) ⟨rfl, ⟨rfl, ⟨rfl, trivial⟩⟩⟩ ?_
      exact ih (d + 1) (by omega)
    · refine R2.B (ls2 := [some (.ref 29), some (.int (nI w)), some (.int (nI d)), none]) (st2 := [.int 8, .int (nI d)]) b_X9_leastDirection_13_16 rfl (fun hd => ?_)
      refine R2.icmp_ge 55 hd (by decide) (fun c16 => absurd c16 (nI_ge (b := 8) (by omega) (by omega))) (fun c16 => ?_)
      refine R2.B (ls2 := [some (.ref 29), some (.int (nI w)), some (.int (nI d)), none]) (st2 := [.int (nI d), .int (nI w)]) b_X9_leastDirection_19_21 rfl (fun hd => ?_)
      refine R2.callS3 (M2 := mX10_neighbour) (As := [.int (nI w), .int (nI d)]) (rest := []) hd lk_9_67 okX10_neighbour (by decide) (ev_neighbour E L F hc (nI w) d (by omega)) (by decide) rfl rfl (Nat.le_of_ble_eq_true rfl) ?_
      refine R2.top (show (nbr (nI w) d : Int32) = nI v from hv) ?_
      refine R2.B (ls2 := [some (.ref 29), some (.int (nI w)), some (.int (nI d)), some (.int (nI v))]) (st2 := [.int (-1), .int (nI v)]) b_X9_leastDirection_24_27 rfl (fun hd => ?_)
      refine R2.icmp_eq 49 hd (by decide) (fun c27 => absurd c27 (nI_m1 (by omega))) (fun c27 => ?_)
      refine R2.B (ls2 := [some (.ref 29), some (.int (nI w)), some (.int (nI d)), some (.int (nI v))]) (st2 := [.int (nI v), .ref 31]) b_X9_leastDirection_30_35 rfl (fun hd => ?_)
      refine R2.iald v rfl hd rfl (fun _ => rfl) (by decide) (by omega) ?_
      refine R2.B (ls2 := [some (.ref 29), some (.int (nI w)), some (.int (nI d)), some (.int (nI v))]) (st2 := [.int (nI w), .ref 31, .int (F 31 v)]) b_X9_leastDirection_36_41 rfl (fun hd => ?_)
      refine R2.iald w rfl hd rfl (fun _ => rfl) (by decide) (by omega) ?_
      refine R2.B (ls2 := [some (.ref 29), some (.int (nI w)), some (.int (nI d)), some (.int (nI v))]) (st2 := [.int ((F 31 w) - 1), .int (F 31 v)]) b_X9_leastDirection_42_44 rfl (fun hd => ?_)
      refine R2.icmp_ne 49 hd (by decide) (fun c44 => ?_) (fun c44 => ?_)
      · refine R2.B (ls2 := [some (.ref 29), some (.int (nI w)), some (.int ((nI d) + 1)), some (.int (nI v))]) (st2 := []) b_X9_leastDirection_49_13 rfl (fun hd => ?_)
        rw [show ((nI d) + 1 : Int32) = nI (d + 1) from nI_add d 1]
        rw [show ldL (F 31) w (k + 1) d = ldL (F 31) w k (d + 1) from (by simp only [ldL]; rw [hv, nI_clamp (by omega), if_neg (fun z => c44 z.2)])]
        refine R2.forget (ls2 := [some (.ref 29), some (.int (nI w)), some (.int (nI (d + 1))), none]) ⟨rfl, ⟨rfl, ⟨rfl, trivial⟩⟩⟩ ?_
        exact ih (d + 1) (by omega)
      · refine R2.B (ls2 := [some (.ref 29), some (.int (nI w)), some (.int (nI d)), some (.int (nI v))]) (st2 := [.int (nI d)]) b_X9_leastDirection_47_48 rfl (fun hd => ?_)
        exact R2.ret3 (r := some (.int (nI d))) hd trivial rfl (congrArg (fun z => some (Value.int z)) (by simp only [ldL]; rw [hv, nI_clamp (by omega), if_pos ⟨nI_m1 (by omega), c44⟩])) rfl
theorem b_X9_leastDirection_0_5 : bl2 mX9_leastDirection 0 [(.aload_n 0, 1, 0, 0, .null), (.getfield 15, 3, 9, 2, .null), (.iload_n 1, 1, 1, 0, .null)] 5 (.iaload) 1 = true := by decide +kernel
theorem b_X9_leastDirection_6_6 : bl2 mX9_leastDirection 6 [] 6 (.ifCond .gt 5) 3 = true := by decide +kernel
theorem b_X9_leastDirection_11_13 : bl2 mX9_leastDirection 11 [(.iconst 0, 1, 0, 0, .int 0), (.istore_n 2, 1, 2, 0, .null)] 13 (.iload_n 2) 1 = true := by decide +kernel
theorem b_X9_leastDirection_9_10 : bl2 mX9_leastDirection 9 [(.iconst (-1), 1, 0, 0, .int (-1))] 10 (.ireturn) 1 = true := by decide +kernel
set_option maxRecDepth 20000 in
set_option maxHeartbeats 1000000 in
theorem ev_leastDirection (E : EE) (L : Nat) (F : FF) (hc : CST F) (w : Nat) (hw0 : w < 1024) : Ev3 E L 2 mX9_leastDirection [.ref 29, .int (nI w)] F (some (.int (ldD (F 31) w))) F := by
  refine Ev3.of okX9_leastDirection.2.2.1 (Nat.le_of_ble_eq_true rfl) ?_
  show R2 E L mX9_leastDirection 2 0 [some (.ref 29), some (.int (nI w)), none, none] [] F _
  refine R2.B (ls2 := [some (.ref 29), some (.int (nI w)), none, none]) (st2 := [.int (nI w), .ref 31]) b_X9_leastDirection_0_5 rfl (fun hd => ?_)
  refine R2.iald w rfl hd rfl (fun _ => rfl) (by decide) (by omega) ?_
  refine R2.B (ls2 := [some (.ref 29), some (.int (nI w)), none, none]) (st2 := [.int (F 31 w)]) b_X9_leastDirection_6_6 rfl (fun hd => ?_)
  refine R2.if_gt 11 hd (by decide) (fun c6 => ?_) (fun c6 => ?_)
  · refine R2.B (ls2 := [some (.ref 29), some (.int (nI w)), some (.int 0), none]) (st2 := []) b_X9_leastDirection_11_13 rfl (fun hd => ?_)
    rw [show ldD (F 31) w = ldL (F 31) w 8 0 from (by unfold ldD; rw [if_pos c6])]
    exact lp_least E L F hc w hw0 8 0 (by omega)
  · refine R2.B (ls2 := [some (.ref 29), some (.int (nI w)), none, none]) (st2 := [.int (-1)]) b_X9_leastDirection_9_10 rfl (fun hd => ?_)
    exact R2.ret3 (r := some (.int (-1))) hd trivial rfl (congrArg (fun z => some (Value.int z)) (by unfold ldD; rw [if_neg c6])) rfl
theorem ldL_spec {S : Nat → Int32} {w : Nat} : ∀ (k d : Nat), d + k = 8 → ldL S w k d = -1 ∨ ∃ e, e < 8 ∧ ldL S w k d = nI e ∧ ¬ nbr (nI w) e = -1 ∧ S (nbr (nI w) e).toNatClampNeg = S w - 1
  | 0, _, _ => Or.inl rfl
  | k + 1, d, hd => by
    simp only [ldL]
    split
    · rename_i h
      exact Or.inr ⟨d, by omega, rfl, h.1, h.2⟩
    · exact ldL_spec k (d + 1) (by omega)
theorem ldD_spec {S : Nat → Int32} {w : Nat} : ldD S w = -1 ∨ (0 < S w ∧ ∃ e, e < 8 ∧ ldD S w = nI e ∧ ¬ nbr (nI w) e = -1 ∧ S (nbr (nI w) e).toNatClampNeg = S w - 1) := by
  unfold ldD
  by_cases h : 0 < S w
  · rw [if_pos h]
    rcases ldL_spec (S := S) (w := w) 8 0 rfl with h1 | h1
    · exact Or.inl h1
    · exact Or.inr ⟨h, h1⟩
  · rw [if_neg h]; exact Or.inl rfl
theorem b_X9_direction_8_11 : bl2 mX9_direction 8 [(.iload 5, 2, 5, 0, .null), (.iload_n 2, 1, 2, 0, .null)] 11 (.if_icmp .gt 39) 3 = true := by decide +kernel
theorem b_X9_direction_50_52 : bl2 mX9_direction 50 [(.iload 4, 2, 4, 0, .null)] 52 (.ireturn) 1 = true := by decide +kernel
theorem b_X9_direction_14_19 : bl2 mX9_direction 14 [(.iload 5, 2, 5, 0, .null), (.sipush 1024, 3, 0, 0, .int 1024)] 19 (.if_icmp .ge 31) 3 = true := by decide +kernel
theorem b_X9_direction_22_24 : bl2 mX9_direction 22 [(.aload_n 0, 1, 0, 0, .null), (.iload_n 3, 1, 3, 0, .null)] 24 (.invokevirtual 63) 3 = true := by decide +kernel
theorem b_X9_direction_27_32 : bl2 mX9_direction 27 [(.istore 4, 2, 4, 0, .null), (.iload 4, 2, 4, 0, .null), (.iconst (-1), 1, 0, 0, .int (-1))] 32 (.if_icmp .ne 5) 3 = true := by decide +kernel
theorem b_X9_direction_35_36 : bl2 mX9_direction 35 [(.iconst (-1), 1, 0, 0, .int (-1))] 36 (.ireturn) 1 = true := by decide +kernel
theorem b_X9_direction_37_40 : bl2 mX9_direction 37 [(.iload_n 3, 1, 3, 0, .null), (.iload 4, 2, 4, 0, .null)] 40 (.invokestatic 67) 3 = true := by decide +kernel
theorem b_X9_direction_43_8 : bl2 mX9_direction 43 [(.istore_n 3, 1, 3, 0, .null), (.iinc 5 1, 3, 5, 0, .int 1), (.goto (-39), 3, 8, 0, .null)] 8 (.iload 5) 2 = true := by decide +kernel
set_option maxRecDepth 20000 in
set_option maxHeartbeats 2000000 in
theorem lp_dir (E : EE) (L : Nat) (F : FF) (hc : CST F) (st : Int32) (iN : Nat) (hiN : iN < 2147483648) : ∀ (k c w : Nat) (last : Int32), c + k = 1024 → w < 1024 → R2 E L mX9_direction 3 8 [some (.ref 29), some (.int st), some (.int (nI iN)), some (.int (nI w)), some (.int last), some (.int (nI c))] [] F (fun r' F' => r' = some (.int (drL (F 31) iN k c w last)) ∧ F' = F) := by
  intro k
  induction k with
  | zero =>
    intro c w last hi hw0
    refine R2.B (ls2 := [some (.ref 29), some (.int st), some (.int (nI iN)), some (.int (nI w)), some (.int last), some (.int (nI c))]) (st2 := [.int (nI iN), .int (nI c)]) b_X9_direction_8_11 rfl (fun hd => ?_)
    refine R2.icmp_gt 50 hd (by decide) (fun c11 => ?_) (fun c11 => ?_)
    · have nc11 : iN < c := (nI_ltI (a := iN) (b := c) (by omega) (by omega)).mp c11
      refine R2.B (ls2 := [some (.ref 29), some (.int st), some (.int (nI iN)), some (.int (nI w)), some (.int last), some (.int (nI c))]) (st2 := [.int last]) b_X9_direction_50_52 rfl (fun hd => ?_)
      exact R2.ret3 (r := some (.int last)) hd trivial rfl rfl rfl
    · have nc11 : ¬ iN < c := fun h9 => c11 ((nI_ltI (a := iN) (b := c) (by omega) (by omega)).mpr h9)
      refine R2.B (ls2 := [some (.ref 29), some (.int st), some (.int (nI iN)), some (.int (nI w)), some (.int last), some (.int (nI c))]) (st2 := [.int 1024, .int (nI c)]) b_X9_direction_14_19 rfl (fun hd => ?_)
      refine R2.icmp_ge 50 hd (by decide) (fun c19 => ?_) (fun c19 => absurd (nI_le (a := 1024) (b := c) (by omega) (by omega)) c19)
      refine R2.B (ls2 := [some (.ref 29), some (.int st), some (.int (nI iN)), some (.int (nI w)), some (.int last), some (.int (nI c))]) (st2 := [.int last]) b_X9_direction_50_52 rfl (fun hd => ?_)
      exact R2.ret3 (r := some (.int last)) hd trivial rfl rfl rfl
  | succ k ih =>
    intro c w last hi hw0
    rcases ldD_spec (S := F 31) (w := w) with hl | ⟨-, e, he8, hl, hn1, -⟩
    · refine R2.B (ls2 := [some (.ref 29), some (.int st), some (.int (nI iN)), some (.int (nI w)), some (.int last), some (.int (nI c))]) (st2 := [.int (nI iN), .int (nI c)]) b_X9_direction_8_11 rfl (fun hd => ?_)
      refine R2.icmp_gt 50 hd (by decide) (fun c11 => ?_) (fun c11 => ?_)
      · have nc11 : iN < c := (nI_ltI (a := iN) (b := c) (by omega) (by omega)).mp c11
        refine R2.B (ls2 := [some (.ref 29), some (.int st), some (.int (nI iN)), some (.int (nI w)), some (.int last), some (.int (nI c))]) (st2 := [.int last]) b_X9_direction_50_52 rfl (fun hd => ?_)
        exact R2.ret3 (r := some (.int last)) hd trivial rfl (congrArg (fun z => some (Value.int z)) (by simp only [drL]; rw [if_pos nc11])) rfl
      · have nc11 : ¬ iN < c := fun h9 => c11 ((nI_ltI (a := iN) (b := c) (by omega) (by omega)).mpr h9)
        refine R2.B (ls2 := [some (.ref 29), some (.int st), some (.int (nI iN)), some (.int (nI w)), some (.int last), some (.int (nI c))]) (st2 := [.int 1024, .int (nI c)]) b_X9_direction_14_19 rfl (fun hd => ?_)
        refine R2.icmp_ge 50 hd (by decide) (fun c19 => absurd c19 (nI_ge (b := 1024) (by omega) (by omega))) (fun c19 => ?_)
        refine R2.B (ls2 := [some (.ref 29), some (.int st), some (.int (nI iN)), some (.int (nI w)), some (.int last), some (.int (nI c))]) (st2 := [.int (nI w), .ref 29]) b_X9_direction_22_24 rfl (fun hd => ?_)
        refine R2.callV3 (M2 := mX9_leastDirection) (As := [.int (nI w)]) (rest := []) hd lk_9_63 okX9_leastDirection (by decide) rfl (ev_leastDirection E L F hc w (by omega)) (by decide) rfl rfl (Nat.le_of_ble_eq_true rfl) ?_
        refine R2.top (show (ldD (F 31) w : Int32) = (-1) from hl) ?_
        refine R2.B (ls2 := [some (.ref 29), some (.int st), some (.int (nI iN)), some (.int (nI w)), some (.int (-1)), some (.int (nI c))]) (st2 := [.int (-1), .int (-1)]) b_X9_direction_27_32 rfl (fun hd => ?_)
        refine R2.icmp_ne 37 hd (by decide) (fun c32 => absurd (by decide) c32) (fun c32 => ?_)
        refine R2.B (ls2 := [some (.ref 29), some (.int st), some (.int (nI iN)), some (.int (nI w)), some (.int (-1)), some (.int (nI c))]) (st2 := [.int (-1)]) b_X9_direction_35_36 rfl (fun hd => ?_)
        exact R2.ret3 (r := some (.int (-1))) hd trivial rfl (congrArg (fun z => some (Value.int z)) (by simp only [drL]; rw [if_neg nc11, if_pos hl])) rfl
    · obtain ⟨v, hv8, hv⟩ : ∃ v, v < 1024 ∧ nbr (nI w) e = nI v := (nbr_cases hw0 he8).resolve_left hn1
      refine R2.B (ls2 := [some (.ref 29), some (.int st), some (.int (nI iN)), some (.int (nI w)), some (.int last), some (.int (nI c))]) (st2 := [.int (nI iN), .int (nI c)]) b_X9_direction_8_11 rfl (fun hd => ?_)
      refine R2.icmp_gt 50 hd (by decide) (fun c11 => ?_) (fun c11 => ?_)
      · have nc11 : iN < c := (nI_ltI (a := iN) (b := c) (by omega) (by omega)).mp c11
        refine R2.B (ls2 := [some (.ref 29), some (.int st), some (.int (nI iN)), some (.int (nI w)), some (.int last), some (.int (nI c))]) (st2 := [.int last]) b_X9_direction_50_52 rfl (fun hd => ?_)
        exact R2.ret3 (r := some (.int last)) hd trivial rfl (congrArg (fun z => some (Value.int z)) (by simp only [drL]; rw [if_pos nc11])) rfl
      · have nc11 : ¬ iN < c := fun h9 => c11 ((nI_ltI (a := iN) (b := c) (by omega) (by omega)).mpr h9)
        refine R2.B (ls2 := [some (.ref 29), some (.int st), some (.int (nI iN)), some (.int (nI w)), some (.int last), some (.int (nI c))]) (st2 := [.int 1024, .int (nI c)]) b_X9_direction_14_19 rfl (fun hd => ?_)
        refine R2.icmp_ge 50 hd (by decide) (fun c19 => absurd c19 (nI_ge (b := 1024) (by omega) (by omega))) (fun c19 => ?_)
        refine R2.B (ls2 := [some (.ref 29), some (.int st), some (.int (nI iN)), some (.int (nI w)), some (.int last), some (.int (nI c))]) (st2 := [.int (nI w), .ref 29]) b_X9_direction_22_24 rfl (fun hd => ?_)
        refine R2.callV3 (M2 := mX9_leastDirection) (As := [.int (nI w)]) (rest := []) hd lk_9_63 okX9_leastDirection (by decide) rfl (ev_leastDirection E L F hc w (by omega)) (by decide) rfl rfl (Nat.le_of_ble_eq_true rfl) ?_
        refine R2.top (show (ldD (F 31) w : Int32) = nI e from hl) ?_
        refine R2.B (ls2 := [some (.ref 29), some (.int st), some (.int (nI iN)), some (.int (nI w)), some (.int (nI e)), some (.int (nI c))]) (st2 := [.int (-1), .int (nI e)]) b_X9_direction_27_32 rfl (fun hd => ?_)
        refine R2.icmp_ne 37 hd (by decide) (fun c32 => ?_) (fun c32 => absurd c32 (nI_m1 (by omega)))
        refine R2.B (ls2 := [some (.ref 29), some (.int st), some (.int (nI iN)), some (.int (nI w)), some (.int (nI e)), some (.int (nI c))]) (st2 := [.int (nI e), .int (nI w)]) b_X9_direction_37_40 rfl (fun hd => ?_)
        refine R2.callS3 (M2 := mX10_neighbour) (As := [.int (nI w), .int (nI e)]) (rest := []) hd lk_9_67 okX10_neighbour (by decide) (ev_neighbour E L F hc (nI w) e (by omega)) (by decide) rfl rfl (Nat.le_of_ble_eq_true rfl) ?_
        refine R2.top (show (nbr (nI w) e : Int32) = nI v from hv) ?_
        refine R2.B (ls2 := [some (.ref 29), some (.int st), some (.int (nI iN)), some (.int (nI v)), some (.int (nI e)), some (.int ((nI c) + 1))]) (st2 := []) b_X9_direction_43_8 rfl (fun hd => ?_)
        rw [show ((nI c) + 1 : Int32) = nI (c + 1) from nI_add c 1]
        rw [show drL (F 31) iN (k + 1) c w last = drL (F 31) iN k (c + 1) v (nI e) from (by simp only [drL]; rw [if_neg nc11, hl, if_neg (nI_m1 (by omega)), nI_clamp (show e < 2147483648 by omega), hv, nI_clamp (show v < 2147483648 by omega)])]
        exact ih (c + 1) v (nI e) (by omega) hv8
theorem b_X9_direction_0_8 : bl2 mX9_direction 0 [(.iload_n 1, 1, 1, 0, .null), (.istore_n 3, 1, 3, 0, .null), (.iconst (-1), 1, 0, 0, .int (-1)), (.istore 4, 2, 4, 0, .null), (.iconst 0, 1, 0, 0, .int 0), (.istore 5, 2, 5, 0, .null)] 8 (.iload 5) 2 = true := by decide +kernel
set_option maxRecDepth 20000 in
set_option maxHeartbeats 1000000 in
theorem ev_direction (E : EE) (L : Nat) (F : FF) (hc : CST F) (w : Nat) (hw0 : w < 1024) (iN : Nat) (hiN : iN < 2147483648) : Ev3 E L 3 mX9_direction [.ref 29, .int (nI w), .int (nI iN)] F (some (.int (drL (F 31) iN 1024 0 w (-1)))) F := by
  refine Ev3.of okX9_direction.2.2.1 (Nat.le_of_ble_eq_true rfl) ?_
  show R2 E L mX9_direction 3 0 [some (.ref 29), some (.int (nI w)), some (.int (nI iN)), none, none, none] [] F _
  refine R2.B (ls2 := [some (.ref 29), some (.int (nI w)), some (.int (nI iN)), some (.int (nI w)), some (.int (-1)), some (.int 0)]) (st2 := []) b_X9_direction_0_8 rfl (fun hd => ?_)
  exact lp_dir E L F hc (nI w) iN hiN 1024 0 w (-1) (by omega) hw0
