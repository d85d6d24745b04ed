theorem b_X11_stands_7_12 : bl2 mX11_stands 7 [(.iload_n 2, 1, 2, 0, .null), (.aload_n 0, 1, 0, 0, .null), (.getfield 101, 3, 11, 3, .null)] 12 (.if_icmp .ge 21) 3 = true := by decide +kernel
theorem b_X11_stands_33_33 : bl2 mX11_stands 33 [] 33 (.return_) 1 = true := by decide +kernel
theorem b_X11_stands_15_25 : bl2 mX11_stands 15 [(.aload_n 0, 1, 0, 0, .null), (.getfield 31, 3, 11, 8, .null), (.iload_n 2, 1, 2, 0, .null), (.aload_n 0, 1, 0, 0, .null), (.getfield 28, 3, 11, 7, .null), (.iload_n 2, 1, 2, 0, .null)] 25 (.iaload) 1 = true := by decide +kernel
theorem b_X11_stands_26_26 : bl2 mX11_stands 26 [] 26 (.iastore) 1 = true := by decide +kernel
theorem b_X11_stands_27_7 : bl2 mX11_stands 27 [(.iinc 2 1, 3, 2, 0, .int 1), (.goto (-23), 3, 7, 0, .null)] 7 (.iload_n 2) 1 = true := by decide +kernel
set_option maxRecDepth 20000 in
set_option maxHeartbeats 2000000 in
theorem ml_stands (E : EE) (L : Nat) (n : Nat) (hn10 : n ≤ 10) : ∀ (k : Nat) (p : Nat) (F : FF), p + k = n → F 48 3 = nI n → R2 E L mX11_stands 6 7 [some (.ref 48), none, some (.int (nI p))] [] F (fun r' F' => r' = none ∧ F' = stL k p F) := by
  intro k
  induction k with
  | zero =>
    intro p F hi h3
    refine R2.B (ls2 := [some (.ref 48), none, some (.int (nI p))]) (st2 := [.int (F 48 3), .int (nI p)]) b_X11_stands_7_12 rfl (fun hd => ?_)
    rw [show (F 48 3 : Int32) = nI n from h3]
    refine R2.icmp_ge 33 hd (by decide) (fun c12 => ?_) (fun c12 => absurd (nI_le (by omega) (by omega)) c12)
    refine R2.B (ls2 := [some (.ref 48), none, some (.int (nI p))]) (st2 := []) b_X11_stands_33_33 rfl (fun hd => ?_)
    exact R2.ret3 (r := none) hd trivial rfl rfl rfl
  | succ k ih =>
    intro p F hi h3
    refine R2.B (ls2 := [some (.ref 48), none, some (.int (nI p))]) (st2 := [.int (F 48 3), .int (nI p)]) b_X11_stands_7_12 rfl (fun hd => ?_)
    rw [show (F 48 3 : Int32) = nI n from h3]
    refine R2.icmp_ge 33 hd (by decide) (fun c12 => absurd c12 (nI_ge (by omega) (by omega))) (fun c12 => ?_)
    refine R2.B (ls2 := [some (.ref 48), none, some (.int (nI p))]) (st2 := [.int (nI p), .ref 55, .int (nI p), .ref 56]) b_X11_stands_15_25 rfl (fun hd => ?_)
    refine R2.iald p rfl hd rfl (fun _ => rfl) (by decide) (by omega) ?_
    refine R2.B (ls2 := [some (.ref 48), none, some (.int (nI p))]) (st2 := [.int (F 55 p), .int (nI p), .ref 56]) b_X11_stands_26_26 rfl (fun hd => ?_)
    refine R2.iast p rfl hd (by decide) rfl (fun _ => rfl) (by decide) (by omega) ?_
    refine R2.B (ls2 := [some (.ref 48), none, some (.int ((nI p) + 1))]) (st2 := []) b_X11_stands_27_7 rfl (fun hd => ?_)
    rw [show ((nI p) + 1 : Int32) = nI (p + 1) from nI_add p 1]
    exact ih (p + 1) _ (by omega) h3
theorem b_X11_lays_7_12 : bl2 mX11_lays 7 [(.iload_n 2, 1, 2, 0, .null), (.aload_n 0, 1, 0, 0, .null), (.getfield 101, 3, 11, 3, .null)] 12 (.if_icmp .ge 21) 3 = true := by decide +kernel
theorem b_X11_lays_33_33 : bl2 mX11_lays 33 [] 33 (.return_) 1 = true := by decide +kernel
theorem b_X11_lays_15_25 : bl2 mX11_lays 15 [(.aload_n 0, 1, 0, 0, .null), (.getfield 34, 3, 11, 9, .null), (.iload_n 2, 1, 2, 0, .null), (.aload_n 0, 1, 0, 0, .null), (.getfield 31, 3, 11, 8, .null), (.iload_n 2, 1, 2, 0, .null)] 25 (.iaload) 1 = true := by decide +kernel
theorem b_X11_lays_26_26 : bl2 mX11_lays 26 [] 26 (.iastore) 1 = true := by decide +kernel
theorem b_X11_lays_27_7 : bl2 mX11_lays 27 [(.iinc 2 1, 3, 2, 0, .int 1), (.goto (-23), 3, 7, 0, .null)] 7 (.iload_n 2) 1 = true := by decide +kernel
set_option maxRecDepth 20000 in
set_option maxHeartbeats 2000000 in
theorem ml_lays (E : EE) (L : Nat) (n : Nat) (hn10 : n ≤ 10) : ∀ (k : Nat) (p : Nat) (F : FF), p + k = n → F 48 3 = nI n → R2 E L mX11_lays 5 7 [some (.ref 48), none, some (.int (nI p))] [] F (fun r' F' => r' = none ∧ F' = lyL k p F) := by
  intro k
  induction k with
  | zero =>
    intro p F hi h3
    refine R2.B (ls2 := [some (.ref 48), none, some (.int (nI p))]) (st2 := [.int (F 48 3), .int (nI p)]) b_X11_lays_7_12 rfl (fun hd => ?_)
    rw [show (F 48 3 : Int32) = nI n from h3]
    refine R2.icmp_ge 33 hd (by decide) (fun c12 => ?_) (fun c12 => absurd (nI_le (by omega) (by omega)) c12)
    refine R2.B (ls2 := [some (.ref 48), none, some (.int (nI p))]) (st2 := []) b_X11_lays_33_33 rfl (fun hd => ?_)
    exact R2.ret3 (r := none) hd trivial rfl rfl rfl
  | succ k ih =>
    intro p F hi h3
    refine R2.B (ls2 := [some (.ref 48), none, some (.int (nI p))]) (st2 := [.int (F 48 3), .int (nI p)]) b_X11_lays_7_12 rfl (fun hd => ?_)
    rw [show (F 48 3 : Int32) = nI n from h3]
    refine R2.icmp_ge 33 hd (by decide) (fun c12 => absurd c12 (nI_ge (by omega) (by omega))) (fun c12 => ?_)
    refine R2.B (ls2 := [some (.ref 48), none, some (.int (nI p))]) (st2 := [.int (nI p), .ref 56, .int (nI p), .ref 57]) b_X11_lays_15_25 rfl (fun hd => ?_)
    refine R2.iald p rfl hd rfl (fun _ => rfl) (by decide) (by omega) ?_
    refine R2.B (ls2 := [some (.ref 48), none, some (.int (nI p))]) (st2 := [.int (F 56 p), .int (nI p), .ref 57]) b_X11_lays_26_26 rfl (fun hd => ?_)
    refine R2.iast p rfl hd (by decide) rfl (fun _ => rfl) (by decide) (by omega) ?_
    refine R2.B (ls2 := [some (.ref 48), none, some (.int ((nI p) + 1))]) (st2 := []) b_X11_lays_27_7 rfl (fun hd => ?_)
    rw [show ((nI p) + 1 : Int32) = nI (p + 1) from nI_add p 1]
    exact ih (p + 1) _ (by omega) h3
theorem b_X11_lays_0_1 : bl2 mX11_lays 0 [(.aload_n 0, 1, 0, 0, .null)] 1 (.invokevirtual 116) 3 = true := by decide +kernel
theorem b_X11_lays_4_7 : bl2 mX11_lays 4 [(.istore_n 1, 1, 1, 0, .null), (.iconst 0, 1, 0, 0, .int 0), (.istore_n 2, 1, 2, 0, .null)] 7 (.iload_n 2) 1 = true := by decide +kernel
set_option maxRecDepth 20000 in
set_option maxHeartbeats 1000000 in
theorem me_lays (E : EE) (L : Nat) (F : FF) (l n : Nat) (hm : MR F l n) : Ev3 E L 5 mX11_lays [.ref 48] F none (ly F n) := by
  refine Ev3.of okX11_lays.2.2.1 (Nat.le_of_ble_eq_true rfl) ?_
  show R2 E L mX11_lays 5 0 [some (.ref 48), none, none] [] F _
  refine R2.B (ls2 := [some (.ref 48), none, none]) (st2 := [.ref 48]) b_X11_lays_0_1 rfl (fun hd => ?_)
  refine R2.callV3 (M2 := mX11_reads) (As := []) (rest := []) hd lk_11_116 okX11_reads (by decide) rfl (me_reads E L F l n hm) (by decide) rfl rfl (Nat.le_of_ble_eq_true rfl) ?_
  refine R2.B (ls2 := [some (.ref 48), some (.int ((rds F l).1)), some (.int 0)]) (st2 := []) b_X11_lays_4_7 rfl (fun hd => ?_)
  refine R2.forget (ls2 := [some (.ref 48), none, some (.int 0)]) ⟨rfl, ⟨rfl, trivial⟩⟩ ?_
  exact ml_lays E L n hm.2.2.1 n 0 F (by omega) hm.2.2.2.1
set_option maxRecDepth 20000 in
set_option maxHeartbeats 1000000 in
theorem me_peopleFault0 (E : EE) (L : Nat) (F : FF) (l : Nat) (hlen : F 49 0 = nI l) (hl : l ≤ 90) : Ev3 E L 5 mX11_peopleFault [.ref 48] F (some (.int (rds F l).1)) (rds F l).2 := by
  refine Ev3.of okX11_peopleFault.2.2.1 (Nat.le_of_ble_eq_true rfl) ?_
  show R2 E L mX11_peopleFault 5 0 [some (.ref 48)] [] F _
  refine R2.B (ls2 := [some (.ref 48)]) (st2 := [.ref 48]) b_X11_peopleFault_0_1 rfl (fun hd => ?_)
  refine R2.callV3 (M2 := mX11_reads) (As := []) (rest := []) hd lk_11_116 okX11_reads (by decide) rfl (me_reads0 E L F l hlen hl) (by decide) rfl rfl (Nat.le_of_ble_eq_true rfl) ?_
  refine R2.B (ls2 := [some (.ref 48)]) (st2 := [.int ((rds F l).1)]) b_X11_peopleFault_4_4 rfl (fun hd => ?_)
  exact R2.ret3 (r := some (.int ((rds F l).1))) hd trivial rfl rfl rfl
theorem b_X11_stands_0_1 : bl2 mX11_stands 0 [(.aload_n 0, 1, 0, 0, .null)] 1 (.invokevirtual 97) 3 = true := by decide +kernel
theorem b_X11_stands_4_7 : bl2 mX11_stands 4 [(.istore_n 1, 1, 1, 0, .null), (.iconst 0, 1, 0, 0, .int 0), (.istore_n 2, 1, 2, 0, .null)] 7 (.iload_n 2) 1 = true := by decide +kernel
set_option maxRecDepth 20000 in
set_option maxHeartbeats 1000000 in
theorem me_stands (E : EE) (L : Nat) (F : FF) (l : Nat) (hlen : F 49 0 = nI l) (hl : l ≤ 90) (n : Nat) (hn : n ≤ 10) (h3 : (rds F l).2 48 3 = nI n) : Ev3 E L 6 mX11_stands [.ref 48] F none (stL n 0 (rds F l).2) := by
  refine Ev3.of okX11_stands.2.2.1 (Nat.le_of_ble_eq_true rfl) ?_
  show R2 E L mX11_stands 6 0 [some (.ref 48), none, none] [] F _
  refine R2.B (ls2 := [some (.ref 48), none, none]) (st2 := [.ref 48]) b_X11_stands_0_1 rfl (fun hd => ?_)
  refine R2.callV3 (M2 := mX11_peopleFault) (As := []) (rest := []) hd lk_11_97 okX11_peopleFault (by decide) rfl (me_peopleFault0 E L F l hlen hl) (by decide) rfl rfl (Nat.le_of_ble_eq_true rfl) ?_
  refine R2.B (ls2 := [some (.ref 48), some (.int ((rds F l).1)), some (.int 0)]) (st2 := []) b_X11_stands_4_7 rfl (fun hd => ?_)
  refine R2.forget (ls2 := [some (.ref 48), none, some (.int 0)]) ⟨rfl, ⟨rfl, trivial⟩⟩ ?_
  exact ml_stands E L n hn n 0 _ (by omega) h3
