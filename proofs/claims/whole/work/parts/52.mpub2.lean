/-! The reference: public methods, posts. Printed by wip/whole/gen/spec25.py. -/
theorem b_X11_post_0_5 : bl2 mX11_post 0 [(.iload_n 1, 1, 1, 0, .null), (.iconst 0, 1, 0, 0, .int 0), (.sipush 1023, 3, 0, 0, .int 1023)] 5 (.invokestatic 86) 3 = true := by decide +kernel
theorem b_X11_post_8_8 : bl2 mX11_post 8 [] 8 (.ifCond .ne 6) 3 = true := by decide +kernel
theorem b_X11_post_14_14 : bl2 mX11_post 14 [] 14 (.aload_n 0) 1 = true := by decide +kernel
theorem b_X11_post_11_13 : bl2 mX11_post 11 [(.bipush (-2), 2, 0, 0, .int (-2))] 13 (.ireturn) 1 = true := by decide +kernel
set_option maxRecDepth 20000 in
set_option maxHeartbeats 1000000 in
theorem y_post_bad (E : EE) (L : Nat) (F : FF) (x : Int32) (h : ¬ (0 ≤ x ∧ x < 1024)) : Ev3 E L 16 mX11_post [.ref 48, .int x] F (some (.int (-2))) F := by
  refine Ev3.of okX11_post.2.2.1 (Nat.le_of_ble_eq_true rfl) ?_
  show R2 E L mX11_post 16 0 [some (.ref 48), some (.int x)] [] F _
  refine R2.B (ls2 := [some (.ref 48), some (.int x)]) (st2 := [.int 1023, .int 0, .int x]) b_X11_post_0_5 rfl (fun hd => ?_)
  refine R2.callS3 (M2 := mX11_in) (As := [.int x, .int 0, .int 1023]) (rest := []) hd lk_11_86 okX11_in (by decide) (ev_in E L F x 0 1023) (by decide) rfl rfl (Nat.le_of_ble_eq_true rfl) ?_
  refine R2.B (ls2 := [some (.ref 48), some (.int x)]) (st2 := [.int (b2i (0 ≤ x ∧ x ≤ 1023))]) b_X11_post_8_8 rfl (fun hd => ?_)
  refine R2.if_ne 14 hd (by decide) (fun c8 => ?_) (fun c8 => ?_)
  · have nc8 : 0 ≤ x ∧ x ≤ 1023 := b2i_nz.mp c8
    refine R2.B (ls2 := [some (.ref 48), some (.int x)]) (st2 := []) b_X11_post_14_14 rfl (fun hd => ?_)
    exact False.elim (by clear hd; grind)
  · have nc8 : ¬ (0 ≤ x ∧ x ≤ 1023) := b2i_zero.mp c8
    refine R2.B (ls2 := [some (.ref 48), some (.int x)]) (st2 := [.int (-2)]) b_X11_post_11_13 rfl (fun hd => ?_)
    exact R2.ret3 (r := some (.int (-2))) hd trivial rfl rfl rfl
theorem b_X11_post_14_20 : bl2 mX11_post 14 [(.aload_n 0, 1, 0, 0, .null), (.getfield 226, 3, 11, 21, .null), (.bipush 8, 2, 0, 0, .int 8)] 20 (.if_icmp .ne 6) 3 = true := by decide +kernel
theorem b_X11_post_23_25 : bl2 mX11_post 23 [(.bipush (-4), 2, 0, 0, .int (-4))] 25 (.ireturn) 1 = true := by decide +kernel
set_option maxRecDepth 20000 in
set_option maxHeartbeats 1000000 in
theorem y_post_full (E : EE) (L : Nat) (F : FF) (x : Int32) (h : 0 ≤ x ∧ x < 1024) (hf : F 48 21 = 8) : Ev3 E L 16 mX11_post [.ref 48, .int x] F (some (.int (-4))) F := by
  refine Ev3.of okX11_post.2.2.1 (Nat.le_of_ble_eq_true rfl) ?_
  show R2 E L mX11_post 16 0 [some (.ref 48), some (.int x)] [] F _
  refine R2.B (ls2 := [some (.ref 48), some (.int x)]) (st2 := [.int 1023, .int 0, .int x]) b_X11_post_0_5 rfl (fun hd => ?_)
  refine R2.callS3 (M2 := mX11_in) (As := [.int x, .int 0, .int 1023]) (rest := []) hd lk_11_86 okX11_in (by decide) (ev_in E L F x 0 1023) (by decide) rfl rfl (Nat.le_of_ble_eq_true rfl) ?_
  refine R2.B (ls2 := [some (.ref 48), some (.int x)]) (st2 := [.int (b2i (0 ≤ x ∧ x ≤ 1023))]) b_X11_post_8_8 rfl (fun hd => ?_)
  refine R2.if_ne 14 hd (by decide) (fun c8 => ?_) (fun c8 => ?_)
  · have nc8 : 0 ≤ x ∧ x ≤ 1023 := b2i_nz.mp c8
    refine R2.B (ls2 := [some (.ref 48), some (.int x)]) (st2 := [.int 8, .int (F 48 21)]) b_X11_post_14_20 rfl (fun hd => ?_)
    refine R2.icmp_ne 26 hd (by decide) (fun c20 => absurd (hf) c20) (fun c20 => ?_)
    refine R2.B (ls2 := [some (.ref 48), some (.int x)]) (st2 := [.int (-4)]) b_X11_post_23_25 rfl (fun hd => ?_)
    exact R2.ret3 (r := some (.int (-4))) hd trivial rfl rfl rfl
  · have nc8 : ¬ (0 ≤ x ∧ x ≤ 1023) := b2i_zero.mp c8
    refine R2.B (ls2 := [some (.ref 48), some (.int x)]) (st2 := [.int (-2)]) b_X11_post_11_13 rfl (fun hd => ?_)
    exact False.elim (by clear hd; grind)
theorem b_X11_post_26_35 : bl2 mX11_post 26 [(.aload_n 0, 1, 0, 0, .null), (.getfield 58, 3, 11, 22, .null), (.aload_n 0, 1, 0, 0, .null), (.getfield 226, 3, 11, 21, .null), (.iload_n 1, 1, 1, 0, .null)] 35 (.iastore) 1 = true := by decide +kernel
theorem b_X11_post_36_43 : bl2 mX11_post 36 [(.aload_n 0, 1, 0, 0, .null), (.dup, 1, 0, 0, .null), (.getfield 226, 3, 11, 21, .null), (.iconst 1, 1, 0, 0, .int 1), (.iadd, 1, 0, 0, .null)] 43 (.putfield 226) 3 = true := by decide +kernel
theorem b_X11_post_46_52 : bl2 mX11_post 46 [(.aload_n 0, 1, 0, 0, .null), (.getfield 226, 3, 11, 21, .null), (.iconst 1, 1, 0, 0, .int 1), (.isub, 1, 0, 0, .null)] 52 (.ireturn) 1 = true := by decide +kernel
set_option maxRecDepth 20000 in
set_option maxHeartbeats 1000000 in
theorem y_post (E : EE) (L : Nat) (F : FF) (x : Int32) (h : 0 ≤ x ∧ x < 1024) (m : Nat) (hq : F 48 21 = nI m) (hm8 : m < 8) : Ev3 E L 16 mX11_post [.ref 48, .int x] F (some (.int (nI m))) (up2 (up2 F 65 m x) 48 21 (nI (m + 1))) := by
  refine Ev3.of okX11_post.2.2.1 (Nat.le_of_ble_eq_true rfl) ?_
  show R2 E L mX11_post 16 0 [some (.ref 48), some (.int x)] [] F _
  refine R2.B (ls2 := [some (.ref 48), some (.int x)]) (st2 := [.int 1023, .int 0, .int x]) b_X11_post_0_5 rfl (fun hd => ?_)
  refine R2.callS3 (M2 := mX11_in) (As := [.int x, .int 0, .int 1023]) (rest := []) hd lk_11_86 okX11_in (by decide) (ev_in E L F x 0 1023) (by decide) rfl rfl (Nat.le_of_ble_eq_true rfl) ?_
  refine R2.B (ls2 := [some (.ref 48), some (.int x)]) (st2 := [.int (b2i (0 ≤ x ∧ x ≤ 1023))]) b_X11_post_8_8 rfl (fun hd => ?_)
  refine R2.if_ne 14 hd (by decide) (fun c8 => ?_) (fun c8 => ?_)
  · have nc8 : 0 ≤ x ∧ x ≤ 1023 := b2i_nz.mp c8
    refine R2.B (ls2 := [some (.ref 48), some (.int x)]) (st2 := [.int 8, .int (F 48 21)]) b_X11_post_14_20 rfl (fun hd => ?_)
    rw [show (F 48 21 : Int32) = nI m from hq]
    refine R2.icmp_ne 26 hd (by decide) (fun c20 => ?_) (fun c20 => absurd c20 (fun z => absurd ((nI_eq (b := 8) (by omega) (by omega)).mp z) (by omega)))
    refine R2.B (ls2 := [some (.ref 48), some (.int x)]) (st2 := [.int x, .int (F 48 21), .ref 65]) b_X11_post_26_35 rfl (fun hd => ?_)
    rw [show (F 48 21 : Int32) = nI m from hq]
    refine R2.iast m rfl hd (by decide) rfl (fun _ => rfl) (by decide) (by omega) ?_
    refine R2.B (ls2 := [some (.ref 48), some (.int x)]) (st2 := [.int ((F 48 21) + 1), .ref 48]) b_X11_post_36_43 rfl (fun hd => ?_)
    refine R2.putf (a := 11) (b := 21) hd (by decide) (by decide) rfl rfl (fun _ => rfl) ?_
    refine R2.B (ls2 := [some (.ref 48), some (.int x)]) (st2 := [.int (((F 48 21) + 1) - 1)]) b_X11_post_46_52 rfl (fun hd => ?_)
    exact R2.ret3 (r := some (.int (((F 48 21) + 1) - 1))) hd trivial rfl (congrArg (fun z => some (Value.int z)) (by rw [hq, nI_1]; exact nI_pred m)) (by rw [hq, nI_1])
  · have nc8 : ¬ (0 ≤ x ∧ x ≤ 1023) := b2i_zero.mp c8
    refine R2.B (ls2 := [some (.ref 48), some (.int x)]) (st2 := [.int (-2)]) b_X11_post_11_13 rfl (fun hd => ?_)
    exact False.elim (by clear hd; grind)
theorem b_X11_gone_0_7 : bl2 mX11_gone 0 [(.aload_n 0, 1, 0, 0, .null), (.getfield 226, 3, 11, 21, .null), (.istore_n 1, 1, 1, 0, .null), (.aload_n 0, 1, 0, 0, .null), (.iconst 0, 1, 0, 0, .int 0)] 7 (.putfield 226) 3 = true := by decide +kernel
theorem b_X11_gone_10_11 : bl2 mX11_gone 10 [(.iload_n 1, 1, 1, 0, .null)] 11 (.ireturn) 1 = true := by decide +kernel
set_option maxRecDepth 20000 in
set_option maxHeartbeats 1000000 in
theorem y_gone (E : EE) (L : Nat) (F : FF) : Ev3 E L 16 mX11_gone [.ref 48] F (some (.int (F 48 21))) (up2 F 48 21 0) := by
  refine Ev3.of okX11_gone.2.2.1 (Nat.le_of_ble_eq_true rfl) ?_
  show R2 E L mX11_gone 16 0 [some (.ref 48), none] [] F _
  refine R2.B (ls2 := [some (.ref 48), some (.int (F 48 21))]) (st2 := [.int 0, .ref 48]) b_X11_gone_0_7 rfl (fun hd => ?_)
  refine R2.putf (a := 11) (b := 21) hd (by decide) (by decide) rfl rfl (fun _ => rfl) ?_
  refine R2.B (ls2 := [some (.ref 48), some (.int (F 48 21))]) (st2 := [.int (F 48 21)]) b_X11_gone_10_11 rfl (fun hd => ?_)
  exact R2.ret3 (r := some (.int (F 48 21))) hd trivial rfl rfl rfl
theorem b_X11_sees_0_1 : bl2 mX11_sees 0 [(.aload_n 0, 1, 0, 0, .null)] 1 (.invokevirtual 232) 3 = true := by decide +kernel
theorem b_X11_sees_4_4 : bl2 mX11_sees 4 [] 4 (.ireturn) 1 = true := by decide +kernel
set_option maxRecDepth 20000 in
set_option maxHeartbeats 1000000 in
theorem y_sees (E : EE) (L : Nat) (F : FF) (m : Nat) (hq : F 48 21 = nI m) (hm8 : m ≤ 8) : Ev3 E L 16 mX11_sees [.ref 48] F (some (.int (sumB (gMS F) m 0 0))) F := by
  refine Ev3.of okX11_sees.2.2.1 (Nat.le_of_ble_eq_true rfl) ?_
  show R2 E L mX11_sees 16 0 [some (.ref 48)] [] F _
  refine R2.B (ls2 := [some (.ref 48)]) (st2 := [.ref 48]) b_X11_sees_0_1 rfl (fun hd => ?_)
  refine R2.callV3 (M2 := mX11_seesNow) (As := []) (rest := []) hd lk_11_232 okX11_seesNow (by decide) rfl (me_seesNow E L F m hq hm8) (by decide) rfl rfl (Nat.le_of_ble_eq_true rfl) ?_
  refine R2.B (ls2 := [some (.ref 48)]) (st2 := [.int (sumB (gMS F) m 0 0)]) b_X11_sees_4_4 rfl (fun hd => ?_)
  exact R2.ret3 (r := some (.int (sumB (gMS F) m 0 0))) hd trivial rfl rfl rfl
theorem b_X11_more_0_3 : bl2 mX11_more 0 [(.iload_n 1, 1, 1, 0, .null), (.iconst 0, 1, 0, 0, .int 0), (.iconst 1, 1, 0, 0, .int 1)] 3 (.invokestatic 86) 3 = true := by decide +kernel
theorem b_X11_more_6_6 : bl2 mX11_more 6 [] 6 (.ifCond .eq 11) 3 = true := by decide +kernel
theorem b_X11_more_17_19 : bl2 mX11_more 17 [(.bipush (-2), 2, 0, 0, .int (-2))] 19 (.ireturn) 1 = true := by decide +kernel
theorem b_X11_more_9_9 : bl2 mX11_more 9 [] 9 (.aload_n 0) 1 = true := by decide +kernel
set_option maxRecDepth 20000 in
set_option maxHeartbeats 1000000 in
theorem y_more_bad (E : EE) (L : Nat) (F : FF) (w : Int32) (h : w < 0 ∨ 1 < w) : Ev3 E L 16 mX11_more [.ref 48, .int w] F (some (.int (-2))) F := by
  refine Ev3.of okX11_more.2.2.1 (Nat.le_of_ble_eq_true rfl) ?_
  show R2 E L mX11_more 16 0 [some (.ref 48), some (.int w)] [] F _
  refine R2.B (ls2 := [some (.ref 48), some (.int w)]) (st2 := [.int 1, .int 0, .int w]) b_X11_more_0_3 rfl (fun hd => ?_)
  refine R2.callS3 (M2 := mX11_in) (As := [.int w, .int 0, .int 1]) (rest := []) hd lk_11_86 okX11_in (by decide) (ev_in E L F w 0 1) (by decide) rfl rfl (Nat.le_of_ble_eq_true rfl) ?_
  refine R2.B (ls2 := [some (.ref 48), some (.int w)]) (st2 := [.int (b2i (0 ≤ w ∧ w ≤ 1))]) b_X11_more_6_6 rfl (fun hd => ?_)
  refine R2.if_eq 17 hd (by decide) (fun c6 => ?_) (fun c6 => ?_)
  · have nc6 : ¬ (0 ≤ w ∧ w ≤ 1) := b2i_zero.mp c6
    refine R2.B (ls2 := [some (.ref 48), some (.int w)]) (st2 := [.int (-2)]) b_X11_more_17_19 rfl (fun hd => ?_)
    exact R2.ret3 (r := some (.int (-2))) hd trivial rfl rfl rfl
  · have nc6 : 0 ≤ w ∧ w ≤ 1 := b2i_nz.mp c6
    refine R2.B (ls2 := [some (.ref 48), some (.int w)]) (st2 := []) b_X11_more_9_9 rfl (fun hd => ?_)
    exact False.elim (by clear hd; grind)
theorem b_X11_more_9_11 : bl2 mX11_more 9 [(.aload_n 0, 1, 0, 0, .null), (.iload_n 1, 1, 1, 0, .null)] 11 (.invokevirtual 235) 3 = true := by decide +kernel
theorem b_X11_more_14_19 : bl2 mX11_more 14 [(.goto 5, 3, 19, 0, .null)] 19 (.ireturn) 1 = true := by decide +kernel
set_option maxRecDepth 20000 in
set_option maxHeartbeats 1000000 in
theorem y_more (E : EE) (L : Nat) (F : FF) (m : Nat) (hq : F 48 21 = nI m) (hm8 : m ≤ 8) (x : Int32) (h : ¬ (x < 0 ∨ 1 < x)) : Ev3 E L 16 mX11_more [.ref 48, .int x] F (some (.int (if x = 0 then (brL (fun w => sumI (gMO F w) m 0 0) 1024 0 0 (-1)).1 else (brL (fun w => sumI (gMO F w) m 0 0) 1024 0 0 (-1)).2))) F := by
  refine Ev3.of okX11_more.2.2.1 (Nat.le_of_ble_eq_true rfl) ?_
  show R2 E L mX11_more 16 0 [some (.ref 48), some (.int x)] [] F _
  refine R2.B (ls2 := [some (.ref 48), some (.int x)]) (st2 := [.int 1, .int 0, .int x]) b_X11_more_0_3 rfl (fun hd => ?_)
  refine R2.callS3 (M2 := mX11_in) (As := [.int x, .int 0, .int 1]) (rest := []) hd lk_11_86 okX11_in (by decide) (ev_in E L F x 0 1) (by decide) rfl rfl (Nat.le_of_ble_eq_true rfl) ?_
  refine R2.B (ls2 := [some (.ref 48), some (.int x)]) (st2 := [.int (b2i (0 ≤ x ∧ x ≤ 1))]) b_X11_more_6_6 rfl (fun hd => ?_)
  refine R2.if_eq 17 hd (by decide) (fun c6 => ?_) (fun c6 => ?_)
  · have nc6 : ¬ (0 ≤ x ∧ x ≤ 1) := b2i_zero.mp c6
    refine R2.B (ls2 := [some (.ref 48), some (.int x)]) (st2 := [.int (-2)]) b_X11_more_17_19 rfl (fun hd => ?_)
    exact False.elim (by clear hd; grind)
  · have nc6 : 0 ≤ x ∧ x ≤ 1 := b2i_nz.mp c6
    refine R2.B (ls2 := [some (.ref 48), some (.int x)]) (st2 := [.int x, .ref 48]) b_X11_more_9_11 rfl (fun hd => ?_)
    refine R2.callV3 (M2 := mX11_moreOf) (As := [.int x]) (rest := []) hd lk_11_235 okX11_moreOf (by decide) rfl (me_moreOf E L F m hq hm8 x) (by decide) rfl rfl (Nat.le_of_ble_eq_true rfl) ?_
    refine R2.B (ls2 := [some (.ref 48), some (.int x)]) (st2 := [.int (if x = 0 then (brL (fun w => sumI (gMO F w) m 0 0) 1024 0 0 (-1)).1 else (brL (fun w => sumI (gMO F w) m 0 0) 1024 0 0 (-1)).2)]) b_X11_more_14_19 rfl (fun hd => ?_)
    exact R2.ret3 (r := some (.int (if x = 0 then (brL (fun w => sumI (gMO F w) m 0 0) 1024 0 0 (-1)).1 else (brL (fun w => sumI (gMO F w) m 0 0) 1024 0 0 (-1)).2))) hd trivial rfl rfl rfl
theorem m1_iff {m : Nat} (h8 : m ≤ 8) (x : Int32) : (0 ≤ x ∧ x ≤ nI m - 1) ↔ (0 ≤ x ∧ x < nI m) := n1_iff (by omega) x
theorem me_inM (E : EE) (L : Nat) (F : FF) (m : Nat) (h8 : m ≤ 8) (x : Int32) : Ev3 E L 1 mX11_in [.int x, .int 0, .int (nI m - 1)] F (some (.int (b2i (0 ≤ x ∧ x < nI m)))) F := by
  rw [← b2i_cg (m1_iff h8 x)]; exact ev_in E L F x 0 (nI m - 1)
theorem b_X11_both_0_8 : bl2 mX11_both 0 [(.iload_n 1, 1, 1, 0, .null), (.iconst 0, 1, 0, 0, .int 0), (.aload_n 0, 1, 0, 0, .null), (.getfield 226, 3, 11, 21, .null), (.iconst 1, 1, 0, 0, .int 1), (.isub, 1, 0, 0, .null)] 8 (.invokestatic 86) 3 = true := by decide +kernel
theorem b_X11_both_11_11 : bl2 mX11_both 11 [] 11 (.ifCond .eq 27) 3 = true := by decide +kernel
theorem b_X11_both_38_40 : bl2 mX11_both 38 [(.bipush (-2), 2, 0, 0, .int (-2))] 40 (.ireturn) 1 = true := by decide +kernel
theorem b_X11_both_14_22 : bl2 mX11_both 14 [(.iload_n 2, 1, 2, 0, .null), (.iconst 0, 1, 0, 0, .int 0), (.aload_n 0, 1, 0, 0, .null), (.getfield 226, 3, 11, 21, .null), (.iconst 1, 1, 0, 0, .int 1), (.isub, 1, 0, 0, .null)] 22 (.invokestatic 86) 3 = true := by decide +kernel
theorem b_X11_both_25_25 : bl2 mX11_both 25 [] 25 (.ifCond .eq 13) 3 = true := by decide +kernel
theorem b_X11_both_28_30 : bl2 mX11_both 28 [(.iload_n 1, 1, 1, 0, .null), (.iload_n 2, 1, 2, 0, .null)] 30 (.if_icmp .eq 8) 3 = true := by decide +kernel
theorem b_X11_both_33_35 : bl2 mX11_both 33 [(.iload_n 3, 1, 3, 0, .null), (.iconst (-1), 1, 0, 0, .int (-1))] 35 (.if_icmp .ge 6) 3 = true := by decide +kernel
theorem b_X11_both_41_41 : bl2 mX11_both 41 [] 41 (.iconst 0) 1 = true := by decide +kernel
set_option maxRecDepth 20000 in
set_option maxHeartbeats 1000000 in
theorem y_both_bad (E : EE) (L : Nat) (F : FF) (m : Nat) (hq : F 48 21 = nI m) (hm8 : m ≤ 8) (p q x : Int32) (h : ¬ (0 ≤ p ∧ p < nI m) ∨ ¬ (0 ≤ q ∧ q < nI m) ∨ p = q ∨ x < -1) : Ev3 E L 16 mX11_both [.ref 48, .int p, .int q, .int x] F (some (.int (-2))) F := by
  refine Ev3.of okX11_both.2.2.1 (Nat.le_of_ble_eq_true rfl) ?_
  show R2 E L mX11_both 16 0 [some (.ref 48), some (.int p), some (.int q), some (.int x), none, none] [] F _
  refine R2.B (ls2 := [some (.ref 48), some (.int p), some (.int q), some (.int x), none, none]) (st2 := [.int ((F 48 21) - 1), .int 0, .int p]) b_X11_both_0_8 rfl (fun hd => ?_)
  rw [show ((F 48 21) - 1 : Int32) = nI m - 1 from (by rw [hq])]
  refine R2.callS3 (M2 := mX11_in) (As := [.int p, .int 0, .int (nI m - 1)]) (rest := []) hd lk_11_86 okX11_in (by decide) (me_inM E L F m hm8 p) (by decide) rfl rfl (Nat.le_of_ble_eq_true rfl) ?_
  refine R2.B (ls2 := [some (.ref 48), some (.int p), some (.int q), some (.int x), none, none]) (st2 := [.int (b2i (0 ≤ p ∧ p < nI m))]) b_X11_both_11_11 rfl (fun hd => ?_)
  refine R2.if_eq 38 hd (by decide) (fun c11 => ?_) (fun c11 => ?_)
  · have nc11 : ¬ (0 ≤ p ∧ p < nI m) := b2i_zero.mp c11
    refine R2.B (ls2 := [some (.ref 48), some (.int p), some (.int q), some (.int x), none, none]) (st2 := [.int (-2)]) b_X11_both_38_40 rfl (fun hd => ?_)
    exact R2.ret3 (r := some (.int (-2))) hd trivial rfl rfl rfl
  · have nc11 : 0 ≤ p ∧ p < nI m := b2i_nz.mp c11
    refine R2.B (ls2 := [some (.ref 48), some (.int p), some (.int q), some (.int x), none, none]) (st2 := [.int ((F 48 21) - 1), .int 0, .int q]) b_X11_both_14_22 rfl (fun hd => ?_)
    rw [show ((F 48 21) - 1 : Int32) = nI m - 1 from (by rw [hq])]
    refine R2.callS3 (M2 := mX11_in) (As := [.int q, .int 0, .int (nI m - 1)]) (rest := []) hd lk_11_86 okX11_in (by decide) (me_inM E L F m hm8 q) (by decide) rfl rfl (Nat.le_of_ble_eq_true rfl) ?_
    refine R2.B (ls2 := [some (.ref 48), some (.int p), some (.int q), some (.int x), none, none]) (st2 := [.int (b2i (0 ≤ q ∧ q < nI m))]) b_X11_both_25_25 rfl (fun hd => ?_)
    refine R2.if_eq 38 hd (by decide) (fun c25 => ?_) (fun c25 => ?_)
    · have nc25 : ¬ (0 ≤ q ∧ q < nI m) := b2i_zero.mp c25
      refine R2.B (ls2 := [some (.ref 48), some (.int p), some (.int q), some (.int x), none, none]) (st2 := [.int (-2)]) b_X11_both_38_40 rfl (fun hd => ?_)
      exact R2.ret3 (r := some (.int (-2))) hd trivial rfl rfl rfl
    · have nc25 : 0 ≤ q ∧ q < nI m := b2i_nz.mp c25
      refine R2.B (ls2 := [some (.ref 48), some (.int p), some (.int q), some (.int x), none, none]) (st2 := [.int q, .int p]) b_X11_both_28_30 rfl (fun hd => ?_)
      refine R2.icmp_eq 38 hd (by decide) (fun c30 => ?_) (fun c30 => ?_)
      · refine R2.B (ls2 := [some (.ref 48), some (.int p), some (.int q), some (.int x), none, none]) (st2 := [.int (-2)]) b_X11_both_38_40 rfl (fun hd => ?_)
        exact R2.ret3 (r := some (.int (-2))) hd trivial rfl rfl rfl
      · refine R2.B (ls2 := [some (.ref 48), some (.int p), some (.int q), some (.int x), none, none]) (st2 := [.int (-1), .int x]) b_X11_both_33_35 rfl (fun hd => ?_)
        refine R2.icmp_ge 41 hd (by decide) (fun c35 => ?_) (fun c35 => ?_)
        · refine R2.B (ls2 := [some (.ref 48), some (.int p), some (.int q), some (.int x), none, none]) (st2 := []) b_X11_both_41_41 rfl (fun hd => ?_)
          exact False.elim (by clear hd; grind)
        · refine R2.B (ls2 := [some (.ref 48), some (.int p), some (.int q), some (.int x), none, none]) (st2 := [.int (-2)]) b_X11_both_38_40 rfl (fun hd => ?_)
          exact R2.ret3 (r := some (.int (-2))) hd trivial rfl rfl rfl
set_option maxRecDepth 20000 in
set_option maxHeartbeats 2000000 in
theorem ml_both16 (E : EE) (L : Nat) (F : FF) (a b : Nat) (ha : a < 8) (hb : b < 8) (iv : Int32) : ∀ (k : Nat) (w : Nat) (c : Int32), w + k = 1024 → R2 E L mX11_both 16 47 [some (.ref 48), some (.int (nI a)), some (.int (nI b)), some (.int iv), some (.int c), some (.int (nI w))] [] F (fun r' F' => r' = some (.int (mbL F a b iv k w c)) ∧ F' = F) := by
  intro k
  induction k with
  | zero =>
    intro w c hi
    refine R2.B (ls2 := [some (.ref 48), some (.int (nI a)), some (.int (nI b)), some (.int iv), some (.int c), some (.int (nI w))]) (st2 := [.int 1024, .int (nI w)]) b_X11_both_47_52 rfl (fun hd => ?_)
    refine R2.icmp_ge 103 hd (by decide) (fun c52 => ?_) (fun c52 => absurd (nI_le (a := 1024) (by omega) (by omega)) c52)
    refine R2.B (ls2 := [some (.ref 48), some (.int (nI a)), some (.int (nI b)), some (.int iv), some (.int c), some (.int (nI w))]) (st2 := [.int (-1), .int iv]) b_X11_both_103_105 rfl (fun hd => ?_)
    refine R2.icmp_ne 113 hd (by decide) (fun c105 => ?_) (fun c105 => ?_)
    · refine R2.B (ls2 := [some (.ref 48), some (.int (nI a)), some (.int (nI b)), some (.int iv), some (.int c), some (.int (nI w))]) (st2 := [.int (-1)]) b_X11_both_113_114 rfl (fun hd => ?_)
      exact R2.ret3 (r := some (.int (-1))) hd trivial rfl (congrArg (fun z => some (Value.int z)) (by clear hd; simp only [mbL]; grind)) rfl
    · refine R2.B (ls2 := [some (.ref 48), some (.int (nI a)), some (.int (nI b)), some (.int iv), some (.int c), some (.int (nI w))]) (st2 := [.int c]) b_X11_both_108_114 rfl (fun hd => ?_)
      exact R2.ret3 (r := some (.int c)) hd trivial rfl (congrArg (fun z => some (Value.int z)) (by clear hd; simp only [mbL]; grind)) rfl
  | succ k ih =>
    intro w c hi
    refine R2.B (ls2 := [some (.ref 48), some (.int (nI a)), some (.int (nI b)), some (.int iv), some (.int c), some (.int (nI w))]) (st2 := [.int 1024, .int (nI w)]) b_X11_both_47_52 rfl (fun hd => ?_)
    refine R2.icmp_ge 103 hd (by decide) (fun c52 => absurd c52 (nI_ge (b := 1024) (by omega) (by omega))) (fun c52 => ?_)
    refine R2.B (ls2 := [some (.ref 48), some (.int (nI a)), some (.int (nI b)), some (.int iv), some (.int c), some (.int (nI w))]) (st2 := [.int (nI a), .ref 65, .int (nI w), .ref 48]) b_X11_both_55_63 rfl (fun hd => ?_)
    refine R2.iald a rfl hd rfl (fun _ => rfl) (by decide) (by omega) ?_
    refine R2.B (ls2 := [some (.ref 48), some (.int (nI a)), some (.int (nI b)), some (.int iv), some (.int c), some (.int (nI w))]) (st2 := [.int (F 65 a), .int (nI w), .ref 48]) b_X11_both_64_64 rfl (fun hd => ?_)
    refine R2.callV3 (M2 := mX11_isDue) (As := [.int (nI w), .int (F 65 a)]) (rest := []) hd lk_11_229 okX11_isDue (by decide) rfl (me_isDue E L F (nI w) (F 65 a)) (by decide) rfl rfl (Nat.le_of_ble_eq_true rfl) ?_
    refine R2.B (ls2 := [some (.ref 48), some (.int (nI a)), some (.int (nI b)), some (.int iv), some (.int c), some (.int (nI w))]) (st2 := [.int (b2i (awy (nI w) (F 65 a) = F 51 0 * F 51 0))]) b_X11_both_67_67 rfl (fun hd => ?_)
    refine R2.if_eq 97 hd (by decide) (fun c67 => ?_) (fun c67 => ?_)
    · have nc67 : ¬ (awy (nI w) (F 65 a) = F 51 0 * F 51 0) := b2i_zero.mp c67
      refine R2.B (ls2 := [some (.ref 48), some (.int (nI a)), some (.int (nI b)), some (.int iv), some (.int c), some (.int ((nI w) + 1))]) (st2 := []) b_X11_both_97_47 rfl (fun hd => ?_)
      rw [show ((nI w) + 1 : Int32) = nI (w + 1) from nI_add w 1]
      have e : mbL F a b iv (k + 1) w c = mbL F a b iv k (w + 1) c := by
        clear hd ih; simp only [mbL]; grind
      rw [e]
      exact ih (w + 1) _ (by omega)
    · have nc67 : awy (nI w) (F 65 a) = F 51 0 * F 51 0 := b2i_nz.mp c67
      refine R2.B (ls2 := [some (.ref 48), some (.int (nI a)), some (.int (nI b)), some (.int iv), some (.int c), some (.int (nI w))]) (st2 := [.int (nI b), .ref 65, .int (nI w), .ref 48]) b_X11_both_70_78 rfl (fun hd => ?_)
      refine R2.iald b rfl hd rfl (fun _ => rfl) (by decide) (by omega) ?_
      refine R2.B (ls2 := [some (.ref 48), some (.int (nI a)), some (.int (nI b)), some (.int iv), some (.int c), some (.int (nI w))]) (st2 := [.int (F 65 b), .int (nI w), .ref 48]) b_X11_both_79_79 rfl (fun hd => ?_)
      refine R2.callV3 (M2 := mX11_isDue) (As := [.int (nI w), .int (F 65 b)]) (rest := []) hd lk_11_229 okX11_isDue (by decide) rfl (me_isDue E L F (nI w) (F 65 b)) (by decide) rfl rfl (Nat.le_of_ble_eq_true rfl) ?_
      refine R2.B (ls2 := [some (.ref 48), some (.int (nI a)), some (.int (nI b)), some (.int iv), some (.int c), some (.int (nI w))]) (st2 := [.int (b2i (awy (nI w) (F 65 b) = F 51 0 * F 51 0))]) b_X11_both_82_82 rfl (fun hd => ?_)
      refine R2.if_eq 97 hd (by decide) (fun c82 => ?_) (fun c82 => ?_)
      · have nc82 : ¬ (awy (nI w) (F 65 b) = F 51 0 * F 51 0) := b2i_zero.mp c82
        refine R2.B (ls2 := [some (.ref 48), some (.int (nI a)), some (.int (nI b)), some (.int iv), some (.int c), some (.int ((nI w) + 1))]) (st2 := []) b_X11_both_97_47 rfl (fun hd => ?_)
        rw [show ((nI w) + 1 : Int32) = nI (w + 1) from nI_add w 1]
        have e : mbL F a b iv (k + 1) w c = mbL F a b iv k (w + 1) c := by
          clear hd ih; simp only [mbL]; grind
        rw [e]
        exact ih (w + 1) _ (by omega)
      · have nc82 : awy (nI w) (F 65 b) = F 51 0 * F 51 0 := b2i_nz.mp c82
        refine R2.B (ls2 := [some (.ref 48), some (.int (nI a)), some (.int (nI b)), some (.int iv), some (.int c), some (.int (nI w))]) (st2 := [.int iv, .int c]) b_X11_both_85_88 rfl (fun hd => ?_)
        refine R2.icmp_ne 94 hd (by decide) (fun c88 => ?_) (fun c88 => ?_)
        · refine R2.B (ls2 := [some (.ref 48), some (.int (nI a)), some (.int (nI b)), some (.int iv), some (.int (c + 1)), some (.int ((nI w) + 1))]) (st2 := []) b_X11_both_94_47 rfl (fun hd => ?_)
          rw [show ((nI w) + 1 : Int32) = nI (w + 1) from nI_add w 1]
          have e : mbL F a b iv (k + 1) w c = mbL F a b iv k (w + 1) (c + 1) := by
            clear hd ih; simp only [mbL]; grind
          rw [e]
          exact ih (w + 1) _ (by omega)
        · refine R2.B (ls2 := [some (.ref 48), some (.int (nI a)), some (.int (nI b)), some (.int iv), some (.int c), some (.int (nI w))]) (st2 := [.int (nI w)]) b_X11_both_91_93 rfl (fun hd => ?_)
          exact R2.ret3 (r := some (.int (nI w))) hd trivial rfl (congrArg (fun z => some (Value.int z)) (by clear hd ih; simp only [mbL]; grind)) rfl
theorem b_X11_both_41_47 : bl2 mX11_both 41 [(.iconst 0, 1, 0, 0, .int 0), (.istore 4, 2, 4, 0, .null), (.iconst 0, 1, 0, 0, .int 0), (.istore 5, 2, 5, 0, .null)] 47 (.iload 5) 2 = true := by decide +kernel
set_option maxRecDepth 20000 in
set_option maxHeartbeats 1000000 in
theorem y_both (E : EE) (L : Nat) (F : FF) (m : Nat) (hq : F 48 21 = nI m) (hm8 : m ≤ 8) (a b : Nat) (ha : a < m) (hb : b < m) (hab : ¬ a = b) (x : Int32) (hx : -1 ≤ x) : Ev3 E L 16 mX11_both [.ref 48, .int (nI a), .int (nI b), .int x] F (some (.int (mbL F a b x 1024 0 0))) F := by
  refine Ev3.of okX11_both.2.2.1 (Nat.le_of_ble_eq_true rfl) ?_
  show R2 E L mX11_both 16 0 [some (.ref 48), some (.int (nI a)), some (.int (nI b)), some (.int x), none, none] [] F _
  refine R2.B (ls2 := [some (.ref 48), some (.int (nI a)), some (.int (nI b)), some (.int x), none, none]) (st2 := [.int ((F 48 21) - 1), .int 0, .int (nI a)]) b_X11_both_0_8 rfl (fun hd => ?_)
  rw [show ((F 48 21) - 1 : Int32) = nI m - 1 from (by rw [hq])]
  refine R2.callS3 (M2 := mX11_in) (As := [.int (nI a), .int 0, .int (nI m - 1)]) (rest := []) hd lk_11_86 okX11_in (by decide) (me_inM E L F m hm8 (nI a)) (by decide) rfl rfl (Nat.le_of_ble_eq_true rfl) ?_
  refine R2.B (ls2 := [some (.ref 48), some (.int (nI a)), some (.int (nI b)), some (.int x), none, none]) (st2 := [.int (b2i (0 ≤ (nI a) ∧ (nI a) < nI m))]) b_X11_both_11_11 rfl (fun hd => ?_)
  refine R2.if_eq 38 hd (by decide) (fun c11 => absurd c11 (b2i_nz.mpr (perM (by omega) ha))) (fun c11 => ?_)
  refine R2.B (ls2 := [some (.ref 48), some (.int (nI a)), some (.int (nI b)), some (.int x), none, none]) (st2 := [.int ((F 48 21) - 1), .int 0, .int (nI b)]) b_X11_both_14_22 rfl (fun hd => ?_)
  rw [show ((F 48 21) - 1 : Int32) = nI m - 1 from (by rw [hq])]
  refine R2.callS3 (M2 := mX11_in) (As := [.int (nI b), .int 0, .int (nI m - 1)]) (rest := []) hd lk_11_86 okX11_in (by decide) (me_inM E L F m hm8 (nI b)) (by decide) rfl rfl (Nat.le_of_ble_eq_true rfl) ?_
  refine R2.B (ls2 := [some (.ref 48), some (.int (nI a)), some (.int (nI b)), some (.int x), none, none]) (st2 := [.int (b2i (0 ≤ (nI b) ∧ (nI b) < nI m))]) b_X11_both_25_25 rfl (fun hd => ?_)
  refine R2.if_eq 38 hd (by decide) (fun c25 => absurd c25 (b2i_nz.mpr (perM (by omega) hb))) (fun c25 => ?_)
  refine R2.B (ls2 := [some (.ref 48), some (.int (nI a)), some (.int (nI b)), some (.int x), none, none]) (st2 := [.int (nI b), .int (nI a)]) b_X11_both_28_30 rfl (fun hd => ?_)
  refine R2.icmp_eq 38 hd (by decide) (fun c30 => absurd c30 (fun z => hab ((nI_eq (by omega) (by omega)).mp z))) (fun c30 => ?_)
  refine R2.B (ls2 := [some (.ref 48), some (.int (nI a)), some (.int (nI b)), some (.int x), none, none]) (st2 := [.int (-1), .int x]) b_X11_both_33_35 rfl (fun hd => ?_)
  refine R2.icmp_ge 41 hd (by decide) (fun c35 => ?_) (fun c35 => absurd (hx) c35)
  refine R2.B (ls2 := [some (.ref 48), some (.int (nI a)), some (.int (nI b)), some (.int x), some (.int 0), some (.int 0)]) (st2 := []) b_X11_both_41_47 rfl (fun hd => ?_)
  exact (ml_both16 E L F a b (by omega) (by omega) x 1024 0 0 (by omega))
theorem b_X11_broker_0_3 : bl2 mX11_broker 0 [(.iload_n 1, 1, 1, 0, .null), (.iconst 0, 1, 0, 0, .int 0), (.iconst 1, 1, 0, 0, .int 1)] 3 (.invokestatic 86) 3 = true := by decide +kernel
theorem b_X11_broker_6_6 : bl2 mX11_broker 6 [] 6 (.ifCond .eq 11) 3 = true := by decide +kernel
theorem b_X11_broker_17_19 : bl2 mX11_broker 17 [(.bipush (-2), 2, 0, 0, .int (-2))] 19 (.ireturn) 1 = true := by decide +kernel
theorem b_X11_broker_9_9 : bl2 mX11_broker 9 [] 9 (.aload_n 0) 1 = true := by decide +kernel
set_option maxRecDepth 20000 in
set_option maxHeartbeats 1000000 in
theorem y_broker_bad (E : EE) (L : Nat) (F : FF) (w : Int32) (h : w < 0 ∨ 1 < w) : Ev3 E L 16 mX11_broker [.ref 48, .int w] F (some (.int (-2))) F := by
  refine Ev3.of okX11_broker.2.2.1 (Nat.le_of_ble_eq_true rfl) ?_
  show R2 E L mX11_broker 16 0 [some (.ref 48), some (.int w)] [] F _
  refine R2.B (ls2 := [some (.ref 48), some (.int w)]) (st2 := [.int 1, .int 0, .int w]) b_X11_broker_0_3 rfl (fun hd => ?_)
  refine R2.callS3 (M2 := mX11_in) (As := [.int w, .int 0, .int 1]) (rest := []) hd lk_11_86 okX11_in (by decide) (ev_in E L F w 0 1) (by decide) rfl rfl (Nat.le_of_ble_eq_true rfl) ?_
  refine R2.B (ls2 := [some (.ref 48), some (.int w)]) (st2 := [.int (b2i (0 ≤ w ∧ w ≤ 1))]) b_X11_broker_6_6 rfl (fun hd => ?_)
  refine R2.if_eq 17 hd (by decide) (fun c6 => ?_) (fun c6 => ?_)
  · have nc6 : ¬ (0 ≤ w ∧ w ≤ 1) := b2i_zero.mp c6
    refine R2.B (ls2 := [some (.ref 48), some (.int w)]) (st2 := [.int (-2)]) b_X11_broker_17_19 rfl (fun hd => ?_)
    exact R2.ret3 (r := some (.int (-2))) hd trivial rfl rfl rfl
  · have nc6 : 0 ≤ w ∧ w ≤ 1 := b2i_nz.mp c6
    refine R2.B (ls2 := [some (.ref 48), some (.int w)]) (st2 := []) b_X11_broker_9_9 rfl (fun hd => ?_)
    exact False.elim (by clear hd; grind)
theorem b_X11_broker_9_11 : bl2 mX11_broker 9 [(.aload_n 0, 1, 0, 0, .null), (.iload_n 1, 1, 1, 0, .null)] 11 (.invokevirtual 241) 3 = true := by decide +kernel
theorem b_X11_broker_14_19 : bl2 mX11_broker 14 [(.goto 5, 3, 19, 0, .null)] 19 (.ireturn) 1 = true := by decide +kernel
set_option maxRecDepth 20000 in
set_option maxHeartbeats 1000000 in
theorem y_broker (E : EE) (L : Nat) (F : FF) (l n : Nat) (hm : MR F l n) (hth : ThM F n) (wh : Int32) (h : ¬ (wh < 0 ∨ 1 < wh)) : Ev2 E L 16 mX11_broker [.ref 48, .int wh] F (fun r' F' => r' = some (.int (if wh = 0 then (brL (fun w => mPg (coL n n 0 (ly F n)) n ((coL n n 0 (ly F n)) 66) (nI w)) 1024 0 (-1) 0).1 else (brL (fun w => mPg (coL n n 0 (ly F n)) n ((coL n n 0 (ly F n)) 66) (nI w)) 1024 0 (-1) 0).2)) ∧ ∀ a, a ≠ 67 → a ≠ 68 → F' a = (coL n n 0 (ly F n)) a) := by
  refine Ev2.of okX11_broker.2.2.1 (Nat.le_of_ble_eq_true rfl) ?_
  show R2 E L mX11_broker 16 0 [some (.ref 48), some (.int wh)] [] F _
  refine R2.B (ls2 := [some (.ref 48), some (.int wh)]) (st2 := [.int 1, .int 0, .int wh]) b_X11_broker_0_3 rfl (fun hd => ?_)
  refine R2.callS3 (M2 := mX11_in) (As := [.int wh, .int 0, .int 1]) (rest := []) hd lk_11_86 okX11_in (by decide) (ev_in E L F wh 0 1) (by decide) rfl rfl (Nat.le_of_ble_eq_true rfl) ?_
  refine R2.B (ls2 := [some (.ref 48), some (.int wh)]) (st2 := [.int (b2i (0 ≤ wh ∧ wh ≤ 1))]) b_X11_broker_6_6 rfl (fun hd => ?_)
  refine R2.if_eq 17 hd (by decide) (fun c6 => ?_) (fun c6 => ?_)
  · have nc6 : ¬ (0 ≤ wh ∧ wh ≤ 1) := b2i_zero.mp c6
    refine R2.B (ls2 := [some (.ref 48), some (.int wh)]) (st2 := [.int (-2)]) b_X11_broker_17_19 rfl (fun hd => ?_)
    exact False.elim (by clear hd; grind)
  · have nc6 : 0 ≤ wh ∧ wh ≤ 1 := b2i_nz.mp c6
    refine R2.B (ls2 := [some (.ref 48), some (.int wh)]) (st2 := [.int wh, .ref 48]) b_X11_broker_9_11 rfl (fun hd => ?_)
    refine R2.callV (M2 := mX11_brokerOf) (As := [.int wh]) (rest := []) hd lk_11_241 okX11_brokerOf (by decide) rfl (me_brokerOf E L F l n hm hth wh) (by decide) rfl rfl (Nat.le_of_ble_eq_true rfl) (fun r1 F1 h1 => ?_)
    obtain ⟨h1, h2⟩ := h1
    subst h1
    refine R2.B (ls2 := [some (.ref 48), some (.int wh)]) (st2 := [.int (if wh = 0 then (brL (fun w => mPg (coL n n 0 (ly F n)) n ((coL n n 0 (ly F n)) 66) (nI w)) 1024 0 (-1) 0).1 else (brL (fun w => mPg (coL n n 0 (ly F n)) n ((coL n n 0 (ly F n)) 66) (nI w)) 1024 0 (-1) 0).2)]) b_X11_broker_14_19 rfl (fun hd => ?_)
    exact R2.ret (r := some (.int (if wh = 0 then (brL (fun w => mPg (coL n n 0 (ly F n)) n ((coL n n 0 (ly F n)) 66) (nI w)) 1024 0 (-1) 0).1 else (brL (fun w => mPg (coL n n 0 (ly F n)) n ((coL n n 0 (ly F n)) 66) (nI w)) 1024 0 (-1) 0).2))) hd trivial rfl ⟨rfl, h2⟩
theorem b_X11_other_0_4 : bl2 mX11_other 0 [(.iload_n 1, 1, 1, 0, .null), (.iconst 1, 1, 0, 0, .int 1), (.bipush 90, 2, 0, 0, .int 90)] 4 (.invokestatic 86) 3 = true := by decide +kernel
theorem b_X11_other_7_7 : bl2 mX11_other 7 [] 7 (.ifCond .eq 32) 3 = true := by decide +kernel
theorem b_X11_other_39_41 : bl2 mX11_other 39 [(.bipush (-2), 2, 0, 0, .int (-2))] 41 (.ireturn) 1 = true := by decide +kernel
theorem b_X11_other_10_14 : bl2 mX11_other 10 [(.iload_n 2, 1, 2, 0, .null), (.iload_n 1, 1, 1, 0, .null), (.bipush 90, 2, 0, 0, .int 90)] 14 (.invokestatic 86) 3 = true := by decide +kernel
theorem b_X11_other_17_17 : bl2 mX11_other 17 [] 17 (.ifCond .eq 22) 3 = true := by decide +kernel
theorem b_X11_other_20_23 : bl2 mX11_other 20 [(.iload_n 3, 1, 3, 0, .null), (.iconst 0, 1, 0, 0, .int 0), (.iconst 1, 1, 0, 0, .int 1)] 23 (.invokestatic 86) 3 = true := by decide +kernel
theorem b_X11_other_26_26 : bl2 mX11_other 26 [] 26 (.ifCond .eq 13) 3 = true := by decide +kernel
theorem b_X11_other_29_29 : bl2 mX11_other 29 [] 29 (.aload_n 0) 1 = true := by decide +kernel
set_option maxRecDepth 20000 in
set_option maxHeartbeats 1000000 in
theorem y_other_bad (E : EE) (L : Nat) (F : FF) (p q w : Int32) (h : p < 1 ∨ 90 < q ∨ q < p ∨ w < 0 ∨ 1 < w) : Ev3 E L 16 mX11_other [.ref 48, .int p, .int q, .int w] F (some (.int (-2))) F := by
  refine Ev3.of okX11_other.2.2.1 (Nat.le_of_ble_eq_true rfl) ?_
  show R2 E L mX11_other 16 0 [some (.ref 48), some (.int p), some (.int q), some (.int w)] [] F _
  refine R2.B (ls2 := [some (.ref 48), some (.int p), some (.int q), some (.int w)]) (st2 := [.int 90, .int 1, .int p]) b_X11_other_0_4 rfl (fun hd => ?_)
  refine R2.callS3 (M2 := mX11_in) (As := [.int p, .int 1, .int 90]) (rest := []) hd lk_11_86 okX11_in (by decide) (ev_in E L F p 1 90) (by decide) rfl rfl (Nat.le_of_ble_eq_true rfl) ?_
  refine R2.B (ls2 := [some (.ref 48), some (.int p), some (.int q), some (.int w)]) (st2 := [.int (b2i (1 ≤ p ∧ p ≤ 90))]) b_X11_other_7_7 rfl (fun hd => ?_)
  refine R2.if_eq 39 hd (by decide) (fun c7 => ?_) (fun c7 => ?_)
  · have nc7 : ¬ (1 ≤ p ∧ p ≤ 90) := b2i_zero.mp c7
    refine R2.B (ls2 := [some (.ref 48), some (.int p), some (.int q), some (.int w)]) (st2 := [.int (-2)]) b_X11_other_39_41 rfl (fun hd => ?_)
    exact R2.ret3 (r := some (.int (-2))) hd trivial rfl rfl rfl
  · have nc7 : 1 ≤ p ∧ p ≤ 90 := b2i_nz.mp c7
    refine R2.B (ls2 := [some (.ref 48), some (.int p), some (.int q), some (.int w)]) (st2 := [.int 90, .int p, .int q]) b_X11_other_10_14 rfl (fun hd => ?_)
    refine R2.callS3 (M2 := mX11_in) (As := [.int q, .int p, .int 90]) (rest := []) hd lk_11_86 okX11_in (by decide) (ev_in E L F q p 90) (by decide) rfl rfl (Nat.le_of_ble_eq_true rfl) ?_
    refine R2.B (ls2 := [some (.ref 48), some (.int p), some (.int q), some (.int w)]) (st2 := [.int (b2i (p ≤ q ∧ q ≤ 90))]) b_X11_other_17_17 rfl (fun hd => ?_)
    refine R2.if_eq 39 hd (by decide) (fun c17 => ?_) (fun c17 => ?_)
    · have nc17 : ¬ (p ≤ q ∧ q ≤ 90) := b2i_zero.mp c17
      refine R2.B (ls2 := [some (.ref 48), some (.int p), some (.int q), some (.int w)]) (st2 := [.int (-2)]) b_X11_other_39_41 rfl (fun hd => ?_)
      exact R2.ret3 (r := some (.int (-2))) hd trivial rfl rfl rfl
    · have nc17 : p ≤ q ∧ q ≤ 90 := b2i_nz.mp c17
      refine R2.B (ls2 := [some (.ref 48), some (.int p), some (.int q), some (.int w)]) (st2 := [.int 1, .int 0, .int w]) b_X11_other_20_23 rfl (fun hd => ?_)
      refine R2.callS3 (M2 := mX11_in) (As := [.int w, .int 0, .int 1]) (rest := []) hd lk_11_86 okX11_in (by decide) (ev_in E L F w 0 1) (by decide) rfl rfl (Nat.le_of_ble_eq_true rfl) ?_
      refine R2.B (ls2 := [some (.ref 48), some (.int p), some (.int q), some (.int w)]) (st2 := [.int (b2i (0 ≤ w ∧ w ≤ 1))]) b_X11_other_26_26 rfl (fun hd => ?_)
      refine R2.if_eq 39 hd (by decide) (fun c26 => ?_) (fun c26 => ?_)
      · have nc26 : ¬ (0 ≤ w ∧ w ≤ 1) := b2i_zero.mp c26
        refine R2.B (ls2 := [some (.ref 48), some (.int p), some (.int q), some (.int w)]) (st2 := [.int (-2)]) b_X11_other_39_41 rfl (fun hd => ?_)
        exact R2.ret3 (r := some (.int (-2))) hd trivial rfl rfl rfl
      · have nc26 : 0 ≤ w ∧ w ≤ 1 := b2i_nz.mp c26
        refine R2.B (ls2 := [some (.ref 48), some (.int p), some (.int q), some (.int w)]) (st2 := []) b_X11_other_29_29 rfl (fun hd => ?_)
        exact False.elim (by clear hd; grind)
theorem b_X11_other_29_33 : bl2 mX11_other 29 [(.aload_n 0, 1, 0, 0, .null), (.iload_n 1, 1, 1, 0, .null), (.iload_n 2, 1, 2, 0, .null), (.iload_n 3, 1, 3, 0, .null)] 33 (.invokevirtual 244) 3 = true := by decide +kernel
theorem b_X11_other_36_41 : bl2 mX11_other 36 [(.goto 5, 3, 41, 0, .null)] 41 (.ireturn) 1 = true := by decide +kernel
set_option maxRecDepth 20000 in
set_option maxHeartbeats 1000000 in
theorem y_other (E : EE) (L : Nat) (F : FF) (l n : Nat) (hm : MR F l n) (f t : Nat) (hf1 : 1 ≤ f) (hf : f ≤ t) (ht : t ≤ 90) (x : Int32) (h : ¬ (x < 0 ∨ 1 < x)) : Ev3 E L 16 mX11_other [.ref 48, .int (nI f), .int (nI t), .int x] F (some (.int (if x = 0 then (brL (fun j => sumB (gMP (ly F n) n (nI j)) n 0 0) (t + 1 - f) f (nI f) (-1)).1 else (brL (fun j => sumB (gMP (ly F n) n (nI j)) n 0 0) (t + 1 - f) f (nI f) (-1)).2))) (ly F n) := by
  refine Ev3.of okX11_other.2.2.1 (Nat.le_of_ble_eq_true rfl) ?_
  show R2 E L mX11_other 16 0 [some (.ref 48), some (.int (nI f)), some (.int (nI t)), some (.int x)] [] F _
  refine R2.B (ls2 := [some (.ref 48), some (.int (nI f)), some (.int (nI t)), some (.int x)]) (st2 := [.int 90, .int 1, .int (nI f)]) b_X11_other_0_4 rfl (fun hd => ?_)
  refine R2.callS3 (M2 := mX11_in) (As := [.int (nI f), .int 1, .int 90]) (rest := []) hd lk_11_86 okX11_in (by decide) (ev_in E L F (nI f) 1 90) (by decide) rfl rfl (Nat.le_of_ble_eq_true rfl) ?_
  refine R2.B (ls2 := [some (.ref 48), some (.int (nI f)), some (.int (nI t)), some (.int x)]) (st2 := [.int (b2i (1 ≤ (nI f) ∧ (nI f) ≤ 90))]) b_X11_other_7_7 rfl (fun hd => ?_)
  refine R2.if_eq 39 hd (by decide) (fun c7 => absurd c7 (b2i_nz.mpr ⟨(nI_leI (a := 1) (by omega) (by omega)).mpr hf1, (nI_leI (b := 90) (by omega) (by omega)).mpr (by omega)⟩)) (fun c7 => ?_)
  refine R2.B (ls2 := [some (.ref 48), some (.int (nI f)), some (.int (nI t)), some (.int x)]) (st2 := [.int 90, .int (nI f), .int (nI t)]) b_X11_other_10_14 rfl (fun hd => ?_)
  refine R2.callS3 (M2 := mX11_in) (As := [.int (nI t), .int (nI f), .int 90]) (rest := []) hd lk_11_86 okX11_in (by decide) (ev_in E L F (nI t) (nI f) 90) (by decide) rfl rfl (Nat.le_of_ble_eq_true rfl) ?_
  refine R2.B (ls2 := [some (.ref 48), some (.int (nI f)), some (.int (nI t)), some (.int x)]) (st2 := [.int (b2i ((nI f) ≤ (nI t) ∧ (nI t) ≤ 90))]) b_X11_other_17_17 rfl (fun hd => ?_)
  refine R2.if_eq 39 hd (by decide) (fun c17 => absurd c17 (b2i_nz.mpr ⟨(nI_leI (by omega) (by omega)).mpr hf, (nI_leI (b := 90) (by omega) (by omega)).mpr ht⟩)) (fun c17 => ?_)
  refine R2.B (ls2 := [some (.ref 48), some (.int (nI f)), some (.int (nI t)), some (.int x)]) (st2 := [.int 1, .int 0, .int x]) b_X11_other_20_23 rfl (fun hd => ?_)
  refine R2.callS3 (M2 := mX11_in) (As := [.int x, .int 0, .int 1]) (rest := []) hd lk_11_86 okX11_in (by decide) (ev_in E L F x 0 1) (by decide) rfl rfl (Nat.le_of_ble_eq_true rfl) ?_
  refine R2.B (ls2 := [some (.ref 48), some (.int (nI f)), some (.int (nI t)), some (.int x)]) (st2 := [.int (b2i (0 ≤ x ∧ x ≤ 1))]) b_X11_other_26_26 rfl (fun hd => ?_)
  refine R2.if_eq 39 hd (by decide) (fun c26 => ?_) (fun c26 => ?_)
  · have nc26 : ¬ (0 ≤ x ∧ x ≤ 1) := b2i_zero.mp c26
    refine R2.B (ls2 := [some (.ref 48), some (.int (nI f)), some (.int (nI t)), some (.int x)]) (st2 := [.int (-2)]) b_X11_other_39_41 rfl (fun hd => ?_)
    exact False.elim (by clear hd; grind)
  · have nc26 : 0 ≤ x ∧ x ≤ 1 := b2i_nz.mp c26
    refine R2.B (ls2 := [some (.ref 48), some (.int (nI f)), some (.int (nI t)), some (.int x)]) (st2 := [.int x, .int (nI t), .int (nI f), .ref 48]) b_X11_other_29_33 rfl (fun hd => ?_)
    refine R2.callV3 (M2 := mX11_otherOf) (As := [.int (nI f), .int (nI t), .int x]) (rest := []) hd lk_11_244 okX11_otherOf (by decide) rfl (me_otherOf E L F l n hm f t hf ht x) (by decide) rfl rfl (Nat.le_of_ble_eq_true rfl) ?_
    refine R2.B (ls2 := [some (.ref 48), some (.int (nI f)), some (.int (nI t)), some (.int x)]) (st2 := [.int (if x = 0 then (brL (fun j => sumB (gMP (ly F n) n (nI j)) n 0 0) (t + 1 - f) f (nI f) (-1)).1 else (brL (fun j => sumB (gMP (ly F n) n (nI j)) n 0 0) (t + 1 - f) f (nI f) (-1)).2)]) b_X11_other_36_41 rfl (fun hd => ?_)
    exact R2.ret3 (r := some (.int (if x = 0 then (brL (fun j => sumB (gMP (ly F n) n (nI j)) n 0 0) (t + 1 - f) f (nI f) (-1)).1 else (brL (fun j => sumB (gMP (ly F n) n (nI j)) n 0 0) (t + 1 - f) f (nI f) (-1)).2))) hd trivial rfl rfl rfl
