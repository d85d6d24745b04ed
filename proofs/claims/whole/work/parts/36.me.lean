theorem b_X11_buyer_0_5 : bl2 mX11_buyer 0 [(.aload_n 0, 1, 0, 0, .null), (.getfield 19, 3, 11, 4, .null), (.iload_n 1, 1, 1, 0, .null)] 5 (.iaload) 1 = true := by decide +kernel
theorem b_X11_buyer_6_7 : bl2 mX11_buyer 6 [(.iconst 1, 1, 0, 0, .int 1)] 7 (.if_icmp .ne 7) 3 = true := by decide +kernel
theorem b_X11_buyer_14_15 : bl2 mX11_buyer 14 [(.iload_n 2, 1, 2, 0, .null)] 15 (.ireturn) 1 = true := by decide +kernel
theorem b_X11_buyer_10_15 : bl2 mX11_buyer 10 [(.iload_n 1, 1, 1, 0, .null), (.goto 4, 3, 15, 0, .null)] 15 (.ireturn) 1 = true := by decide +kernel
set_option maxRecDepth 20000 in
set_option maxHeartbeats 1000000 in
theorem me_buyer (E : EE) (L : Nat) (F : FF) (a b : Nat) (ha : a < 11) (hb : b < 11) : Ev3 E L 1 mX11_buyer [.ref 48, .int (nI a), .int (nI b)] F (some (.int (nI (if F 52 a = 1 then a else b)))) F := by
  refine Ev3.of okX11_buyer.2.2.1 (Nat.le_of_ble_eq_true rfl) ?_
  show R2 E L mX11_buyer 1 0 [some (.ref 48), some (.int (nI a)), some (.int (nI b))] [] F _
  refine R2.B (ls2 := [some (.ref 48), some (.int (nI a)), some (.int (nI b))]) (st2 := [.int (nI a), .ref 52]) b_X11_buyer_0_5 rfl (fun hd => ?_)
  refine R2.iald a rfl hd rfl (fun _ => rfl) (by decide) (by omega) ?_
  refine R2.B (ls2 := [some (.ref 48), some (.int (nI a)), some (.int (nI b))]) (st2 := [.int 1, .int (F 52 a)]) b_X11_buyer_6_7 rfl (fun hd => ?_)
  refine R2.icmp_ne 14 hd (by decide) (fun c7 => ?_) (fun c7 => ?_)
  · refine R2.B (ls2 := [some (.ref 48), some (.int (nI a)), some (.int (nI b))]) (st2 := [.int (nI b)]) b_X11_buyer_14_15 rfl (fun hd => ?_)
    exact R2.ret3 (r := some (.int (nI b))) hd trivial rfl (congrArg (fun z => some (Value.int z)) (by clear hd; grind)) rfl
  · refine R2.B (ls2 := [some (.ref 48), some (.int (nI a)), some (.int (nI b))]) (st2 := [.int (nI a)]) b_X11_buyer_10_15 rfl (fun hd => ?_)
    exact R2.ret3 (r := some (.int (nI a))) hd trivial rfl (congrArg (fun z => some (Value.int z)) (by clear hd; grind)) rfl
theorem b_X11_worthOf_0_3 : bl2 mX11_worthOf 0 [(.aload_n 0, 1, 0, 0, .null), (.iload_n 1, 1, 1, 0, .null), (.iload_n 2, 1, 2, 0, .null)] 3 (.invokevirtual 159) 3 = true := by decide +kernel
theorem b_X11_worthOf_6_12 : bl2 mX11_worthOf 6 [(.istore_n 3, 1, 3, 0, .null), (.aload_n 0, 1, 0, 0, .null), (.getfield 25, 3, 11, 6, .null), (.iload_n 3, 1, 3, 0, .null)] 12 (.iaload) 1 = true := by decide +kernel
theorem b_X11_worthOf_13_19 : bl2 mX11_worthOf 13 [(.aload_n 0, 1, 0, 0, .null), (.getfield 25, 3, 11, 6, .null), (.iload_n 3, 1, 3, 0, .null), (.iload_n 1, 1, 1, 0, .null)] 19 (.if_icmp .ne 7) 3 = true := by decide +kernel
theorem b_X11_worthOf_26_27 : bl2 mX11_worthOf 26 [(.iload_n 1, 1, 1, 0, .null)] 27 (.iaload) 1 = true := by decide +kernel
theorem b_X11_worthOf_28_29 : bl2 mX11_worthOf 28 [(.isub, 1, 0, 0, .null)] 29 (.ireturn) 1 = true := by decide +kernel
theorem b_X11_worthOf_22_27 : bl2 mX11_worthOf 22 [(.iload_n 2, 1, 2, 0, .null), (.goto 4, 3, 27, 0, .null)] 27 (.iaload) 1 = true := by decide +kernel
set_option maxRecDepth 20000 in
set_option maxHeartbeats 1000000 in
theorem me_worthOf (E : EE) (L : Nat) (F : FF) (a b : Nat) (ha : a < 11) (hb : b < 11) : Ev3 E L 2 mX11_worthOf [.ref 48, .int (nI a), .int (nI b)] F (some (.int (gan (F 52) (F 54) a b))) F := by
  have hw : (if F 52 a = 1 then a else b) < 11 := by split <;> assumption
  refine Ev3.of okX11_worthOf.2.2.1 (Nat.le_of_ble_eq_true rfl) ?_
  show R2 E L mX11_worthOf 2 0 [some (.ref 48), some (.int (nI a)), some (.int (nI b)), none] [] F _
  refine R2.B (ls2 := [some (.ref 48), some (.int (nI a)), some (.int (nI b)), none]) (st2 := [.int (nI b), .int (nI a), .ref 48]) b_X11_worthOf_0_3 rfl (fun hd => ?_)
  refine R2.callV3 (M2 := mX11_buyer) (As := [.int (nI a), .int (nI b)]) (rest := []) hd lk_11_159 okX11_buyer (by decide) rfl (me_buyer E L F a b (by omega) (by omega)) (by decide) rfl rfl (Nat.le_of_ble_eq_true rfl) ?_
  refine R2.B (ls2 := [some (.ref 48), some (.int (nI a)), some (.int (nI b)), some (.int (nI (if (F 52 a) = 1 then a else b)))]) (st2 := [.int (nI (if (F 52 a) = 1 then a else b)), .ref 54]) b_X11_worthOf_6_12 rfl (fun hd => ?_)
  refine R2.iald (if (F 52 a) = 1 then a else b) rfl hd rfl (fun _ => rfl) (by decide) (by omega) ?_
  refine R2.B (ls2 := [some (.ref 48), some (.int (nI a)), some (.int (nI b)), some (.int (nI (if (F 52 a) = 1 then a else b)))]) (st2 := [.int (nI a), .int (nI (if (F 52 a) = 1 then a else b)), .ref 54, .int (F 54 (if (F 52 a) = 1 then a else b))]) b_X11_worthOf_13_19 rfl (fun hd => ?_)
  refine R2.icmp_ne 26 hd (by decide) (fun c19 => ?_) (fun c19 => ?_)
  · have nc19 : ¬ (if (F 52 a) = 1 then a else b) = a := fun h9 => c19 ((nI_eq (a := (if (F 52 a) = 1 then a else b)) (b := a) (by omega) (by omega)).mpr h9)
    refine R2.B (ls2 := [some (.ref 48), some (.int (nI a)), some (.int (nI b)), some (.int (nI (if (F 52 a) = 1 then a else b)))]) (st2 := [.int (nI a), .ref 54, .int (F 54 (if (F 52 a) = 1 then a else b))]) b_X11_worthOf_26_27 rfl (fun hd => ?_)
    refine R2.iald a rfl hd rfl (fun _ => rfl) (by decide) (by omega) ?_
    refine R2.B (ls2 := [some (.ref 48), some (.int (nI a)), some (.int (nI b)), some (.int (nI (if (F 52 a) = 1 then a else b)))]) (st2 := [.int ((F 54 (if (F 52 a) = 1 then a else b)) - (F 54 a))]) b_X11_worthOf_28_29 rfl (fun hd => ?_)
    exact R2.ret3 (r := some (.int ((F 54 (if (F 52 a) = 1 then a else b)) - (F 54 a)))) hd trivial rfl (congrArg (fun z => some (Value.int z)) (by clear hd; unfold gan; grind)) rfl
  · have nc19 : (if (F 52 a) = 1 then a else b) = a := (nI_eq (a := (if (F 52 a) = 1 then a else b)) (b := a) (by omega) (by omega)).mp c19
    refine R2.B (ls2 := [some (.ref 48), some (.int (nI a)), some (.int (nI b)), some (.int (nI (if (F 52 a) = 1 then a else b)))]) (st2 := [.int (nI b), .ref 54, .int (F 54 (if (F 52 a) = 1 then a else b))]) b_X11_worthOf_22_27 rfl (fun hd => ?_)
    refine R2.iald b rfl hd rfl (fun _ => rfl) (by decide) (by omega) ?_
    refine R2.B (ls2 := [some (.ref 48), some (.int (nI a)), some (.int (nI b)), some (.int (nI (if (F 52 a) = 1 then a else b)))]) (st2 := [.int ((F 54 (if (F 52 a) = 1 then a else b)) - (F 54 b))]) b_X11_worthOf_28_29 rfl (fun hd => ?_)
    exact R2.ret3 (r := some (.int ((F 54 (if (F 52 a) = 1 then a else b)) - (F 54 b)))) hd trivial rfl (congrArg (fun z => some (Value.int z)) (by clear hd; unfold gan; grind)) rfl
theorem b_X11_bindsBy_0_5 : bl2 mX11_bindsBy 0 [(.aload_n 0, 1, 0, 0, .null), (.getfield 34, 3, 11, 9, .null), (.iload_n 1, 1, 1, 0, .null)] 5 (.iaload) 1 = true := by decide +kernel
theorem b_X11_bindsBy_6_11 : bl2 mX11_bindsBy 6 [(.aload_n 0, 1, 0, 0, .null), (.getfield 34, 3, 11, 9, .null), (.iload_n 2, 1, 2, 0, .null)] 11 (.iaload) 1 = true := by decide +kernel
theorem b_X11_bindsBy_12_12 : bl2 mX11_bindsBy 12 [] 12 (.invokestatic 137) 3 = true := by decide +kernel
theorem b_X11_bindsBy_15_18 : bl2 mX11_bindsBy 15 [(.iload_n 3, 1, 3, 0, .null), (.iload_n 3, 1, 3, 0, .null), (.imul, 1, 0, 0, .null)] 18 (.if_icmp .eq 5) 3 = true := by decide +kernel
theorem b_X11_bindsBy_23_28 : bl2 mX11_bindsBy 23 [(.aload_n 0, 1, 0, 0, .null), (.iload_n 1, 1, 1, 0, .null), (.iload_n 2, 1, 2, 0, .null), (.iload 4, 2, 4, 0, .null)] 28 (.invokevirtual 162) 3 = true := by decide +kernel
theorem b_X11_bindsBy_31_32 : bl2 mX11_bindsBy 31 [(.iconst (-1), 1, 0, 0, .int (-1))] 32 (.if_icmp .eq 5) 3 = true := by decide +kernel
theorem b_X11_bindsBy_37_42 : bl2 mX11_bindsBy 37 [(.aload_n 0, 1, 0, 0, .null), (.getfield 19, 3, 11, 4, .null), (.iload_n 1, 1, 1, 0, .null)] 42 (.iaload) 1 = true := by decide +kernel
theorem b_X11_bindsBy_43_43 : bl2 mX11_bindsBy 43 [] 43 (.ifCond .ne 13) 3 = true := by decide +kernel
theorem b_X11_bindsBy_56_61 : bl2 mX11_bindsBy 56 [(.aload_n 0, 1, 0, 0, .null), (.getfield 19, 3, 11, 4, .null), (.iload_n 1, 1, 1, 0, .null)] 61 (.iaload) 1 = true := by decide +kernel
theorem b_X11_bindsBy_62_63 : bl2 mX11_bindsBy 62 [(.iconst 1, 1, 0, 0, .int 1)] 63 (.if_icmp .ne 16) 3 = true := by decide +kernel
theorem b_X11_bindsBy_79_84 : bl2 mX11_bindsBy 79 [(.iconst 0, 1, 0, 0, .int 0), (.istore 5, 2, 5, 0, .null), (.iload 5, 2, 5, 0, .null)] 84 (.ifCond .eq 31) 3 = true := by decide +kernel
theorem b_X11_bindsBy_115_116 : bl2 mX11_bindsBy 115 [(.iconst 3, 1, 0, 0, .int 3)] 116 (.ireturn) 1 = true := by decide +kernel
theorem b_X11_bindsBy_66_71 : bl2 mX11_bindsBy 66 [(.aload_n 0, 1, 0, 0, .null), (.getfield 19, 3, 11, 4, .null), (.iload_n 2, 1, 2, 0, .null)] 71 (.iaload) 1 = true := by decide +kernel
theorem b_X11_bindsBy_72_72 : bl2 mX11_bindsBy 72 [] 72 (.ifCond .ne 7) 3 = true := by decide +kernel
theorem b_X11_bindsBy_75_84 : bl2 mX11_bindsBy 75 [(.iconst 1, 1, 0, 0, .int 1), (.goto 4, 3, 80, 0, .null), (.istore 5, 2, 5, 0, .null), (.iload 5, 2, 5, 0, .null)] 84 (.ifCond .eq 31) 3 = true := by decide +kernel
theorem b_X11_bindsBy_87_92 : bl2 mX11_bindsBy 87 [(.aload_n 0, 1, 0, 0, .null), (.getfield 22, 3, 11, 5, .null), (.iload_n 1, 1, 1, 0, .null)] 92 (.iaload) 1 = true := by decide +kernel
theorem b_X11_bindsBy_93_98 : bl2 mX11_bindsBy 93 [(.aload_n 0, 1, 0, 0, .null), (.getfield 22, 3, 11, 5, .null), (.iload_n 2, 1, 2, 0, .null)] 98 (.iaload) 1 = true := by decide +kernel
theorem b_X11_bindsBy_99_99 : bl2 mX11_bindsBy 99 [] 99 (.if_icmp .ne 16) 3 = true := by decide +kernel
theorem b_X11_bindsBy_102_105 : bl2 mX11_bindsBy 102 [(.aload_n 0, 1, 0, 0, .null), (.iload_n 1, 1, 1, 0, .null), (.iload_n 2, 1, 2, 0, .null)] 105 (.invokevirtual 166) 3 = true := by decide +kernel
theorem b_X11_bindsBy_108_108 : bl2 mX11_bindsBy 108 [] 108 (.ifCond .lt 7) 3 = true := by decide +kernel
theorem b_X11_bindsBy_111_116 : bl2 mX11_bindsBy 111 [(.iconst 0, 1, 0, 0, .int 0), (.goto 4, 3, 116, 0, .null)] 116 (.ireturn) 1 = true := by decide +kernel
theorem b_X11_bindsBy_46_51 : bl2 mX11_bindsBy 46 [(.aload_n 0, 1, 0, 0, .null), (.getfield 19, 3, 11, 4, .null), (.iload_n 2, 1, 2, 0, .null)] 51 (.iaload) 1 = true := by decide +kernel
theorem b_X11_bindsBy_52_53 : bl2 mX11_bindsBy 52 [(.iconst 1, 1, 0, 0, .int 1)] 53 (.if_icmp .eq 22) 3 = true := by decide +kernel
theorem b_X11_bindsBy_35_36 : bl2 mX11_bindsBy 35 [(.iconst 2, 1, 0, 0, .int 2)] 36 (.ireturn) 1 = true := by decide +kernel
theorem b_X11_bindsBy_21_22 : bl2 mX11_bindsBy 21 [(.iconst 1, 1, 0, 0, .int 1)] 22 (.ireturn) 1 = true := by decide +kernel
set_option maxRecDepth 20000 in
set_option maxHeartbeats 1000000 in
theorem me_bindsBy (E : EE) (L : Nat) (F : FF) (n : Nat) (hn : F 48 3 = nI n) (hn10 : n ≤ 10) (a b : Nat) (due w : Int32) (ha : a < 11) (hb : b < 11) : Ev3 E L 3 mX11_bindsBy [.ref 48, .int (nI a), .int (nI b), .int due, .int w] F (some (.int (mvd F n due w a b))) F := by
  refine Ev3.of okX11_bindsBy.2.2.1 (Nat.le_of_ble_eq_true rfl) ?_
  show R2 E L mX11_bindsBy 3 0 [some (.ref 48), some (.int (nI a)), some (.int (nI b)), some (.int due), some (.int w), none] [] F _
  refine R2.B (ls2 := [some (.ref 48), some (.int (nI a)), some (.int (nI b)), some (.int due), some (.int w), none]) (st2 := [.int (nI a), .ref 57]) b_X11_bindsBy_0_5 rfl (fun hd => ?_)
  refine R2.iald a rfl hd rfl (fun _ => rfl) (by decide) (by omega) ?_
  refine R2.B (ls2 := [some (.ref 48), some (.int (nI a)), some (.int (nI b)), some (.int due), some (.int w), none]) (st2 := [.int (nI b), .ref 57, .int (F 57 a)]) b_X11_bindsBy_6_11 rfl (fun hd => ?_)
  refine R2.iald b rfl hd rfl (fun _ => rfl) (by decide) (by omega) ?_
  refine R2.B (ls2 := [some (.ref 48), some (.int (nI a)), some (.int (nI b)), some (.int due), some (.int w), none]) (st2 := [.int (F 57 b), .int (F 57 a)]) b_X11_bindsBy_12_12 rfl (fun hd => ?_)
  refine R2.callS3 (M2 := mX11_awayBy) (As := [.int (F 57 a), .int (F 57 b)]) (rest := []) hd lk_11_137 okX11_awayBy (by decide) (me_awayBy E L F (F 57 a) (F 57 b)) (by decide) rfl rfl (Nat.le_of_ble_eq_true rfl) ?_
  refine R2.B (ls2 := [some (.ref 48), some (.int (nI a)), some (.int (nI b)), some (.int due), some (.int w), none]) (st2 := [.int (due * due), .int (awy (F 57 a) (F 57 b))]) b_X11_bindsBy_15_18 rfl (fun hd => ?_)
  refine R2.icmp_eq 23 hd (by decide) (fun c18 => ?_) (fun c18 => ?_)
  · refine R2.B (ls2 := [some (.ref 48), some (.int (nI a)), some (.int (nI b)), some (.int due), some (.int w), none]) (st2 := [.int w, .int (nI b), .int (nI a), .ref 48]) b_X11_bindsBy_23_28 rfl (fun hd => ?_)
    refine R2.callV3 (M2 := mX11_nearer) (As := [.int (nI a), .int (nI b), .int w]) (rest := []) hd lk_11_162 okX11_nearer (by decide) rfl (me_nearer E L F n hn hn10 a b w (by omega) (by omega)) (by decide) rfl rfl (Nat.le_of_ble_eq_true rfl) ?_
    refine R2.B (ls2 := [some (.ref 48), some (.int (nI a)), some (.int (nI b)), some (.int due), some (.int w), none]) (st2 := [.int (-1), .int (fnr (F 57) a b w (F 51 1 * F 51 1) n 0)]) b_X11_bindsBy_31_32 rfl (fun hd => ?_)
    refine R2.icmp_eq 37 hd (by decide) (fun c32 => ?_) (fun c32 => ?_)
    · refine R2.B (ls2 := [some (.ref 48), some (.int (nI a)), some (.int (nI b)), some (.int due), some (.int w), none]) (st2 := [.int (nI a), .ref 52]) b_X11_bindsBy_37_42 rfl (fun hd => ?_)
      refine R2.iald a rfl hd rfl (fun _ => rfl) (by decide) (by omega) ?_
      refine R2.B (ls2 := [some (.ref 48), some (.int (nI a)), some (.int (nI b)), some (.int due), some (.int w), none]) (st2 := [.int (F 52 a)]) b_X11_bindsBy_43_43 rfl (fun hd => ?_)
      refine R2.if_ne 56 hd (by decide) (fun c43 => ?_) (fun c43 => ?_)
      · refine R2.B (ls2 := [some (.ref 48), some (.int (nI a)), some (.int (nI b)), some (.int due), some (.int w), none]) (st2 := [.int (nI a), .ref 52]) b_X11_bindsBy_56_61 rfl (fun hd => ?_)
        refine R2.iald a rfl hd rfl (fun _ => rfl) (by decide) (by omega) ?_
        refine R2.B (ls2 := [some (.ref 48), some (.int (nI a)), some (.int (nI b)), some (.int due), some (.int w), none]) (st2 := [.int 1, .int (F 52 a)]) b_X11_bindsBy_62_63 rfl (fun hd => ?_)
        refine R2.icmp_ne 79 hd (by decide) (fun c63 => ?_) (fun c63 => ?_)
        · refine R2.B (ls2 := [some (.ref 48), some (.int (nI a)), some (.int (nI b)), some (.int due), some (.int w), some (.int 0)]) (st2 := [.int 0]) b_X11_bindsBy_79_84 rfl (fun hd => ?_)
          refine R2.if_eq 115 hd (by decide) (fun c84 => ?_) (fun c84 => absurd (by decide) c84)
          refine R2.B (ls2 := [some (.ref 48), some (.int (nI a)), some (.int (nI b)), some (.int due), some (.int w), some (.int 0)]) (st2 := [.int 3]) b_X11_bindsBy_115_116 rfl (fun hd => ?_)
          exact R2.ret3 (r := some (.int 3)) hd trivial rfl (congrArg (fun z => some (Value.int z)) (by clear hd; unfold mvd mvB; grind)) rfl
        · refine R2.B (ls2 := [some (.ref 48), some (.int (nI a)), some (.int (nI b)), some (.int due), some (.int w), none]) (st2 := [.int (nI b), .ref 52]) b_X11_bindsBy_66_71 rfl (fun hd => ?_)
          refine R2.iald b rfl hd rfl (fun _ => rfl) (by decide) (by omega) ?_
          refine R2.B (ls2 := [some (.ref 48), some (.int (nI a)), some (.int (nI b)), some (.int due), some (.int w), none]) (st2 := [.int (F 52 b)]) b_X11_bindsBy_72_72 rfl (fun hd => ?_)
          refine R2.if_ne 79 hd (by decide) (fun c72 => ?_) (fun c72 => ?_)
          · refine R2.B (ls2 := [some (.ref 48), some (.int (nI a)), some (.int (nI b)), some (.int due), some (.int w), some (.int 0)]) (st2 := [.int 0]) b_X11_bindsBy_79_84 rfl (fun hd => ?_)
            refine R2.if_eq 115 hd (by decide) (fun c84 => ?_) (fun c84 => absurd (by decide) c84)
            refine R2.B (ls2 := [some (.ref 48), some (.int (nI a)), some (.int (nI b)), some (.int due), some (.int w), some (.int 0)]) (st2 := [.int 3]) b_X11_bindsBy_115_116 rfl (fun hd => ?_)
            exact R2.ret3 (r := some (.int 3)) hd trivial rfl (congrArg (fun z => some (Value.int z)) (by clear hd; unfold mvd mvB; grind)) rfl
          · refine R2.B (ls2 := [some (.ref 48), some (.int (nI a)), some (.int (nI b)), some (.int due), some (.int w), some (.int 1)]) (st2 := [.int 1]) b_X11_bindsBy_75_84 rfl (fun hd => ?_)
            refine R2.if_eq 115 hd (by decide) (fun c84 => absurd c84 (by decide)) (fun c84 => ?_)
            refine R2.B (ls2 := [some (.ref 48), some (.int (nI a)), some (.int (nI b)), some (.int due), some (.int w), some (.int 1)]) (st2 := [.int (nI a), .ref 53]) b_X11_bindsBy_87_92 rfl (fun hd => ?_)
            refine R2.iald a rfl hd rfl (fun _ => rfl) (by decide) (by omega) ?_
            refine R2.B (ls2 := [some (.ref 48), some (.int (nI a)), some (.int (nI b)), some (.int due), some (.int w), some (.int 1)]) (st2 := [.int (nI b), .ref 53, .int (F 53 a)]) b_X11_bindsBy_93_98 rfl (fun hd => ?_)
            refine R2.iald b rfl hd rfl (fun _ => rfl) (by decide) (by omega) ?_
            refine R2.B (ls2 := [some (.ref 48), some (.int (nI a)), some (.int (nI b)), some (.int due), some (.int w), some (.int 1)]) (st2 := [.int (F 53 b), .int (F 53 a)]) b_X11_bindsBy_99_99 rfl (fun hd => ?_)
            refine R2.icmp_ne 115 hd (by decide) (fun c99 => ?_) (fun c99 => ?_)
            · refine R2.B (ls2 := [some (.ref 48), some (.int (nI a)), some (.int (nI b)), some (.int due), some (.int w), some (.int 1)]) (st2 := [.int 3]) b_X11_bindsBy_115_116 rfl (fun hd => ?_)
              exact R2.ret3 (r := some (.int 3)) hd trivial rfl (congrArg (fun z => some (Value.int z)) (by clear hd; unfold mvd mvB; grind)) rfl
            · refine R2.B (ls2 := [some (.ref 48), some (.int (nI a)), some (.int (nI b)), some (.int due), some (.int w), some (.int 1)]) (st2 := [.int (nI b), .int (nI a), .ref 48]) b_X11_bindsBy_102_105 rfl (fun hd => ?_)
              refine R2.callV3 (M2 := mX11_worthOf) (As := [.int (nI a), .int (nI b)]) (rest := []) hd lk_11_166 okX11_worthOf (by decide) rfl (me_worthOf E L F a b (by omega) (by omega)) (by decide) rfl rfl (Nat.le_of_ble_eq_true rfl) ?_
              refine R2.B (ls2 := [some (.ref 48), some (.int (nI a)), some (.int (nI b)), some (.int due), some (.int w), some (.int 1)]) (st2 := [.int (gan (F 52) (F 54) a b)]) b_X11_bindsBy_108_108 rfl (fun hd => ?_)
              refine R2.if_lt 115 hd (by decide) (fun c108 => ?_) (fun c108 => ?_)
              · refine R2.B (ls2 := [some (.ref 48), some (.int (nI a)), some (.int (nI b)), some (.int due), some (.int w), some (.int 1)]) (st2 := [.int 3]) b_X11_bindsBy_115_116 rfl (fun hd => ?_)
                exact R2.ret3 (r := some (.int 3)) hd trivial rfl (congrArg (fun z => some (Value.int z)) (by clear hd; unfold mvd mvB; grind)) rfl
              · refine R2.B (ls2 := [some (.ref 48), some (.int (nI a)), some (.int (nI b)), some (.int due), some (.int w), some (.int 1)]) (st2 := [.int 0]) b_X11_bindsBy_111_116 rfl (fun hd => ?_)
                exact R2.ret3 (r := some (.int 0)) hd trivial rfl (congrArg (fun z => some (Value.int z)) (by clear hd; unfold mvd mvB; grind)) rfl
      · refine R2.B (ls2 := [some (.ref 48), some (.int (nI a)), some (.int (nI b)), some (.int due), some (.int w), none]) (st2 := [.int (nI b), .ref 52]) b_X11_bindsBy_46_51 rfl (fun hd => ?_)
        refine R2.iald b rfl hd rfl (fun _ => rfl) (by decide) (by omega) ?_
        refine R2.B (ls2 := [some (.ref 48), some (.int (nI a)), some (.int (nI b)), some (.int due), some (.int w), none]) (st2 := [.int 1, .int (F 52 b)]) b_X11_bindsBy_52_53 rfl (fun hd => ?_)
        refine R2.icmp_eq 75 hd (by decide) (fun c53 => ?_) (fun c53 => ?_)
        · refine R2.B (ls2 := [some (.ref 48), some (.int (nI a)), some (.int (nI b)), some (.int due), some (.int w), some (.int 1)]) (st2 := [.int 1]) b_X11_bindsBy_75_84 rfl (fun hd => ?_)
          refine R2.if_eq 115 hd (by decide) (fun c84 => absurd c84 (by decide)) (fun c84 => ?_)
          refine R2.B (ls2 := [some (.ref 48), some (.int (nI a)), some (.int (nI b)), some (.int due), some (.int w), some (.int 1)]) (st2 := [.int (nI a), .ref 53]) b_X11_bindsBy_87_92 rfl (fun hd => ?_)
          refine R2.iald a rfl hd rfl (fun _ => rfl) (by decide) (by omega) ?_
          refine R2.B (ls2 := [some (.ref 48), some (.int (nI a)), some (.int (nI b)), some (.int due), some (.int w), some (.int 1)]) (st2 := [.int (nI b), .ref 53, .int (F 53 a)]) b_X11_bindsBy_93_98 rfl (fun hd => ?_)
          refine R2.iald b rfl hd rfl (fun _ => rfl) (by decide) (by omega) ?_
          refine R2.B (ls2 := [some (.ref 48), some (.int (nI a)), some (.int (nI b)), some (.int due), some (.int w), some (.int 1)]) (st2 := [.int (F 53 b), .int (F 53 a)]) b_X11_bindsBy_99_99 rfl (fun hd => ?_)
          refine R2.icmp_ne 115 hd (by decide) (fun c99 => ?_) (fun c99 => ?_)
          · refine R2.B (ls2 := [some (.ref 48), some (.int (nI a)), some (.int (nI b)), some (.int due), some (.int w), some (.int 1)]) (st2 := [.int 3]) b_X11_bindsBy_115_116 rfl (fun hd => ?_)
            exact R2.ret3 (r := some (.int 3)) hd trivial rfl (congrArg (fun z => some (Value.int z)) (by clear hd; unfold mvd mvB; grind)) rfl
          · refine R2.B (ls2 := [some (.ref 48), some (.int (nI a)), some (.int (nI b)), some (.int due), some (.int w), some (.int 1)]) (st2 := [.int (nI b), .int (nI a), .ref 48]) b_X11_bindsBy_102_105 rfl (fun hd => ?_)
            refine R2.callV3 (M2 := mX11_worthOf) (As := [.int (nI a), .int (nI b)]) (rest := []) hd lk_11_166 okX11_worthOf (by decide) rfl (me_worthOf E L F a b (by omega) (by omega)) (by decide) rfl rfl (Nat.le_of_ble_eq_true rfl) ?_
            refine R2.B (ls2 := [some (.ref 48), some (.int (nI a)), some (.int (nI b)), some (.int due), some (.int w), some (.int 1)]) (st2 := [.int (gan (F 52) (F 54) a b)]) b_X11_bindsBy_108_108 rfl (fun hd => ?_)
            refine R2.if_lt 115 hd (by decide) (fun c108 => ?_) (fun c108 => ?_)
            · refine R2.B (ls2 := [some (.ref 48), some (.int (nI a)), some (.int (nI b)), some (.int due), some (.int w), some (.int 1)]) (st2 := [.int 3]) b_X11_bindsBy_115_116 rfl (fun hd => ?_)
              exact R2.ret3 (r := some (.int 3)) hd trivial rfl (congrArg (fun z => some (Value.int z)) (by clear hd; unfold mvd mvB; grind)) rfl
            · refine R2.B (ls2 := [some (.ref 48), some (.int (nI a)), some (.int (nI b)), some (.int due), some (.int w), some (.int 1)]) (st2 := [.int 0]) b_X11_bindsBy_111_116 rfl (fun hd => ?_)
              exact R2.ret3 (r := some (.int 0)) hd trivial rfl (congrArg (fun z => some (Value.int z)) (by clear hd; unfold mvd mvB; grind)) rfl
        · refine R2.B (ls2 := [some (.ref 48), some (.int (nI a)), some (.int (nI b)), some (.int due), some (.int w), none]) (st2 := [.int (nI a), .ref 52]) b_X11_bindsBy_56_61 rfl (fun hd => ?_)
          refine R2.iald a rfl hd rfl (fun _ => rfl) (by decide) (by omega) ?_
          refine R2.B (ls2 := [some (.ref 48), some (.int (nI a)), some (.int (nI b)), some (.int due), some (.int w), none]) (st2 := [.int 1, .int (F 52 a)]) b_X11_bindsBy_62_63 rfl (fun hd => ?_)
          refine R2.icmp_ne 79 hd (by decide) (fun c63 => ?_) (fun c63 => ?_)
          · refine R2.B (ls2 := [some (.ref 48), some (.int (nI a)), some (.int (nI b)), some (.int due), some (.int w), some (.int 0)]) (st2 := [.int 0]) b_X11_bindsBy_79_84 rfl (fun hd => ?_)
            refine R2.if_eq 115 hd (by decide) (fun c84 => ?_) (fun c84 => absurd (by decide) c84)
            refine R2.B (ls2 := [some (.ref 48), some (.int (nI a)), some (.int (nI b)), some (.int due), some (.int w), some (.int 0)]) (st2 := [.int 3]) b_X11_bindsBy_115_116 rfl (fun hd => ?_)
            exact R2.ret3 (r := some (.int 3)) hd trivial rfl (congrArg (fun z => some (Value.int z)) (by clear hd; unfold mvd mvB; grind)) rfl
          · refine R2.B (ls2 := [some (.ref 48), some (.int (nI a)), some (.int (nI b)), some (.int due), some (.int w), none]) (st2 := [.int (nI b), .ref 52]) b_X11_bindsBy_66_71 rfl (fun hd => ?_)
            refine R2.iald b rfl hd rfl (fun _ => rfl) (by decide) (by omega) ?_
            refine R2.B (ls2 := [some (.ref 48), some (.int (nI a)), some (.int (nI b)), some (.int due), some (.int w), none]) (st2 := [.int (F 52 b)]) b_X11_bindsBy_72_72 rfl (fun hd => ?_)
            refine R2.if_ne 79 hd (by decide) (fun c72 => ?_) (fun c72 => ?_)
            · refine R2.B (ls2 := [some (.ref 48), some (.int (nI a)), some (.int (nI b)), some (.int due), some (.int w), some (.int 0)]) (st2 := [.int 0]) b_X11_bindsBy_79_84 rfl (fun hd => ?_)
              refine R2.if_eq 115 hd (by decide) (fun c84 => ?_) (fun c84 => absurd (by decide) c84)
              refine R2.B (ls2 := [some (.ref 48), some (.int (nI a)), some (.int (nI b)), some (.int due), some (.int w), some (.int 0)]) (st2 := [.int 3]) b_X11_bindsBy_115_116 rfl (fun hd => ?_)
              exact R2.ret3 (r := some (.int 3)) hd trivial rfl (congrArg (fun z => some (Value.int z)) (by clear hd; unfold mvd mvB; grind)) rfl
            · refine R2.B (ls2 := [some (.ref 48), some (.int (nI a)), some (.int (nI b)), some (.int due), some (.int w), some (.int 1)]) (st2 := [.int 1]) b_X11_bindsBy_75_84 rfl (fun hd => ?_)
              refine R2.if_eq 115 hd (by decide) (fun c84 => absurd c84 (by decide)) (fun c84 => ?_)
              refine R2.B (ls2 := [some (.ref 48), some (.int (nI a)), some (.int (nI b)), some (.int due), some (.int w), some (.int 1)]) (st2 := [.int (nI a), .ref 53]) b_X11_bindsBy_87_92 rfl (fun hd => ?_)
              refine R2.iald a rfl hd rfl (fun _ => rfl) (by decide) (by omega) ?_
              refine R2.B (ls2 := [some (.ref 48), some (.int (nI a)), some (.int (nI b)), some (.int due), some (.int w), some (.int 1)]) (st2 := [.int (nI b), .ref 53, .int (F 53 a)]) b_X11_bindsBy_93_98 rfl (fun hd => ?_)
              refine R2.iald b rfl hd rfl (fun _ => rfl) (by decide) (by omega) ?_
              refine R2.B (ls2 := [some (.ref 48), some (.int (nI a)), some (.int (nI b)), some (.int due), some (.int w), some (.int 1)]) (st2 := [.int (F 53 b), .int (F 53 a)]) b_X11_bindsBy_99_99 rfl (fun hd => ?_)
              refine R2.icmp_ne 115 hd (by decide) (fun c99 => ?_) (fun c99 => ?_)
              · refine R2.B (ls2 := [some (.ref 48), some (.int (nI a)), some (.int (nI b)), some (.int due), some (.int w), some (.int 1)]) (st2 := [.int 3]) b_X11_bindsBy_115_116 rfl (fun hd => ?_)
                exact R2.ret3 (r := some (.int 3)) hd trivial rfl (congrArg (fun z => some (Value.int z)) (by clear hd; unfold mvd mvB; grind)) rfl
              · refine R2.B (ls2 := [some (.ref 48), some (.int (nI a)), some (.int (nI b)), some (.int due), some (.int w), some (.int 1)]) (st2 := [.int (nI b), .int (nI a), .ref 48]) b_X11_bindsBy_102_105 rfl (fun hd => ?_)
                refine R2.callV3 (M2 := mX11_worthOf) (As := [.int (nI a), .int (nI b)]) (rest := []) hd lk_11_166 okX11_worthOf (by decide) rfl (me_worthOf E L F a b (by omega) (by omega)) (by decide) rfl rfl (Nat.le_of_ble_eq_true rfl) ?_
                refine R2.B (ls2 := [some (.ref 48), some (.int (nI a)), some (.int (nI b)), some (.int due), some (.int w), some (.int 1)]) (st2 := [.int (gan (F 52) (F 54) a b)]) b_X11_bindsBy_108_108 rfl (fun hd => ?_)
                refine R2.if_lt 115 hd (by decide) (fun c108 => ?_) (fun c108 => ?_)
                · refine R2.B (ls2 := [some (.ref 48), some (.int (nI a)), some (.int (nI b)), some (.int due), some (.int w), some (.int 1)]) (st2 := [.int 3]) b_X11_bindsBy_115_116 rfl (fun hd => ?_)
                  exact R2.ret3 (r := some (.int 3)) hd trivial rfl (congrArg (fun z => some (Value.int z)) (by clear hd; unfold mvd mvB; grind)) rfl
                · refine R2.B (ls2 := [some (.ref 48), some (.int (nI a)), some (.int (nI b)), some (.int due), some (.int w), some (.int 1)]) (st2 := [.int 0]) b_X11_bindsBy_111_116 rfl (fun hd => ?_)
                  exact R2.ret3 (r := some (.int 0)) hd trivial rfl (congrArg (fun z => some (Value.int z)) (by clear hd; unfold mvd mvB; grind)) rfl
    · refine R2.B (ls2 := [some (.ref 48), some (.int (nI a)), some (.int (nI b)), some (.int due), some (.int w), none]) (st2 := [.int 2]) b_X11_bindsBy_35_36 rfl (fun hd => ?_)
      exact R2.ret3 (r := some (.int 2)) hd trivial rfl (congrArg (fun z => some (Value.int z)) (by clear hd; unfold mvd mvB; grind)) rfl
  · refine R2.B (ls2 := [some (.ref 48), some (.int (nI a)), some (.int (nI b)), some (.int due), some (.int w), none]) (st2 := [.int 1]) b_X11_bindsBy_21_22 rfl (fun hd => ?_)
    exact R2.ret3 (r := some (.int 1)) hd trivial rfl (congrArg (fun z => some (Value.int z)) (by clear hd; unfold mvd mvB; grind)) rfl
theorem b_X11_isBound_0_8 : bl2 mX11_isBound 0 [(.aload_n 0, 1, 0, 0, .null), (.iload_n 1, 1, 1, 0, .null), (.iload_n 2, 1, 2, 0, .null), (.aload_n 0, 1, 0, 0, .null), (.getfield 16, 3, 11, 2, .null), (.iconst 0, 1, 0, 0, .int 0)] 8 (.iaload) 1 = true := by decide +kernel
theorem b_X11_isBound_9_10 : bl2 mX11_isBound 9 [(.iconst (-1), 1, 0, 0, .int (-1))] 10 (.invokevirtual 169) 3 = true := by decide +kernel
theorem b_X11_isBound_13_13 : bl2 mX11_isBound 13 [] 13 (.ifCond .ne 7) 3 = true := by decide +kernel
theorem b_X11_isBound_20_21 : bl2 mX11_isBound 20 [(.iconst 0, 1, 0, 0, .int 0)] 21 (.ireturn) 1 = true := by decide +kernel
theorem b_X11_isBound_16_21 : bl2 mX11_isBound 16 [(.iconst 1, 1, 0, 0, .int 1), (.goto 4, 3, 21, 0, .null)] 21 (.ireturn) 1 = true := by decide +kernel
set_option maxRecDepth 20000 in
set_option maxHeartbeats 1000000 in
theorem me_isBound (E : EE) (L : Nat) (F : FF) (n : Nat) (hn : F 48 3 = nI n) (hn10 : n ≤ 10) (a b : Nat) (ha : a < 11) (hb : b < 11) : Ev3 E L 4 mX11_isBound [.ref 48, .int (nI a), .int (nI b)] F (some (.int (b2i (mvd F n (F 51 0) (-1) a b = 0)))) F := by
  refine Ev3.of okX11_isBound.2.2.1 (Nat.le_of_ble_eq_true rfl) ?_
  show R2 E L mX11_isBound 4 0 [some (.ref 48), some (.int (nI a)), some (.int (nI b))] [] F _
  refine R2.B (ls2 := [some (.ref 48), some (.int (nI a)), some (.int (nI b))]) (st2 := [.int 0, .ref 51, .int (nI b), .int (nI a), .ref 48]) b_X11_isBound_0_8 rfl (fun hd => ?_)
  refine R2.iald 0 rfl hd rfl (fun _ => rfl) (by decide) (by omega) ?_
  refine R2.B (ls2 := [some (.ref 48), some (.int (nI a)), some (.int (nI b))]) (st2 := [.int (-1), .int (F 51 0), .int (nI b), .int (nI a), .ref 48]) b_X11_isBound_9_10 rfl (fun hd => ?_)
  refine R2.callV3 (M2 := mX11_bindsBy) (As := [.int (nI a), .int (nI b), .int (F 51 0), .int (-1)]) (rest := []) hd lk_11_169 okX11_bindsBy (by decide) rfl (me_bindsBy E L F n hn hn10 a b (F 51 0) (-1) (by omega) (by omega)) (by decide) rfl rfl (Nat.le_of_ble_eq_true rfl) ?_
  refine R2.B (ls2 := [some (.ref 48), some (.int (nI a)), some (.int (nI b))]) (st2 := [.int (mvd F n (F 51 0) (-1) a b)]) b_X11_isBound_13_13 rfl (fun hd => ?_)
  refine R2.if_ne 20 hd (by decide) (fun c13 => ?_) (fun c13 => ?_)
  · refine R2.B (ls2 := [some (.ref 48), some (.int (nI a)), some (.int (nI b))]) (st2 := [.int 0]) b_X11_isBound_20_21 rfl (fun hd => ?_)
    exact R2.ret3 (r := some (.int 0)) hd (Or.inl rfl) rfl (congrArg (fun z => some (Value.int z)) (b2i_f (by clear hd; grind))) rfl
  · refine R2.B (ls2 := [some (.ref 48), some (.int (nI a)), some (.int (nI b))]) (st2 := [.int 1]) b_X11_isBound_16_21 rfl (fun hd => ?_)
    exact R2.ret3 (r := some (.int 1)) hd (Or.inr rfl) rfl (congrArg (fun z => some (Value.int z)) (b2i_t (by clear hd; grind))) rfl
