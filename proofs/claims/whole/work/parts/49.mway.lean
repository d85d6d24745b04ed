theorem b_X11_way_49_51 : bl2 mX11_way 49 [(.iload 7, 2, 7, 0, .null)] 51 (.ifCond .lt 72) 3 = true := by decide +kernel
theorem b_X11_way_123_123 : bl2 mX11_way 123 [] 123 (.iload 5) 2 = true := by decide +kernel
theorem b_X11_way_54_60 : bl2 mX11_way 54 [(.aload_n 0, 1, 0, 0, .null), (.getfield 52, 3, 11, 19, .null), (.iload 4, 2, 4, 0, .null)] 60 (.iaload) 1 = true := by decide +kernel
theorem b_X11_way_61_61 : bl2 mX11_way 61 [] 61 (.ifCond .le 62) 3 = true := by decide +kernel
theorem b_X11_way_64_68 : bl2 mX11_way 64 [(.iload 4, 2, 4, 0, .null), (.iload 7, 2, 7, 0, .null)] 68 (.invokestatic 143) 3 = true := by decide +kernel
theorem b_X11_way_71_76 : bl2 mX11_way 71 [(.istore 8, 2, 8, 0, .null), (.iload 8, 2, 8, 0, .null), (.iconst (-1), 1, 0, 0, .int (-1))] 76 (.if_icmp .eq 37) 3 = true := by decide +kernel
theorem b_X11_way_113_49 : bl2 mX11_way 113 [(.iload 5, 2, 5, 0, .null), (.istore 5, 2, 5, 0, .null), (.iinc 7 (-1), 3, 7, 0, .int (-1)), (.goto (-71), 3, 49, 0, .null)] 49 (.iload 7) 2 = true := by decide +kernel
theorem b_X11_way_79_83 : bl2 mX11_way 79 [(.aload_n 0, 1, 0, 0, .null), (.iload_n 1, 1, 1, 0, .null), (.iload 8, 2, 8, 0, .null)] 83 (.invokevirtual 146) 3 = true := by decide +kernel
theorem b_X11_way_86_86 : bl2 mX11_way 86 [] 86 (.ifCond .eq 27) 3 = true := by decide +kernel
theorem b_X11_way_89_95 : bl2 mX11_way 89 [(.aload_n 0, 1, 0, 0, .null), (.getfield 52, 3, 11, 19, .null), (.iload 8, 2, 8, 0, .null)] 95 (.iaload) 1 = true := by decide +kernel
theorem b_X11_way_96_102 : bl2 mX11_way 96 [(.aload_n 0, 1, 0, 0, .null), (.getfield 52, 3, 11, 19, .null), (.iload 4, 2, 4, 0, .null)] 102 (.iaload) 1 = true := by decide +kernel
theorem b_X11_way_103_105 : bl2 mX11_way 103 [(.iconst 1, 1, 0, 0, .int 1), (.isub, 1, 0, 0, .null)] 105 (.if_icmp .ne 8) 3 = true := by decide +kernel
theorem b_X11_way_108_49 : bl2 mX11_way 108 [(.iload 7, 2, 7, 0, .null), (.goto 5, 3, 115, 0, .null), (.istore 5, 2, 5, 0, .null), (.iinc 7 (-1), 3, 7, 0, .int (-1)), (.goto (-71), 3, 49, 0, .null)] 49 (.iload 7) 2 = true := by decide +kernel
set_option maxRecDepth 20000 in
set_option maxHeartbeats 2000000 in
theorem ml_wyI (E : EE) (L : Nat) (F : FF) (n : Nat) (hn : F 48 3 = nI n) (hn10 : n ≤ 10) (a b iN w c : Nat) (ha : a < n) (hw : w < 1024) (hp : 0 < F 63 w) (Q : Q2) : ∀ (k : Nat) (told : Int32), k ≤ 8 → R2 E L mX11_way 8 123 [some (.ref 48), some (.int (nI a)), some (.int (nI b)), some (.int (nI iN)), some (.int (nI w)), some (.int (wyL F n a w k told)), some (.int (nI c)), none, none] [] F Q → R2 E L mX11_way 8 49 [some (.ref 48), some (.int (nI a)), some (.int (nI b)), some (.int (nI iN)), some (.int (nI w)), some (.int told), some (.int (nI c)), some (.int ((nI k) + (-1))), none] [] F Q := by
  intro k
  induction k with
  | zero =>
    intro told hk ex
    rw [show nI 0 + (-1) = -1 from by decide]
    refine R2.B (ls2 := [some (.ref 48), some (.int (nI a)), some (.int (nI b)), some (.int (nI iN)), some (.int (nI w)), some (.int told), some (.int (nI c)), some (.int (-1)), none]) (st2 := [.int (-1)]) b_X11_way_49_51 rfl (fun hd => ?_)
    refine R2.if_lt 123 hd (by decide) (fun c51 => ?_) (fun c51 => absurd ((by decide)) c51)
    refine R2.B (ls2 := [some (.ref 48), some (.int (nI a)), some (.int (nI b)), some (.int (nI iN)), some (.int (nI w)), some (.int told), some (.int (nI c)), some (.int (-1)), none]) (st2 := []) b_X11_way_123_123 rfl (fun hd => ?_)
    refine R2.forget (ls2 := [some (.ref 48), some (.int (nI a)), some (.int (nI b)), some (.int (nI iN)), some (.int (nI w)), some (.int told), some (.int (nI c)), none, none]) ⟨rfl, ⟨rfl, ⟨rfl, ⟨rfl, ⟨rfl, ⟨rfl, ⟨rfl, trivial⟩⟩⟩⟩⟩⟩⟩ ?_
    exact ex
  | succ k ih =>
    intro told hk ex
    rw [nI_dec]
    rcases nbr_cases hw (show k < 8 by omega) with hv | ⟨v, hv8, hv⟩
    · refine R2.B (ls2 := [some (.ref 48), some (.int (nI a)), some (.int (nI b)), some (.int (nI iN)), some (.int (nI w)), some (.int told), some (.int (nI c)), some (.int (nI k)), none]) (st2 := [.int (nI k)]) b_X11_way_49_51 rfl (fun hd => ?_)
      refine R2.if_lt 123 hd (by decide) (fun c51 => absurd c51 (nI_pos (by omega))) (fun c51 => ?_)
      refine R2.B (ls2 := [some (.ref 48), some (.int (nI a)), some (.int (nI b)), some (.int (nI iN)), some (.int (nI w)), some (.int told), some (.int (nI c)), some (.int (nI k)), none]) (st2 := [.int (nI w), .ref 63]) b_X11_way_54_60 rfl (fun hd => ?_)
      refine R2.iald w rfl hd rfl (fun _ => rfl) (by decide) (by omega) ?_
      refine R2.B (ls2 := [some (.ref 48), some (.int (nI a)), some (.int (nI b)), some (.int (nI iN)), some (.int (nI w)), some (.int told), some (.int (nI c)), some (.int (nI k)), none]) (st2 := [.int (F 63 w)]) b_X11_way_61_61 rfl (fun hd => ?_)
      refine R2.if_le 123 hd (by decide) (fun c61 => absurd c61 (Int32.not_le.mpr hp)) (fun c61 => ?_)
      refine R2.B (ls2 := [some (.ref 48), some (.int (nI a)), some (.int (nI b)), some (.int (nI iN)), some (.int (nI w)), some (.int told), some (.int (nI c)), some (.int (nI k)), none]) (st2 := [.int (nI k), .int (nI w)]) b_X11_way_64_68 rfl (fun hd => ?_)
      refine R2.callS3 (M2 := mX11_stepTo) (As := [.int (nI w), .int (nI k)]) (rest := []) hd lk_11_143 okX11_stepTo (by decide) (me_stepTo E L F (nI w) k (by omega)) (by decide) rfl rfl (Nat.le_of_ble_eq_true rfl) ?_
      refine R2.top (show (nbr (nI w) k : Int32) = (-1) from hv) ?_
      refine R2.B (ls2 := [some (.ref 48), some (.int (nI a)), some (.int (nI b)), some (.int (nI iN)), some (.int (nI w)), some (.int told), some (.int (nI c)), some (.int (nI k)), some (.int (-1))]) (st2 := [.int (-1), .int (-1)]) b_X11_way_71_76 rfl (fun hd => ?_)
      refine R2.icmp_eq 113 hd (by decide) (fun c76 => ?_) (fun c76 => absurd (by decide) c76)
      refine R2.B (ls2 := [some (.ref 48), some (.int (nI a)), some (.int (nI b)), some (.int (nI iN)), some (.int (nI w)), some (.int told), some (.int (nI c)), some (.int ((nI k) + (-1))), some (.int (-1))]) (st2 := []) b_X11_way_113_49 rfl (fun hd => ?_)
      have e : wyL F n a w (k + 1) told = wyL F n a w k told := by
        rw [wyL]; rw [if_neg (fun z => z.1 hv)]
      rw [e] at ex
      refine R2.forget (ls2 := [some (.ref 48), some (.int (nI a)), some (.int (nI b)), some (.int (nI iN)), some (.int (nI w)), some (.int told), some (.int (nI c)), some (.int ((nI k) + (-1))), none]) ⟨rfl, ⟨rfl, ⟨rfl, ⟨rfl, ⟨rfl, ⟨rfl, ⟨rfl, ⟨rfl, trivial⟩⟩⟩⟩⟩⟩⟩⟩ ?_
      exact ih _ (by omega) ex
    · refine R2.B (ls2 := [some (.ref 48), some (.int (nI a)), some (.int (nI b)), some (.int (nI iN)), some (.int (nI w)), some (.int told), some (.int (nI c)), some (.int (nI k)), none]) (st2 := [.int (nI k)]) b_X11_way_49_51 rfl (fun hd => ?_)
      refine R2.if_lt 123 hd (by decide) (fun c51 => absurd c51 (nI_pos (by omega))) (fun c51 => ?_)
      refine R2.B (ls2 := [some (.ref 48), some (.int (nI a)), some (.int (nI b)), some (.int (nI iN)), some (.int (nI w)), some (.int told), some (.int (nI c)), some (.int (nI k)), none]) (st2 := [.int (nI w), .ref 63]) b_X11_way_54_60 rfl (fun hd => ?_)
      refine R2.iald w rfl hd rfl (fun _ => rfl) (by decide) (by omega) ?_
      refine R2.B (ls2 := [some (.ref 48), some (.int (nI a)), some (.int (nI b)), some (.int (nI iN)), some (.int (nI w)), some (.int told), some (.int (nI c)), some (.int (nI k)), none]) (st2 := [.int (F 63 w)]) b_X11_way_61_61 rfl (fun hd => ?_)
      refine R2.if_le 123 hd (by decide) (fun c61 => absurd c61 (Int32.not_le.mpr hp)) (fun c61 => ?_)
      refine R2.B (ls2 := [some (.ref 48), some (.int (nI a)), some (.int (nI b)), some (.int (nI iN)), some (.int (nI w)), some (.int told), some (.int (nI c)), some (.int (nI k)), none]) (st2 := [.int (nI k), .int (nI w)]) b_X11_way_64_68 rfl (fun hd => ?_)
      refine R2.callS3 (M2 := mX11_stepTo) (As := [.int (nI w), .int (nI k)]) (rest := []) hd lk_11_143 okX11_stepTo (by decide) (me_stepTo E L F (nI w) k (by omega)) (by decide) rfl rfl (Nat.le_of_ble_eq_true rfl) ?_
      refine R2.top (show (nbr (nI w) k : Int32) = nI v from hv) ?_
      refine R2.B (ls2 := [some (.ref 48), some (.int (nI a)), some (.int (nI b)), some (.int (nI iN)), some (.int (nI w)), some (.int told), some (.int (nI c)), some (.int (nI k)), some (.int (nI v))]) (st2 := [.int (-1), .int (nI v)]) b_X11_way_71_76 rfl (fun hd => ?_)
      refine R2.icmp_eq 113 hd (by decide) (fun c76 => absurd c76 (nI_m1 (by omega))) (fun c76 => ?_)
      refine R2.B (ls2 := [some (.ref 48), some (.int (nI a)), some (.int (nI b)), some (.int (nI iN)), some (.int (nI w)), some (.int told), some (.int (nI c)), some (.int (nI k)), some (.int (nI v))]) (st2 := [.int (nI v), .int (nI a), .ref 48]) b_X11_way_79_83 rfl (fun hd => ?_)
      refine R2.callV3 (M2 := mX11_isFree) (As := [.int (nI a), .int (nI v)]) (rest := []) hd lk_11_146 okX11_isFree (by decide) rfl (me_isFree E L F n hn hn10 a (nI v) (by omega)) (by decide) rfl rfl (Nat.le_of_ble_eq_true rfl) ?_
      refine R2.B (ls2 := [some (.ref 48), some (.int (nI a)), some (.int (nI b)), some (.int (nI iN)), some (.int (nI w)), some (.int told), some (.int (nI c)), some (.int (nI k)), some (.int (nI v))]) (st2 := [.int (b2i (mayS (F 57) a (nI v) (F 51 2 * F 51 2) n 0 = true))]) b_X11_way_86_86 rfl (fun hd => ?_)
      refine R2.if_eq 113 hd (by decide) (fun c86 => ?_) (fun c86 => ?_)
      · have nc86 : ¬ (mayS (F 57) a (nI v) (F 51 2 * F 51 2) n 0 = true) := b2i_zero.mp c86
        refine R2.B (ls2 := [some (.ref 48), some (.int (nI a)), some (.int (nI b)), some (.int (nI iN)), some (.int (nI w)), some (.int told), some (.int (nI c)), some (.int ((nI k) + (-1))), some (.int (nI v))]) (st2 := []) b_X11_way_113_49 rfl (fun hd => ?_)
        have e : wyL F n a w (k + 1) told = wyL F n a w k told := by
          rw [wyL]; rw [if_neg (fun z => nc86 ((wyC_iff hv hv8).mp z).1)]
        rw [e] at ex
        refine R2.forget (ls2 := [some (.ref 48), some (.int (nI a)), some (.int (nI b)), some (.int (nI iN)), some (.int (nI w)), some (.int told), some (.int (nI c)), some (.int ((nI k) + (-1))), none]) ⟨rfl, ⟨rfl, ⟨rfl, ⟨rfl, ⟨rfl, ⟨rfl, ⟨rfl, ⟨rfl, trivial⟩⟩⟩⟩⟩⟩⟩⟩ ?_
        exact ih _ (by omega) ex
      · have nc86 : mayS (F 57) a (nI v) (F 51 2 * F 51 2) n 0 = true := b2i_nz.mp c86
        refine R2.B (ls2 := [some (.ref 48), some (.int (nI a)), some (.int (nI b)), some (.int (nI iN)), some (.int (nI w)), some (.int told), some (.int (nI c)), some (.int (nI k)), some (.int (nI v))]) (st2 := [.int (nI v), .ref 63]) b_X11_way_89_95 rfl (fun hd => ?_)
        refine R2.iald v rfl hd rfl (fun _ => rfl) (by decide) (by omega) ?_
        refine R2.B (ls2 := [some (.ref 48), some (.int (nI a)), some (.int (nI b)), some (.int (nI iN)), some (.int (nI w)), some (.int told), some (.int (nI c)), some (.int (nI k)), some (.int (nI v))]) (st2 := [.int (nI w), .ref 63, .int (F 63 v)]) b_X11_way_96_102 rfl (fun hd => ?_)
        refine R2.iald w rfl hd rfl (fun _ => rfl) (by decide) (by omega) ?_
        refine R2.B (ls2 := [some (.ref 48), some (.int (nI a)), some (.int (nI b)), some (.int (nI iN)), some (.int (nI w)), some (.int told), some (.int (nI c)), some (.int (nI k)), some (.int (nI v))]) (st2 := [.int ((F 63 w) - 1), .int (F 63 v)]) b_X11_way_103_105 rfl (fun hd => ?_)
        refine R2.icmp_ne 113 hd (by decide) (fun c105 => ?_) (fun c105 => ?_)
        · refine R2.B (ls2 := [some (.ref 48), some (.int (nI a)), some (.int (nI b)), some (.int (nI iN)), some (.int (nI w)), some (.int told), some (.int (nI c)), some (.int ((nI k) + (-1))), some (.int (nI v))]) (st2 := []) b_X11_way_113_49 rfl (fun hd => ?_)
          have e : wyL F n a w (k + 1) told = wyL F n a w k told := by
            rw [wyL]; rw [if_neg (fun z => c105 ((wyC_iff hv hv8).mp z).2)]
          rw [e] at ex
          refine R2.forget (ls2 := [some (.ref 48), some (.int (nI a)), some (.int (nI b)), some (.int (nI iN)), some (.int (nI w)), some (.int told), some (.int (nI c)), some (.int ((nI k) + (-1))), none]) ⟨rfl, ⟨rfl, ⟨rfl, ⟨rfl, ⟨rfl, ⟨rfl, ⟨rfl, ⟨rfl, trivial⟩⟩⟩⟩⟩⟩⟩⟩ ?_
          exact ih _ (by omega) ex
        · refine R2.B (ls2 := [some (.ref 48), some (.int (nI a)), some (.int (nI b)), some (.int (nI iN)), some (.int (nI w)), some (.int (nI k)), some (.int (nI c)), some (.int ((nI k) + (-1))), some (.int (nI v))]) (st2 := []) b_X11_way_108_49 rfl (fun hd => ?_)
          have e : wyL F n a w (k + 1) told = wyL F n a w k (nI k) := by
            rw [wyL]; rw [if_pos ((wyC_iff hv hv8).mpr ⟨nc86, c105⟩)]
          rw [e] at ex
          refine R2.forget (ls2 := [some (.ref 48), some (.int (nI a)), some (.int (nI b)), some (.int (nI iN)), some (.int (nI w)), some (.int (nI k)), some (.int (nI c)), some (.int ((nI k) + (-1))), none]) ⟨rfl, ⟨rfl, ⟨rfl, ⟨rfl, ⟨rfl, ⟨rfl, ⟨rfl, ⟨rfl, trivial⟩⟩⟩⟩⟩⟩⟩⟩ ?_
          exact ih _ (by omega) ex
theorem b_X11_way_36_39 : bl2 mX11_way 36 [(.iload 6, 2, 6, 0, .null), (.iload_n 3, 1, 3, 0, .null)] 39 (.if_icmp .gt 107) 3 = true := by decide +kernel
theorem b_X11_way_146_148 : bl2 mX11_way 146 [(.iload 5, 2, 5, 0, .null)] 148 (.ireturn) 1 = true := by decide +kernel
theorem b_X11_way_42_49 : bl2 mX11_way 42 [(.iconst (-1), 1, 0, 0, .int (-1)), (.istore 5, 2, 5, 0, .null), (.bipush 7, 2, 0, 0, .int 7), (.istore 7, 2, 7, 0, .null)] 49 (.iload 7) 2 = true := by decide +kernel
theorem b_X11_way_123_126 : bl2 mX11_way 123 [(.iload 5, 2, 5, 0, .null), (.iconst (-1), 1, 0, 0, .int (-1))] 126 (.if_icmp .ne 5) 3 = true := by decide +kernel
theorem b_X11_way_129_130 : bl2 mX11_way 129 [(.iconst (-1), 1, 0, 0, .int (-1))] 130 (.ireturn) 1 = true := by decide +kernel
theorem b_X11_way_131_135 : bl2 mX11_way 131 [(.iload 4, 2, 4, 0, .null), (.iload 5, 2, 5, 0, .null)] 135 (.invokestatic 143) 3 = true := by decide +kernel
theorem b_X11_way_138_36 : bl2 mX11_way 138 [(.istore 4, 2, 4, 0, .null), (.iinc 6 1, 3, 6, 0, .int 1), (.goto (-107), 3, 36, 0, .null)] 36 (.iload 6) 2 = true := by decide +kernel
theorem b_X11_way_42_51 : bl2 mX11_way 42 [(.iconst (-1), 1, 0, 0, .int (-1)), (.istore 5, 2, 5, 0, .null), (.bipush 7, 2, 0, 0, .int 7), (.istore 7, 2, 7, 0, .null), (.iload 7, 2, 7, 0, .null)] 51 (.ifCond .lt 72) 3 = true := by decide +kernel
set_option maxRecDepth 20000 in
set_option maxHeartbeats 2000000 in
theorem ml_wyO (E : EE) (L : Nat) (F : FF) (n : Nat) (hn : F 48 3 = nI n) (hn10 : n ≤ 10) (a b iN : Nat) (ha : a < n) (hiN : iN < 2147483648) : ∀ (k c w : Nat) (told : Int32), c + k ≤ 1100 → w < 1024 → F 63 w ≤ nI k → R2 E L mX11_way 8 36 [some (.ref 48), some (.int (nI a)), some (.int (nI b)), some (.int (nI iN)), some (.int (nI w)), some (.int told), some (.int (nI c)), none, none] [] F (fun r' F' => r' = some (.int (wyO F n a iN (k + 1) c w told)) ∧ F' = F) := by
  intro k
  induction k with
  | zero =>
    intro c w told hck hw hF
    have hp : ¬ 0 < F 63 w := Int32.not_lt.mpr hF
    have hl : wyD F n a w = -1 := by rw [wyD, if_neg hp]
    refine R2.B (ls2 := [some (.ref 48), some (.int (nI a)), some (.int (nI b)), some (.int (nI iN)), some (.int (nI w)), some (.int told), some (.int (nI c)), none, none]) (st2 := [.int (nI iN), .int (nI c)]) b_X11_way_36_39 rfl (fun hd => ?_)
    refine R2.icmp_gt 146 hd (by decide) (fun c39 => ?_) (fun c39 => ?_)
    · have nc39 : iN < c := (nI_ltI (a := iN) (b := c) (by omega) (by omega)).mp c39
      refine R2.B (ls2 := [some (.ref 48), some (.int (nI a)), some (.int (nI b)), some (.int (nI iN)), some (.int (nI w)), some (.int told), some (.int (nI c)), none, none]) (st2 := [.int told]) b_X11_way_146_148 rfl (fun hd => ?_)
      exact R2.ret3 (r := some (.int told)) hd trivial rfl (congrArg (fun z => some (Value.int z)) (by rw [wyO, if_pos nc39])) rfl
    · have nc39 : ¬ iN < c := fun h9 => c39 ((nI_ltI (a := iN) (b := c) (by omega) (by omega)).mpr h9)
      refine R2.B (ls2 := [some (.ref 48), some (.int (nI a)), some (.int (nI b)), some (.int (nI iN)), some (.int (nI w)), some (.int (-1)), some (.int (nI c)), some (.int 7), none]) (st2 := [.int 7]) b_X11_way_42_51 rfl (fun hd => ?_)
      refine R2.if_lt 123 hd (by decide) (fun c51 => absurd c51 ((by decide))) (fun c51 => ?_)
      refine R2.B (ls2 := [some (.ref 48), some (.int (nI a)), some (.int (nI b)), some (.int (nI iN)), some (.int (nI w)), some (.int (-1)), some (.int (nI c)), some (.int 7), none]) (st2 := [.int (nI w), .ref 63]) b_X11_way_54_60 rfl (fun hd => ?_)
      refine R2.iald w rfl hd rfl (fun _ => rfl) (by decide) (by omega) ?_
      refine R2.B (ls2 := [some (.ref 48), some (.int (nI a)), some (.int (nI b)), some (.int (nI iN)), some (.int (nI w)), some (.int (-1)), some (.int (nI c)), some (.int 7), none]) (st2 := [.int (F 63 w)]) b_X11_way_61_61 rfl (fun hd => ?_)
      refine R2.if_le 123 hd (by decide) (fun c61 => ?_) (fun c61 => absurd (Int32.not_lt.mp hp) c61)
      refine R2.B (ls2 := [some (.ref 48), some (.int (nI a)), some (.int (nI b)), some (.int (nI iN)), some (.int (nI w)), some (.int (-1)), some (.int (nI c)), some (.int 7), none]) (st2 := [.int (-1), .int (-1)]) b_X11_way_123_126 rfl (fun hd => ?_)
      refine R2.icmp_ne 131 hd (by decide) (fun c126 => absurd (by decide) c126) (fun c126 => ?_)
      refine R2.B (ls2 := [some (.ref 48), some (.int (nI a)), some (.int (nI b)), some (.int (nI iN)), some (.int (nI w)), some (.int (-1)), some (.int (nI c)), some (.int 7), none]) (st2 := [.int (-1)]) b_X11_way_129_130 rfl (fun hd => ?_)
      exact R2.ret3 (r := some (.int (-1))) hd trivial rfl (congrArg (fun z => some (Value.int z)) (by rw [wyO, if_neg nc39, if_pos hl])) rfl
  | succ k ih =>
    intro c w told hck hw hF
    by_cases hp : 0 < F 63 w
    · refine R2.B (ls2 := [some (.ref 48), some (.int (nI a)), some (.int (nI b)), some (.int (nI iN)), some (.int (nI w)), some (.int told), some (.int (nI c)), none, none]) (st2 := [.int (nI iN), .int (nI c)]) b_X11_way_36_39 rfl (fun hd => ?_)
      refine R2.icmp_gt 146 hd (by decide) (fun c39 => ?_) (fun c39 => ?_)
      · have nc39 : iN < c := (nI_ltI (a := iN) (b := c) (by omega) (by omega)).mp c39
        refine R2.B (ls2 := [some (.ref 48), some (.int (nI a)), some (.int (nI b)), some (.int (nI iN)), some (.int (nI w)), some (.int told), some (.int (nI c)), none, none]) (st2 := [.int told]) b_X11_way_146_148 rfl (fun hd => ?_)
        exact R2.ret3 (r := some (.int told)) hd trivial rfl (congrArg (fun z => some (Value.int z)) (by rw [wyO, if_pos nc39])) rfl
      · have nc39 : ¬ iN < c := fun h9 => c39 ((nI_ltI (a := iN) (b := c) (by omega) (by omega)).mpr h9)
        refine R2.B (ls2 := [some (.ref 48), some (.int (nI a)), some (.int (nI b)), some (.int (nI iN)), some (.int (nI w)), some (.int (-1)), some (.int (nI c)), some (.int 7), none]) (st2 := []) b_X11_way_42_49 rfl (fun hd => ?_)
        rw [show (7 : Int32) = nI 8 + (-1) from by decide]
        refine ml_wyI E L F n hn hn10 a b iN w c ha hw hp _ 8 (-1) (by omega) ?_
        rw [show wyL F n a w 8 (-1) = wyD F n a w from (by rw [wyD, if_pos hp])]
        rcases wyD_spec (F := F) (n := n) (a := a) (w := w) with hl | ⟨-, e, he8, hl, hn1, hn2, hn3⟩
        · rw [hl]
          refine R2.B (ls2 := [some (.ref 48), some (.int (nI a)), some (.int (nI b)), some (.int (nI iN)), some (.int (nI w)), some (.int (-1)), some (.int (nI c)), none, none]) (st2 := [.int (-1), .int (-1)]) b_X11_way_123_126 rfl (fun hd => ?_)
          refine R2.icmp_ne 131 hd (by decide) (fun c126 => absurd (by decide) c126) (fun c126 => ?_)
          refine R2.B (ls2 := [some (.ref 48), some (.int (nI a)), some (.int (nI b)), some (.int (nI iN)), some (.int (nI w)), some (.int (-1)), some (.int (nI c)), none, none]) (st2 := [.int (-1)]) b_X11_way_129_130 rfl (fun hd => ?_)
          exact R2.ret3 (r := some (.int (-1))) hd trivial rfl (congrArg (fun z => some (Value.int z)) (by rw [wyO, if_neg nc39, if_pos hl])) rfl
        · obtain ⟨v, hv8, hv⟩ : ∃ v, v < 1024 ∧ nbr (nI w) e = nI v := (nbr_cases hw he8).resolve_left hn1
          rw [hl]
          refine R2.B (ls2 := [some (.ref 48), some (.int (nI a)), some (.int (nI b)), some (.int (nI iN)), some (.int (nI w)), some (.int (nI e)), some (.int (nI c)), none, none]) (st2 := [.int (-1), .int (nI e)]) b_X11_way_123_126 rfl (fun hd => ?_)
          refine R2.icmp_ne 131 hd (by decide) (fun c126 => ?_) (fun c126 => absurd c126 (nI_m1 (by omega)))
          refine R2.B (ls2 := [some (.ref 48), some (.int (nI a)), some (.int (nI b)), some (.int (nI iN)), some (.int (nI w)), some (.int (nI e)), some (.int (nI c)), none, none]) (st2 := [.int (nI e), .int (nI w)]) b_X11_way_131_135 rfl (fun hd => ?_)
          refine R2.callS3 (M2 := mX11_stepTo) (As := [.int (nI w), .int (nI e)]) (rest := []) hd lk_11_143 okX11_stepTo (by decide) (me_stepTo E L F (nI w) e (by omega)) (by decide) rfl rfl (Nat.le_of_ble_eq_true rfl) ?_
          refine R2.top (show (nbr (nI w) e : Int32) = nI v from hv) ?_
          refine R2.B (ls2 := [some (.ref 48), some (.int (nI a)), some (.int (nI b)), some (.int (nI iN)), some (.int (nI v)), some (.int (nI e)), some (.int ((nI c) + 1)), none, none]) (st2 := []) b_X11_way_138_36 rfl (fun hd => ?_)
          rw [show ((nI c) + 1 : Int32) = nI (c + 1) from nI_add c 1]
          rw [show wyO F n a iN (k + 1 + 1) c w told = wyO F n a iN (k + 1) (c + 1) v (nI e) from (by rw [wyO, if_neg nc39, hl, if_neg (nI_m1 (by omega)), nI_clamp (show e < 2 ^ 31 by omega), hv, nI_clamp (show v < 2 ^ 31 by omega)])]
          rw [hv, nI_clamp (show v < 2 ^ 31 by omega)] at hn3
          refine R2.forget (ls2 := [some (.ref 48), some (.int (nI a)), some (.int (nI b)), some (.int (nI iN)), some (.int (nI v)), some (.int (nI e)), some (.int (nI (c + 1))), none, none]) ⟨rfl, ⟨rfl, ⟨rfl, ⟨rfl, ⟨rfl, ⟨rfl, ⟨rfl, trivial⟩⟩⟩⟩⟩⟩⟩ ?_
          exact ih (c + 1) v (nI e) (by omega) hv8 (by rw [hn3]; exact dec_le (by omega) hF hp)
    · have hl : wyD F n a w = -1 := by rw [wyD, if_neg hp]
      refine R2.B (ls2 := [some (.ref 48), some (.int (nI a)), some (.int (nI b)), some (.int (nI iN)), some (.int (nI w)), some (.int told), some (.int (nI c)), none, none]) (st2 := [.int (nI iN), .int (nI c)]) b_X11_way_36_39 rfl (fun hd => ?_)
      refine R2.icmp_gt 146 hd (by decide) (fun c39 => ?_) (fun c39 => ?_)
      · have nc39 : iN < c := (nI_ltI (a := iN) (b := c) (by omega) (by omega)).mp c39
        refine R2.B (ls2 := [some (.ref 48), some (.int (nI a)), some (.int (nI b)), some (.int (nI iN)), some (.int (nI w)), some (.int told), some (.int (nI c)), none, none]) (st2 := [.int told]) b_X11_way_146_148 rfl (fun hd => ?_)
        exact R2.ret3 (r := some (.int told)) hd trivial rfl (congrArg (fun z => some (Value.int z)) (by rw [wyO, if_pos nc39])) rfl
      · have nc39 : ¬ iN < c := fun h9 => c39 ((nI_ltI (a := iN) (b := c) (by omega) (by omega)).mpr h9)
        refine R2.B (ls2 := [some (.ref 48), some (.int (nI a)), some (.int (nI b)), some (.int (nI iN)), some (.int (nI w)), some (.int (-1)), some (.int (nI c)), some (.int 7), none]) (st2 := [.int 7]) b_X11_way_42_51 rfl (fun hd => ?_)
        refine R2.if_lt 123 hd (by decide) (fun c51 => absurd c51 ((by decide))) (fun c51 => ?_)
        refine R2.B (ls2 := [some (.ref 48), some (.int (nI a)), some (.int (nI b)), some (.int (nI iN)), some (.int (nI w)), some (.int (-1)), some (.int (nI c)), some (.int 7), none]) (st2 := [.int (nI w), .ref 63]) b_X11_way_54_60 rfl (fun hd => ?_)
        refine R2.iald w rfl hd rfl (fun _ => rfl) (by decide) (by omega) ?_
        refine R2.B (ls2 := [some (.ref 48), some (.int (nI a)), some (.int (nI b)), some (.int (nI iN)), some (.int (nI w)), some (.int (-1)), some (.int (nI c)), some (.int 7), none]) (st2 := [.int (F 63 w)]) b_X11_way_61_61 rfl (fun hd => ?_)
        refine R2.if_le 123 hd (by decide) (fun c61 => ?_) (fun c61 => absurd (Int32.not_lt.mp hp) c61)
        refine R2.B (ls2 := [some (.ref 48), some (.int (nI a)), some (.int (nI b)), some (.int (nI iN)), some (.int (nI w)), some (.int (-1)), some (.int (nI c)), some (.int 7), none]) (st2 := [.int (-1), .int (-1)]) b_X11_way_123_126 rfl (fun hd => ?_)
        refine R2.icmp_ne 131 hd (by decide) (fun c126 => absurd (by decide) c126) (fun c126 => ?_)
        refine R2.B (ls2 := [some (.ref 48), some (.int (nI a)), some (.int (nI b)), some (.int (nI iN)), some (.int (nI w)), some (.int (-1)), some (.int (nI c)), some (.int 7), none]) (st2 := [.int (-1)]) b_X11_way_129_130 rfl (fun hd => ?_)
        exact R2.ret3 (r := some (.int (-1))) hd trivial rfl (congrArg (fun z => some (Value.int z)) (by rw [wyO, if_neg nc39, if_pos hl])) rfl
theorem b_X11_way_0_3 : bl2 mX11_way 0 [(.aload_n 0, 1, 0, 0, .null), (.iload_n 1, 1, 1, 0, .null), (.iload_n 2, 1, 2, 0, .null)] 3 (.invokevirtual 173) 3 = true := by decide +kernel
theorem b_X11_way_6_6 : bl2 mX11_way 6 [] 6 (.ifCond .eq 7) 3 = true := by decide +kernel
theorem b_X11_way_9_10 : bl2 mX11_way 9 [(.iload_n 3, 1, 3, 0, .null)] 10 (.ifCond .ge 6) 3 = true := by decide +kernel
theorem b_X11_way_16_19 : bl2 mX11_way 16 [(.aload_n 0, 1, 0, 0, .null), (.iload_n 1, 1, 1, 0, .null), (.iload_n 2, 1, 2, 0, .null)] 19 (.invokevirtual 216) 3 = true := by decide +kernel
theorem b_X11_way_22_27 : bl2 mX11_way 22 [(.aload_n 0, 1, 0, 0, .null), (.getfield 31, 3, 11, 8, .null), (.iload_n 1, 1, 1, 0, .null)] 27 (.iaload) 1 = true := by decide +kernel
theorem b_X11_way_28_36 : bl2 mX11_way 28 [(.istore 4, 2, 4, 0, .null), (.iconst (-1), 1, 0, 0, .int (-1)), (.istore 5, 2, 5, 0, .null), (.iconst 0, 1, 0, 0, .int 0), (.istore 6, 2, 6, 0, .null)] 36 (.iload 6) 2 = true := by decide +kernel
set_option maxRecDepth 20000 in
set_option maxHeartbeats 1000000 in
theorem me_way (E : EE) (L : Nat) (F : FF) (l n : Nat) (hm : MR F l n) (a b bg : Nat) (ha : a < n) (hb : b < n) (hs : F 56 a = nI bg) (hbg : bg < 1024) (hab : ¬ a = b) (iN : Nat) (hiN : iN < 2147483648) : Ev3 E L 8 mX11_way [.ref 48, .int (nI a), .int (nI b), .int (nI iN)] F (some (.int (wyO (lfF F n a b bg) n a iN 1025 0 bg (-1)))) (lfF F n a b bg) := by
  have hn10 := hm.2.2.1
  refine Ev3.of okX11_way.2.2.1 (Nat.le_of_ble_eq_true rfl) ?_
  show R2 E L mX11_way 8 0 [some (.ref 48), some (.int (nI a)), some (.int (nI b)), some (.int (nI iN)), none, none, none, none, none] [] F _
  refine R2.B (ls2 := [some (.ref 48), some (.int (nI a)), some (.int (nI b)), some (.int (nI iN)), none, none, none, none, none]) (st2 := [.int (nI b), .int (nI a), .ref 48]) b_X11_way_0_3 rfl (fun hd => ?_)
  refine R2.callV3 (M2 := mX11_areTwo) (As := [.int (nI a), .int (nI b)]) (rest := []) hd lk_11_173 okX11_areTwo (by decide) rfl (me_areTwo E L F l n hm (nI a) (nI b)) (by decide) rfl rfl (Nat.le_of_ble_eq_true rfl) ?_
  refine R2.B (ls2 := [some (.ref 48), some (.int (nI a)), some (.int (nI b)), some (.int (nI iN)), none, none, none, none, none]) (st2 := [.int (b2i ((0 ≤ (nI a) ∧ (nI a) < nI n) ∧ (0 ≤ (nI b) ∧ (nI b) < nI n) ∧ ¬ (nI a) = (nI b)))]) b_X11_way_6_6 rfl (fun hd => ?_)
  refine R2.if_eq 13 hd (by decide) (fun c6 => absurd c6 (b2i_nz.mpr ⟨⟨nI_pos' (by omega), nI_lt ha (by omega)⟩, ⟨nI_pos' (by omega), nI_lt hb (by omega)⟩, fun z => hab ((nI_eq (by omega) (by omega)).mp z)⟩)) (fun c6 => ?_)
  refine R2.B (ls2 := [some (.ref 48), some (.int (nI a)), some (.int (nI b)), some (.int (nI iN)), none, none, none, none, none]) (st2 := [.int (nI iN)]) b_X11_way_9_10 rfl (fun hd => ?_)
  refine R2.if_ge 16 hd (by decide) (fun c10 => ?_) (fun c10 => absurd (nI_pos' (by omega)) c10)
  refine R2.B (ls2 := [some (.ref 48), some (.int (nI a)), some (.int (nI b)), some (.int (nI iN)), none, none, none, none, none]) (st2 := [.int (nI b), .int (nI a), .ref 48]) b_X11_way_16_19 rfl (fun hd => ?_)
  refine R2.callV3 (M2 := mX11_laysFar) (As := [.int (nI a), .int (nI b)]) (rest := []) hd lk_11_216 okX11_laysFar (by decide) rfl (me_laysFar E L F l n hm a b bg ha hb hs hbg) (by decide) rfl rfl (Nat.le_of_ble_eq_true rfl) ?_
  refine R2.B (ls2 := [some (.ref 48), some (.int (nI a)), some (.int (nI b)), some (.int (nI iN)), none, none, none, none, none]) (st2 := [.int (nI a), .ref 56]) b_X11_way_22_27 rfl (fun hd => ?_)
  refine R2.iald a rfl hd rfl (fun _ => rfl) (by decide) (by omega) ?_
  refine R2.top (show ((lfF F n a b bg) 56 a : Int32) = nI bg from ((congrFun (lfF_row (by decide) (by decide) (by decide)) a).trans hs)) ?_
  refine R2.B (ls2 := [some (.ref 48), some (.int (nI a)), some (.int (nI b)), some (.int (nI iN)), some (.int (nI bg)), some (.int (-1)), some (.int 0), none, none]) (st2 := []) b_X11_way_28_36 rfl (fun hd => ?_)
  refine ml_wyO E L (lfF F n a b bg) n ((congrFun (lfF_row (by decide) (by decide) (by decide)) 3).trans hm.2.2.2.1) hn10 a b iN ha hiN 1024 0 bg (-1) (by omega) hbg ?_
  rcases lfF_fb F n a b bg bg hbg with z | ⟨x, hx, z⟩
  · rw [z]; decide
  · rw [z]; exact (nI_leI (by omega) (by omega)).mpr hx
