theorem b_X11_hindersOf_24_28 : bl2 mX11_hindersOf 24 [(.iload 6, 2, 6, 0, .null), (.iload 5, 2, 5, 0, .null)] 28 (.if_icmp .ge 92) 3 = true := by decide +kernel
theorem b_X11_hindersOf_120_120 : bl2 mX11_hindersOf 120 [] 120 (.iinc 5 1) 3 = true := by decide +kernel
theorem b_X11_hindersOf_31_34 : bl2 mX11_hindersOf 31 [(.iload 5, 2, 5, 0, .null), (.iload_n 1, 1, 1, 0, .null)] 34 (.if_icmp .eq 42) 3 = true := by decide +kernel
theorem b_X11_hindersOf_76_82 : bl2 mX11_hindersOf 76 [(.iconst 0, 1, 0, 0, .int 0), (.istore 7, 2, 7, 0, .null), (.iload_n 3, 1, 3, 0, .null), (.iload 7, 2, 7, 0, .null)] 82 (.ifCond .eq 7) 3 = true := by decide +kernel
theorem b_X11_hindersOf_89_96 : bl2 mX11_hindersOf 89 [(.iconst 0, 1, 0, 0, .int 0), (.iadd, 1, 0, 0, .null), (.istore_n 3, 1, 3, 0, .null), (.iload 4, 2, 4, 0, .null), (.iload 7, 2, 7, 0, .null)] 96 (.ifCond .eq 14) 3 = true := by decide +kernel
theorem b_X11_hindersOf_110_24 : bl2 mX11_hindersOf 110 [(.iconst 0, 1, 0, 0, .int 0), (.iadd, 1, 0, 0, .null), (.istore 4, 2, 4, 0, .null), (.iinc 6 1, 3, 6, 0, .int 1), (.goto (-93), 3, 24, 0, .null)] 24 (.iload 6) 2 = true := by decide +kernel
theorem b_X11_hindersOf_37_40 : bl2 mX11_hindersOf 37 [(.iload 6, 2, 6, 0, .null), (.iload_n 1, 1, 1, 0, .null)] 40 (.if_icmp .eq 36) 3 = true := by decide +kernel
theorem b_X11_hindersOf_43_48 : bl2 mX11_hindersOf 43 [(.aload_n 0, 1, 0, 0, .null), (.iload 5, 2, 5, 0, .null), (.iload 6, 2, 6, 0, .null)] 48 (.invokevirtual 176) 3 = true := by decide +kernel
theorem b_X11_hindersOf_51_51 : bl2 mX11_hindersOf 51 [] 51 (.ifCond .ne 25) 3 = true := by decide +kernel
theorem b_X11_hindersOf_54_64 : bl2 mX11_hindersOf 54 [(.aload_n 0, 1, 0, 0, .null), (.iload 5, 2, 5, 0, .null), (.iload 6, 2, 6, 0, .null), (.aload_n 0, 1, 0, 0, .null), (.getfield 16, 3, 11, 2, .null), (.iconst 0, 1, 0, 0, .int 0)] 64 (.iaload) 1 = true := by decide +kernel
theorem b_X11_hindersOf_65_66 : bl2 mX11_hindersOf 65 [(.iload_n 1, 1, 1, 0, .null)] 66 (.invokevirtual 169) 3 = true := by decide +kernel
theorem b_X11_hindersOf_69_69 : bl2 mX11_hindersOf 69 [] 69 (.ifCond .ne 7) 3 = true := by decide +kernel
theorem b_X11_hindersOf_72_82 : bl2 mX11_hindersOf 72 [(.iconst 1, 1, 0, 0, .int 1), (.goto 4, 3, 77, 0, .null), (.istore 7, 2, 7, 0, .null), (.iload_n 3, 1, 3, 0, .null), (.iload 7, 2, 7, 0, .null)] 82 (.ifCond .eq 7) 3 = true := by decide +kernel
theorem b_X11_hindersOf_85_96 : bl2 mX11_hindersOf 85 [(.iconst 1, 1, 0, 0, .int 1), (.goto 4, 3, 90, 0, .null), (.iadd, 1, 0, 0, .null), (.istore_n 3, 1, 3, 0, .null), (.iload 4, 2, 4, 0, .null), (.iload 7, 2, 7, 0, .null)] 96 (.ifCond .eq 14) 3 = true := by decide +kernel
theorem b_X11_hindersOf_99_104 : bl2 mX11_hindersOf 99 [(.aload_n 0, 1, 0, 0, .null), (.iload 5, 2, 5, 0, .null), (.iload 6, 2, 6, 0, .null)] 104 (.invokevirtual 166) 3 = true := by decide +kernel
theorem b_X11_hindersOf_107_24 : bl2 mX11_hindersOf 107 [(.goto 4, 3, 111, 0, .null), (.iadd, 1, 0, 0, .null), (.istore 4, 2, 4, 0, .null), (.iinc 6 1, 3, 6, 0, .int 1), (.goto (-93), 3, 24, 0, .null)] 24 (.iload 6) 2 = true := by decide +kernel
set_option maxRecDepth 20000 in
set_option maxHeartbeats 2000000 in
theorem ml_hdI (E : EE) (L : Nat) (F : FF) (n : Nat) (hn : F 48 3 = nI n) (hn10 : n ≤ 10) (p : Nat) (hp : p < n) (wo : Int32) (Q : Q2) (a : Nat) (ha : a < n) : ∀ (k : Nat) (b : Nat) (x y : Int32), b + k = a → R2 E L mX11_hindersOf 6 120 [some (.ref 48), some (.int (nI p)), some (.int wo), some (.int (sumI (gMH F n p a) k b x)), some (.int (sumI (gMW F n p a) k b y)), some (.int (nI a)), none, none] [] F Q → R2 E L mX11_hindersOf 6 24 [some (.ref 48), some (.int (nI p)), some (.int wo), some (.int x), some (.int y), some (.int (nI a)), some (.int (nI b)), none] [] F Q := by
  intro k
  induction k with
  | zero =>
    intro b x y hi ex
    refine R2.B (ls2 := [some (.ref 48), some (.int (nI p)), some (.int wo), some (.int x), some (.int y), some (.int (nI a)), some (.int (nI b)), none]) (st2 := [.int (nI a), .int (nI b)]) b_X11_hindersOf_24_28 rfl (fun hd => ?_)
    refine R2.icmp_ge 120 hd (by decide) (fun c28 => ?_) (fun c28 => absurd (nI_le (by omega) (by omega)) c28)
    refine R2.B (ls2 := [some (.ref 48), some (.int (nI p)), some (.int wo), some (.int x), some (.int y), some (.int (nI a)), some (.int (nI b)), none]) (st2 := []) b_X11_hindersOf_120_120 rfl (fun hd => ?_)
    refine R2.forget (ls2 := [some (.ref 48), some (.int (nI p)), some (.int wo), some (.int x), some (.int y), some (.int (nI a)), none, none]) ⟨rfl, ⟨rfl, ⟨rfl, ⟨rfl, ⟨rfl, ⟨rfl, trivial⟩⟩⟩⟩⟩⟩ ?_
    exact ex
  | succ k ih =>
    intro b x y hi ex
    refine R2.B (ls2 := [some (.ref 48), some (.int (nI p)), some (.int wo), some (.int x), some (.int y), some (.int (nI a)), some (.int (nI b)), none]) (st2 := [.int (nI a), .int (nI b)]) b_X11_hindersOf_24_28 rfl (fun hd => ?_)
    refine R2.icmp_ge 120 hd (by decide) (fun c28 => absurd c28 (nI_ge (by omega) (by omega))) (fun c28 => ?_)
    refine R2.B (ls2 := [some (.ref 48), some (.int (nI p)), some (.int wo), some (.int x), some (.int y), some (.int (nI a)), some (.int (nI b)), none]) (st2 := [.int (nI p), .int (nI a)]) b_X11_hindersOf_31_34 rfl (fun hd => ?_)
    refine R2.icmp_eq 76 hd (by decide) (fun c34 => ?_) (fun c34 => ?_)
    · have nc34 : a = p := (nI_eq (a := a) (b := p) (by omega) (by omega)).mp c34
      refine R2.B (ls2 := [some (.ref 48), some (.int (nI p)), some (.int wo), some (.int x), some (.int y), some (.int (nI a)), some (.int (nI b)), some (.int 0)]) (st2 := [.int 0, .int x]) b_X11_hindersOf_76_82 rfl (fun hd => ?_)
      refine R2.if_eq 89 hd (by decide) (fun c82 => ?_) (fun c82 => absurd (by decide) c82)
      refine R2.B (ls2 := [some (.ref 48), some (.int (nI p)), some (.int wo), some (.int (x + 0)), some (.int y), some (.int (nI a)), some (.int (nI b)), some (.int 0)]) (st2 := [.int 0, .int y]) b_X11_hindersOf_89_96 rfl (fun hd => ?_)
      refine R2.if_eq 110 hd (by decide) (fun c96 => ?_) (fun c96 => absurd (by decide) c96)
      refine R2.B (ls2 := [some (.ref 48), some (.int (nI p)), some (.int wo), some (.int (x + 0)), some (.int (y + 0)), some (.int (nI a)), some (.int ((nI b) + 1)), some (.int 0)]) (st2 := []) b_X11_hindersOf_110_24 rfl (fun hd => ?_)
      rw [show ((nI b) + 1 : Int32) = nI (b + 1) from nI_add b 1]
      have e : sumI (gMH F n p a) (k + 1) b x = sumI (gMH F n p a) k (b + 1) (x + 0) := by
        simp only [sumI, gMH]; rw [if_neg (by clear hd ih ex; grind)]
      have e2 : sumI (gMW F n p a) (k + 1) b y = sumI (gMW F n p a) k (b + 1) (y + 0) := by
        simp only [sumI, gMW]; rw [if_neg (by clear hd ih ex; grind)]
      rw [e, e2] at ex
      refine R2.forget (ls2 := [some (.ref 48), some (.int (nI p)), some (.int wo), some (.int (x + 0)), some (.int (y + 0)), some (.int (nI a)), some (.int (nI (b + 1))), none]) ⟨rfl, ⟨rfl, ⟨rfl, ⟨rfl, ⟨rfl, ⟨rfl, ⟨rfl, trivial⟩⟩⟩⟩⟩⟩⟩ ?_
      exact ih (b + 1) _ _ (by omega) ex
    · have nc34 : ¬ a = p := fun h9 => c34 ((nI_eq (a := a) (b := p) (by omega) (by omega)).mpr h9)
      refine R2.B (ls2 := [some (.ref 48), some (.int (nI p)), some (.int wo), some (.int x), some (.int y), some (.int (nI a)), some (.int (nI b)), none]) (st2 := [.int (nI p), .int (nI b)]) b_X11_hindersOf_37_40 rfl (fun hd => ?_)
      refine R2.icmp_eq 76 hd (by decide) (fun c40 => ?_) (fun c40 => ?_)
      · have nc40 : b = p := (nI_eq (a := b) (b := p) (by omega) (by omega)).mp c40
        refine R2.B (ls2 := [some (.ref 48), some (.int (nI p)), some (.int wo), some (.int x), some (.int y), some (.int (nI a)), some (.int (nI b)), some (.int 0)]) (st2 := [.int 0, .int x]) b_X11_hindersOf_76_82 rfl (fun hd => ?_)
        refine R2.if_eq 89 hd (by decide) (fun c82 => ?_) (fun c82 => absurd (by decide) c82)
        refine R2.B (ls2 := [some (.ref 48), some (.int (nI p)), some (.int wo), some (.int (x + 0)), some (.int y), some (.int (nI a)), some (.int (nI b)), some (.int 0)]) (st2 := [.int 0, .int y]) b_X11_hindersOf_89_96 rfl (fun hd => ?_)
        refine R2.if_eq 110 hd (by decide) (fun c96 => ?_) (fun c96 => absurd (by decide) c96)
        refine R2.B (ls2 := [some (.ref 48), some (.int (nI p)), some (.int wo), some (.int (x + 0)), some (.int (y + 0)), some (.int (nI a)), some (.int ((nI b) + 1)), some (.int 0)]) (st2 := []) b_X11_hindersOf_110_24 rfl (fun hd => ?_)
        rw [show ((nI b) + 1 : Int32) = nI (b + 1) from nI_add b 1]
        have e : sumI (gMH F n p a) (k + 1) b x = sumI (gMH F n p a) k (b + 1) (x + 0) := by
          simp only [sumI, gMH]; rw [if_neg (by clear hd ih ex; grind)]
        have e2 : sumI (gMW F n p a) (k + 1) b y = sumI (gMW F n p a) k (b + 1) (y + 0) := by
          simp only [sumI, gMW]; rw [if_neg (by clear hd ih ex; grind)]
        rw [e, e2] at ex
        refine R2.forget (ls2 := [some (.ref 48), some (.int (nI p)), some (.int wo), some (.int (x + 0)), some (.int (y + 0)), some (.int (nI a)), some (.int (nI (b + 1))), none]) ⟨rfl, ⟨rfl, ⟨rfl, ⟨rfl, ⟨rfl, ⟨rfl, ⟨rfl, trivial⟩⟩⟩⟩⟩⟩⟩ ?_
        exact ih (b + 1) _ _ (by omega) ex
      · have nc40 : ¬ b = p := fun h9 => c40 ((nI_eq (a := b) (b := p) (by omega) (by omega)).mpr h9)
        refine R2.B (ls2 := [some (.ref 48), some (.int (nI p)), some (.int wo), some (.int x), some (.int y), some (.int (nI a)), some (.int (nI b)), none]) (st2 := [.int (nI b), .int (nI a), .ref 48]) b_X11_hindersOf_43_48 rfl (fun hd => ?_)
        refine R2.callV3 (M2 := mX11_isBound) (As := [.int (nI a), .int (nI b)]) (rest := []) hd lk_11_176 okX11_isBound (by decide) rfl (me_isBound E L F n hn hn10 a b (by omega) (by omega)) (by decide) rfl rfl (Nat.le_of_ble_eq_true rfl) ?_
        refine R2.B (ls2 := [some (.ref 48), some (.int (nI p)), some (.int wo), some (.int x), some (.int y), some (.int (nI a)), some (.int (nI b)), none]) (st2 := [.int (b2i (mvd F n (F 51 0) (-1) a b = 0))]) b_X11_hindersOf_51_51 rfl (fun hd => ?_)
        refine R2.if_ne 76 hd (by decide) (fun c51 => ?_) (fun c51 => ?_)
        · have nc51 : mvd F n (F 51 0) (-1) a b = 0 := b2i_nz.mp c51
          refine R2.B (ls2 := [some (.ref 48), some (.int (nI p)), some (.int wo), some (.int x), some (.int y), some (.int (nI a)), some (.int (nI b)), some (.int 0)]) (st2 := [.int 0, .int x]) b_X11_hindersOf_76_82 rfl (fun hd => ?_)
          refine R2.if_eq 89 hd (by decide) (fun c82 => ?_) (fun c82 => absurd (by decide) c82)
          refine R2.B (ls2 := [some (.ref 48), some (.int (nI p)), some (.int wo), some (.int (x + 0)), some (.int y), some (.int (nI a)), some (.int (nI b)), some (.int 0)]) (st2 := [.int 0, .int y]) b_X11_hindersOf_89_96 rfl (fun hd => ?_)
          refine R2.if_eq 110 hd (by decide) (fun c96 => ?_) (fun c96 => absurd (by decide) c96)
          refine R2.B (ls2 := [some (.ref 48), some (.int (nI p)), some (.int wo), some (.int (x + 0)), some (.int (y + 0)), some (.int (nI a)), some (.int ((nI b) + 1)), some (.int 0)]) (st2 := []) b_X11_hindersOf_110_24 rfl (fun hd => ?_)
          rw [show ((nI b) + 1 : Int32) = nI (b + 1) from nI_add b 1]
          have e : sumI (gMH F n p a) (k + 1) b x = sumI (gMH F n p a) k (b + 1) (x + 0) := by
            simp only [sumI, gMH]; rw [if_neg (by clear hd ih ex; grind)]
          have e2 : sumI (gMW F n p a) (k + 1) b y = sumI (gMW F n p a) k (b + 1) (y + 0) := by
            simp only [sumI, gMW]; rw [if_neg (by clear hd ih ex; grind)]
          rw [e, e2] at ex
          refine R2.forget (ls2 := [some (.ref 48), some (.int (nI p)), some (.int wo), some (.int (x + 0)), some (.int (y + 0)), some (.int (nI a)), some (.int (nI (b + 1))), none]) ⟨rfl, ⟨rfl, ⟨rfl, ⟨rfl, ⟨rfl, ⟨rfl, ⟨rfl, trivial⟩⟩⟩⟩⟩⟩⟩ ?_
          exact ih (b + 1) _ _ (by omega) ex
        · have nc51 : ¬ (mvd F n (F 51 0) (-1) a b = 0) := b2i_zero.mp c51
          refine R2.B (ls2 := [some (.ref 48), some (.int (nI p)), some (.int wo), some (.int x), some (.int y), some (.int (nI a)), some (.int (nI b)), none]) (st2 := [.int 0, .ref 51, .int (nI b), .int (nI a), .ref 48]) b_X11_hindersOf_54_64 rfl (fun hd => ?_)
          refine R2.iald 0 rfl hd rfl (fun _ => rfl) (by decide) (by omega) ?_
          refine R2.B (ls2 := [some (.ref 48), some (.int (nI p)), some (.int wo), some (.int x), some (.int y), some (.int (nI a)), some (.int (nI b)), none]) (st2 := [.int (nI p), .int (F 51 0), .int (nI b), .int (nI a), .ref 48]) b_X11_hindersOf_65_66 rfl (fun hd => ?_)
          refine R2.callV3 (M2 := mX11_bindsBy) (As := [.int (nI a), .int (nI b), .int (F 51 0), .int (nI p)]) (rest := []) hd lk_11_169 okX11_bindsBy (by decide) rfl (me_bindsBy E L F n hn hn10 a b (F 51 0) (nI p) (by omega) (by omega)) (by decide) rfl rfl (Nat.le_of_ble_eq_true rfl) ?_
          refine R2.B (ls2 := [some (.ref 48), some (.int (nI p)), some (.int wo), some (.int x), some (.int y), some (.int (nI a)), some (.int (nI b)), none]) (st2 := [.int (mvd F n (F 51 0) (nI p) a b)]) b_X11_hindersOf_69_69 rfl (fun hd => ?_)
          refine R2.if_ne 76 hd (by decide) (fun c69 => ?_) (fun c69 => ?_)
          · refine R2.B (ls2 := [some (.ref 48), some (.int (nI p)), some (.int wo), some (.int x), some (.int y), some (.int (nI a)), some (.int (nI b)), some (.int 0)]) (st2 := [.int 0, .int x]) b_X11_hindersOf_76_82 rfl (fun hd => ?_)
            refine R2.if_eq 89 hd (by decide) (fun c82 => ?_) (fun c82 => absurd (by decide) c82)
            refine R2.B (ls2 := [some (.ref 48), some (.int (nI p)), some (.int wo), some (.int (x + 0)), some (.int y), some (.int (nI a)), some (.int (nI b)), some (.int 0)]) (st2 := [.int 0, .int y]) b_X11_hindersOf_89_96 rfl (fun hd => ?_)
            refine R2.if_eq 110 hd (by decide) (fun c96 => ?_) (fun c96 => absurd (by decide) c96)
            refine R2.B (ls2 := [some (.ref 48), some (.int (nI p)), some (.int wo), some (.int (x + 0)), some (.int (y + 0)), some (.int (nI a)), some (.int ((nI b) + 1)), some (.int 0)]) (st2 := []) b_X11_hindersOf_110_24 rfl (fun hd => ?_)
            rw [show ((nI b) + 1 : Int32) = nI (b + 1) from nI_add b 1]
            have e : sumI (gMH F n p a) (k + 1) b x = sumI (gMH F n p a) k (b + 1) (x + 0) := by
              simp only [sumI, gMH]; rw [if_neg (by clear hd ih ex; grind)]
            have e2 : sumI (gMW F n p a) (k + 1) b y = sumI (gMW F n p a) k (b + 1) (y + 0) := by
              simp only [sumI, gMW]; rw [if_neg (by clear hd ih ex; grind)]
            rw [e, e2] at ex
            refine R2.forget (ls2 := [some (.ref 48), some (.int (nI p)), some (.int wo), some (.int (x + 0)), some (.int (y + 0)), some (.int (nI a)), some (.int (nI (b + 1))), none]) ⟨rfl, ⟨rfl, ⟨rfl, ⟨rfl, ⟨rfl, ⟨rfl, ⟨rfl, trivial⟩⟩⟩⟩⟩⟩⟩ ?_
            exact ih (b + 1) _ _ (by omega) ex
          · refine R2.B (ls2 := [some (.ref 48), some (.int (nI p)), some (.int wo), some (.int x), some (.int y), some (.int (nI a)), some (.int (nI b)), some (.int 1)]) (st2 := [.int 1, .int x]) b_X11_hindersOf_72_82 rfl (fun hd => ?_)
            refine R2.if_eq 89 hd (by decide) (fun c82 => absurd c82 (by decide)) (fun c82 => ?_)
            refine R2.B (ls2 := [some (.ref 48), some (.int (nI p)), some (.int wo), some (.int (x + 1)), some (.int y), some (.int (nI a)), some (.int (nI b)), some (.int 1)]) (st2 := [.int 1, .int y]) b_X11_hindersOf_85_96 rfl (fun hd => ?_)
            refine R2.if_eq 110 hd (by decide) (fun c96 => absurd c96 (by decide)) (fun c96 => ?_)
            refine R2.B (ls2 := [some (.ref 48), some (.int (nI p)), some (.int wo), some (.int (x + 1)), some (.int y), some (.int (nI a)), some (.int (nI b)), some (.int 1)]) (st2 := [.int (nI b), .int (nI a), .ref 48, .int y]) b_X11_hindersOf_99_104 rfl (fun hd => ?_)
            refine R2.callV3 (M2 := mX11_worthOf) (As := [.int (nI a), .int (nI b)]) (rest := [.int y]) hd lk_11_166 okX11_worthOf (by decide) rfl (me_worthOf E L F a b (by omega) (by omega)) (by decide) rfl rfl (Nat.le_of_ble_eq_true rfl) ?_
            refine R2.B (ls2 := [some (.ref 48), some (.int (nI p)), some (.int wo), some (.int (x + 1)), some (.int (y + (gan (F 52) (F 54) a b))), some (.int (nI a)), some (.int ((nI b) + 1)), some (.int 1)]) (st2 := []) b_X11_hindersOf_107_24 rfl (fun hd => ?_)
            rw [show ((nI b) + 1 : Int32) = nI (b + 1) from nI_add b 1]
            have e : sumI (gMH F n p a) (k + 1) b x = sumI (gMH F n p a) k (b + 1) (x + 1) := by
              simp only [sumI, gMH]; rw [if_pos (by clear hd ih ex; grind)]
            have e2 : sumI (gMW F n p a) (k + 1) b y = sumI (gMW F n p a) k (b + 1) (y + (gan (F 52) (F 54) a b)) := by
              simp only [sumI, gMW]; rw [if_pos (by clear hd ih ex; grind)]
            rw [e, e2] at ex
            refine R2.forget (ls2 := [some (.ref 48), some (.int (nI p)), some (.int wo), some (.int (x + 1)), some (.int (y + (gan (F 52) (F 54) a b))), some (.int (nI a)), some (.int (nI (b + 1))), none]) ⟨rfl, ⟨rfl, ⟨rfl, ⟨rfl, ⟨rfl, ⟨rfl, ⟨rfl, trivial⟩⟩⟩⟩⟩⟩⟩ ?_
            exact ih (b + 1) _ _ (by omega) ex
theorem b_X11_hindersOf_12_18 : bl2 mX11_hindersOf 12 [(.iload 5, 2, 5, 0, .null), (.aload_n 0, 1, 0, 0, .null), (.getfield 101, 3, 11, 3, .null)] 18 (.if_icmp .ge 108) 3 = true := by decide +kernel
theorem b_X11_hindersOf_126_127 : bl2 mX11_hindersOf 126 [(.iload_n 2, 1, 2, 0, .null)] 127 (.ifCond .ne 7) 3 = true := by decide +kernel
theorem b_X11_hindersOf_134_136 : bl2 mX11_hindersOf 134 [(.iload 4, 2, 4, 0, .null)] 136 (.ireturn) 1 = true := by decide +kernel
theorem b_X11_hindersOf_130_136 : bl2 mX11_hindersOf 130 [(.iload_n 3, 1, 3, 0, .null), (.goto 5, 3, 136, 0, .null)] 136 (.ireturn) 1 = true := by decide +kernel
theorem b_X11_hindersOf_21_24 : bl2 mX11_hindersOf 21 [(.iconst 0, 1, 0, 0, .int 0), (.istore 6, 2, 6, 0, .null)] 24 (.iload 6) 2 = true := by decide +kernel
theorem b_X11_hindersOf_120_12 : bl2 mX11_hindersOf 120 [(.iinc 5 1, 3, 5, 0, .int 1), (.goto (-111), 3, 12, 0, .null)] 12 (.iload 5) 2 = true := by decide +kernel
set_option maxRecDepth 20000 in
set_option maxHeartbeats 2000000 in
theorem ml_hdO (E : EE) (L : Nat) (F : FF) (n : Nat) (hn : F 48 3 = nI n) (hn10 : n ≤ 10) (p : Nat) (hp : p < n) (wo : Int32) : ∀ (k : Nat) (a : Nat) (x y : Int32), a + k = n → R2 E L mX11_hindersOf 6 12 [some (.ref 48), some (.int (nI p)), some (.int wo), some (.int x), some (.int y), some (.int (nI a)), none, none] [] F (fun r' F' => r' = some (.int (if wo = 0 then sumB (gMH F n p) k a x else sumB (gMW F n p) k a y)) ∧ F' = F) := by
  intro k
  induction k with
  | zero =>
    intro a x y hi
    show R2 E L _ _ _ _ _ _ (fun r' F' => r' = some (.int (if wo = 0 then x else y)) ∧ F' = F)
    refine R2.B (ls2 := [some (.ref 48), some (.int (nI p)), some (.int wo), some (.int x), some (.int y), some (.int (nI a)), none, none]) (st2 := [.int (F 48 3), .int (nI a)]) b_X11_hindersOf_12_18 rfl (fun hd => ?_)
    rw [show (F 48 3 : Int32) = nI n from hn]
    refine R2.icmp_ge 126 hd (by decide) (fun c18 => ?_) (fun c18 => absurd (nI_le (by omega) (by omega)) c18)
    refine R2.B (ls2 := [some (.ref 48), some (.int (nI p)), some (.int wo), some (.int x), some (.int y), some (.int (nI a)), none, none]) (st2 := [.int wo]) b_X11_hindersOf_126_127 rfl (fun hd => ?_)
    refine R2.if_ne 134 hd (by decide) (fun c127 => ?_) (fun c127 => ?_)
    · refine R2.B (ls2 := [some (.ref 48), some (.int (nI p)), some (.int wo), some (.int x), some (.int y), some (.int (nI a)), none, none]) (st2 := [.int y]) b_X11_hindersOf_134_136 rfl (fun hd => ?_)
      exact R2.ret3 (r := some (.int y)) hd trivial rfl (congrArg (fun z => some (Value.int z)) (by clear hd; grind)) rfl
    · refine R2.B (ls2 := [some (.ref 48), some (.int (nI p)), some (.int wo), some (.int x), some (.int y), some (.int (nI a)), none, none]) (st2 := [.int x]) b_X11_hindersOf_130_136 rfl (fun hd => ?_)
      exact R2.ret3 (r := some (.int x)) hd trivial rfl (congrArg (fun z => some (Value.int z)) (by clear hd; grind)) rfl
  | succ k ih =>
    intro a x y hi
    refine R2.B (ls2 := [some (.ref 48), some (.int (nI p)), some (.int wo), some (.int x), some (.int y), some (.int (nI a)), none, none]) (st2 := [.int (F 48 3), .int (nI a)]) b_X11_hindersOf_12_18 rfl (fun hd => ?_)
    rw [show (F 48 3 : Int32) = nI n from hn]
    refine R2.icmp_ge 126 hd (by decide) (fun c18 => absurd c18 (nI_ge (by omega) (by omega))) (fun c18 => ?_)
    refine R2.B (ls2 := [some (.ref 48), some (.int (nI p)), some (.int wo), some (.int x), some (.int y), some (.int (nI a)), some (.int 0), none]) (st2 := []) b_X11_hindersOf_21_24 rfl (fun hd => ?_)
    refine ml_hdI E L F n hn hn10 p hp wo _ a (by omega) a 0 x y (by omega) ?_
    refine R2.B (ls2 := [some (.ref 48), some (.int (nI p)), some (.int wo), some (.int (sumI (gMH F n p a) a 0 x)), some (.int (sumI (gMW F n p a) a 0 y)), some (.int ((nI a) + 1)), none, none]) (st2 := []) b_X11_hindersOf_120_12 rfl (fun hd => ?_)
    rw [show ((nI a) + 1 : Int32) = nI (a + 1) from nI_add a 1]
    exact ih (a + 1) _ _ (by omega)
theorem b_X11_hindersOf_0_1 : bl2 mX11_hindersOf 0 [(.aload_n 0, 1, 0, 0, .null)] 1 (.invokevirtual 140) 3 = true := by decide +kernel
theorem b_X11_hindersOf_4_12 : bl2 mX11_hindersOf 4 [(.iconst 0, 1, 0, 0, .int 0), (.istore_n 3, 1, 3, 0, .null), (.iconst 0, 1, 0, 0, .int 0), (.istore 4, 2, 4, 0, .null), (.iconst 0, 1, 0, 0, .int 0), (.istore 5, 2, 5, 0, .null)] 12 (.iload 5) 2 = true := by decide +kernel
set_option maxRecDepth 20000 in
set_option maxHeartbeats 1000000 in
theorem me_hindersOf (E : EE) (L : Nat) (F : FF) (l n : Nat) (hm : MR F l n) (p : Nat) (hp : p < n) (wo : Int32) : Ev3 E L 6 mX11_hindersOf [.ref 48, .int (nI p), .int wo] F (some (.int (if wo = 0 then sumB (gMH (ly F n) n p) n 0 0 else sumB (gMW (ly F n) n p) n 0 0))) (ly F n) := by
  refine Ev3.of okX11_hindersOf.2.2.1 (Nat.le_of_ble_eq_true rfl) ?_
  show R2 E L mX11_hindersOf 6 0 [some (.ref 48), some (.int (nI p)), some (.int wo), none, none, none, none, none] [] F _
  refine R2.B (ls2 := [some (.ref 48), some (.int (nI p)), some (.int wo), none, none, none, none, none]) (st2 := [.ref 48]) b_X11_hindersOf_0_1 rfl (fun hd => ?_)
  refine R2.callV3 (M2 := mX11_lays) (As := []) (rest := []) hd lk_11_140 okX11_lays (by decide) rfl (me_lays E L F l n hm) (by decide) rfl rfl (Nat.le_of_ble_eq_true rfl) ?_
  refine R2.B (ls2 := [some (.ref 48), some (.int (nI p)), some (.int wo), some (.int 0), some (.int 0), some (.int 0), none, none]) (st2 := []) b_X11_hindersOf_4_12 rfl (fun hd => ?_)
  exact ml_hdO E L _ n ((congrFun (ly_row (by decide)) 3).trans hm.2.2.2.1) hm.2.2.1 p hp wo n 0 0 0 (by omega)
