theorem b_X11_isFree_2_7 : bl2 mX11_isFree 2 [(.iload_n 3, 1, 3, 0, .null), (.aload_n 0, 1, 0, 0, .null), (.getfield 101, 3, 11, 3, .null)] 7 (.if_icmp .ge 42) 3 = true := by decide +kernel
theorem b_X11_isFree_49_50 : bl2 mX11_isFree 49 [(.iconst 1, 1, 0, 0, .int 1)] 50 (.ireturn) 1 = true := by decide +kernel
theorem b_X11_isFree_10_12 : bl2 mX11_isFree 10 [(.iload_n 3, 1, 3, 0, .null), (.iload_n 1, 1, 1, 0, .null)] 12 (.if_icmp .eq 31) 3 = true := by decide +kernel
theorem b_X11_isFree_43_2 : bl2 mX11_isFree 43 [(.iinc 3 1, 3, 3, 0, .int 1), (.goto (-44), 3, 2, 0, .null)] 2 (.iload_n 3) 1 = true := by decide +kernel
theorem b_X11_isFree_15_21 : bl2 mX11_isFree 15 [(.iload_n 2, 1, 2, 0, .null), (.aload_n 0, 1, 0, 0, .null), (.getfield 34, 3, 11, 9, .null), (.iload_n 3, 1, 3, 0, .null)] 21 (.iaload) 1 = true := by decide +kernel
theorem b_X11_isFree_22_22 : bl2 mX11_isFree 22 [] 22 (.invokestatic 137) 3 = true := by decide +kernel
theorem b_X11_isFree_25_30 : bl2 mX11_isFree 25 [(.aload_n 0, 1, 0, 0, .null), (.getfield 16, 3, 11, 2, .null), (.iconst 2, 1, 0, 0, .int 2)] 30 (.iaload) 1 = true := by decide +kernel
theorem b_X11_isFree_31_36 : bl2 mX11_isFree 31 [(.aload_n 0, 1, 0, 0, .null), (.getfield 16, 3, 11, 2, .null), (.iconst 2, 1, 0, 0, .int 2)] 36 (.iaload) 1 = true := by decide +kernel
theorem b_X11_isFree_37_38 : bl2 mX11_isFree 37 [(.imul, 1, 0, 0, .null)] 38 (.if_icmp .ge 5) 3 = true := by decide +kernel
theorem b_X11_isFree_41_42 : bl2 mX11_isFree 41 [(.iconst 0, 1, 0, 0, .int 0)] 42 (.ireturn) 1 = true := by decide +kernel
set_option maxRecDepth 20000 in
set_option maxHeartbeats 2000000 in
theorem ml_isFree (E : EE) (L : Nat) (F : FF) (n : Nat) (hn : F 48 3 = nI n) (hn10 : n ≤ 10) (p : Nat) (t : Int32) (hp : p < 11) : ∀ (k : Nat) (i : Nat), i + k = n → R2 E L mX11_isFree 2 2 [some (.ref 48), some (.int (nI p)), some (.int t), some (.int (nI i))] [] F (fun r' F' => r' = some (.int (b2i (mayS (F 57) p t (F 51 2 * F 51 2) k i = true))) ∧ F' = F) := by
  intro k
  induction k with
  | zero =>
    intro i hi
    refine R2.B (ls2 := [some (.ref 48), some (.int (nI p)), some (.int t), some (.int (nI i))]) (st2 := [.int (F 48 3), .int (nI i)]) b_X11_isFree_2_7 rfl (fun hd => ?_)
    rw [show (F 48 3 : Int32) = nI n from hn]
    refine R2.icmp_ge 49 hd (by decide) (fun c7 => ?_) (fun c7 => absurd (nI_le (by omega) (by omega)) c7)
    refine R2.B (ls2 := [some (.ref 48), some (.int (nI p)), some (.int t), some (.int (nI i))]) (st2 := [.int 1]) b_X11_isFree_49_50 rfl (fun hd => ?_)
    exact R2.ret3 (r := some (.int 1)) hd (Or.inr rfl) rfl (congrArg (fun z => some (Value.int z)) (b2i_t (by clear hd; simp only [mayS] <;> grind))) rfl
  | succ k ih =>
    intro i hi
    refine R2.B (ls2 := [some (.ref 48), some (.int (nI p)), some (.int t), some (.int (nI i))]) (st2 := [.int (F 48 3), .int (nI i)]) b_X11_isFree_2_7 rfl (fun hd => ?_)
    rw [show (F 48 3 : Int32) = nI n from hn]
    refine R2.icmp_ge 49 hd (by decide) (fun c7 => absurd c7 (nI_ge (by omega) (by omega))) (fun c7 => ?_)
    refine R2.B (ls2 := [some (.ref 48), some (.int (nI p)), some (.int t), some (.int (nI i))]) (st2 := [.int (nI p), .int (nI i)]) b_X11_isFree_10_12 rfl (fun hd => ?_)
    refine R2.icmp_eq 43 hd (by decide) (fun c12 => ?_) (fun c12 => ?_)
    · have nc12 : i = p := (nI_eq (a := i) (b := p) (by omega) (by omega)).mp c12
      refine R2.B (ls2 := [some (.ref 48), some (.int (nI p)), some (.int t), some (.int ((nI i) + 1))]) (st2 := []) b_X11_isFree_43_2 rfl (fun hd => ?_)
      rw [show ((nI i) + 1 : Int32) = nI (i + 1) from nI_add i 1]
      rw [show mayS (F 57) p t (F 51 2 * F 51 2) (k + 1) i = mayS (F 57) p t (F 51 2 * F 51 2) k (i + 1) from (by clear hd; simp only [mayS] <;> grind)]
      exact ih (i + 1) (by omega)
    · have nc12 : ¬ i = p := fun h9 => c12 ((nI_eq (a := i) (b := p) (by omega) (by omega)).mpr h9)
      refine R2.B (ls2 := [some (.ref 48), some (.int (nI p)), some (.int t), some (.int (nI i))]) (st2 := [.int (nI i), .ref 57, .int t]) b_X11_isFree_15_21 rfl (fun hd => ?_)
      refine R2.iald i rfl hd rfl (fun _ => rfl) (by decide) (by omega) ?_
      refine R2.B (ls2 := [some (.ref 48), some (.int (nI p)), some (.int t), some (.int (nI i))]) (st2 := [.int (F 57 i), .int t]) b_X11_isFree_22_22 rfl (fun hd => ?_)
      refine R2.callS3 (M2 := mX11_awayBy) (As := [.int t, .int (F 57 i)]) (rest := []) hd lk_11_137 okX11_awayBy (by decide) ((awy_comm t (F 57 i)) ▸ me_awayBy E L F t (F 57 i)) (by decide) rfl rfl (Nat.le_of_ble_eq_true rfl) ?_
      refine R2.B (ls2 := [some (.ref 48), some (.int (nI p)), some (.int t), some (.int (nI i))]) (st2 := [.int 2, .ref 51, .int (awy (F 57 i) t)]) b_X11_isFree_25_30 rfl (fun hd => ?_)
      refine R2.iald 2 rfl hd rfl (fun _ => rfl) (by decide) (by omega) ?_
      refine R2.B (ls2 := [some (.ref 48), some (.int (nI p)), some (.int t), some (.int (nI i))]) (st2 := [.int 2, .ref 51, .int (F 51 2), .int (awy (F 57 i) t)]) b_X11_isFree_31_36 rfl (fun hd => ?_)
      refine R2.iald 2 rfl hd rfl (fun _ => rfl) (by decide) (by omega) ?_
      refine R2.B (ls2 := [some (.ref 48), some (.int (nI p)), some (.int t), some (.int (nI i))]) (st2 := [.int ((F 51 2) * (F 51 2)), .int (awy (F 57 i) t)]) b_X11_isFree_37_38 rfl (fun hd => ?_)
      refine R2.icmp_ge 43 hd (by decide) (fun c38 => ?_) (fun c38 => ?_)
      · refine R2.B (ls2 := [some (.ref 48), some (.int (nI p)), some (.int t), some (.int ((nI i) + 1))]) (st2 := []) b_X11_isFree_43_2 rfl (fun hd => ?_)
        rw [show ((nI i) + 1 : Int32) = nI (i + 1) from nI_add i 1]
        rw [show mayS (F 57) p t (F 51 2 * F 51 2) (k + 1) i = mayS (F 57) p t (F 51 2 * F 51 2) k (i + 1) from (by clear hd; simp only [mayS] <;> grind)]
        exact ih (i + 1) (by omega)
      · refine R2.B (ls2 := [some (.ref 48), some (.int (nI p)), some (.int t), some (.int (nI i))]) (st2 := [.int 0]) b_X11_isFree_41_42 rfl (fun hd => ?_)
        exact R2.ret3 (r := some (.int 0)) hd (Or.inl rfl) rfl (congrArg (fun z => some (Value.int z)) (b2i_f (by clear hd; simp only [mayS] <;> grind))) rfl
theorem b_X11_isFree_0_2 : bl2 mX11_isFree 0 [(.iconst 0, 1, 0, 0, .int 0), (.istore_n 3, 1, 3, 0, .null)] 2 (.iload_n 3) 1 = true := by decide +kernel
set_option maxRecDepth 20000 in
set_option maxHeartbeats 1000000 in
theorem me_isFree (E : EE) (L : Nat) (F : FF) (n : Nat) (hn : F 48 3 = nI n) (hn10 : n ≤ 10) (p : Nat) (t : Int32) (hp : p < 11) : Ev3 E L 2 mX11_isFree [.ref 48, .int (nI p), .int t] F (some (.int (b2i (mayS (F 57) p t (F 51 2 * F 51 2) n 0 = true)))) F := by
  refine Ev3.of okX11_isFree.2.2.1 (Nat.le_of_ble_eq_true rfl) ?_
  show R2 E L mX11_isFree 2 0 [some (.ref 48), some (.int (nI p)), some (.int t), none] [] F _
  refine R2.B (ls2 := [some (.ref 48), some (.int (nI p)), some (.int t), some (.int 0)]) (st2 := []) b_X11_isFree_0_2 rfl (fun hd => ?_)
  exact ml_isFree E L F n hn hn10 p t hp n 0 (by omega)
theorem b_X11_nearer_18_24 : bl2 mX11_nearer 18 [(.iload 5, 2, 5, 0, .null), (.aload_n 0, 1, 0, 0, .null), (.getfield 101, 3, 11, 3, .null)] 24 (.if_icmp .ge 84) 3 = true := by decide +kernel
theorem b_X11_nearer_108_109 : bl2 mX11_nearer 108 [(.iconst (-1), 1, 0, 0, .int (-1))] 109 (.ireturn) 1 = true := by decide +kernel
theorem b_X11_nearer_27_30 : bl2 mX11_nearer 27 [(.iload 5, 2, 5, 0, .null), (.iload_n 1, 1, 1, 0, .null)] 30 (.if_icmp .eq 19) 3 = true := by decide +kernel
theorem b_X11_nearer_49_54 : bl2 mX11_nearer 49 [(.iconst 0, 1, 0, 0, .int 0), (.istore 6, 2, 6, 0, .null), (.iload 6, 2, 6, 0, .null)] 54 (.ifCond .eq 48) 3 = true := by decide +kernel
theorem b_X11_nearer_102_18 : bl2 mX11_nearer 102 [(.iinc 5 1, 3, 5, 0, .int 1), (.goto (-87), 3, 18, 0, .null)] 18 (.iload 5) 2 = true := by decide +kernel
theorem b_X11_nearer_33_36 : bl2 mX11_nearer 33 [(.iload 5, 2, 5, 0, .null), (.iload_n 2, 1, 2, 0, .null)] 36 (.if_icmp .eq 13) 3 = true := by decide +kernel
theorem b_X11_nearer_39_42 : bl2 mX11_nearer 39 [(.iload 5, 2, 5, 0, .null), (.iload_n 3, 1, 3, 0, .null)] 42 (.if_icmp .eq 7) 3 = true := by decide +kernel
theorem b_X11_nearer_45_54 : bl2 mX11_nearer 45 [(.iconst 1, 1, 0, 0, .int 1), (.goto 4, 3, 50, 0, .null), (.istore 6, 2, 6, 0, .null), (.iload 6, 2, 6, 0, .null)] 54 (.ifCond .eq 48) 3 = true := by decide +kernel
theorem b_X11_nearer_57_63 : bl2 mX11_nearer 57 [(.aload_n 0, 1, 0, 0, .null), (.getfield 34, 3, 11, 9, .null), (.iload 5, 2, 5, 0, .null)] 63 (.iaload) 1 = true := by decide +kernel
theorem b_X11_nearer_64_69 : bl2 mX11_nearer 64 [(.aload_n 0, 1, 0, 0, .null), (.getfield 34, 3, 11, 9, .null), (.iload_n 1, 1, 1, 0, .null)] 69 (.iaload) 1 = true := by decide +kernel
theorem b_X11_nearer_70_70 : bl2 mX11_nearer 70 [] 70 (.invokestatic 137) 3 = true := by decide +kernel
theorem b_X11_nearer_73_75 : bl2 mX11_nearer 73 [(.iload 4, 2, 4, 0, .null)] 75 (.if_icmp .lt 24) 3 = true := by decide +kernel
theorem b_X11_nearer_99_101 : bl2 mX11_nearer 99 [(.iload 5, 2, 5, 0, .null)] 101 (.ireturn) 1 = true := by decide +kernel
theorem b_X11_nearer_78_84 : bl2 mX11_nearer 78 [(.aload_n 0, 1, 0, 0, .null), (.getfield 34, 3, 11, 9, .null), (.iload 5, 2, 5, 0, .null)] 84 (.iaload) 1 = true := by decide +kernel
theorem b_X11_nearer_85_90 : bl2 mX11_nearer 85 [(.aload_n 0, 1, 0, 0, .null), (.getfield 34, 3, 11, 9, .null), (.iload_n 2, 1, 2, 0, .null)] 90 (.iaload) 1 = true := by decide +kernel
theorem b_X11_nearer_91_91 : bl2 mX11_nearer 91 [] 91 (.invokestatic 137) 3 = true := by decide +kernel
theorem b_X11_nearer_94_96 : bl2 mX11_nearer 94 [(.iload 4, 2, 4, 0, .null)] 96 (.if_icmp .ge 6) 3 = true := by decide +kernel
set_option maxRecDepth 20000 in
set_option maxHeartbeats 2000000 in
theorem ml_nearer (E : EE) (L : Nat) (F : FF) (n : Nat) (hn : F 48 3 = nI n) (hn10 : n ≤ 10) (a b : Nat) (w clr : Int32) (ha : a < 11) (hb : b < 11) : ∀ (k : Nat) (i : Nat), i + k = n → R2 E L mX11_nearer 2 18 [some (.ref 48), some (.int (nI a)), some (.int (nI b)), some (.int w), some (.int clr), some (.int (nI i)), none] [] F (fun r' F' => r' = some (.int (fnr (F 57) a b w clr k i)) ∧ F' = F) := by
  intro k
  induction k with
  | zero =>
    intro i hi
    refine R2.B (ls2 := [some (.ref 48), some (.int (nI a)), some (.int (nI b)), some (.int w), some (.int clr), some (.int (nI i)), none]) (st2 := [.int (F 48 3), .int (nI i)]) b_X11_nearer_18_24 rfl (fun hd => ?_)
    rw [show (F 48 3 : Int32) = nI n from hn]
    refine R2.icmp_ge 108 hd (by decide) (fun c24 => ?_) (fun c24 => absurd (nI_le (by omega) (by omega)) c24)
    refine R2.B (ls2 := [some (.ref 48), some (.int (nI a)), some (.int (nI b)), some (.int w), some (.int clr), some (.int (nI i)), none]) (st2 := [.int (-1)]) b_X11_nearer_108_109 rfl (fun hd => ?_)
    exact R2.ret3 (r := some (.int (-1))) hd trivial rfl (congrArg (fun z => some (Value.int z)) (by clear hd; simp only [fnr] <;> grind)) rfl
  | succ k ih =>
    intro i hi
    refine R2.B (ls2 := [some (.ref 48), some (.int (nI a)), some (.int (nI b)), some (.int w), some (.int clr), some (.int (nI i)), none]) (st2 := [.int (F 48 3), .int (nI i)]) b_X11_nearer_18_24 rfl (fun hd => ?_)
    rw [show (F 48 3 : Int32) = nI n from hn]
    refine R2.icmp_ge 108 hd (by decide) (fun c24 => absurd c24 (nI_ge (by omega) (by omega))) (fun c24 => ?_)
    refine R2.B (ls2 := [some (.ref 48), some (.int (nI a)), some (.int (nI b)), some (.int w), some (.int clr), some (.int (nI i)), none]) (st2 := [.int (nI a), .int (nI i)]) b_X11_nearer_27_30 rfl (fun hd => ?_)
    refine R2.icmp_eq 49 hd (by decide) (fun c30 => ?_) (fun c30 => ?_)
    · have nc30 : i = a := (nI_eq (a := i) (b := a) (by omega) (by omega)).mp c30
      refine R2.B (ls2 := [some (.ref 48), some (.int (nI a)), some (.int (nI b)), some (.int w), some (.int clr), some (.int (nI i)), some (.int 0)]) (st2 := [.int 0]) b_X11_nearer_49_54 rfl (fun hd => ?_)
      refine R2.if_eq 102 hd (by decide) (fun c54 => ?_) (fun c54 => absurd (by decide) c54)
      refine R2.B (ls2 := [some (.ref 48), some (.int (nI a)), some (.int (nI b)), some (.int w), some (.int clr), some (.int ((nI i) + 1)), some (.int 0)]) (st2 := []) b_X11_nearer_102_18 rfl (fun hd => ?_)
      rw [show ((nI i) + 1 : Int32) = nI (i + 1) from nI_add i 1]
      rw [show fnr (F 57) a b w clr (k + 1) i = fnr (F 57) a b w clr k (i + 1) from (by clear hd; simp only [fnr] <;> grind)]
      refine R2.forget (ls2 := [some (.ref 48), some (.int (nI a)), some (.int (nI b)), some (.int w), some (.int clr), some (.int (nI (i + 1))), none]) ⟨rfl, ⟨rfl, ⟨rfl, ⟨rfl, ⟨rfl, ⟨rfl, trivial⟩⟩⟩⟩⟩⟩ ?_
      exact ih (i + 1) (by omega)
    · have nc30 : ¬ i = a := fun h9 => c30 ((nI_eq (a := i) (b := a) (by omega) (by omega)).mpr h9)
      refine R2.B (ls2 := [some (.ref 48), some (.int (nI a)), some (.int (nI b)), some (.int w), some (.int clr), some (.int (nI i)), none]) (st2 := [.int (nI b), .int (nI i)]) b_X11_nearer_33_36 rfl (fun hd => ?_)
      refine R2.icmp_eq 49 hd (by decide) (fun c36 => ?_) (fun c36 => ?_)
      · have nc36 : i = b := (nI_eq (a := i) (b := b) (by omega) (by omega)).mp c36
        refine R2.B (ls2 := [some (.ref 48), some (.int (nI a)), some (.int (nI b)), some (.int w), some (.int clr), some (.int (nI i)), some (.int 0)]) (st2 := [.int 0]) b_X11_nearer_49_54 rfl (fun hd => ?_)
        refine R2.if_eq 102 hd (by decide) (fun c54 => ?_) (fun c54 => absurd (by decide) c54)
        refine R2.B (ls2 := [some (.ref 48), some (.int (nI a)), some (.int (nI b)), some (.int w), some (.int clr), some (.int ((nI i) + 1)), some (.int 0)]) (st2 := []) b_X11_nearer_102_18 rfl (fun hd => ?_)
        rw [show ((nI i) + 1 : Int32) = nI (i + 1) from nI_add i 1]
        rw [show fnr (F 57) a b w clr (k + 1) i = fnr (F 57) a b w clr k (i + 1) from (by clear hd; simp only [fnr] <;> grind)]
        refine R2.forget (ls2 := [some (.ref 48), some (.int (nI a)), some (.int (nI b)), some (.int w), some (.int clr), some (.int (nI (i + 1))), none]) ⟨rfl, ⟨rfl, ⟨rfl, ⟨rfl, ⟨rfl, ⟨rfl, trivial⟩⟩⟩⟩⟩⟩ ?_
        exact ih (i + 1) (by omega)
      · have nc36 : ¬ i = b := fun h9 => c36 ((nI_eq (a := i) (b := b) (by omega) (by omega)).mpr h9)
        refine R2.B (ls2 := [some (.ref 48), some (.int (nI a)), some (.int (nI b)), some (.int w), some (.int clr), some (.int (nI i)), none]) (st2 := [.int w, .int (nI i)]) b_X11_nearer_39_42 rfl (fun hd => ?_)
        refine R2.icmp_eq 49 hd (by decide) (fun c42 => ?_) (fun c42 => ?_)
        · refine R2.B (ls2 := [some (.ref 48), some (.int (nI a)), some (.int (nI b)), some (.int w), some (.int clr), some (.int (nI i)), some (.int 0)]) (st2 := [.int 0]) b_X11_nearer_49_54 rfl (fun hd => ?_)
          refine R2.if_eq 102 hd (by decide) (fun c54 => ?_) (fun c54 => absurd (by decide) c54)
          refine R2.B (ls2 := [some (.ref 48), some (.int (nI a)), some (.int (nI b)), some (.int w), some (.int clr), some (.int ((nI i) + 1)), some (.int 0)]) (st2 := []) b_X11_nearer_102_18 rfl (fun hd => ?_)
          rw [show ((nI i) + 1 : Int32) = nI (i + 1) from nI_add i 1]
          rw [show fnr (F 57) a b w clr (k + 1) i = fnr (F 57) a b w clr k (i + 1) from (by clear hd; simp only [fnr] <;> grind)]
          refine R2.forget (ls2 := [some (.ref 48), some (.int (nI a)), some (.int (nI b)), some (.int w), some (.int clr), some (.int (nI (i + 1))), none]) ⟨rfl, ⟨rfl, ⟨rfl, ⟨rfl, ⟨rfl, ⟨rfl, trivial⟩⟩⟩⟩⟩⟩ ?_
          exact ih (i + 1) (by omega)
        · refine R2.B (ls2 := [some (.ref 48), some (.int (nI a)), some (.int (nI b)), some (.int w), some (.int clr), some (.int (nI i)), some (.int 1)]) (st2 := [.int 1]) b_X11_nearer_45_54 rfl (fun hd => ?_)
          refine R2.if_eq 102 hd (by decide) (fun c54 => absurd c54 (by decide)) (fun c54 => ?_)
          refine R2.B (ls2 := [some (.ref 48), some (.int (nI a)), some (.int (nI b)), some (.int w), some (.int clr), some (.int (nI i)), some (.int 1)]) (st2 := [.int (nI i), .ref 57]) b_X11_nearer_57_63 rfl (fun hd => ?_)
          refine R2.iald i rfl hd rfl (fun _ => rfl) (by decide) (by omega) ?_
          refine R2.B (ls2 := [some (.ref 48), some (.int (nI a)), some (.int (nI b)), some (.int w), some (.int clr), some (.int (nI i)), some (.int 1)]) (st2 := [.int (nI a), .ref 57, .int (F 57 i)]) b_X11_nearer_64_69 rfl (fun hd => ?_)
          refine R2.iald a rfl hd rfl (fun _ => rfl) (by decide) (by omega) ?_
          refine R2.B (ls2 := [some (.ref 48), some (.int (nI a)), some (.int (nI b)), some (.int w), some (.int clr), some (.int (nI i)), some (.int 1)]) (st2 := [.int (F 57 a), .int (F 57 i)]) b_X11_nearer_70_70 rfl (fun hd => ?_)
          refine R2.callS3 (M2 := mX11_awayBy) (As := [.int (F 57 i), .int (F 57 a)]) (rest := []) hd lk_11_137 okX11_awayBy (by decide) (me_awayBy E L F (F 57 i) (F 57 a)) (by decide) rfl rfl (Nat.le_of_ble_eq_true rfl) ?_
          refine R2.B (ls2 := [some (.ref 48), some (.int (nI a)), some (.int (nI b)), some (.int w), some (.int clr), some (.int (nI i)), some (.int 1)]) (st2 := [.int clr, .int (awy (F 57 i) (F 57 a))]) b_X11_nearer_73_75 rfl (fun hd => ?_)
          refine R2.icmp_lt 99 hd (by decide) (fun c75 => ?_) (fun c75 => ?_)
          · refine R2.B (ls2 := [some (.ref 48), some (.int (nI a)), some (.int (nI b)), some (.int w), some (.int clr), some (.int (nI i)), some (.int 1)]) (st2 := [.int (nI i)]) b_X11_nearer_99_101 rfl (fun hd => ?_)
            exact R2.ret3 (r := some (.int (nI i))) hd trivial rfl (congrArg (fun z => some (Value.int z)) (by clear hd; simp only [fnr] <;> grind)) rfl
          · refine R2.B (ls2 := [some (.ref 48), some (.int (nI a)), some (.int (nI b)), some (.int w), some (.int clr), some (.int (nI i)), some (.int 1)]) (st2 := [.int (nI i), .ref 57]) b_X11_nearer_78_84 rfl (fun hd => ?_)
            refine R2.iald i rfl hd rfl (fun _ => rfl) (by decide) (by omega) ?_
            refine R2.B (ls2 := [some (.ref 48), some (.int (nI a)), some (.int (nI b)), some (.int w), some (.int clr), some (.int (nI i)), some (.int 1)]) (st2 := [.int (nI b), .ref 57, .int (F 57 i)]) b_X11_nearer_85_90 rfl (fun hd => ?_)
            refine R2.iald b rfl hd rfl (fun _ => rfl) (by decide) (by omega) ?_
            refine R2.B (ls2 := [some (.ref 48), some (.int (nI a)), some (.int (nI b)), some (.int w), some (.int clr), some (.int (nI i)), some (.int 1)]) (st2 := [.int (F 57 b), .int (F 57 i)]) b_X11_nearer_91_91 rfl (fun hd => ?_)
            refine R2.callS3 (M2 := mX11_awayBy) (As := [.int (F 57 i), .int (F 57 b)]) (rest := []) hd lk_11_137 okX11_awayBy (by decide) (me_awayBy E L F (F 57 i) (F 57 b)) (by decide) rfl rfl (Nat.le_of_ble_eq_true rfl) ?_
            refine R2.B (ls2 := [some (.ref 48), some (.int (nI a)), some (.int (nI b)), some (.int w), some (.int clr), some (.int (nI i)), some (.int 1)]) (st2 := [.int clr, .int (awy (F 57 i) (F 57 b))]) b_X11_nearer_94_96 rfl (fun hd => ?_)
            refine R2.icmp_ge 102 hd (by decide) (fun c96 => ?_) (fun c96 => ?_)
            · refine R2.B (ls2 := [some (.ref 48), some (.int (nI a)), some (.int (nI b)), some (.int w), some (.int clr), some (.int ((nI i) + 1)), some (.int 1)]) (st2 := []) b_X11_nearer_102_18 rfl (fun hd => ?_)
              rw [show ((nI i) + 1 : Int32) = nI (i + 1) from nI_add i 1]
              rw [show fnr (F 57) a b w clr (k + 1) i = fnr (F 57) a b w clr k (i + 1) from (by clear hd; simp only [fnr] <;> grind)]
              refine R2.forget (ls2 := [some (.ref 48), some (.int (nI a)), some (.int (nI b)), some (.int w), some (.int clr), some (.int (nI (i + 1))), none]) ⟨rfl, ⟨rfl, ⟨rfl, ⟨rfl, ⟨rfl, ⟨rfl, trivial⟩⟩⟩⟩⟩⟩ ?_
              exact ih (i + 1) (by omega)
            · refine R2.B (ls2 := [some (.ref 48), some (.int (nI a)), some (.int (nI b)), some (.int w), some (.int clr), some (.int (nI i)), some (.int 1)]) (st2 := [.int (nI i)]) b_X11_nearer_99_101 rfl (fun hd => ?_)
              exact R2.ret3 (r := some (.int (nI i))) hd trivial rfl (congrArg (fun z => some (Value.int z)) (by clear hd; simp only [fnr] <;> grind)) rfl
theorem b_X11_nearer_0_5 : bl2 mX11_nearer 0 [(.aload_n 0, 1, 0, 0, .null), (.getfield 16, 3, 11, 2, .null), (.iconst 1, 1, 0, 0, .int 1)] 5 (.iaload) 1 = true := by decide +kernel
theorem b_X11_nearer_6_11 : bl2 mX11_nearer 6 [(.aload_n 0, 1, 0, 0, .null), (.getfield 16, 3, 11, 2, .null), (.iconst 1, 1, 0, 0, .int 1)] 11 (.iaload) 1 = true := by decide +kernel
theorem b_X11_nearer_12_18 : bl2 mX11_nearer 12 [(.imul, 1, 0, 0, .null), (.istore 4, 2, 4, 0, .null), (.iconst 0, 1, 0, 0, .int 0), (.istore 5, 2, 5, 0, .null)] 18 (.iload 5) 2 = true := by decide +kernel
set_option maxRecDepth 20000 in
set_option maxHeartbeats 1000000 in
theorem me_nearer (E : EE) (L : Nat) (F : FF) (n : Nat) (hn : F 48 3 = nI n) (hn10 : n ≤ 10) (a b : Nat) (w : Int32) (ha : a < 11) (hb : b < 11) : Ev3 E L 2 mX11_nearer [.ref 48, .int (nI a), .int (nI b), .int w] F (some (.int (fnr (F 57) a b w (F 51 1 * F 51 1) n 0))) F := by
  refine Ev3.of okX11_nearer.2.2.1 (Nat.le_of_ble_eq_true rfl) ?_
  show R2 E L mX11_nearer 2 0 [some (.ref 48), some (.int (nI a)), some (.int (nI b)), some (.int w), none, none, none] [] F _
  refine R2.B (ls2 := [some (.ref 48), some (.int (nI a)), some (.int (nI b)), some (.int w), none, none, none]) (st2 := [.int 1, .ref 51]) b_X11_nearer_0_5 rfl (fun hd => ?_)
  refine R2.iald 1 rfl hd rfl (fun _ => rfl) (by decide) (by omega) ?_
  refine R2.B (ls2 := [some (.ref 48), some (.int (nI a)), some (.int (nI b)), some (.int w), none, none, none]) (st2 := [.int 1, .ref 51, .int (F 51 1)]) b_X11_nearer_6_11 rfl (fun hd => ?_)
  refine R2.iald 1 rfl hd rfl (fun _ => rfl) (by decide) (by omega) ?_
  refine R2.B (ls2 := [some (.ref 48), some (.int (nI a)), some (.int (nI b)), some (.int w), some (.int ((F 51 1) * (F 51 1))), some (.int 0), none]) (st2 := []) b_X11_nearer_12_18 rfl (fun hd => ?_)
  exact ml_nearer E L F n hn hn10 a b w _ ha hb n 0 (by omega)
