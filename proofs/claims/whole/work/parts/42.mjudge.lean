theorem b_X11_judges_28_33 : bl2 mX11_judges 28 [(.iload_n 3, 1, 3, 0, .null), (.aload_n 0, 1, 0, 0, .null), (.getfield 122, 3, 11, 10, .null)] 33 (.if_icmp .ge 197) 3 = true := by decide +kernel
theorem b_X11_judges_230_230 : bl2 mX11_judges 230 [] 230 (.return_) 1 = true := by decide +kernel
theorem b_X11_judges_36_41 : bl2 mX11_judges 36 [(.aload_n 0, 1, 0, 0, .null), (.getfield 198, 3, 11, 16, .null), (.iconst (-1), 1, 0, 0, .int (-1))] 41 (.if_icmp .ne 189) 3 = true := by decide +kernel
theorem b_X11_judges_44_49 : bl2 mX11_judges 44 [(.aload_n 0, 1, 0, 0, .null), (.getfield 37, 3, 11, 11, .null), (.iload_n 3, 1, 3, 0, .null)] 49 (.iaload) 1 = true := by decide +kernel
theorem b_X11_judges_50_57 : bl2 mX11_judges 50 [(.istore 4, 2, 4, 0, .null), (.aload_n 0, 1, 0, 0, .null), (.getfield 40, 3, 11, 12, .null), (.iload_n 3, 1, 3, 0, .null)] 57 (.iaload) 1 = true := by decide +kernel
theorem b_X11_judges_58_65 : bl2 mX11_judges 58 [(.istore 5, 2, 5, 0, .null), (.aload_n 0, 1, 0, 0, .null), (.getfield 43, 3, 11, 13, .null), (.iload_n 3, 1, 3, 0, .null)] 65 (.iaload) 1 = true := by decide +kernel
theorem b_X11_judges_66_66 : bl2 mX11_judges 66 [] 66 (.ifCond .ne 82) 3 = true := by decide +kernel
theorem b_X11_judges_69_75 : bl2 mX11_judges 69 [(.aload_n 0, 1, 0, 0, .null), (.getfield 34, 3, 11, 9, .null), (.iload 4, 2, 4, 0, .null)] 75 (.iaload) 1 = true := by decide +kernel
theorem b_X11_judges_76_78 : bl2 mX11_judges 76 [(.iload 5, 2, 5, 0, .null)] 78 (.invokestatic 143) 3 = true := by decide +kernel
theorem b_X11_judges_81_86 : bl2 mX11_judges 81 [(.istore 6, 2, 6, 0, .null), (.iload 6, 2, 6, 0, .null), (.iconst (-1), 1, 0, 0, .int (-1))] 86 (.if_icmp .eq 18) 3 = true := by decide +kernel
theorem b_X11_judges_104_110 : bl2 mX11_judges 104 [(.iconst 0, 1, 0, 0, .int 0), (.istore 7, 2, 7, 0, .null), (.aload_n 0, 1, 0, 0, .null), (.iload 7, 2, 7, 0, .null)] 110 (.ifCond .eq 7) 3 = true := by decide +kernel
theorem b_X11_judges_117_118 : bl2 mX11_judges 117 [(.iload_n 3, 1, 3, 0, .null)] 118 (.putfield 198) 3 = true := by decide +kernel
theorem b_X11_judges_121_129 : bl2 mX11_judges 121 [(.aload_n 0, 1, 0, 0, .null), (.getfield 34, 3, 11, 9, .null), (.iload 4, 2, 4, 0, .null), (.iload 7, 2, 7, 0, .null)] 129 (.ifCond .eq 8) 3 = true := by decide +kernel
theorem b_X11_judges_137_143 : bl2 mX11_judges 137 [(.aload_n 0, 1, 0, 0, .null), (.getfield 34, 3, 11, 9, .null), (.iload 4, 2, 4, 0, .null)] 143 (.iaload) 1 = true := by decide +kernel
theorem b_X11_judges_144_144 : bl2 mX11_judges 144 [] 144 (.iastore) 1 = true := by decide +kernel
theorem b_X11_judges_145_28 : bl2 mX11_judges 145 [(.goto 79, 3, 224, 0, .null), (.iinc 3 1, 3, 3, 0, .int 1), (.goto (-199), 3, 28, 0, .null)] 28 (.iload_n 3) 1 = true := by decide +kernel
theorem b_X11_judges_89_94 : bl2 mX11_judges 89 [(.aload_n 0, 1, 0, 0, .null), (.iload 4, 2, 4, 0, .null), (.iload 6, 2, 6, 0, .null)] 94 (.invokevirtual 146) 3 = true := by decide +kernel
theorem b_X11_judges_97_97 : bl2 mX11_judges 97 [] 97 (.ifCond .eq 7) 3 = true := by decide +kernel
theorem b_X11_judges_100_110 : bl2 mX11_judges 100 [(.iconst 1, 1, 0, 0, .int 1), (.goto 4, 3, 105, 0, .null), (.istore 7, 2, 7, 0, .null), (.aload_n 0, 1, 0, 0, .null), (.iload 7, 2, 7, 0, .null)] 110 (.ifCond .eq 7) 3 = true := by decide +kernel
theorem b_X11_judges_113_118 : bl2 mX11_judges 113 [(.iconst (-1), 1, 0, 0, .int (-1)), (.goto 4, 3, 118, 0, .null)] 118 (.putfield 198) 3 = true := by decide +kernel
theorem b_X11_judges_132_144 : bl2 mX11_judges 132 [(.iload 6, 2, 6, 0, .null), (.goto 10, 3, 144, 0, .null)] 144 (.iastore) 1 = true := by decide +kernel
theorem b_X11_judges_148_153 : bl2 mX11_judges 148 [(.aload_n 0, 1, 0, 0, .null), (.iload 4, 2, 4, 0, .null), (.iload 5, 2, 5, 0, .null)] 153 (.invokevirtual 176) 3 = true := by decide +kernel
theorem b_X11_judges_156_156 : bl2 mX11_judges 156 [] 156 (.ifCond .eq 63) 3 = true := by decide +kernel
theorem b_X11_judges_219_221 : bl2 mX11_judges 219 [(.aload_n 0, 1, 0, 0, .null), (.iload_n 3, 1, 3, 0, .null)] 221 (.putfield 198) 3 = true := by decide +kernel
theorem b_X11_judges_224_28 : bl2 mX11_judges 224 [(.iinc 3 1, 3, 3, 0, .int 1), (.goto (-199), 3, 28, 0, .null)] 28 (.iload_n 3) 1 = true := by decide +kernel
theorem b_X11_judges_159_162 : bl2 mX11_judges 159 [(.iload_n 2, 1, 2, 0, .null), (.iload 4, 2, 4, 0, .null)] 162 (.invokestatic 185) 3 = true := by decide +kernel
theorem b_X11_judges_165_165 : bl2 mX11_judges 165 [] 165 (.ifCond .ne 54) 3 = true := by decide +kernel
theorem b_X11_judges_168_171 : bl2 mX11_judges 168 [(.iload_n 2, 1, 2, 0, .null), (.iload 5, 2, 5, 0, .null)] 171 (.invokestatic 185) 3 = true := by decide +kernel
theorem b_X11_judges_174_174 : bl2 mX11_judges 174 [] 174 (.ifCond .ne 45) 3 = true := by decide +kernel
theorem b_X11_judges_177_196 : bl2 mX11_judges 177 [(.iload_n 2, 1, 2, 0, .null), (.iconst 1, 1, 0, 0, .int 1), (.iload 4, 2, 4, 0, .null), (.ishl, 1, 0, 0, .null), (.iconst 1, 1, 0, 0, .int 1), (.iload 5, 2, 5, 0, .null), (.ishl, 1, 0, 0, .null), (.ior, 1, 0, 0, .null), (.ior, 1, 0, 0, .null), (.istore_n 2, 1, 2, 0, .null), (.aload_n 0, 1, 0, 0, .null), (.dup, 1, 0, 0, .null), (.getfield 201, 3, 11, 17, .null), (.iconst 1, 1, 0, 0, .int 1), (.iadd, 1, 0, 0, .null)] 196 (.putfield 201) 3 = true := by decide +kernel
theorem b_X11_judges_199_209 : bl2 mX11_judges 199 [(.aload_n 0, 1, 0, 0, .null), (.dup, 1, 0, 0, .null), (.getfield 204, 3, 11, 18, .null), (.aload_n 0, 1, 0, 0, .null), (.iload 4, 2, 4, 0, .null), (.iload 5, 2, 5, 0, .null)] 209 (.invokevirtual 166) 3 = true := by decide +kernel
theorem b_X11_judges_212_213 : bl2 mX11_judges 212 [(.iadd, 1, 0, 0, .null)] 213 (.putfield 204) 3 = true := by decide +kernel
theorem b_X11_judges_216_28 : bl2 mX11_judges 216 [(.goto 8, 3, 224, 0, .null), (.iinc 3 1, 3, 3, 0, .int 1), (.goto (-199), 3, 28, 0, .null)] 28 (.iload_n 3) 1 = true := by decide +kernel
theorem MFair.of {F F' : FF} {n s : Nat} (h : MFair F n s) (e1 : F' 48 10 = F 48 10) (e2 : F' 58 = F 58) (e3 : F' 59 = F 59) (e4 : F' 60 = F 60) : MFair F' n s := by unfold MFair; rw [e1, e2, e3, e4]; exact h
set_option maxRecDepth 20000 in
set_option maxHeartbeats 2000000 in
theorem ml_jg (E : EE) (L : Nat) (n s : Nat) (hn10 : n ≤ 10) : ∀ (k q : Nat) (had : Int32) (F : FF), q + k = s → F 48 3 = nI n → MFair F n s → R2 E L mX11_judges 6 28 [some (.ref 48), none, some (.int had), some (.int (nI q)), none, none, none, none] [] F (fun r' F' => r' = none ∧ F' = mjL n k q had F) := by
  intro k
  induction k with
  | zero =>
    intro q had F hi hn hf
    have hs20 := hf.2.1
    refine R2.B (ls2 := [some (.ref 48), none, some (.int had), some (.int (nI q)), none, none, none, none]) (st2 := [.int (F 48 10), .int (nI q)]) b_X11_judges_28_33 rfl (fun hd => ?_)
    rw [show (F 48 10 : Int32) = nI s from hf.1]
    refine R2.icmp_ge 230 hd (by decide) (fun c33 => ?_) (fun c33 => absurd (nI_le (by omega) (by omega)) c33)
    refine R2.B (ls2 := [some (.ref 48), none, some (.int had), some (.int (nI q)), none, none, none, none]) (st2 := []) b_X11_judges_230_230 rfl (fun hd => ?_)
    exact R2.ret3 (r := none) hd trivial rfl rfl rfl
  | succ k ih =>
    intro q had F hi hn hf
    have hs20 := hf.2.1
    obtain ⟨a, b, ha, e1, e2, hk⟩ := hf.2.2 q (by omega)
    rcases hk with ⟨hz, hb⟩ | ⟨hz, hb⟩
    · refine R2.B (ls2 := [some (.ref 48), none, some (.int had), some (.int (nI q)), none, none, none, none]) (st2 := [.int (F 48 10), .int (nI q)]) b_X11_judges_28_33 rfl (fun hd => ?_)
      rw [show (F 48 10 : Int32) = nI s from hf.1]
      refine R2.icmp_ge 230 hd (by decide) (fun c33 => absurd c33 (nI_ge (by omega) (by omega))) (fun c33 => ?_)
      refine R2.B (ls2 := [some (.ref 48), none, some (.int had), some (.int (nI q)), none, none, none, none]) (st2 := [.int (-1), .int (F 48 16)]) b_X11_judges_36_41 rfl (fun hd => ?_)
      refine R2.icmp_ne 230 hd (by decide) (fun c41 => ?_) (fun c41 => ?_)
      · refine R2.B (ls2 := [some (.ref 48), none, some (.int had), some (.int (nI q)), none, none, none, none]) (st2 := []) b_X11_judges_230_230 rfl (fun hd => ?_)
        exact R2.ret3 (r := none) hd trivial rfl rfl (by simp only [mjL]; rw [if_neg c41])
      · refine R2.B (ls2 := [some (.ref 48), none, some (.int had), some (.int (nI q)), none, none, none, none]) (st2 := [.int (nI q), .ref 58]) b_X11_judges_44_49 rfl (fun hd => ?_)
        refine R2.iald q rfl hd rfl (fun _ => rfl) (by decide) (by omega) ?_
        refine R2.top (show (F 58 q : Int32) = nI a from e1) ?_
        refine R2.B (ls2 := [some (.ref 48), none, some (.int had), some (.int (nI q)), some (.int (nI a)), none, none, none]) (st2 := [.int (nI q), .ref 59]) b_X11_judges_50_57 rfl (fun hd => ?_)
        refine R2.iald q rfl hd rfl (fun _ => rfl) (by decide) (by omega) ?_
        refine R2.top (show (F 59 q : Int32) = nI b from e2) ?_
        refine R2.B (ls2 := [some (.ref 48), none, some (.int had), some (.int (nI q)), some (.int (nI a)), some (.int (nI b)), none, none]) (st2 := [.int (nI q), .ref 60]) b_X11_judges_58_65 rfl (fun hd => ?_)
        refine R2.iald q rfl hd rfl (fun _ => rfl) (by decide) (by omega) ?_
        refine R2.B (ls2 := [some (.ref 48), none, some (.int had), some (.int (nI q)), some (.int (nI a)), some (.int (nI b)), none, none]) (st2 := [.int (F 60 q)]) b_X11_judges_66_66 rfl (fun hd => ?_)
        refine R2.if_ne 148 hd (by decide) (fun c66 => absurd (hz) c66) (fun c66 => ?_)
        refine R2.B (ls2 := [some (.ref 48), none, some (.int had), some (.int (nI q)), some (.int (nI a)), some (.int (nI b)), none, none]) (st2 := [.int (nI a), .ref 57]) b_X11_judges_69_75 rfl (fun hd => ?_)
        refine R2.iald a rfl hd rfl (fun _ => rfl) (by decide) (by omega) ?_
        refine R2.B (ls2 := [some (.ref 48), none, some (.int had), some (.int (nI q)), some (.int (nI a)), some (.int (nI b)), none, none]) (st2 := [.int (nI b), .int (F 57 a)]) b_X11_judges_76_78 rfl (fun hd => ?_)
        refine R2.callS3 (M2 := mX11_stepTo) (As := [.int (F 57 a), .int (nI b)]) (rest := []) hd lk_11_143 okX11_stepTo (by decide) (me_stepTo E L F (F 57 a) b (by omega)) (by decide) rfl rfl (Nat.le_of_ble_eq_true rfl) ?_
        refine R2.B (ls2 := [some (.ref 48), none, some (.int had), some (.int (nI q)), some (.int (nI a)), some (.int (nI b)), some (.int (nbr (F 57 a) b)), none]) (st2 := [.int (-1), .int (nbr (F 57 a) b)]) b_X11_judges_81_86 rfl (fun hd => ?_)
        refine R2.icmp_eq 104 hd (by decide) (fun c86 => ?_) (fun c86 => ?_)
        · refine R2.B (ls2 := [some (.ref 48), none, some (.int had), some (.int (nI q)), some (.int (nI a)), some (.int (nI b)), some (.int (nbr (F 57 a) b)), some (.int 0)]) (st2 := [.int 0, .ref 48]) b_X11_judges_104_110 rfl (fun hd => ?_)
          refine R2.if_eq 117 hd (by decide) (fun c110 => ?_) (fun c110 => absurd (by decide) c110)
          refine R2.B (ls2 := [some (.ref 48), none, some (.int had), some (.int (nI q)), some (.int (nI a)), some (.int (nI b)), some (.int (nbr (F 57 a) b)), some (.int 0)]) (st2 := [.int (nI q), .ref 48]) b_X11_judges_117_118 rfl (fun hd => ?_)
          refine R2.putf (a := 11) (b := 16) hd (by decide) (by decide) rfl rfl (fun _ => rfl) ?_
          refine R2.B (ls2 := [some (.ref 48), none, some (.int had), some (.int (nI q)), some (.int (nI a)), some (.int (nI b)), some (.int (nbr (F 57 a) b)), some (.int 0)]) (st2 := [.int 0, .int (nI a), .ref 57]) b_X11_judges_121_129 rfl (fun hd => ?_)
          refine R2.if_eq 137 hd (by decide) (fun c129 => ?_) (fun c129 => absurd (by decide) c129)
          refine R2.B (ls2 := [some (.ref 48), none, some (.int had), some (.int (nI q)), some (.int (nI a)), some (.int (nI b)), some (.int (nbr (F 57 a) b)), some (.int 0)]) (st2 := [.int (nI a), .ref 57, .int (nI a), .ref 57]) b_X11_judges_137_143 rfl (fun hd => ?_)
          refine R2.iald a rfl hd rfl (fun _ => rfl) (by decide) (by omega) ?_
          refine R2.B (ls2 := [some (.ref 48), none, some (.int had), some (.int (nI q)), some (.int (nI a)), some (.int (nI b)), some (.int (nbr (F 57 a) b)), some (.int 0)]) (st2 := [.int (F 57 a), .int (nI a), .ref 57]) b_X11_judges_144_144 rfl (fun hd => ?_)
          refine R2.iast a rfl hd (by decide) rfl (fun _ => rfl) (by decide) (by omega) ?_
          refine R2.B (ls2 := [some (.ref 48), none, some (.int had), some (.int ((nI q) + 1)), some (.int (nI a)), some (.int (nI b)), some (.int (nbr (F 57 a) b)), some (.int 0)]) (st2 := []) b_X11_judges_145_28 rfl (fun hd => ?_)
          rw [show ((nI q) + 1 : Int32) = nI (q + 1) from nI_add q 1]
          have e : mjL n (k + 1) q had F = mjL n k (q + 1) had (up2 (up2 F 48 16 (nI q)) 57 a (F 57 a)) := by
            simp only [mjL]; rw [if_pos c41, e1, e2, nI_clamp (by omega), nI_clamp (by omega)]; rw [if_pos hz]; first | rw [if_pos (by clear hd ih; grind)] | rw [if_neg (by clear hd ih; grind)]
          rw [e]
          refine R2.forget (ls2 := [some (.ref 48), none, some (.int had), some (.int (nI (q + 1))), none, none, none, none]) ⟨rfl, ⟨rfl, ⟨rfl, trivial⟩⟩⟩ ?_
          exact ih (q + 1) _ _ (by omega) hn (hf.of rfl rfl rfl rfl)
        · refine R2.B (ls2 := [some (.ref 48), none, some (.int had), some (.int (nI q)), some (.int (nI a)), some (.int (nI b)), some (.int (nbr (F 57 a) b)), none]) (st2 := [.int (nbr (F 57 a) b), .int (nI a), .ref 48]) b_X11_judges_89_94 rfl (fun hd => ?_)
          refine R2.callV3 (M2 := mX11_isFree) (As := [.int (nI a), .int (nbr (F 57 a) b)]) (rest := []) hd lk_11_146 okX11_isFree (by decide) rfl (me_isFree E L F n hn hn10 a (nbr (F 57 a) b) (by omega)) (by decide) rfl rfl (Nat.le_of_ble_eq_true rfl) ?_
          refine R2.B (ls2 := [some (.ref 48), none, some (.int had), some (.int (nI q)), some (.int (nI a)), some (.int (nI b)), some (.int (nbr (F 57 a) b)), none]) (st2 := [.int (b2i (mayS (F 57) a (nbr (F 57 a) b) (F 51 2 * F 51 2) n 0 = true))]) b_X11_judges_97_97 rfl (fun hd => ?_)
          refine R2.if_eq 104 hd (by decide) (fun c97 => ?_) (fun c97 => ?_)
          · have nc97 : ¬ (mayS (F 57) a (nbr (F 57 a) b) (F 51 2 * F 51 2) n 0 = true) := b2i_zero.mp c97
            refine R2.B (ls2 := [some (.ref 48), none, some (.int had), some (.int (nI q)), some (.int (nI a)), some (.int (nI b)), some (.int (nbr (F 57 a) b)), some (.int 0)]) (st2 := [.int 0, .ref 48]) b_X11_judges_104_110 rfl (fun hd => ?_)
            refine R2.if_eq 117 hd (by decide) (fun c110 => ?_) (fun c110 => absurd (by decide) c110)
            refine R2.B (ls2 := [some (.ref 48), none, some (.int had), some (.int (nI q)), some (.int (nI a)), some (.int (nI b)), some (.int (nbr (F 57 a) b)), some (.int 0)]) (st2 := [.int (nI q), .ref 48]) b_X11_judges_117_118 rfl (fun hd => ?_)
            refine R2.putf (a := 11) (b := 16) hd (by decide) (by decide) rfl rfl (fun _ => rfl) ?_
            refine R2.B (ls2 := [some (.ref 48), none, some (.int had), some (.int (nI q)), some (.int (nI a)), some (.int (nI b)), some (.int (nbr (F 57 a) b)), some (.int 0)]) (st2 := [.int 0, .int (nI a), .ref 57]) b_X11_judges_121_129 rfl (fun hd => ?_)
            refine R2.if_eq 137 hd (by decide) (fun c129 => ?_) (fun c129 => absurd (by decide) c129)
            refine R2.B (ls2 := [some (.ref 48), none, some (.int had), some (.int (nI q)), some (.int (nI a)), some (.int (nI b)), some (.int (nbr (F 57 a) b)), some (.int 0)]) (st2 := [.int (nI a), .ref 57, .int (nI a), .ref 57]) b_X11_judges_137_143 rfl (fun hd => ?_)
            refine R2.iald a rfl hd rfl (fun _ => rfl) (by decide) (by omega) ?_
            refine R2.B (ls2 := [some (.ref 48), none, some (.int had), some (.int (nI q)), some (.int (nI a)), some (.int (nI b)), some (.int (nbr (F 57 a) b)), some (.int 0)]) (st2 := [.int (F 57 a), .int (nI a), .ref 57]) b_X11_judges_144_144 rfl (fun hd => ?_)
            refine R2.iast a rfl hd (by decide) rfl (fun _ => rfl) (by decide) (by omega) ?_
            refine R2.B (ls2 := [some (.ref 48), none, some (.int had), some (.int ((nI q) + 1)), some (.int (nI a)), some (.int (nI b)), some (.int (nbr (F 57 a) b)), some (.int 0)]) (st2 := []) b_X11_judges_145_28 rfl (fun hd => ?_)
            rw [show ((nI q) + 1 : Int32) = nI (q + 1) from nI_add q 1]
            have e : mjL n (k + 1) q had F = mjL n k (q + 1) had (up2 (up2 F 48 16 (nI q)) 57 a (F 57 a)) := by
              simp only [mjL]; rw [if_pos c41, e1, e2, nI_clamp (by omega), nI_clamp (by omega)]; rw [if_pos hz]; first | rw [if_pos (by clear hd ih; grind)] | rw [if_neg (by clear hd ih; grind)]
            rw [e]
            refine R2.forget (ls2 := [some (.ref 48), none, some (.int had), some (.int (nI (q + 1))), none, none, none, none]) ⟨rfl, ⟨rfl, ⟨rfl, trivial⟩⟩⟩ ?_
            exact ih (q + 1) _ _ (by omega) hn (hf.of rfl rfl rfl rfl)
          · have nc97 : mayS (F 57) a (nbr (F 57 a) b) (F 51 2 * F 51 2) n 0 = true := b2i_nz.mp c97
            refine R2.B (ls2 := [some (.ref 48), none, some (.int had), some (.int (nI q)), some (.int (nI a)), some (.int (nI b)), some (.int (nbr (F 57 a) b)), some (.int 1)]) (st2 := [.int 1, .ref 48]) b_X11_judges_100_110 rfl (fun hd => ?_)
            refine R2.if_eq 117 hd (by decide) (fun c110 => absurd c110 (by decide)) (fun c110 => ?_)
            refine R2.B (ls2 := [some (.ref 48), none, some (.int had), some (.int (nI q)), some (.int (nI a)), some (.int (nI b)), some (.int (nbr (F 57 a) b)), some (.int 1)]) (st2 := [.int (-1), .ref 48]) b_X11_judges_113_118 rfl (fun hd => ?_)
            refine R2.putf (a := 11) (b := 16) hd (by decide) (by decide) rfl rfl (fun _ => rfl) ?_
            refine R2.B (ls2 := [some (.ref 48), none, some (.int had), some (.int (nI q)), some (.int (nI a)), some (.int (nI b)), some (.int (nbr (F 57 a) b)), some (.int 1)]) (st2 := [.int 1, .int (nI a), .ref 57]) b_X11_judges_121_129 rfl (fun hd => ?_)
            refine R2.if_eq 137 hd (by decide) (fun c129 => absurd c129 (by decide)) (fun c129 => ?_)
            refine R2.B (ls2 := [some (.ref 48), none, some (.int had), some (.int (nI q)), some (.int (nI a)), some (.int (nI b)), some (.int (nbr (F 57 a) b)), some (.int 1)]) (st2 := [.int (nbr (F 57 a) b), .int (nI a), .ref 57]) b_X11_judges_132_144 rfl (fun hd => ?_)
            refine R2.iast a rfl hd (by decide) rfl (fun _ => rfl) (by decide) (by omega) ?_
            refine R2.B (ls2 := [some (.ref 48), none, some (.int had), some (.int ((nI q) + 1)), some (.int (nI a)), some (.int (nI b)), some (.int (nbr (F 57 a) b)), some (.int 1)]) (st2 := []) b_X11_judges_145_28 rfl (fun hd => ?_)
            rw [show ((nI q) + 1 : Int32) = nI (q + 1) from nI_add q 1]
            have e : mjL n (k + 1) q had F = mjL n k (q + 1) had (up2 (up2 F 48 16 (-1)) 57 a (nbr (F 57 a) b)) := by
              simp only [mjL]; rw [if_pos c41, e1, e2, nI_clamp (by omega), nI_clamp (by omega)]; rw [if_pos hz]; first | rw [if_pos (by clear hd ih; grind)] | rw [if_neg (by clear hd ih; grind)]
            rw [e]
            refine R2.forget (ls2 := [some (.ref 48), none, some (.int had), some (.int (nI (q + 1))), none, none, none, none]) ⟨rfl, ⟨rfl, ⟨rfl, trivial⟩⟩⟩ ?_
            exact ih (q + 1) _ _ (by omega) hn (hf.of rfl rfl rfl rfl)
    · refine R2.B (ls2 := [some (.ref 48), none, some (.int had), some (.int (nI q)), none, none, none, none]) (st2 := [.int (F 48 10), .int (nI q)]) b_X11_judges_28_33 rfl (fun hd => ?_)
      rw [show (F 48 10 : Int32) = nI s from hf.1]
      refine R2.icmp_ge 230 hd (by decide) (fun c33 => absurd c33 (nI_ge (by omega) (by omega))) (fun c33 => ?_)
      refine R2.B (ls2 := [some (.ref 48), none, some (.int had), some (.int (nI q)), none, none, none, none]) (st2 := [.int (-1), .int (F 48 16)]) b_X11_judges_36_41 rfl (fun hd => ?_)
      refine R2.icmp_ne 230 hd (by decide) (fun c41 => ?_) (fun c41 => ?_)
      · refine R2.B (ls2 := [some (.ref 48), none, some (.int had), some (.int (nI q)), none, none, none, none]) (st2 := []) b_X11_judges_230_230 rfl (fun hd => ?_)
        exact R2.ret3 (r := none) hd trivial rfl rfl (by simp only [mjL]; rw [if_neg c41])
      · refine R2.B (ls2 := [some (.ref 48), none, some (.int had), some (.int (nI q)), none, none, none, none]) (st2 := [.int (nI q), .ref 58]) b_X11_judges_44_49 rfl (fun hd => ?_)
        refine R2.iald q rfl hd rfl (fun _ => rfl) (by decide) (by omega) ?_
        refine R2.top (show (F 58 q : Int32) = nI a from e1) ?_
        refine R2.B (ls2 := [some (.ref 48), none, some (.int had), some (.int (nI q)), some (.int (nI a)), none, none, none]) (st2 := [.int (nI q), .ref 59]) b_X11_judges_50_57 rfl (fun hd => ?_)
        refine R2.iald q rfl hd rfl (fun _ => rfl) (by decide) (by omega) ?_
        refine R2.top (show (F 59 q : Int32) = nI b from e2) ?_
        refine R2.B (ls2 := [some (.ref 48), none, some (.int had), some (.int (nI q)), some (.int (nI a)), some (.int (nI b)), none, none]) (st2 := [.int (nI q), .ref 60]) b_X11_judges_58_65 rfl (fun hd => ?_)
        refine R2.iald q rfl hd rfl (fun _ => rfl) (by decide) (by omega) ?_
        refine R2.B (ls2 := [some (.ref 48), none, some (.int had), some (.int (nI q)), some (.int (nI a)), some (.int (nI b)), none, none]) (st2 := [.int (F 60 q)]) b_X11_judges_66_66 rfl (fun hd => ?_)
        refine R2.if_ne 148 hd (by decide) (fun c66 => ?_) (fun c66 => absurd c66 (by rw [hz]; decide))
        refine R2.B (ls2 := [some (.ref 48), none, some (.int had), some (.int (nI q)), some (.int (nI a)), some (.int (nI b)), none, none]) (st2 := [.int (nI b), .int (nI a), .ref 48]) b_X11_judges_148_153 rfl (fun hd => ?_)
        refine R2.callV3 (M2 := mX11_isBound) (As := [.int (nI a), .int (nI b)]) (rest := []) hd lk_11_176 okX11_isBound (by decide) rfl (me_isBound E L F n hn hn10 a b (by omega) (by omega)) (by decide) rfl rfl (Nat.le_of_ble_eq_true rfl) ?_
        refine R2.B (ls2 := [some (.ref 48), none, some (.int had), some (.int (nI q)), some (.int (nI a)), some (.int (nI b)), none, none]) (st2 := [.int (b2i (mvd F n (F 51 0) (-1) a b = 0))]) b_X11_judges_156_156 rfl (fun hd => ?_)
        refine R2.if_eq 219 hd (by decide) (fun c156 => ?_) (fun c156 => ?_)
        · have nc156 : ¬ (mvd F n (F 51 0) (-1) a b = 0) := b2i_zero.mp c156
          refine R2.B (ls2 := [some (.ref 48), none, some (.int had), some (.int (nI q)), some (.int (nI a)), some (.int (nI b)), none, none]) (st2 := [.int (nI q), .ref 48]) b_X11_judges_219_221 rfl (fun hd => ?_)
          refine R2.putf (a := 11) (b := 16) hd (by decide) (by decide) rfl rfl (fun _ => rfl) ?_
          refine R2.B (ls2 := [some (.ref 48), none, some (.int had), some (.int ((nI q) + 1)), some (.int (nI a)), some (.int (nI b)), none, none]) (st2 := []) b_X11_judges_224_28 rfl (fun hd => ?_)
          rw [show ((nI q) + 1 : Int32) = nI (q + 1) from nI_add q 1]
          have e : mjL n (k + 1) q had F = mjL n k (q + 1) had (up2 F 48 16 (nI q)) := by
            simp only [mjL]; rw [if_pos c41, e1, e2, nI_clamp (by omega), nI_clamp (by omega)]; rw [if_neg (show ¬ F 60 q = 0 by rw [hz]; decide)]; first | rw [if_pos (by clear hd ih; grind)] | rw [if_neg (by clear hd ih; grind)]
          rw [e]
          refine R2.forget (ls2 := [some (.ref 48), none, some (.int had), some (.int (nI (q + 1))), none, none, none, none]) ⟨rfl, ⟨rfl, ⟨rfl, trivial⟩⟩⟩ ?_
          exact ih (q + 1) _ _ (by omega) hn (hf.of rfl rfl rfl rfl)
        · have nc156 : mvd F n (F 51 0) (-1) a b = 0 := b2i_nz.mp c156
          refine R2.B (ls2 := [some (.ref 48), none, some (.int had), some (.int (nI q)), some (.int (nI a)), some (.int (nI b)), none, none]) (st2 := [.int (nI a), .int had]) b_X11_judges_159_162 rfl (fun hd => ?_)
          refine R2.callS3 (M2 := mX11_isIn) (As := [.int had, .int (nI a)]) (rest := []) hd lk_11_185 okX11_isIn (by decide) (ev_isIn E L F had (nI a)) (by decide) rfl rfl (Nat.le_of_ble_eq_true rfl) ?_
          refine R2.B (ls2 := [some (.ref 48), none, some (.int had), some (.int (nI q)), some (.int (nI a)), some (.int (nI b)), none, none]) (st2 := [.int (b2i (had >>> ((nI a) &&& 31) &&& 1 = 1))]) b_X11_judges_165_165 rfl (fun hd => ?_)
          refine R2.if_ne 219 hd (by decide) (fun c165 => ?_) (fun c165 => ?_)
          · have nc165 : had >>> ((nI a) &&& 31) &&& 1 = 1 := b2i_nz.mp c165
            refine R2.B (ls2 := [some (.ref 48), none, some (.int had), some (.int (nI q)), some (.int (nI a)), some (.int (nI b)), none, none]) (st2 := [.int (nI q), .ref 48]) b_X11_judges_219_221 rfl (fun hd => ?_)
            refine R2.putf (a := 11) (b := 16) hd (by decide) (by decide) rfl rfl (fun _ => rfl) ?_
            refine R2.B (ls2 := [some (.ref 48), none, some (.int had), some (.int ((nI q) + 1)), some (.int (nI a)), some (.int (nI b)), none, none]) (st2 := []) b_X11_judges_224_28 rfl (fun hd => ?_)
            rw [show ((nI q) + 1 : Int32) = nI (q + 1) from nI_add q 1]
            have e : mjL n (k + 1) q had F = mjL n k (q + 1) had (up2 F 48 16 (nI q)) := by
              simp only [mjL]; rw [if_pos c41, e1, e2, nI_clamp (by omega), nI_clamp (by omega)]; rw [if_neg (show ¬ F 60 q = 0 by rw [hz]; decide)]; first | rw [if_pos (by clear hd ih; grind)] | rw [if_neg (by clear hd ih; grind)]
            rw [e]
            refine R2.forget (ls2 := [some (.ref 48), none, some (.int had), some (.int (nI (q + 1))), none, none, none, none]) ⟨rfl, ⟨rfl, ⟨rfl, trivial⟩⟩⟩ ?_
            exact ih (q + 1) _ _ (by omega) hn (hf.of rfl rfl rfl rfl)
          · have nc165 : ¬ (had >>> ((nI a) &&& 31) &&& 1 = 1) := b2i_zero.mp c165
            refine R2.B (ls2 := [some (.ref 48), none, some (.int had), some (.int (nI q)), some (.int (nI a)), some (.int (nI b)), none, none]) (st2 := [.int (nI b), .int had]) b_X11_judges_168_171 rfl (fun hd => ?_)
            refine R2.callS3 (M2 := mX11_isIn) (As := [.int had, .int (nI b)]) (rest := []) hd lk_11_185 okX11_isIn (by decide) (ev_isIn E L F had (nI b)) (by decide) rfl rfl (Nat.le_of_ble_eq_true rfl) ?_
            refine R2.B (ls2 := [some (.ref 48), none, some (.int had), some (.int (nI q)), some (.int (nI a)), some (.int (nI b)), none, none]) (st2 := [.int (b2i (had >>> ((nI b) &&& 31) &&& 1 = 1))]) b_X11_judges_174_174 rfl (fun hd => ?_)
            refine R2.if_ne 219 hd (by decide) (fun c174 => ?_) (fun c174 => ?_)
            · have nc174 : had >>> ((nI b) &&& 31) &&& 1 = 1 := b2i_nz.mp c174
              refine R2.B (ls2 := [some (.ref 48), none, some (.int had), some (.int (nI q)), some (.int (nI a)), some (.int (nI b)), none, none]) (st2 := [.int (nI q), .ref 48]) b_X11_judges_219_221 rfl (fun hd => ?_)
              refine R2.putf (a := 11) (b := 16) hd (by decide) (by decide) rfl rfl (fun _ => rfl) ?_
              refine R2.B (ls2 := [some (.ref 48), none, some (.int had), some (.int ((nI q) + 1)), some (.int (nI a)), some (.int (nI b)), none, none]) (st2 := []) b_X11_judges_224_28 rfl (fun hd => ?_)
              rw [show ((nI q) + 1 : Int32) = nI (q + 1) from nI_add q 1]
              have e : mjL n (k + 1) q had F = mjL n k (q + 1) had (up2 F 48 16 (nI q)) := by
                simp only [mjL]; rw [if_pos c41, e1, e2, nI_clamp (by omega), nI_clamp (by omega)]; rw [if_neg (show ¬ F 60 q = 0 by rw [hz]; decide)]; first | rw [if_pos (by clear hd ih; grind)] | rw [if_neg (by clear hd ih; grind)]
              rw [e]
              refine R2.forget (ls2 := [some (.ref 48), none, some (.int had), some (.int (nI (q + 1))), none, none, none, none]) ⟨rfl, ⟨rfl, ⟨rfl, trivial⟩⟩⟩ ?_
              exact ih (q + 1) _ _ (by omega) hn (hf.of rfl rfl rfl rfl)
            · have nc174 : ¬ (had >>> ((nI b) &&& 31) &&& 1 = 1) := b2i_zero.mp c174
              refine R2.B (ls2 := [some (.ref 48), none, some (.int (had ||| ((1 <<< ((nI a) &&& 31)) ||| (1 <<< ((nI b) &&& 31))))), some (.int (nI q)), some (.int (nI a)), some (.int (nI b)), none, none]) (st2 := [.int ((F 48 17) + 1), .ref 48]) b_X11_judges_177_196 rfl (fun hd => ?_)
              refine R2.putf (a := 11) (b := 17) hd (by decide) (by decide) rfl rfl (fun _ => rfl) ?_
              refine R2.B (ls2 := [some (.ref 48), none, some (.int (had ||| ((1 <<< ((nI a) &&& 31)) ||| (1 <<< ((nI b) &&& 31))))), some (.int (nI q)), some (.int (nI a)), some (.int (nI b)), none, none]) (st2 := [.int (nI b), .int (nI a), .ref 48, .int (F 48 18), .ref 48]) b_X11_judges_199_209 rfl (fun hd => ?_)
              refine R2.callV3 (M2 := mX11_worthOf) (As := [.int (nI a), .int (nI b)]) (rest := [.int (F 48 18), .ref 48]) hd lk_11_166 okX11_worthOf (by decide) rfl (me_worthOf E L (up2 F 48 17 ((F 48 17) + 1)) a b (by omega) (by omega)) (by decide) rfl rfl (Nat.le_of_ble_eq_true rfl) ?_
              refine R2.B (ls2 := [some (.ref 48), none, some (.int (had ||| ((1 <<< ((nI a) &&& 31)) ||| (1 <<< ((nI b) &&& 31))))), some (.int (nI q)), some (.int (nI a)), some (.int (nI b)), none, none]) (st2 := [.int ((F 48 18) + (gan (F 52) (F 54) a b)), .ref 48]) b_X11_judges_212_213 rfl (fun hd => ?_)
              refine R2.putf (a := 11) (b := 18) hd (by decide) (by decide) rfl rfl (fun _ => rfl) ?_
              refine R2.B (ls2 := [some (.ref 48), none, some (.int (had ||| ((1 <<< ((nI a) &&& 31)) ||| (1 <<< ((nI b) &&& 31))))), some (.int ((nI q) + 1)), some (.int (nI a)), some (.int (nI b)), none, none]) (st2 := []) b_X11_judges_216_28 rfl (fun hd => ?_)
              rw [show ((nI q) + 1 : Int32) = nI (q + 1) from nI_add q 1]
              have e : mjL n (k + 1) q had F = mjL n k (q + 1) (had ||| ((1 <<< ((nI a) &&& 31)) ||| (1 <<< ((nI b) &&& 31)))) (up2 (up2 F 48 17 ((F 48 17) + 1)) 48 18 ((F 48 18) + (gan (F 52) (F 54) a b))) := by
                simp only [mjL]; rw [if_pos c41, e1, e2, nI_clamp (by omega), nI_clamp (by omega)]; rw [if_neg (show ¬ F 60 q = 0 by rw [hz]; decide)]; first | rw [if_pos (by clear hd ih; grind)] | rw [if_neg (by clear hd ih; grind)]
              rw [e]
              refine R2.forget (ls2 := [some (.ref 48), none, some (.int (had ||| ((1 <<< ((nI a) &&& 31)) ||| (1 <<< ((nI b) &&& 31))))), some (.int (nI (q + 1))), none, none, none, none]) ⟨rfl, ⟨rfl, ⟨rfl, trivial⟩⟩⟩ ?_
              exact ih (q + 1) _ _ (by omega) hn (hf.of rfl rfl rfl rfl)
