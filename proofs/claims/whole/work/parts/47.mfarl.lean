theorem b_X11_laysFar_17_22 : bl2 mX11_laysFar 17 [(.iload 5, 2, 5, 0, .null), (.sipush 1024, 3, 0, 0, .int 1024)] 22 (.if_icmp .ge 90) 3 = true := by decide +kernel
theorem b_X11_laysFar_112_112 : bl2 mX11_laysFar 112 [] 112 (.iconst 0) 1 = true := by decide +kernel
theorem b_X11_laysFar_25_32 : bl2 mX11_laysFar 25 [(.aload_n 0, 1, 0, 0, .null), (.getfield 52, 3, 11, 19, .null), (.iload 5, 2, 5, 0, .null), (.iconst (-1), 1, 0, 0, .int (-1))] 32 (.iastore) 1 = true := by decide +kernel
theorem b_X11_laysFar_33_40 : bl2 mX11_laysFar 33 [(.aload_n 0, 1, 0, 0, .null), (.getfield 34, 3, 11, 9, .null), (.iload_n 1, 1, 1, 0, .null), (.iload 5, 2, 5, 0, .null)] 40 (.iastore) 1 = true := by decide +kernel
theorem b_X11_laysFar_41_44 : bl2 mX11_laysFar 41 [(.iload 5, 2, 5, 0, .null), (.iload_n 3, 1, 3, 0, .null)] 44 (.if_icmp .eq 13) 3 = true := by decide +kernel
theorem b_X11_laysFar_57_60 : bl2 mX11_laysFar 57 [(.aload_n 0, 1, 0, 0, .null), (.iload_n 1, 1, 1, 0, .null), (.iload_n 2, 1, 2, 0, .null)] 60 (.invokevirtual 176) 3 = true := by decide +kernel
theorem b_X11_laysFar_63_63 : bl2 mX11_laysFar 63 [] 63 (.ifCond .eq 11) 3 = true := by decide +kernel
theorem b_X11_laysFar_74_80 : bl2 mX11_laysFar 74 [(.aload_n 0, 1, 0, 0, .null), (.getfield 52, 3, 11, 19, .null), (.iload 5, 2, 5, 0, .null)] 80 (.iaload) 1 = true := by decide +kernel
theorem b_X11_laysFar_81_81 : bl2 mX11_laysFar 81 [] 81 (.ifCond .ne 25) 3 = true := by decide +kernel
theorem b_X11_laysFar_106_17 : bl2 mX11_laysFar 106 [(.iinc 5 1, 3, 5, 0, .int 1), (.goto (-92), 3, 17, 0, .null)] 17 (.iload 5) 2 = true := by decide +kernel
theorem b_X11_laysFar_66_73 : bl2 mX11_laysFar 66 [(.aload_n 0, 1, 0, 0, .null), (.getfield 52, 3, 11, 19, .null), (.iload 5, 2, 5, 0, .null), (.iconst 0, 1, 0, 0, .int 0)] 73 (.iastore) 1 = true := by decide +kernel
theorem b_X11_laysFar_84_88 : bl2 mX11_laysFar 84 [(.aload_n 0, 1, 0, 0, .null), (.iload_n 1, 1, 1, 0, .null), (.iload 5, 2, 5, 0, .null)] 88 (.invokevirtual 146) 3 = true := by decide +kernel
theorem b_X11_laysFar_91_91 : bl2 mX11_laysFar 91 [] 91 (.ifCond .eq 15) 3 = true := by decide +kernel
theorem b_X11_laysFar_94_102 : bl2 mX11_laysFar 94 [(.aload_n 0, 1, 0, 0, .null), (.getfield 55, 3, 11, 20, .null), (.iload 4, 2, 4, 0, .null), (.iload 5, 2, 5, 0, .null)] 102 (.iastore) 1 = true := by decide +kernel
theorem b_X11_laysFar_103_17 : bl2 mX11_laysFar 103 [(.iinc 4 1, 3, 4, 0, .int 1), (.iinc 5 1, 3, 5, 0, .int 1), (.goto (-92), 3, 17, 0, .null)] 17 (.iload 5) 2 = true := by decide +kernel
theorem b_X11_laysFar_47_51 : bl2 mX11_laysFar 47 [(.aload_n 0, 1, 0, 0, .null), (.iload_n 1, 1, 1, 0, .null), (.iload 5, 2, 5, 0, .null)] 51 (.invokevirtual 146) 3 = true := by decide +kernel
theorem b_X11_laysFar_54_54 : bl2 mX11_laysFar 54 [] 54 (.ifCond .eq 20) 3 = true := by decide +kernel
set_option maxRecDepth 20000 in
set_option maxHeartbeats 2000000 in
theorem ml_f1 (E : EE) (L : Nat) (n a b bg : Nat) (hn10 : n ≤ 10) (ha : a < n) (hb : b < n) (hbg : bg < 1024) (Q : Q2) : ∀ (k : Nat) (w t : Nat) (F : FF), w + k = 1024 → F 48 3 = nI n → Q1 F w t → (Q1 (fr1 n a b bg k w t F).2 1024 (fr1 n a b bg k w t F).1 → R2 E L mX11_laysFar 6 112 [some (.ref 48), some (.int (nI a)), some (.int (nI b)), some (.int (nI bg)), some (.int (nI (fr1 n a b bg k w t F).1)), none, none, none] [] (fr1 n a b bg k w t F).2 Q) → R2 E L mX11_laysFar 6 17 [some (.ref 48), some (.int (nI a)), some (.int (nI b)), some (.int (nI bg)), some (.int (nI t)), some (.int (nI w)), none, none] [] F Q := by
  intro k
  induction k with
  | zero =>
    intro w t F hi hn hq ex
    have hw : w = 1024 := by omega
    rw [hw] at hq
    refine R2.B (ls2 := [some (.ref 48), some (.int (nI a)), some (.int (nI b)), some (.int (nI bg)), some (.int (nI t)), some (.int (nI w)), none, none]) (st2 := [.int 1024, .int (nI w)]) b_X11_laysFar_17_22 rfl (fun hd => ?_)
    refine R2.icmp_ge 112 hd (by decide) (fun c22 => ?_) (fun c22 => absurd (nI_le (a := 1024) (by omega) (by omega)) c22)
    refine R2.B (ls2 := [some (.ref 48), some (.int (nI a)), some (.int (nI b)), some (.int (nI bg)), some (.int (nI t)), some (.int (nI w)), none, none]) (st2 := []) b_X11_laysFar_112_112 rfl (fun hd => ?_)
    refine R2.forget (ls2 := [some (.ref 48), some (.int (nI a)), some (.int (nI b)), some (.int (nI bg)), some (.int (nI t)), none, none, none]) ⟨rfl, ⟨rfl, ⟨rfl, ⟨rfl, ⟨rfl, trivial⟩⟩⟩⟩⟩ ?_
    exact ex hq
  | succ k ih =>
    intro w t F hi hn hq ex
    have htw := hq.le
    refine R2.B (ls2 := [some (.ref 48), some (.int (nI a)), some (.int (nI b)), some (.int (nI bg)), some (.int (nI t)), some (.int (nI w)), none, none]) (st2 := [.int 1024, .int (nI w)]) b_X11_laysFar_17_22 rfl (fun hd => ?_)
    refine R2.icmp_ge 112 hd (by decide) (fun c22 => absurd c22 (nI_ge (b := 1024) (by omega) (by omega))) (fun c22 => ?_)
    refine R2.B (ls2 := [some (.ref 48), some (.int (nI a)), some (.int (nI b)), some (.int (nI bg)), some (.int (nI t)), some (.int (nI w)), none, none]) (st2 := [.int (-1), .int (nI w), .ref 63]) b_X11_laysFar_25_32 rfl (fun hd => ?_)
    refine R2.iast w rfl hd (by decide) rfl (fun _ => rfl) (by decide) (by omega) ?_
    refine R2.B (ls2 := [some (.ref 48), some (.int (nI a)), some (.int (nI b)), some (.int (nI bg)), some (.int (nI t)), some (.int (nI w)), none, none]) (st2 := [.int (nI w), .int (nI a), .ref 57]) b_X11_laysFar_33_40 rfl (fun hd => ?_)
    refine R2.iast a rfl hd (by decide) rfl (fun _ => rfl) (by decide) (by omega) ?_
    refine R2.B (ls2 := [some (.ref 48), some (.int (nI a)), some (.int (nI b)), some (.int (nI bg)), some (.int (nI t)), some (.int (nI w)), none, none]) (st2 := [.int (nI bg), .int (nI w)]) b_X11_laysFar_41_44 rfl (fun hd => ?_)
    refine R2.icmp_eq 57 hd (by decide) (fun c44 => ?_) (fun c44 => ?_)
    · have nc44 : w = bg := (nI_eq (a := w) (b := bg) (by omega) (by omega)).mp c44
      refine R2.B (ls2 := [some (.ref 48), some (.int (nI a)), some (.int (nI b)), some (.int (nI bg)), some (.int (nI t)), some (.int (nI w)), none, none]) (st2 := [.int (nI b), .int (nI a), .ref 48]) b_X11_laysFar_57_60 rfl (fun hd => ?_)
      refine R2.callV3 (M2 := mX11_isBound) (As := [.int (nI a), .int (nI b)]) (rest := []) hd lk_11_176 okX11_isBound (by decide) rfl (me_isBound E L (up2 (up2 F 63 w (-1)) 57 a (nI w)) n hn hn10 a b (by omega) (by omega)) (by decide) rfl rfl (Nat.le_of_ble_eq_true rfl) ?_
      refine R2.B (ls2 := [some (.ref 48), some (.int (nI a)), some (.int (nI b)), some (.int (nI bg)), some (.int (nI t)), some (.int (nI w)), none, none]) (st2 := [.int (b2i (mvd (up2 F 57 a (nI w)) n (F 51 0) (-1) a b = 0))]) b_X11_laysFar_63_63 rfl (fun hd => ?_)
      refine R2.if_eq 74 hd (by decide) (fun c63 => ?_) (fun c63 => ?_)
      · have nc63 : ¬ (mvd (up2 F 57 a (nI w)) n (F 51 0) (-1) a b = 0) := b2i_zero.mp c63
        refine R2.B (ls2 := [some (.ref 48), some (.int (nI a)), some (.int (nI b)), some (.int (nI bg)), some (.int (nI t)), some (.int (nI w)), none, none]) (st2 := [.int (nI w), .ref 63]) b_X11_laysFar_74_80 rfl (fun hd => ?_)
        refine R2.iald w rfl hd rfl (fun _ => rfl) (by decide) (by omega) ?_
        refine R2.top (show ((up2 (up2 F 63 w (-1)) 57 a (nI w)) 63 w : Int32) = (-1) from (by simp [up2])) ?_
        refine R2.B (ls2 := [some (.ref 48), some (.int (nI a)), some (.int (nI b)), some (.int (nI bg)), some (.int (nI t)), some (.int (nI w)), none, none]) (st2 := [.int (-1)]) b_X11_laysFar_81_81 rfl (fun hd => ?_)
        refine R2.if_ne 106 hd (by decide) (fun c81 => ?_) (fun c81 => absurd c81 (by decide))
        refine R2.B (ls2 := [some (.ref 48), some (.int (nI a)), some (.int (nI b)), some (.int (nI bg)), some (.int (nI t)), some (.int ((nI w) + 1)), none, none]) (st2 := []) b_X11_laysFar_106_17 rfl (fun hd => ?_)
        rw [show ((nI w) + 1 : Int32) = nI (w + 1) from nI_add w 1]
        have e : fr1 n a b bg (k + 1) w t F = fr1 n a b bg k (w + 1) t (up2 (up2 F 63 w (-1)) 57 a (nI w)) := by
          simp only [fr1]; rw [if_neg (show ¬ ((w = bg ∨ free (fG F a w) n a w) ∧ bnd (fG F a w) n a b) from fun h => nc63 h.2)]
        rw [e] at ex
        exact ih (w + 1) _ _ (by omega) hn (hq.step (fun i hi => (by simp [up2, show i ≠ t from (by omega)])) (fun i hi => (by simp [up2, show i ≠ w from (by omega)]))) ex
      · have nc63 : mvd (up2 F 57 a (nI w)) n (F 51 0) (-1) a b = 0 := b2i_nz.mp c63
        refine R2.B (ls2 := [some (.ref 48), some (.int (nI a)), some (.int (nI b)), some (.int (nI bg)), some (.int (nI t)), some (.int (nI w)), none, none]) (st2 := [.int 0, .int (nI w), .ref 63]) b_X11_laysFar_66_73 rfl (fun hd => ?_)
        refine R2.iast w rfl hd (by decide) rfl (fun _ => rfl) (by decide) (by omega) ?_
        refine R2.B (ls2 := [some (.ref 48), some (.int (nI a)), some (.int (nI b)), some (.int (nI bg)), some (.int (nI t)), some (.int (nI w)), none, none]) (st2 := [.int (nI w), .ref 63]) b_X11_laysFar_74_80 rfl (fun hd => ?_)
        refine R2.iald w rfl hd rfl (fun _ => rfl) (by decide) (by omega) ?_
        refine R2.top (show ((up2 (up2 (up2 F 63 w (-1)) 57 a (nI w)) 63 w 0) 63 w : Int32) = 0 from up2_same _ _ _ _) ?_
        refine R2.B (ls2 := [some (.ref 48), some (.int (nI a)), some (.int (nI b)), some (.int (nI bg)), some (.int (nI t)), some (.int (nI w)), none, none]) (st2 := [.int 0]) b_X11_laysFar_81_81 rfl (fun hd => ?_)
        refine R2.if_ne 106 hd (by decide) (fun c81 => absurd (by decide) c81) (fun c81 => ?_)
        refine R2.B (ls2 := [some (.ref 48), some (.int (nI a)), some (.int (nI b)), some (.int (nI bg)), some (.int (nI t)), some (.int (nI w)), none, none]) (st2 := [.int (nI w), .int (nI a), .ref 48]) b_X11_laysFar_84_88 rfl (fun hd => ?_)
        refine R2.callV3 (M2 := mX11_isFree) (As := [.int (nI a), .int (nI w)]) (rest := []) hd lk_11_146 okX11_isFree (by decide) rfl (me_isFree E L (up2 (up2 (up2 F 63 w (-1)) 57 a (nI w)) 63 w 0) n hn hn10 a (nI w) (by omega)) (by decide) rfl rfl (Nat.le_of_ble_eq_true rfl) ?_
        refine R2.B (ls2 := [some (.ref 48), some (.int (nI a)), some (.int (nI b)), some (.int (nI bg)), some (.int (nI t)), some (.int (nI w)), none, none]) (st2 := [.int (b2i (mayS ((up2 F 57 a (nI w)) 57) a (nI w) (F 51 2 * F 51 2) n 0 = true))]) b_X11_laysFar_91_91 rfl (fun hd => ?_)
        refine R2.if_eq 106 hd (by decide) (fun c91 => ?_) (fun c91 => ?_)
        · have nc91 : ¬ (mayS ((up2 F 57 a (nI w)) 57) a (nI w) (F 51 2 * F 51 2) n 0 = true) := b2i_zero.mp c91
          refine R2.B (ls2 := [some (.ref 48), some (.int (nI a)), some (.int (nI b)), some (.int (nI bg)), some (.int (nI t)), some (.int ((nI w) + 1)), none, none]) (st2 := []) b_X11_laysFar_106_17 rfl (fun hd => ?_)
          rw [show ((nI w) + 1 : Int32) = nI (w + 1) from nI_add w 1]
          have e : fr1 n a b bg (k + 1) w t F = fr1 n a b bg k (w + 1) t (up2 (up2 (up2 F 63 w (-1)) 57 a (nI w)) 63 w 0) := by
            simp only [fr1]; rw [if_pos (show (w = bg ∨ free (fG F a w) n a w) ∧ bnd (fG F a w) n a b from ⟨Or.inl nc44, nc63⟩), if_neg (show ¬ free (fG F a w) n a w from nc91)]
          rw [e] at ex
          exact ih (w + 1) _ _ (by omega) hn (hq.step (fun i hi => (by simp [up2, show i ≠ t from (by omega)])) (fun i hi => (by simp [up2, show i ≠ w from (by omega)]))) ex
        · have nc91 : mayS ((up2 F 57 a (nI w)) 57) a (nI w) (F 51 2 * F 51 2) n 0 = true := b2i_nz.mp c91
          refine R2.B (ls2 := [some (.ref 48), some (.int (nI a)), some (.int (nI b)), some (.int (nI bg)), some (.int (nI t)), some (.int (nI w)), none, none]) (st2 := [.int (nI w), .int (nI t), .ref 64]) b_X11_laysFar_94_102 rfl (fun hd => ?_)
          refine R2.iast t rfl hd (by decide) rfl (fun _ => rfl) (by decide) (by omega) ?_
          refine R2.B (ls2 := [some (.ref 48), some (.int (nI a)), some (.int (nI b)), some (.int (nI bg)), some (.int ((nI t) + 1)), some (.int ((nI w) + 1)), none, none]) (st2 := []) b_X11_laysFar_103_17 rfl (fun hd => ?_)
          rw [show ((nI t) + 1 : Int32) = nI (t + 1) from nI_add t 1]
          rw [show ((nI w) + 1 : Int32) = nI (w + 1) from nI_add w 1]
          have e : fr1 n a b bg (k + 1) w t F = fr1 n a b bg k (w + 1) (t + 1) (up2 (up2 (up2 (up2 F 63 w (-1)) 57 a (nI w)) 63 w 0) 64 t (nI w)) := by
            simp only [fr1]; rw [if_pos (show (w = bg ∨ free (fG F a w) n a w) ∧ bnd (fG F a w) n a b from ⟨Or.inl nc44, nc63⟩), if_pos (show free (fG F a w) n a w from nc91)]
          rw [e] at ex
          exact ih (w + 1) _ _ (by omega) hn (hq.step1 (fun i hi => (by simp [up2, show i ≠ t from (by omega)])) (fun i hi => (by simp [up2, show i ≠ w from (by omega)])) (by simp [up2]) (by simp [up2])) ex
    · have nc44 : ¬ w = bg := fun h9 => c44 ((nI_eq (a := w) (b := bg) (by omega) (by omega)).mpr h9)
      refine R2.B (ls2 := [some (.ref 48), some (.int (nI a)), some (.int (nI b)), some (.int (nI bg)), some (.int (nI t)), some (.int (nI w)), none, none]) (st2 := [.int (nI w), .int (nI a), .ref 48]) b_X11_laysFar_47_51 rfl (fun hd => ?_)
      refine R2.callV3 (M2 := mX11_isFree) (As := [.int (nI a), .int (nI w)]) (rest := []) hd lk_11_146 okX11_isFree (by decide) rfl (me_isFree E L (up2 (up2 F 63 w (-1)) 57 a (nI w)) n hn hn10 a (nI w) (by omega)) (by decide) rfl rfl (Nat.le_of_ble_eq_true rfl) ?_
      refine R2.B (ls2 := [some (.ref 48), some (.int (nI a)), some (.int (nI b)), some (.int (nI bg)), some (.int (nI t)), some (.int (nI w)), none, none]) (st2 := [.int (b2i (mayS ((up2 F 57 a (nI w)) 57) a (nI w) (F 51 2 * F 51 2) n 0 = true))]) b_X11_laysFar_54_54 rfl (fun hd => ?_)
      refine R2.if_eq 74 hd (by decide) (fun c54 => ?_) (fun c54 => ?_)
      · have nc54 : ¬ (mayS ((up2 F 57 a (nI w)) 57) a (nI w) (F 51 2 * F 51 2) n 0 = true) := b2i_zero.mp c54
        refine R2.B (ls2 := [some (.ref 48), some (.int (nI a)), some (.int (nI b)), some (.int (nI bg)), some (.int (nI t)), some (.int (nI w)), none, none]) (st2 := [.int (nI w), .ref 63]) b_X11_laysFar_74_80 rfl (fun hd => ?_)
        refine R2.iald w rfl hd rfl (fun _ => rfl) (by decide) (by omega) ?_
        refine R2.top (show ((up2 (up2 F 63 w (-1)) 57 a (nI w)) 63 w : Int32) = (-1) from (by simp [up2])) ?_
        refine R2.B (ls2 := [some (.ref 48), some (.int (nI a)), some (.int (nI b)), some (.int (nI bg)), some (.int (nI t)), some (.int (nI w)), none, none]) (st2 := [.int (-1)]) b_X11_laysFar_81_81 rfl (fun hd => ?_)
        refine R2.if_ne 106 hd (by decide) (fun c81 => ?_) (fun c81 => absurd c81 (by decide))
        refine R2.B (ls2 := [some (.ref 48), some (.int (nI a)), some (.int (nI b)), some (.int (nI bg)), some (.int (nI t)), some (.int ((nI w) + 1)), none, none]) (st2 := []) b_X11_laysFar_106_17 rfl (fun hd => ?_)
        rw [show ((nI w) + 1 : Int32) = nI (w + 1) from nI_add w 1]
        have e : fr1 n a b bg (k + 1) w t F = fr1 n a b bg k (w + 1) t (up2 (up2 F 63 w (-1)) 57 a (nI w)) := by
          simp only [fr1]; rw [if_neg (show ¬ ((w = bg ∨ free (fG F a w) n a w) ∧ bnd (fG F a w) n a b) from fun h => h.1.elim nc44 nc54)]
        rw [e] at ex
        exact ih (w + 1) _ _ (by omega) hn (hq.step (fun i hi => (by simp [up2, show i ≠ t from (by omega)])) (fun i hi => (by simp [up2, show i ≠ w from (by omega)]))) ex
      · have nc54 : mayS ((up2 F 57 a (nI w)) 57) a (nI w) (F 51 2 * F 51 2) n 0 = true := b2i_nz.mp c54
        refine R2.B (ls2 := [some (.ref 48), some (.int (nI a)), some (.int (nI b)), some (.int (nI bg)), some (.int (nI t)), some (.int (nI w)), none, none]) (st2 := [.int (nI b), .int (nI a), .ref 48]) b_X11_laysFar_57_60 rfl (fun hd => ?_)
        refine R2.callV3 (M2 := mX11_isBound) (As := [.int (nI a), .int (nI b)]) (rest := []) hd lk_11_176 okX11_isBound (by decide) rfl (me_isBound E L (up2 (up2 F 63 w (-1)) 57 a (nI w)) n hn hn10 a b (by omega) (by omega)) (by decide) rfl rfl (Nat.le_of_ble_eq_true rfl) ?_
        refine R2.B (ls2 := [some (.ref 48), some (.int (nI a)), some (.int (nI b)), some (.int (nI bg)), some (.int (nI t)), some (.int (nI w)), none, none]) (st2 := [.int (b2i (mvd (up2 F 57 a (nI w)) n (F 51 0) (-1) a b = 0))]) b_X11_laysFar_63_63 rfl (fun hd => ?_)
        refine R2.if_eq 74 hd (by decide) (fun c63 => ?_) (fun c63 => ?_)
        · have nc63 : ¬ (mvd (up2 F 57 a (nI w)) n (F 51 0) (-1) a b = 0) := b2i_zero.mp c63
          refine R2.B (ls2 := [some (.ref 48), some (.int (nI a)), some (.int (nI b)), some (.int (nI bg)), some (.int (nI t)), some (.int (nI w)), none, none]) (st2 := [.int (nI w), .ref 63]) b_X11_laysFar_74_80 rfl (fun hd => ?_)
          refine R2.iald w rfl hd rfl (fun _ => rfl) (by decide) (by omega) ?_
          refine R2.top (show ((up2 (up2 F 63 w (-1)) 57 a (nI w)) 63 w : Int32) = (-1) from (by simp [up2])) ?_
          refine R2.B (ls2 := [some (.ref 48), some (.int (nI a)), some (.int (nI b)), some (.int (nI bg)), some (.int (nI t)), some (.int (nI w)), none, none]) (st2 := [.int (-1)]) b_X11_laysFar_81_81 rfl (fun hd => ?_)
          refine R2.if_ne 106 hd (by decide) (fun c81 => ?_) (fun c81 => absurd c81 (by decide))
          refine R2.B (ls2 := [some (.ref 48), some (.int (nI a)), some (.int (nI b)), some (.int (nI bg)), some (.int (nI t)), some (.int ((nI w) + 1)), none, none]) (st2 := []) b_X11_laysFar_106_17 rfl (fun hd => ?_)
          rw [show ((nI w) + 1 : Int32) = nI (w + 1) from nI_add w 1]
          have e : fr1 n a b bg (k + 1) w t F = fr1 n a b bg k (w + 1) t (up2 (up2 F 63 w (-1)) 57 a (nI w)) := by
            simp only [fr1]; rw [if_neg (show ¬ ((w = bg ∨ free (fG F a w) n a w) ∧ bnd (fG F a w) n a b) from fun h => nc63 h.2)]
          rw [e] at ex
          exact ih (w + 1) _ _ (by omega) hn (hq.step (fun i hi => (by simp [up2, show i ≠ t from (by omega)])) (fun i hi => (by simp [up2, show i ≠ w from (by omega)]))) ex
        · have nc63 : mvd (up2 F 57 a (nI w)) n (F 51 0) (-1) a b = 0 := b2i_nz.mp c63
          refine R2.B (ls2 := [some (.ref 48), some (.int (nI a)), some (.int (nI b)), some (.int (nI bg)), some (.int (nI t)), some (.int (nI w)), none, none]) (st2 := [.int 0, .int (nI w), .ref 63]) b_X11_laysFar_66_73 rfl (fun hd => ?_)
          refine R2.iast w rfl hd (by decide) rfl (fun _ => rfl) (by decide) (by omega) ?_
          refine R2.B (ls2 := [some (.ref 48), some (.int (nI a)), some (.int (nI b)), some (.int (nI bg)), some (.int (nI t)), some (.int (nI w)), none, none]) (st2 := [.int (nI w), .ref 63]) b_X11_laysFar_74_80 rfl (fun hd => ?_)
          refine R2.iald w rfl hd rfl (fun _ => rfl) (by decide) (by omega) ?_
          refine R2.top (show ((up2 (up2 (up2 F 63 w (-1)) 57 a (nI w)) 63 w 0) 63 w : Int32) = 0 from up2_same _ _ _ _) ?_
          refine R2.B (ls2 := [some (.ref 48), some (.int (nI a)), some (.int (nI b)), some (.int (nI bg)), some (.int (nI t)), some (.int (nI w)), none, none]) (st2 := [.int 0]) b_X11_laysFar_81_81 rfl (fun hd => ?_)
          refine R2.if_ne 106 hd (by decide) (fun c81 => absurd (by decide) c81) (fun c81 => ?_)
          refine R2.B (ls2 := [some (.ref 48), some (.int (nI a)), some (.int (nI b)), some (.int (nI bg)), some (.int (nI t)), some (.int (nI w)), none, none]) (st2 := [.int (nI w), .int (nI a), .ref 48]) b_X11_laysFar_84_88 rfl (fun hd => ?_)
          refine R2.callV3 (M2 := mX11_isFree) (As := [.int (nI a), .int (nI w)]) (rest := []) hd lk_11_146 okX11_isFree (by decide) rfl (me_isFree E L (up2 (up2 (up2 F 63 w (-1)) 57 a (nI w)) 63 w 0) n hn hn10 a (nI w) (by omega)) (by decide) rfl rfl (Nat.le_of_ble_eq_true rfl) ?_
          refine R2.B (ls2 := [some (.ref 48), some (.int (nI a)), some (.int (nI b)), some (.int (nI bg)), some (.int (nI t)), some (.int (nI w)), none, none]) (st2 := [.int (b2i (mayS ((up2 F 57 a (nI w)) 57) a (nI w) (F 51 2 * F 51 2) n 0 = true))]) b_X11_laysFar_91_91 rfl (fun hd => ?_)
          refine R2.if_eq 106 hd (by decide) (fun c91 => ?_) (fun c91 => ?_)
          · have nc91 : ¬ (mayS ((up2 F 57 a (nI w)) 57) a (nI w) (F 51 2 * F 51 2) n 0 = true) := b2i_zero.mp c91
            refine R2.B (ls2 := [some (.ref 48), some (.int (nI a)), some (.int (nI b)), some (.int (nI bg)), some (.int (nI t)), some (.int ((nI w) + 1)), none, none]) (st2 := []) b_X11_laysFar_106_17 rfl (fun hd => ?_)
            rw [show ((nI w) + 1 : Int32) = nI (w + 1) from nI_add w 1]
            have e : fr1 n a b bg (k + 1) w t F = fr1 n a b bg k (w + 1) t (up2 (up2 (up2 F 63 w (-1)) 57 a (nI w)) 63 w 0) := by
              simp only [fr1]; rw [if_pos (show (w = bg ∨ free (fG F a w) n a w) ∧ bnd (fG F a w) n a b from ⟨Or.inr nc54, nc63⟩), if_neg (show ¬ free (fG F a w) n a w from nc91)]
            rw [e] at ex
            exact ih (w + 1) _ _ (by omega) hn (hq.step (fun i hi => (by simp [up2, show i ≠ t from (by omega)])) (fun i hi => (by simp [up2, show i ≠ w from (by omega)]))) ex
          · have nc91 : mayS ((up2 F 57 a (nI w)) 57) a (nI w) (F 51 2 * F 51 2) n 0 = true := b2i_nz.mp c91
            refine R2.B (ls2 := [some (.ref 48), some (.int (nI a)), some (.int (nI b)), some (.int (nI bg)), some (.int (nI t)), some (.int (nI w)), none, none]) (st2 := [.int (nI w), .int (nI t), .ref 64]) b_X11_laysFar_94_102 rfl (fun hd => ?_)
            refine R2.iast t rfl hd (by decide) rfl (fun _ => rfl) (by decide) (by omega) ?_
            refine R2.B (ls2 := [some (.ref 48), some (.int (nI a)), some (.int (nI b)), some (.int (nI bg)), some (.int ((nI t) + 1)), some (.int ((nI w) + 1)), none, none]) (st2 := []) b_X11_laysFar_103_17 rfl (fun hd => ?_)
            rw [show ((nI t) + 1 : Int32) = nI (t + 1) from nI_add t 1]
            rw [show ((nI w) + 1 : Int32) = nI (w + 1) from nI_add w 1]
            have e : fr1 n a b bg (k + 1) w t F = fr1 n a b bg k (w + 1) (t + 1) (up2 (up2 (up2 (up2 F 63 w (-1)) 57 a (nI w)) 63 w 0) 64 t (nI w)) := by
              simp only [fr1]; rw [if_pos (show (w = bg ∨ free (fG F a w) n a w) ∧ bnd (fG F a w) n a b from ⟨Or.inr nc54, nc63⟩), if_pos (show free (fG F a w) n a w from nc91)]
            rw [e] at ex
            exact ih (w + 1) _ _ (by omega) hn (hq.step1 (fun i hi => (by simp [up2, show i ≠ t from (by omega)])) (fun i hi => (by simp [up2, show i ≠ w from (by omega)])) (by simp [up2]) (by simp [up2])) ex
