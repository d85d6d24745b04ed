/-! The reference: with whom. Printed by wip/whole/gen/spec21.py. -/
theorem b_X11_laysOnce_208_211 : bl2 mX11_laysOnce 208 [(.iload 4, 2, 4, 0, .null), (.iload_n 2, 1, 2, 0, .null)] 211 (.if_icmp .le 90) 3 = true := by decide +kernel
theorem b_X11_laysOnce_301_301 : bl2 mX11_laysOnce 301 [] 301 (.aload_n 0) 1 = true := by decide +kernel
theorem b_X11_laysOnce_214_217 : bl2 mX11_laysOnce 214 [(.iload_n 1, 1, 1, 0, .null), (.iload 4, 2, 4, 0, .null)] 217 (.invokestatic 185) 3 = true := by decide +kernel
theorem b_X11_laysOnce_220_220 : bl2 mX11_laysOnce 220 [] 220 (.ifCond .eq 50) 3 = true := by decide +kernel
theorem b_X11_laysOnce_270_280 : bl2 mX11_laysOnce 270 [(.iconst 0, 1, 0, 0, .int 0), (.istore 5, 2, 5, 0, .null), (.aload_n 0, 1, 0, 0, .null), (.getfield 49, 3, 11, 15, .null), (.iload_n 2, 1, 2, 0, .null), (.iload 5, 2, 5, 0, .null)] 280 (.ifCond .eq 8) 3 = true := by decide +kernel
theorem b_X11_laysOnce_288_293 : bl2 mX11_laysOnce 288 [(.aload_n 0, 1, 0, 0, .null), (.getfield 49, 3, 11, 15, .null), (.iload_n 2, 1, 2, 0, .null)] 293 (.iaload) 1 = true := by decide +kernel
theorem b_X11_laysOnce_294_294 : bl2 mX11_laysOnce 294 [] 294 (.iastore) 1 = true := by decide +kernel
theorem b_X11_laysOnce_295_208 : bl2 mX11_laysOnce 295 [(.iinc 4 (-1), 3, 4, 0, .int (-1)), (.goto (-90), 3, 208, 0, .null)] 208 (.iload 4) 2 = true := by decide +kernel
theorem b_X11_laysOnce_223_227 : bl2 mX11_laysOnce 223 [(.aload_n 0, 1, 0, 0, .null), (.iload_n 2, 1, 2, 0, .null), (.iload 4, 2, 4, 0, .null)] 227 (.invokevirtual 176) 3 = true := by decide +kernel
theorem b_X11_laysOnce_230_230 : bl2 mX11_laysOnce 230 [] 230 (.ifCond .eq 40) 3 = true := by decide +kernel
theorem b_X11_laysOnce_233_239 : bl2 mX11_laysOnce 233 [(.ldc 188, 2, 0, 0, .int 1000000), (.aload_n 0, 1, 0, 0, .null), (.iload_n 2, 1, 2, 0, .null), (.iload 4, 2, 4, 0, .null)] 239 (.invokevirtual 166) 3 = true := by decide +kernel
theorem b_X11_laysOnce_242_255 : bl2 mX11_laysOnce 242 [(.iadd, 1, 0, 0, .null), (.aload_n 0, 1, 0, 0, .null), (.getfield 46, 3, 11, 14, .null), (.iload_n 3, 1, 3, 0, .null), (.iconst 1, 1, 0, 0, .int 1), (.iload 4, 2, 4, 0, .null), (.ishl, 1, 0, 0, .null), (.iconst (-1), 1, 0, 0, .int (-1)), (.ixor, 1, 0, 0, .null), (.iand, 1, 0, 0, .null)] 255 (.iaload) 1 = true := by decide +kernel
theorem b_X11_laysOnce_256_262 : bl2 mX11_laysOnce 256 [(.iadd, 1, 0, 0, .null), (.aload_n 0, 1, 0, 0, .null), (.getfield 46, 3, 11, 14, .null), (.iload_n 1, 1, 1, 0, .null)] 262 (.iaload) 1 = true := by decide +kernel
theorem b_X11_laysOnce_263_263 : bl2 mX11_laysOnce 263 [] 263 (.if_icmp .ne 7) 3 = true := by decide +kernel
theorem b_X11_laysOnce_266_280 : bl2 mX11_laysOnce 266 [(.iconst 1, 1, 0, 0, .int 1), (.goto 4, 3, 271, 0, .null), (.istore 5, 2, 5, 0, .null), (.aload_n 0, 1, 0, 0, .null), (.getfield 49, 3, 11, 15, .null), (.iload_n 2, 1, 2, 0, .null), (.iload 5, 2, 5, 0, .null)] 280 (.ifCond .eq 8) 3 = true := by decide +kernel
theorem b_X11_laysOnce_283_294 : bl2 mX11_laysOnce 283 [(.iload 4, 2, 4, 0, .null), (.goto 9, 3, 294, 0, .null)] 294 (.iastore) 1 = true := by decide +kernel
set_option maxRecDepth 20000 in
set_option maxHeartbeats 2000000 in
theorem ml_ws (E : EE) (L : Nat) (F : FF) (n s i r : Nat) (hn : F 48 3 = nI n) (hn10 : n ≤ 10) (hs : s < 1024) (hr : r < 1024) (Q : Q2) : ∀ (k : Nat) (v : Int32), i + k < n → R2 E L mX11_laysOnce 6 301 [some (.ref 48), some (.int (nI s)), some (.int (nI i)), some (.int (nI r)), none, none] [] (up2 F 62 i (wsL F n s i r k v)) Q → R2 E L mX11_laysOnce 6 208 [some (.ref 48), some (.int (nI s)), some (.int (nI i)), some (.int (nI r)), some (.int (nI (i + k))), none] [] (up2 F 62 i v) Q := by
  intro k
  induction k with
  | zero =>
    intro v hk ex
    show R2 E L mX11_laysOnce 6 208 [some (.ref 48), some (.int (nI s)), some (.int (nI i)), some (.int (nI r)), some (.int (nI i)), none] [] (up2 F 62 i v) Q
    refine R2.B (ls2 := [some (.ref 48), some (.int (nI s)), some (.int (nI i)), some (.int (nI r)), some (.int (nI i)), none]) (st2 := [.int (nI i), .int (nI i)]) b_X11_laysOnce_208_211 rfl (fun hd => ?_)
    refine R2.icmp_le 301 hd (by decide) (fun c211 => ?_) (fun c211 => absurd (Int32.le_refl _) c211)
    refine R2.B (ls2 := [some (.ref 48), some (.int (nI s)), some (.int (nI i)), some (.int (nI r)), some (.int (nI i)), none]) (st2 := []) b_X11_laysOnce_301_301 rfl (fun hd => ?_)
    refine R2.forget (ls2 := [some (.ref 48), some (.int (nI s)), some (.int (nI i)), some (.int (nI r)), none, none]) ⟨rfl, ⟨rfl, ⟨rfl, ⟨rfl, trivial⟩⟩⟩⟩ ?_
    exact ex
  | succ k ih =>
    intro v hk ex
    show R2 E L mX11_laysOnce 6 208 [some (.ref 48), some (.int (nI s)), some (.int (nI i)), some (.int (nI r)), some (.int (nI (i + k + 1))), none] [] (up2 F 62 i v) Q
    refine R2.B (ls2 := [some (.ref 48), some (.int (nI s)), some (.int (nI i)), some (.int (nI r)), some (.int (nI (i + k + 1))), none]) (st2 := [.int (nI i), .int (nI (i + k + 1))]) b_X11_laysOnce_208_211 rfl (fun hd => ?_)
    refine R2.icmp_le 301 hd (by decide) (fun c211 => absurd c211 (nI_ge (by omega) (by omega))) (fun c211 => ?_)
    refine R2.B (ls2 := [some (.ref 48), some (.int (nI s)), some (.int (nI i)), some (.int (nI r)), some (.int (nI (i + k + 1))), none]) (st2 := [.int (nI (i + k + 1)), .int (nI s)]) b_X11_laysOnce_214_217 rfl (fun hd => ?_)
    refine R2.callS3 (M2 := mX11_isIn) (As := [.int (nI s), .int (nI (i + k + 1))]) (rest := []) hd lk_11_185 okX11_isIn (by decide) (me_isIn E L (up2 F 62 i v) s (i + k + 1) (by omega) (by omega)) (by decide) rfl rfl (Nat.le_of_ble_eq_true rfl) ?_
    refine R2.B (ls2 := [some (.ref 48), some (.int (nI s)), some (.int (nI i)), some (.int (nI r)), some (.int (nI (i + k + 1))), none]) (st2 := [.int (b2i (tb s (i + k + 1)))]) b_X11_laysOnce_220_220 rfl (fun hd => ?_)
    refine R2.if_eq 270 hd (by decide) (fun c220 => ?_) (fun c220 => ?_)
    · have nc220 : ¬ (tb s (i + k + 1)) := b2i_zero.mp c220
      refine R2.B (ls2 := [some (.ref 48), some (.int (nI s)), some (.int (nI i)), some (.int (nI r)), some (.int (nI (i + k + 1))), some (.int 0)]) (st2 := [.int 0, .int (nI i), .ref 62]) b_X11_laysOnce_270_280 rfl (fun hd => ?_)
      refine R2.if_eq 288 hd (by decide) (fun c280 => ?_) (fun c280 => absurd (by decide) c280)
      refine R2.B (ls2 := [some (.ref 48), some (.int (nI s)), some (.int (nI i)), some (.int (nI r)), some (.int (nI (i + k + 1))), some (.int 0)]) (st2 := [.int (nI i), .ref 62, .int (nI i), .ref 62]) b_X11_laysOnce_288_293 rfl (fun hd => ?_)
      refine R2.iald i rfl hd rfl (fun _ => rfl) (by decide) (by omega) ?_
      refine R2.top (show ((up2 F 62 i v) 62 i : Int32) = v from up2_same _ _ _ _) ?_
      refine R2.B (ls2 := [some (.ref 48), some (.int (nI s)), some (.int (nI i)), some (.int (nI r)), some (.int (nI (i + k + 1))), some (.int 0)]) (st2 := [.int v, .int (nI i), .ref 62]) b_X11_laysOnce_294_294 rfl (fun hd => ?_)
      refine R2.iast i rfl hd (by decide) rfl (fun _ => rfl) (by decide) (by omega) ?_
      refine R2.B (ls2 := [some (.ref 48), some (.int (nI s)), some (.int (nI i)), some (.int (nI r)), some (.int ((nI (i + k + 1)) + (-1))), some (.int 0)]) (st2 := []) b_X11_laysOnce_295_208 rfl (fun hd => ?_)
      rw [show ((nI (i + k + 1)) + (-1) : Int32) = nI (i + k) from nI_dec]
      refine R2.eqF (F2 := up2 F 62 i v) (up2_up2 _ _ _ _ _) ?_
      have e : wsL F n s i r (k + 1) v = wsL F n s i r k v := by
        rw [wsL]; congr 1; exact if_neg (by clear hd ih ex; unfold by_; grind)
      rw [e] at ex
      refine R2.forget (ls2 := [some (.ref 48), some (.int (nI s)), some (.int (nI i)), some (.int (nI r)), some (.int (nI (i + k))), none]) ⟨rfl, ⟨rfl, ⟨rfl, ⟨rfl, ⟨rfl, trivial⟩⟩⟩⟩⟩ ?_
      exact ih _ (by omega) ex
    · have nc220 : tb s (i + k + 1) := b2i_nz.mp c220
      refine R2.B (ls2 := [some (.ref 48), some (.int (nI s)), some (.int (nI i)), some (.int (nI r)), some (.int (nI (i + k + 1))), none]) (st2 := [.int (nI (i + k + 1)), .int (nI i), .ref 48]) b_X11_laysOnce_223_227 rfl (fun hd => ?_)
      refine R2.callV3 (M2 := mX11_isBound) (As := [.int (nI i), .int (nI (i + k + 1))]) (rest := []) hd lk_11_176 okX11_isBound (by decide) rfl (me_isBound E L (up2 F 62 i v) n hn hn10 i (i + k + 1) (by omega) (by omega)) (by decide) rfl rfl (Nat.le_of_ble_eq_true rfl) ?_
      refine R2.B (ls2 := [some (.ref 48), some (.int (nI s)), some (.int (nI i)), some (.int (nI r)), some (.int (nI (i + k + 1))), none]) (st2 := [.int (b2i (mvd F n (F 51 0) (-1) i (i + k + 1) = 0))]) b_X11_laysOnce_230_230 rfl (fun hd => ?_)
      refine R2.if_eq 270 hd (by decide) (fun c230 => ?_) (fun c230 => ?_)
      · have nc230 : ¬ (mvd F n (F 51 0) (-1) i (i + k + 1) = 0) := b2i_zero.mp c230
        refine R2.B (ls2 := [some (.ref 48), some (.int (nI s)), some (.int (nI i)), some (.int (nI r)), some (.int (nI (i + k + 1))), some (.int 0)]) (st2 := [.int 0, .int (nI i), .ref 62]) b_X11_laysOnce_270_280 rfl (fun hd => ?_)
        refine R2.if_eq 288 hd (by decide) (fun c280 => ?_) (fun c280 => absurd (by decide) c280)
        refine R2.B (ls2 := [some (.ref 48), some (.int (nI s)), some (.int (nI i)), some (.int (nI r)), some (.int (nI (i + k + 1))), some (.int 0)]) (st2 := [.int (nI i), .ref 62, .int (nI i), .ref 62]) b_X11_laysOnce_288_293 rfl (fun hd => ?_)
        refine R2.iald i rfl hd rfl (fun _ => rfl) (by decide) (by omega) ?_
        refine R2.top (show ((up2 F 62 i v) 62 i : Int32) = v from up2_same _ _ _ _) ?_
        refine R2.B (ls2 := [some (.ref 48), some (.int (nI s)), some (.int (nI i)), some (.int (nI r)), some (.int (nI (i + k + 1))), some (.int 0)]) (st2 := [.int v, .int (nI i), .ref 62]) b_X11_laysOnce_294_294 rfl (fun hd => ?_)
        refine R2.iast i rfl hd (by decide) rfl (fun _ => rfl) (by decide) (by omega) ?_
        refine R2.B (ls2 := [some (.ref 48), some (.int (nI s)), some (.int (nI i)), some (.int (nI r)), some (.int ((nI (i + k + 1)) + (-1))), some (.int 0)]) (st2 := []) b_X11_laysOnce_295_208 rfl (fun hd => ?_)
        rw [show ((nI (i + k + 1)) + (-1) : Int32) = nI (i + k) from nI_dec]
        refine R2.eqF (F2 := up2 F 62 i v) (up2_up2 _ _ _ _ _) ?_
        have e : wsL F n s i r (k + 1) v = wsL F n s i r k v := by
          rw [wsL]; congr 1; exact if_neg (by clear hd ih ex; unfold by_; grind)
        rw [e] at ex
        refine R2.forget (ls2 := [some (.ref 48), some (.int (nI s)), some (.int (nI i)), some (.int (nI r)), some (.int (nI (i + k))), none]) ⟨rfl, ⟨rfl, ⟨rfl, ⟨rfl, ⟨rfl, trivial⟩⟩⟩⟩⟩ ?_
        exact ih _ (by omega) ex
      · have nc230 : mvd F n (F 51 0) (-1) i (i + k + 1) = 0 := b2i_nz.mp c230
        refine R2.B (ls2 := [some (.ref 48), some (.int (nI s)), some (.int (nI i)), some (.int (nI r)), some (.int (nI (i + k + 1))), none]) (st2 := [.int (nI (i + k + 1)), .int (nI i), .ref 48, .int 1000000]) b_X11_laysOnce_233_239 rfl (fun hd => ?_)
        refine R2.callV3 (M2 := mX11_worthOf) (As := [.int (nI i), .int (nI (i + k + 1))]) (rest := [.int 1000000]) hd lk_11_166 okX11_worthOf (by decide) rfl (me_worthOf E L (up2 F 62 i v) i (i + k + 1) (by omega) (by omega)) (by decide) rfl rfl (Nat.le_of_ble_eq_true rfl) ?_
        refine R2.B (ls2 := [some (.ref 48), some (.int (nI s)), some (.int (nI i)), some (.int (nI r)), some (.int (nI (i + k + 1))), none]) (st2 := [.int ((nI r) &&& ((1 <<< ((nI (i + k + 1)) &&& 31)) ^^^ (-1))), .ref 61, .int (1000000 + (gan (F 52) (F 54) i (i + k + 1)))]) b_X11_laysOnce_242_255 rfl (fun hd => ?_)
        refine R2.iald (cl r (i + k + 1)) (cl_eq (by omega) (by omega)) hd rfl (fun _ => rfl) (by decide) (Nat.lt_of_le_of_lt (cl_le r (i + k + 1)) hr) ?_
        refine R2.B (ls2 := [some (.ref 48), some (.int (nI s)), some (.int (nI i)), some (.int (nI r)), some (.int (nI (i + k + 1))), none]) (st2 := [.int (nI s), .ref 61, .int ((1000000 + (gan (F 52) (F 54) i (i + k + 1))) + (F 61 (cl r (i + k + 1))))]) b_X11_laysOnce_256_262 rfl (fun hd => ?_)
        refine R2.iald s rfl hd rfl (fun _ => rfl) (by decide) (by omega) ?_
        refine R2.B (ls2 := [some (.ref 48), some (.int (nI s)), some (.int (nI i)), some (.int (nI r)), some (.int (nI (i + k + 1))), none]) (st2 := [.int (F 61 s), .int ((1000000 + (gan (F 52) (F 54) i (i + k + 1))) + (F 61 (cl r (i + k + 1))))]) b_X11_laysOnce_263_263 rfl (fun hd => ?_)
        refine R2.icmp_ne 270 hd (by decide) (fun c263 => ?_) (fun c263 => ?_)
        · refine R2.B (ls2 := [some (.ref 48), some (.int (nI s)), some (.int (nI i)), some (.int (nI r)), some (.int (nI (i + k + 1))), some (.int 0)]) (st2 := [.int 0, .int (nI i), .ref 62]) b_X11_laysOnce_270_280 rfl (fun hd => ?_)
          refine R2.if_eq 288 hd (by decide) (fun c280 => ?_) (fun c280 => absurd (by decide) c280)
          refine R2.B (ls2 := [some (.ref 48), some (.int (nI s)), some (.int (nI i)), some (.int (nI r)), some (.int (nI (i + k + 1))), some (.int 0)]) (st2 := [.int (nI i), .ref 62, .int (nI i), .ref 62]) b_X11_laysOnce_288_293 rfl (fun hd => ?_)
          refine R2.iald i rfl hd rfl (fun _ => rfl) (by decide) (by omega) ?_
          refine R2.top (show ((up2 F 62 i v) 62 i : Int32) = v from up2_same _ _ _ _) ?_
          refine R2.B (ls2 := [some (.ref 48), some (.int (nI s)), some (.int (nI i)), some (.int (nI r)), some (.int (nI (i + k + 1))), some (.int 0)]) (st2 := [.int v, .int (nI i), .ref 62]) b_X11_laysOnce_294_294 rfl (fun hd => ?_)
          refine R2.iast i rfl hd (by decide) rfl (fun _ => rfl) (by decide) (by omega) ?_
          refine R2.B (ls2 := [some (.ref 48), some (.int (nI s)), some (.int (nI i)), some (.int (nI r)), some (.int ((nI (i + k + 1)) + (-1))), some (.int 0)]) (st2 := []) b_X11_laysOnce_295_208 rfl (fun hd => ?_)
          rw [show ((nI (i + k + 1)) + (-1) : Int32) = nI (i + k) from nI_dec]
          refine R2.eqF (F2 := up2 F 62 i v) (up2_up2 _ _ _ _ _) ?_
          have e : wsL F n s i r (k + 1) v = wsL F n s i r k v := by
            rw [wsL]; congr 1; exact if_neg (by clear hd ih ex; unfold by_; grind)
          rw [e] at ex
          refine R2.forget (ls2 := [some (.ref 48), some (.int (nI s)), some (.int (nI i)), some (.int (nI r)), some (.int (nI (i + k))), none]) ⟨rfl, ⟨rfl, ⟨rfl, ⟨rfl, ⟨rfl, trivial⟩⟩⟩⟩⟩ ?_
          exact ih _ (by omega) ex
        · refine R2.B (ls2 := [some (.ref 48), some (.int (nI s)), some (.int (nI i)), some (.int (nI r)), some (.int (nI (i + k + 1))), some (.int 1)]) (st2 := [.int 1, .int (nI i), .ref 62]) b_X11_laysOnce_266_280 rfl (fun hd => ?_)
          refine R2.if_eq 288 hd (by decide) (fun c280 => absurd c280 (by decide)) (fun c280 => ?_)
          refine R2.B (ls2 := [some (.ref 48), some (.int (nI s)), some (.int (nI i)), some (.int (nI r)), some (.int (nI (i + k + 1))), some (.int 1)]) (st2 := [.int (nI (i + k + 1)), .int (nI i), .ref 62]) b_X11_laysOnce_283_294 rfl (fun hd => ?_)
          refine R2.iast i rfl hd (by decide) rfl (fun _ => rfl) (by decide) (by omega) ?_
          refine R2.B (ls2 := [some (.ref 48), some (.int (nI s)), some (.int (nI i)), some (.int (nI r)), some (.int ((nI (i + k + 1)) + (-1))), some (.int 1)]) (st2 := []) b_X11_laysOnce_295_208 rfl (fun hd => ?_)
          rw [show ((nI (i + k + 1)) + (-1) : Int32) = nI (i + k) from nI_dec]
          refine R2.eqF (F2 := up2 F 62 i (nI (i + k + 1))) (up2_up2 _ _ _ _ _) ?_
          have e : wsL F n s i r (k + 1) v = wsL F n s i r k (nI (i + k + 1)) := by
            rw [wsL]; congr 1; exact if_pos (by clear hd ih ex; unfold by_; grind)
          rw [e] at ex
          refine R2.forget (ls2 := [some (.ref 48), some (.int (nI s)), some (.int (nI i)), some (.int (nI r)), some (.int (nI (i + k))), none]) ⟨rfl, ⟨rfl, ⟨rfl, ⟨rfl, ⟨rfl, trivial⟩⟩⟩⟩⟩ ?_
          exact ih _ (by omega) ex
theorem b_X11_laysOnce_169_174 : bl2 mX11_laysOnce 169 [(.iload_n 2, 1, 2, 0, .null), (.aload_n 0, 1, 0, 0, .null), (.getfield 101, 3, 11, 3, .null)] 174 (.if_icmp .ge 170) 3 = true := by decide +kernel
theorem b_X11_laysOnce_344_344 : bl2 mX11_laysOnce 344 [] 344 (.return_) 1 = true := by decide +kernel
theorem b_X11_laysOnce_177_179 : bl2 mX11_laysOnce 177 [(.iload_n 1, 1, 1, 0, .null), (.iload_n 2, 1, 2, 0, .null)] 179 (.invokestatic 185) 3 = true := by decide +kernel
theorem b_X11_laysOnce_182_182 : bl2 mX11_laysOnce 182 [] 182 (.ifCond .eq 156) 3 = true := by decide +kernel
theorem b_X11_laysOnce_338_169 : bl2 mX11_laysOnce 338 [(.iinc 2 1, 3, 2, 0, .int 1), (.goto (-172), 3, 169, 0, .null)] 169 (.iload_n 2) 1 = true := by decide +kernel
theorem b_X11_laysOnce_185_199 : bl2 mX11_laysOnce 185 [(.iload_n 1, 1, 1, 0, .null), (.iconst 1, 1, 0, 0, .int 1), (.iload_n 2, 1, 2, 0, .null), (.ishl, 1, 0, 0, .null), (.iconst (-1), 1, 0, 0, .int (-1)), (.ixor, 1, 0, 0, .null), (.iand, 1, 0, 0, .null), (.istore_n 3, 1, 3, 0, .null), (.aload_n 0, 1, 0, 0, .null), (.getfield 49, 3, 11, 15, .null), (.iload_n 2, 1, 2, 0, .null), (.iconst (-1), 1, 0, 0, .int (-1))] 199 (.iastore) 1 = true := by decide +kernel
theorem b_X11_laysOnce_200_208 : bl2 mX11_laysOnce 200 [(.aload_n 0, 1, 0, 0, .null), (.getfield 101, 3, 11, 3, .null), (.iconst 1, 1, 0, 0, .int 1), (.isub, 1, 0, 0, .null), (.istore 4, 2, 4, 0, .null)] 208 (.iload 4) 2 = true := by decide +kernel
theorem b_X11_laysOnce_301_306 : bl2 mX11_laysOnce 301 [(.aload_n 0, 1, 0, 0, .null), (.getfield 49, 3, 11, 15, .null), (.iload_n 2, 1, 2, 0, .null)] 306 (.iaload) 1 = true := by decide +kernel
theorem b_X11_laysOnce_307_308 : bl2 mX11_laysOnce 307 [(.iconst (-1), 1, 0, 0, .int (-1))] 308 (.if_icmp .eq 28) 3 = true := by decide +kernel
theorem b_X11_laysOnce_336_169 : bl2 mX11_laysOnce 336 [(.iload_n 3, 1, 3, 0, .null), (.istore_n 1, 1, 1, 0, .null), (.iinc 2 1, 3, 2, 0, .int 1), (.goto (-172), 3, 169, 0, .null)] 169 (.iload_n 2) 1 = true := by decide +kernel
theorem b_X11_laysOnce_311_320 : bl2 mX11_laysOnce 311 [(.aload_n 0, 1, 0, 0, .null), (.getfield 49, 3, 11, 15, .null), (.aload_n 0, 1, 0, 0, .null), (.getfield 49, 3, 11, 15, .null), (.iload_n 2, 1, 2, 0, .null)] 320 (.iaload) 1 = true := by decide +kernel
theorem b_X11_laysOnce_321_322 : bl2 mX11_laysOnce 321 [(.iload_n 2, 1, 2, 0, .null)] 322 (.iastore) 1 = true := by decide +kernel
theorem b_X11_laysOnce_323_330 : bl2 mX11_laysOnce 323 [(.iload_n 3, 1, 3, 0, .null), (.iconst 1, 1, 0, 0, .int 1), (.aload_n 0, 1, 0, 0, .null), (.getfield 49, 3, 11, 15, .null), (.iload_n 2, 1, 2, 0, .null)] 330 (.iaload) 1 = true := by decide +kernel
theorem b_X11_laysOnce_331_169 : bl2 mX11_laysOnce 331 [(.ishl, 1, 0, 0, .null), (.iconst (-1), 1, 0, 0, .int (-1)), (.ixor, 1, 0, 0, .null), (.iand, 1, 0, 0, .null), (.istore_n 3, 1, 3, 0, .null), (.iload_n 3, 1, 3, 0, .null), (.istore_n 1, 1, 1, 0, .null), (.iinc 2 1, 3, 2, 0, .int 1), (.goto (-172), 3, 169, 0, .null)] 169 (.iload_n 2) 1 = true := by decide +kernel
set_option maxRecDepth 20000 in
set_option maxHeartbeats 2000000 in
theorem ml_wo (E : EE) (L : Nat) (n : Nat) (hn10 : n ≤ 10) : ∀ (k : Nat) (i s : Nat) (F : FF), i + k = n → s < 1024 → F 48 3 = nI n → R2 E L mX11_laysOnce 6 169 [some (.ref 48), some (.int (nI s)), some (.int (nI i)), none, none, none] [] F (fun r' F' => r' = none ∧ F' = woL n k i s F) := by
  intro k
  induction k with
  | zero =>
    intro i s F hi hs hn
    refine R2.B (ls2 := [some (.ref 48), some (.int (nI s)), some (.int (nI i)), none, none, none]) (st2 := [.int (F 48 3), .int (nI i)]) b_X11_laysOnce_169_174 rfl (fun hd => ?_)
    rw [show (F 48 3 : Int32) = nI n from hn]
    refine R2.icmp_ge 344 hd (by decide) (fun c174 => ?_) (fun c174 => absurd (nI_le (by omega) (by omega)) c174)
    refine R2.B (ls2 := [some (.ref 48), some (.int (nI s)), some (.int (nI i)), none, none, none]) (st2 := []) b_X11_laysOnce_344_344 rfl (fun hd => ?_)
    exact R2.ret3 (r := none) hd trivial rfl rfl rfl
  | succ k ih =>
    intro i s F hi hs hn
    have hcl := cl_le s i
    refine R2.B (ls2 := [some (.ref 48), some (.int (nI s)), some (.int (nI i)), none, none, none]) (st2 := [.int (F 48 3), .int (nI i)]) b_X11_laysOnce_169_174 rfl (fun hd => ?_)
    rw [show (F 48 3 : Int32) = nI n from hn]
    refine R2.icmp_ge 344 hd (by decide) (fun c174 => absurd c174 (nI_ge (by omega) (by omega))) (fun c174 => ?_)
    refine R2.B (ls2 := [some (.ref 48), some (.int (nI s)), some (.int (nI i)), none, none, none]) (st2 := [.int (nI i), .int (nI s)]) b_X11_laysOnce_177_179 rfl (fun hd => ?_)
    refine R2.callS3 (M2 := mX11_isIn) (As := [.int (nI s), .int (nI i)]) (rest := []) hd lk_11_185 okX11_isIn (by decide) (me_isIn E L F s i (by omega) (by omega)) (by decide) rfl rfl (Nat.le_of_ble_eq_true rfl) ?_
    refine R2.B (ls2 := [some (.ref 48), some (.int (nI s)), some (.int (nI i)), none, none, none]) (st2 := [.int (b2i (tb s i))]) b_X11_laysOnce_182_182 rfl (fun hd => ?_)
    refine R2.if_eq 338 hd (by decide) (fun c182 => ?_) (fun c182 => ?_)
    · have nc182 : ¬ (tb s i) := b2i_zero.mp c182
      refine R2.B (ls2 := [some (.ref 48), some (.int (nI s)), some (.int ((nI i) + 1)), none, none, none]) (st2 := []) b_X11_laysOnce_338_169 rfl (fun hd => ?_)
      rw [show ((nI i) + 1 : Int32) = nI (i + 1) from nI_add i 1]
      have e : woL n (k + 1) i s F = woL n k (i + 1) s F := by
        simp only [woL]; rw [if_neg nc182]
      rw [e]
      refine R2.forget (ls2 := [some (.ref 48), some (.int (nI s)), some (.int (nI (i + 1))), none, none, none]) ⟨rfl, ⟨rfl, ⟨rfl, trivial⟩⟩⟩ ?_
      exact ih (i + 1) s _ (by omega) (by omega) hn
    · have nc182 : tb s i := b2i_nz.mp c182
      refine R2.B (ls2 := [some (.ref 48), some (.int (nI s)), some (.int (nI i)), some (.int ((nI s) &&& ((1 <<< ((nI i) &&& 31)) ^^^ (-1)))), none, none]) (st2 := [.int (-1), .int (nI i), .ref 62]) b_X11_laysOnce_185_199 rfl (fun hd => ?_)
      rw [show ((nI s) &&& ((1 <<< ((nI i) &&& 31)) ^^^ (-1)) : Int32) = nI (cl s i) from (cl_eq (by omega) (by omega))]
      refine R2.iast i rfl hd (by decide) rfl (fun _ => rfl) (by decide) (by omega) ?_
      refine R2.B (ls2 := [some (.ref 48), some (.int (nI s)), some (.int (nI i)), some (.int (nI (cl s i))), some (.int ((F 48 3) - 1)), none]) (st2 := []) b_X11_laysOnce_200_208 rfl (fun hd => ?_)
      rw [show ((F 48 3) - 1 : Int32) = nI (i + (n - 1 - i)) from (by rw [hn, nI_sub1 (by omega), show i + (n - 1 - i) = n - 1 by omega])]
      refine ml_ws E L F n s i (cl s i) hn hn10 (by omega) (by omega) _ (n - 1 - i) (-1) (by omega) ?_
      rcases wsL_case F n s i (cl s i) (n - 1 - i) (-1) (Or.inl rfl) (by omega) with hw | ⟨j, hj1, hj2, hw⟩
      · refine R2.eqF (F2 := up2 F 62 i (-1)) (by rw [hw]) ?_
        refine R2.B (ls2 := [some (.ref 48), some (.int (nI s)), some (.int (nI i)), some (.int (nI (cl s i))), none, none]) (st2 := [.int (nI i), .ref 62]) b_X11_laysOnce_301_306 rfl (fun hd => ?_)
        refine R2.iald i rfl hd rfl (fun _ => rfl) (by decide) (by omega) ?_
        refine R2.top (show ((up2 F 62 i (-1)) 62 i : Int32) = (-1) from up2_same _ _ _ _) ?_
        refine R2.B (ls2 := [some (.ref 48), some (.int (nI s)), some (.int (nI i)), some (.int (nI (cl s i))), none, none]) (st2 := [.int (-1), .int (-1)]) b_X11_laysOnce_307_308 rfl (fun hd => ?_)
        refine R2.icmp_eq 336 hd (by decide) (fun c308 => ?_) (fun c308 => absurd (by decide) c308)
        refine R2.B (ls2 := [some (.ref 48), some (.int (nI (cl s i))), some (.int ((nI i) + 1)), some (.int (nI (cl s i))), none, none]) (st2 := []) b_X11_laysOnce_336_169 rfl (fun hd => ?_)
        rw [show ((nI i) + 1 : Int32) = nI (i + 1) from nI_add i 1]
        have e : woL n (k + 1) i s F = woL n k (i + 1) (cl s i) (up2 F 62 i (-1)) := by
          simp only [woL]; rw [if_pos nc182, if_pos hw]
        rw [e]
        refine R2.forget (ls2 := [some (.ref 48), some (.int (nI (cl s i))), some (.int (nI (i + 1))), none, none, none]) ⟨rfl, ⟨rfl, ⟨rfl, trivial⟩⟩⟩ ?_
        exact ih (i + 1) _ _ (by omega) (by omega) hn
      · refine R2.eqF (F2 := up2 F 62 i (nI j)) (by rw [hw]) ?_
        have hcl2 := cl_le (cl s i) j
        refine R2.B (ls2 := [some (.ref 48), some (.int (nI s)), some (.int (nI i)), some (.int (nI (cl s i))), none, none]) (st2 := [.int (nI i), .ref 62]) b_X11_laysOnce_301_306 rfl (fun hd => ?_)
        refine R2.iald i rfl hd rfl (fun _ => rfl) (by decide) (by omega) ?_
        refine R2.top (show ((up2 F 62 i (nI j)) 62 i : Int32) = nI j from up2_same _ _ _ _) ?_
        refine R2.B (ls2 := [some (.ref 48), some (.int (nI s)), some (.int (nI i)), some (.int (nI (cl s i))), none, none]) (st2 := [.int (-1), .int (nI j)]) b_X11_laysOnce_307_308 rfl (fun hd => ?_)
        refine R2.icmp_eq 336 hd (by decide) (fun c308 => absurd c308 (nI_m1 (by omega))) (fun c308 => ?_)
        refine R2.B (ls2 := [some (.ref 48), some (.int (nI s)), some (.int (nI i)), some (.int (nI (cl s i))), none, none]) (st2 := [.int (nI i), .ref 62, .ref 62]) b_X11_laysOnce_311_320 rfl (fun hd => ?_)
        refine R2.iald i rfl hd rfl (fun _ => rfl) (by decide) (by omega) ?_
        refine R2.top (show ((up2 F 62 i (nI j)) 62 i : Int32) = nI j from up2_same _ _ _ _) ?_
        refine R2.B (ls2 := [some (.ref 48), some (.int (nI s)), some (.int (nI i)), some (.int (nI (cl s i))), none, none]) (st2 := [.int (nI i), .int (nI j), .ref 62]) b_X11_laysOnce_321_322 rfl (fun hd => ?_)
        refine R2.iast j rfl hd (by decide) rfl (fun _ => rfl) (by decide) (by omega) ?_
        refine R2.B (ls2 := [some (.ref 48), some (.int (nI s)), some (.int (nI i)), some (.int (nI (cl s i))), none, none]) (st2 := [.int (nI i), .ref 62, .int 1, .int (nI (cl s i))]) b_X11_laysOnce_323_330 rfl (fun hd => ?_)
        refine R2.iald i rfl hd rfl (fun _ => rfl) (by decide) (by omega) ?_
        refine R2.top (show ((up2 (up2 F 62 i (nI j)) 62 j (nI i)) 62 i : Int32) = nI j from (by simp [up2, show i ≠ j by omega])) ?_
        refine R2.B (ls2 := [some (.ref 48), some (.int ((nI (cl s i)) &&& ((1 <<< ((nI j) &&& 31)) ^^^ (-1)))), some (.int ((nI i) + 1)), some (.int ((nI (cl s i)) &&& ((1 <<< ((nI j) &&& 31)) ^^^ (-1)))), none, none]) (st2 := []) b_X11_laysOnce_331_169 rfl (fun hd => ?_)
        rw [show ((nI (cl s i)) &&& ((1 <<< ((nI j) &&& 31)) ^^^ (-1)) : Int32) = nI (cl (cl s i) j) from (cl_eq (by omega) (by omega))]
        rw [show ((nI i) + 1 : Int32) = nI (i + 1) from nI_add i 1]
        have e : woL n (k + 1) i s F = woL n k (i + 1) (cl (cl s i) j) (up2 (up2 F 62 i (nI j)) 62 j (nI i)) := by
          simp only [woL]; rw [if_pos nc182, hw, if_neg (nI_m1 (by omega)), nI_clamp (by omega)]
        rw [e]
        refine R2.forget (ls2 := [some (.ref 48), some (.int (nI (cl (cl s i) j))), some (.int (nI (i + 1))), none, none, none]) ⟨rfl, ⟨rfl, ⟨rfl, trivial⟩⟩⟩ ?_
        exact ih (i + 1) _ _ (by omega) (by omega) hn
theorem b_X11_laysOnce_0_1 : bl2 mX11_laysOnce 0 [(.aload_n 0, 1, 0, 0, .null)] 1 (.invokevirtual 140) 3 = true := by decide +kernel
theorem b_X11_laysOnce_4_10 : bl2 mX11_laysOnce 4 [(.aload_n 0, 1, 0, 0, .null), (.getfield 46, 3, 11, 14, .null), (.iconst 0, 1, 0, 0, .int 0), (.iconst 0, 1, 0, 0, .int 0)] 10 (.iastore) 1 = true := by decide +kernel
theorem b_X11_laysOnce_11_13 : bl2 mX11_laysOnce 11 [(.iconst 1, 1, 0, 0, .int 1), (.istore_n 1, 1, 1, 0, .null)] 13 (.iload_n 1) 1 = true := by decide +kernel
theorem b_X11_laysOnce_158_169 : bl2 mX11_laysOnce 158 [(.iconst 1, 1, 0, 0, .int 1), (.aload_n 0, 1, 0, 0, .null), (.getfield 101, 3, 11, 3, .null), (.ishl, 1, 0, 0, .null), (.iconst 1, 1, 0, 0, .int 1), (.isub, 1, 0, 0, .null), (.istore_n 1, 1, 1, 0, .null), (.iconst 0, 1, 0, 0, .int 0), (.istore_n 2, 1, 2, 0, .null)] 169 (.iload_n 2) 1 = true := by decide +kernel
set_option maxRecDepth 20000 in
set_option maxHeartbeats 1000000 in
theorem me_laysOnce (E : EE) (L : Nat) (F : FF) (l n : Nat) (hm : MR F l n) : Ev3 E L 6 mX11_laysOnce [.ref 48] F none (loF F n) := by
  refine Ev3.of okX11_laysOnce.2.2.1 (Nat.le_of_ble_eq_true rfl) ?_
  show R2 E L mX11_laysOnce 6 0 [some (.ref 48), none, none, none, none, none] [] F _
  refine R2.B (ls2 := [some (.ref 48), none, none, none, none, none]) (st2 := [.ref 48]) b_X11_laysOnce_0_1 rfl (fun hd => ?_)
  refine R2.callV3 (M2 := mX11_lays) (As := []) (rest := []) hd lk_11_140 okX11_lays (by decide) rfl (me_lays E L F l n hm) (by decide) rfl rfl (Nat.le_of_ble_eq_true rfl) ?_
  refine R2.B (ls2 := [some (.ref 48), none, none, none, none, none]) (st2 := [.int 0, .int 0, .ref 61]) b_X11_laysOnce_4_10 rfl (fun hd => ?_)
  refine R2.iast 0 rfl hd (by decide) rfl (fun _ => rfl) (by decide) (by omega) ?_
  refine R2.B (ls2 := [some (.ref 48), some (.int 1), none, none, none, none]) (st2 := []) b_X11_laysOnce_11_13 rfl (fun hd => ?_)
  have hn10 := hm.2.2.1
  have hp := p2_le hn10
  have hp0 := p2_pos n
  refine ml_goO E L n hn10 _ (2 ^ n - 1) 1 _ (by omega) (by omega) ((congrFun (ly_row (by decide)) 3).trans hm.2.2.2.1) ?_
  refine R2.B (ls2 := [some (.ref 48), some (.int ((1 <<< (((goO n (2 ^ n - 1) 1 (up2 (ly F n) 61 0 0)) 48 3) &&& 31)) - 1)), some (.int 0), none, none, none]) (st2 := []) b_X11_laysOnce_158_169 rfl (fun hd => ?_)
  rw [show ((1 <<< (((goO n (2 ^ n - 1) 1 (up2 (ly F n) 61 0 0)) 48 3) &&& 31)) - 1 : Int32) = nI (2 ^ n - 1) from (by rw [show (goO n (2 ^ n - 1) 1 (up2 (ly F n) 61 0 0)) 48 3 = nI n from ((congrFun (goO_row n (2 ^ n - 1) 1 _ 48 (by decide)) 3).trans ((congrFun (ly_row (by decide)) 3).trans hm.2.2.2.1)), sh_eq (by omega), nI_sub1 hp0])]
  exact ml_wo E L n hn10 n 0 (2 ^ n - 1) _ (by omega) (by omega) ((congrFun (goO_row n (2 ^ n - 1) 1 _ 48 (by decide)) 3).trans ((congrFun (ly_row (by decide)) 3).trans hm.2.2.2.1))
theorem b_X11_onceOf_0_1 : bl2 mX11_onceOf 0 [(.aload_n 0, 1, 0, 0, .null)] 1 (.invokevirtual 189) 3 = true := by decide +kernel
theorem b_X11_onceOf_4_6 : bl2 mX11_onceOf 4 [(.iload_n 1, 1, 1, 0, .null), (.iconst (-1), 1, 0, 0, .int (-1))] 6 (.if_icmp .ne 22) 3 = true := by decide +kernel
theorem b_X11_onceOf_9_21 : bl2 mX11_onceOf 9 [(.aload_n 0, 1, 0, 0, .null), (.getfield 46, 3, 11, 14, .null), (.iconst 1, 1, 0, 0, .int 1), (.aload_n 0, 1, 0, 0, .null), (.getfield 101, 3, 11, 3, .null), (.ishl, 1, 0, 0, .null), (.iconst 1, 1, 0, 0, .int 1), (.isub, 1, 0, 0, .null)] 21 (.iaload) 1 = true := by decide +kernel
theorem b_X11_onceOf_22_24 : bl2 mX11_onceOf 22 [(.ldc 188, 2, 0, 0, .int 1000000)] 24 (.idiv) 1 = true := by decide +kernel
theorem b_X11_onceOf_25_34 : bl2 mX11_onceOf 25 [(.goto 9, 3, 34, 0, .null)] 34 (.ireturn) 1 = true := by decide +kernel
set_option maxRecDepth 20000 in
set_option maxHeartbeats 1000000 in
theorem me_onceAll (E : EE) (L : Nat) (F : FF) (l n : Nat) (hm : MR F l n) : Ev3 E L 7 mX11_onceOf [.ref 48, .int (-1)] F (some (.int ((loF F n) 61 (2 ^ n - 1) / 1000000))) (loF F n) := by
  have hn10 := hm.2.2.1
  have hp := p2_le hn10
  have hp0 := p2_pos n
  refine Ev3.of okX11_onceOf.2.2.1 (Nat.le_of_ble_eq_true rfl) ?_
  show R2 E L mX11_onceOf 7 0 [some (.ref 48), some (.int (-1))] [] F _
  refine R2.B (ls2 := [some (.ref 48), some (.int (-1))]) (st2 := [.ref 48]) b_X11_onceOf_0_1 rfl (fun hd => ?_)
  refine R2.callV3 (M2 := mX11_laysOnce) (As := []) (rest := []) hd lk_11_189 okX11_laysOnce (by decide) rfl (me_laysOnce E L F l n hm) (by decide) rfl rfl (Nat.le_of_ble_eq_true rfl) ?_
  refine R2.B (ls2 := [some (.ref 48), some (.int (-1))]) (st2 := [.int (-1), .int (-1)]) b_X11_onceOf_4_6 rfl (fun hd => ?_)
  refine R2.icmp_ne 28 hd (by decide) (fun c6 => absurd (by decide) c6) (fun c6 => ?_)
  refine R2.B (ls2 := [some (.ref 48), some (.int (-1))]) (st2 := [.int ((1 <<< (((loF F n) 48 3) &&& 31)) - 1), .ref 61]) b_X11_onceOf_9_21 rfl (fun hd => ?_)
  refine R2.iald (2 ^ n - 1) (by rw [show (loF F n) 48 3 = nI n from (congrFun (loF_row (by decide) (by decide) (by decide)) 3).trans hm.2.2.2.1, sh_eq (by omega), nI_sub1 hp0]) hd rfl (fun _ => rfl) (by decide) (by omega) ?_
  refine R2.B (ls2 := [some (.ref 48), some (.int (-1))]) (st2 := [.int 1000000, .int ((loF F n) 61 (2 ^ n - 1))]) b_X11_onceOf_22_24 rfl (fun hd => ?_)
  refine R2.idiv hd (by decide) ?_
  refine R2.B (ls2 := [some (.ref 48), some (.int (-1))]) (st2 := [.int (((loF F n) 61 (2 ^ n - 1)) / 1000000)]) b_X11_onceOf_25_34 rfl (fun hd => ?_)
  exact R2.ret3 (r := some (.int (((loF F n) 61 (2 ^ n - 1)) / 1000000))) hd trivial rfl rfl rfl
theorem b_X11_onceOf_28_33 : bl2 mX11_onceOf 28 [(.aload_n 0, 1, 0, 0, .null), (.getfield 49, 3, 11, 15, .null), (.iload_n 1, 1, 1, 0, .null)] 33 (.iaload) 1 = true := by decide +kernel
theorem b_X11_onceOf_34_34 : bl2 mX11_onceOf 34 [] 34 (.ireturn) 1 = true := by decide +kernel
set_option maxRecDepth 20000 in
set_option maxHeartbeats 1000000 in
theorem me_onceOf (E : EE) (L : Nat) (F : FF) (l n : Nat) (hm : MR F l n) (p : Nat) (hp : p < 11) : Ev3 E L 7 mX11_onceOf [.ref 48, .int (nI p)] F (some (.int ((loF F n) 62 p))) (loF F n) := by
  refine Ev3.of okX11_onceOf.2.2.1 (Nat.le_of_ble_eq_true rfl) ?_
  show R2 E L mX11_onceOf 7 0 [some (.ref 48), some (.int (nI p))] [] F _
  refine R2.B (ls2 := [some (.ref 48), some (.int (nI p))]) (st2 := [.ref 48]) b_X11_onceOf_0_1 rfl (fun hd => ?_)
  refine R2.callV3 (M2 := mX11_laysOnce) (As := []) (rest := []) hd lk_11_189 okX11_laysOnce (by decide) rfl (me_laysOnce E L F l n hm) (by decide) rfl rfl (Nat.le_of_ble_eq_true rfl) ?_
  refine R2.B (ls2 := [some (.ref 48), some (.int (nI p))]) (st2 := [.int (-1), .int (nI p)]) b_X11_onceOf_4_6 rfl (fun hd => ?_)
  refine R2.icmp_ne 28 hd (by decide) (fun c6 => ?_) (fun c6 => absurd c6 (nI_m1 (by omega)))
  refine R2.B (ls2 := [some (.ref 48), some (.int (nI p))]) (st2 := [.int (nI p), .ref 62]) b_X11_onceOf_28_33 rfl (fun hd => ?_)
  refine R2.iald p rfl hd rfl (fun _ => rfl) (by decide) (by omega) ?_
  refine R2.B (ls2 := [some (.ref 48), some (.int (nI p))]) (st2 := [.int ((loF F n) 62 p)]) b_X11_onceOf_34_34 rfl (fun hd => ?_)
  exact R2.ret3 (r := some (.int ((loF F n) 62 p))) hd trivial rfl rfl rfl
theorem b_X11_worthNow_0_1 : bl2 mX11_worthNow 0 [(.aload_n 0, 1, 0, 0, .null)] 1 (.invokevirtual 189) 3 = true := by decide +kernel
theorem b_X11_worthNow_4_16 : bl2 mX11_worthNow 4 [(.aload_n 0, 1, 0, 0, .null), (.getfield 46, 3, 11, 14, .null), (.iconst 1, 1, 0, 0, .int 1), (.aload_n 0, 1, 0, 0, .null), (.getfield 101, 3, 11, 3, .null), (.ishl, 1, 0, 0, .null), (.iconst 1, 1, 0, 0, .int 1), (.isub, 1, 0, 0, .null)] 16 (.iaload) 1 = true := by decide +kernel
theorem b_X11_worthNow_17_19 : bl2 mX11_worthNow 17 [(.ldc 188, 2, 0, 0, .int 1000000)] 19 (.irem) 1 = true := by decide +kernel
theorem b_X11_worthNow_20_20 : bl2 mX11_worthNow 20 [] 20 (.ireturn) 1 = true := by decide +kernel
set_option maxRecDepth 20000 in
set_option maxHeartbeats 1000000 in
theorem me_worthNow (E : EE) (L : Nat) (F : FF) (l n : Nat) (hm : MR F l n) : Ev3 E L 7 mX11_worthNow [.ref 48] F (some (.int ((loF F n) 61 (2 ^ n - 1) - (loF F n) 61 (2 ^ n - 1) / 1000000 * 1000000))) (loF F n) := by
  have hn10 := hm.2.2.1
  have hp := p2_le hn10
  have hp0 := p2_pos n
  refine Ev3.of okX11_worthNow.2.2.1 (Nat.le_of_ble_eq_true rfl) ?_
  show R2 E L mX11_worthNow 7 0 [some (.ref 48)] [] F _
  refine R2.B (ls2 := [some (.ref 48)]) (st2 := [.ref 48]) b_X11_worthNow_0_1 rfl (fun hd => ?_)
  refine R2.callV3 (M2 := mX11_laysOnce) (As := []) (rest := []) hd lk_11_189 okX11_laysOnce (by decide) rfl (me_laysOnce E L F l n hm) (by decide) rfl rfl (Nat.le_of_ble_eq_true rfl) ?_
  refine R2.B (ls2 := [some (.ref 48)]) (st2 := [.int ((1 <<< (((loF F n) 48 3) &&& 31)) - 1), .ref 61]) b_X11_worthNow_4_16 rfl (fun hd => ?_)
  refine R2.iald (2 ^ n - 1) (by rw [show (loF F n) 48 3 = nI n from (congrFun (loF_row (by decide) (by decide) (by decide)) 3).trans hm.2.2.2.1, sh_eq (by omega), nI_sub1 hp0]) hd rfl (fun _ => rfl) (by decide) (by omega) ?_
  refine R2.B (ls2 := [some (.ref 48)]) (st2 := [.int 1000000, .int ((loF F n) 61 (2 ^ n - 1))]) b_X11_worthNow_17_19 rfl (fun hd => ?_)
  refine R2.irem hd (by decide) ?_
  refine R2.B (ls2 := [some (.ref 48)]) (st2 := [.int (((loF F n) 61 (2 ^ n - 1)) - ((loF F n) 61 (2 ^ n - 1)) / 1000000 * 1000000)]) b_X11_worthNow_20_20 rfl (fun hd => ?_)
  exact R2.ret3 (r := some (.int (((loF F n) 61 (2 ^ n - 1)) - ((loF F n) 61 (2 ^ n - 1)) / 1000000 * 1000000))) hd trivial rfl rfl rfl
