/-! The reference: the most at once. Printed by wip/whole/gen/spec20.py. -/
abbrev tb (s i : Nat) : Prop := s / 2 ^ i % 2 = 1
def cl (s i : Nat) : Nat := if tb s i then s - 2 ^ i else s
theorem tb_dec : ((List.range 1024).all fun s => (List.range 11).all fun i => decide ((nI s >>> (nI i &&& 31) &&& 1 = 1) ↔ tb s i)) = true := by decide +kernel
theorem cl_dec : ((List.range 1024).all fun s => (List.range 11).all fun i => decide (nI s &&& ((1 <<< (nI i &&& 31)) ^^^ (-1)) = nI (cl s i))) = true := by decide +kernel
theorem sh_dec : ((List.range 11).all fun i => decide ((1 <<< (nI i &&& 31) : Int32) = nI (2 ^ i))) = true := by decide +kernel
theorem tb_iff {s i : Nat} (hs : s < 1024) (hi : i < 11) : (nI s >>> (nI i &&& 31) &&& 1 = 1) ↔ tb s i :=
  of_decide_eq_true (List.all_eq_true.mp (List.all_eq_true.mp tb_dec s (List.mem_range.mpr hs)) i (List.mem_range.mpr hi))
theorem cl_eq {s i : Nat} (hs : s < 1024) (hi : i < 11) : nI s &&& ((1 <<< (nI i &&& 31)) ^^^ (-1)) = nI (cl s i) :=
  of_decide_eq_true (List.all_eq_true.mp (List.all_eq_true.mp cl_dec s (List.mem_range.mpr hs)) i (List.mem_range.mpr hi))
theorem sh_eq {i : Nat} (hi : i < 11) : (1 <<< (nI i &&& 31) : Int32) = nI (2 ^ i) :=
  of_decide_eq_true (List.all_eq_true.mp sh_dec i (List.mem_range.mpr hi))
theorem cl_le (s i : Nat) : cl s i ≤ s := by
  unfold cl; split
  · exact Nat.sub_le _ _
  · exact Nat.le_refl _
theorem p2_le {n : Nat} (h : n ≤ 10) : 2 ^ n ≤ 1024 := Nat.pow_le_pow_right (by decide) h
theorem p2_pos (n : Nat) : 0 < 2 ^ n := Nat.pow_pos (by decide)
theorem nI_sub1 {n : Nat} (h : 0 < n) : nI n - 1 = nI (n - 1) := by
  obtain ⟨m, rfl⟩ : ∃ m, n = m + 1 := ⟨n - 1, by omega⟩
  rw [nI_pred]; rfl
theorem nI_dec {n : Nat} : nI (n + 1) + (-1) = nI n := by rw [← nI_pred n, Int32.sub_eq_add_neg]
abbrev bnd (F : FF) (n i j : Nat) : Prop := mvd F n (F 51 0) (-1) i j = 0
def by_ (F : FF) (i j r : Nat) : Int32 := 1000000 + gan (F 52) (F 54) i j + F 61 (cl r j)
def goI (n s i r : Nat) : Nat → Nat → FF → FF
  | 0, _, F => F
  | k + 1, j, F => if tb s j ∧ bnd F n i j then goI n s i r k (j + 1) (up2 F 61 s (if by_ F i j r ≤ F 61 s then F 61 s else by_ F i j r)) else goI n s i r k (j + 1) F
def lwb (s : Nat) : Nat → Nat → Nat
  | 0, i => i
  | k + 1, i => if tb s i then i else lwb s k (i + 1)
def goS (n s : Nat) (F : FF) : FF := goI n s (lwb s 10 0) (cl s (lwb s 10 0)) (n - (lwb s 10 0 + 1)) (lwb s 10 0 + 1) (up2 F 61 s (F 61 (cl s (lwb s 10 0))))
def goO (n : Nat) : Nat → Nat → FF → FF
  | 0, _, F => F
  | k + 1, s, F => goO n k (s + 1) (goS n s F)
def wsL (F : FF) (n s i r : Nat) : Nat → Int32 → Int32
  | 0, v => v
  | k + 1, v => wsL F n s i r k (if tb s (i + k + 1) ∧ bnd F n i (i + k + 1) ∧ by_ F i (i + k + 1) r = F 61 s then nI (i + k + 1) else v)
def woL (n : Nat) : Nat → Nat → Nat → FF → FF
  | 0, _, _, F => F
  | k + 1, i, s, F => if tb s i then
      (if wsL F n s i (cl s i) (n - 1 - i) (-1) = -1 then woL n k (i + 1) (cl s i) (up2 F 62 i (-1))
       else woL n k (i + 1) (cl (cl s i) (wsL F n s i (cl s i) (n - 1 - i) (-1)).toNatClampNeg) (up2 (up2 F 62 i (wsL F n s i (cl s i) (n - 1 - i) (-1))) 62 (wsL F n s i (cl s i) (n - 1 - i) (-1)).toNatClampNeg (nI i)))
      else woL n k (i + 1) s F
theorem wsL_case (F : FF) (n s i r : Nat) : ∀ (k : Nat) (v : Int32), (v = -1 ∨ ∃ j, i < j ∧ j < 11 ∧ v = nI j) → i + k < 11 → (wsL F n s i r k v = -1 ∨ ∃ j, i < j ∧ j < 11 ∧ wsL F n s i r k v = nI j)
  | 0, v, h, _ => h
  | k + 1, v, h, hk => by
    rw [wsL]
    refine wsL_case F n s i r k _ ?_ (by omega)
    split
    · exact Or.inr ⟨i + k + 1, by omega, by omega, rfl⟩
    · exact h
def loF (F : FF) (n : Nat) : FF := woL n n 0 (2 ^ n - 1) (goO n (2 ^ n - 1) 1 (up2 (ly F n) 61 0 0))
theorem goI_row (n s i r : Nat) : ∀ (k j : Nat) (F : FF) (a : Nat), a ≠ 61 → goI n s i r k j F a = F a
  | 0, _, _, _, _ => rfl
  | k + 1, j, F, a, h => by
    rw [goI]; split
    · rw [goI_row n s i r k _ _ a h]; funext x; simp [up2, h]
    · exact goI_row n s i r k _ _ a h
theorem goS_row {n s : Nat} {F : FF} {a : Nat} (h : a ≠ 61) : goS n s F a = F a := by
  unfold goS; rw [goI_row _ _ _ _ _ _ _ a h]; funext x; simp [up2, h]
theorem goO_row (n : Nat) : ∀ (k s : Nat) (F : FF) (a : Nat), a ≠ 61 → goO n k s F a = F a
  | 0, _, _, _, _ => rfl
  | k + 1, s, F, a, h => by rw [goO, goO_row n k _ _ a h, goS_row h]
theorem woL_row (n : Nat) : ∀ (k i s : Nat) (F : FF) (a : Nat), a ≠ 62 → woL n k i s F a = F a
  | 0, _, _, _, _, _ => rfl
  | k + 1, i, s, F, a, h => by
    rw [woL]; split
    · split
      · rw [woL_row n k _ _ _ a h]; funext x; simp [up2, h]
      · rw [woL_row n k _ _ _ a h]; funext x; simp [up2, h]
    · exact woL_row n k _ _ _ a h
theorem loF_row {F : FF} {n a : Nat} (h1 : a ≠ 57) (h2 : a ≠ 61) (h3 : a ≠ 62) : loF F n a = F a := by
  unfold loF; rw [woL_row _ _ _ _ _ a h3, goO_row _ _ _ _ a h2]
  rw [show up2 (ly F n) 61 0 0 a = ly F n a from (by funext x; simp [up2, h2])]
  exact ly_row h1
theorem me_isIn (E : EE) (L : Nat) (F : FF) (s i : Nat) (hs : s < 1024) (hi : i < 11) : Ev3 E L 1 mX11_isIn [.int (nI s), .int (nI i)] F (some (.int (b2i (tb s i)))) F := by
  rw [← b2i_cg (tb_iff hs hi)]; exact ev_isIn E L F (nI s) (nI i)
theorem b_X11_laysOnce_25_27 : bl2 mX11_laysOnce 25 [(.iload_n 1, 1, 1, 0, .null), (.iload_n 2, 1, 2, 0, .null)] 27 (.invokestatic 185) 3 = true := by decide +kernel
theorem b_X11_laysOnce_30_30 : bl2 mX11_laysOnce 30 [] 30 (.ifCond .ne 9) 3 = true := by decide +kernel
theorem b_X11_laysOnce_39_39 : bl2 mX11_laysOnce 39 [] 39 (.iload_n 1) 1 = true := by decide +kernel
theorem b_X11_laysOnce_33_25 : bl2 mX11_laysOnce 33 [(.iinc 2 1, 3, 2, 0, .int 1), (.goto (-11), 3, 25, 0, .null)] 25 (.iload_n 1) 1 = true := by decide +kernel
set_option maxRecDepth 20000 in
set_option maxHeartbeats 2000000 in
theorem ml_lw (E : EE) (L : Nat) (F : FF) (s : Nat) (hs : s < 1024) (Q : Q2) : ∀ (k i : Nat), i + k = 10 → (∃ j, i ≤ j ∧ j < 10 ∧ tb s j) → R2 E L mX11_laysOnce 6 39 [some (.ref 48), some (.int (nI s)), some (.int (nI (lwb s k i))), none, none, none] [] F Q → R2 E L mX11_laysOnce 6 25 [some (.ref 48), some (.int (nI s)), some (.int (nI i)), none, none, none] [] F Q := by
  intro k
  induction k with
  | zero =>
    intro i hi hx ex
    obtain ⟨j, h1, h2, h3⟩ := hx
    omega
  | succ k ih =>
    intro i hi hx ex
    refine R2.B (ls2 := [some (.ref 48), some (.int (nI s)), some (.int (nI i)), none, none, none]) (st2 := [.int (nI i), .int (nI s)]) b_X11_laysOnce_25_27 rfl (fun hd => ?_)
    refine R2.callS3 (M2 := mX11_isIn) (As := [.int (nI s), .int (nI i)]) (rest := []) hd lk_11_185 okX11_isIn (by decide) (me_isIn E L F s i (by omega) (by omega)) (by decide) rfl rfl (Nat.le_of_ble_eq_true rfl) ?_
    refine R2.B (ls2 := [some (.ref 48), some (.int (nI s)), some (.int (nI i)), none, none, none]) (st2 := [.int (b2i (tb s i))]) b_X11_laysOnce_30_30 rfl (fun hd => ?_)
    refine R2.if_ne 39 hd (by decide) (fun c30 => ?_) (fun c30 => ?_)
    · have nc30 : tb s i := b2i_nz.mp c30
      refine R2.B (ls2 := [some (.ref 48), some (.int (nI s)), some (.int (nI i)), none, none, none]) (st2 := []) b_X11_laysOnce_39_39 rfl (fun hd => ?_)
      have e : lwb s (k + 1) i = i := by rw [lwb, if_pos nc30]
      rw [e] at ex
      exact ex
    · have nc30 : ¬ (tb s i) := b2i_zero.mp c30
      refine R2.B (ls2 := [some (.ref 48), some (.int (nI s)), some (.int ((nI i) + 1)), none, none, none]) (st2 := []) b_X11_laysOnce_33_25 rfl (fun hd => ?_)
      rw [show ((nI i) + 1 : Int32) = nI (i + 1) from nI_add i 1]
      have e : lwb s (k + 1) i = lwb s k (i + 1) := by rw [lwb, if_neg nc30]
      rw [e] at ex
      refine ih (i + 1) (by omega) ?_ ex
      obtain ⟨j, h1, h2, h3⟩ := hx
      by_cases hj : j = i
      · exact absurd (hj ▸ h3) nc30
      · exact ⟨j, by omega, h2, h3⟩
theorem b_X11_laysOnce_64_70 : bl2 mX11_laysOnce 64 [(.iload 4, 2, 4, 0, .null), (.aload_n 0, 1, 0, 0, .null), (.getfield 101, 3, 11, 3, .null)] 70 (.if_icmp .ge 82) 3 = true := by decide +kernel
theorem b_X11_laysOnce_152_152 : bl2 mX11_laysOnce 152 [] 152 (.iinc 1 1) 3 = true := by decide +kernel
theorem b_X11_laysOnce_73_76 : bl2 mX11_laysOnce 73 [(.iload_n 1, 1, 1, 0, .null), (.iload 4, 2, 4, 0, .null)] 76 (.invokestatic 185) 3 = true := by decide +kernel
theorem b_X11_laysOnce_79_79 : bl2 mX11_laysOnce 79 [] 79 (.ifCond .eq 67) 3 = true := by decide +kernel
theorem b_X11_laysOnce_146_64 : bl2 mX11_laysOnce 146 [(.iinc 4 1, 3, 4, 0, .int 1), (.goto (-85), 3, 64, 0, .null)] 64 (.iload 4) 2 = true := by decide +kernel
theorem b_X11_laysOnce_82_86 : bl2 mX11_laysOnce 82 [(.aload_n 0, 1, 0, 0, .null), (.iload_n 2, 1, 2, 0, .null), (.iload 4, 2, 4, 0, .null)] 86 (.invokevirtual 176) 3 = true := by decide +kernel
theorem b_X11_laysOnce_89_89 : bl2 mX11_laysOnce 89 [] 89 (.ifCond .eq 57) 3 = true := by decide +kernel
theorem b_X11_laysOnce_92_98 : bl2 mX11_laysOnce 92 [(.ldc 188, 2, 0, 0, .int 1000000), (.aload_n 0, 1, 0, 0, .null), (.iload_n 2, 1, 2, 0, .null), (.iload 4, 2, 4, 0, .null)] 98 (.invokevirtual 166) 3 = true := by decide +kernel
theorem b_X11_laysOnce_101_114 : bl2 mX11_laysOnce 101 [(.iadd, 1, 0, 0, .null), (.aload_n 0, 1, 0, 0, .null), (.getfield 46, 3, 11, 14, .null), (.iload_n 3, 1, 3, 0, .null), (.iconst 1, 1, 0, 0, .int 1), (.iload 4, 2, 4, 0, .null), (.ishl, 1, 0, 0, .null), (.iconst (-1), 1, 0, 0, .int (-1)), (.ixor, 1, 0, 0, .null), (.iand, 1, 0, 0, .null)] 114 (.iaload) 1 = true := by decide +kernel
theorem b_X11_laysOnce_115_130 : bl2 mX11_laysOnce 115 [(.iadd, 1, 0, 0, .null), (.istore 5, 2, 5, 0, .null), (.aload_n 0, 1, 0, 0, .null), (.getfield 46, 3, 11, 14, .null), (.iload_n 1, 1, 1, 0, .null), (.iload 5, 2, 5, 0, .null), (.aload_n 0, 1, 0, 0, .null), (.getfield 46, 3, 11, 14, .null), (.iload_n 1, 1, 1, 0, .null)] 130 (.iaload) 1 = true := by decide +kernel
theorem b_X11_laysOnce_131_131 : bl2 mX11_laysOnce 131 [] 131 (.if_icmp .le 8) 3 = true := by decide +kernel
theorem b_X11_laysOnce_139_144 : bl2 mX11_laysOnce 139 [(.aload_n 0, 1, 0, 0, .null), (.getfield 46, 3, 11, 14, .null), (.iload_n 1, 1, 1, 0, .null)] 144 (.iaload) 1 = true := by decide +kernel
theorem b_X11_laysOnce_145_145 : bl2 mX11_laysOnce 145 [] 145 (.iastore) 1 = true := by decide +kernel
theorem b_X11_laysOnce_134_145 : bl2 mX11_laysOnce 134 [(.iload 5, 2, 5, 0, .null), (.goto 9, 3, 145, 0, .null)] 145 (.iastore) 1 = true := by decide +kernel
set_option maxRecDepth 20000 in
set_option maxHeartbeats 2000000 in
theorem ml_goI (E : EE) (L : Nat) (n s i r : Nat) (hn10 : n ≤ 10) (hs : s < 1024) (hr : r < 1024) (hi9 : i < 11) (Q : Q2) : ∀ (k : Nat) (j : Nat) (F : FF), j + k = n → F 48 3 = nI n → R2 E L mX11_laysOnce 6 152 [some (.ref 48), some (.int (nI s)), none, none, none, none] [] (goI n s i r k j F) Q → R2 E L mX11_laysOnce 6 64 [some (.ref 48), some (.int (nI s)), some (.int (nI i)), some (.int (nI r)), some (.int (nI j)), none] [] F Q := by
  intro k
  induction k with
  | zero =>
    intro j F hi hn ex
    refine R2.B (ls2 := [some (.ref 48), some (.int (nI s)), some (.int (nI i)), some (.int (nI r)), some (.int (nI j)), none]) (st2 := [.int (F 48 3), .int (nI j)]) b_X11_laysOnce_64_70 rfl (fun hd => ?_)
    rw [show (F 48 3 : Int32) = nI n from hn]
    refine R2.icmp_ge 152 hd (by decide) (fun c70 => ?_) (fun c70 => absurd (nI_le (by omega) (by omega)) c70)
    refine R2.B (ls2 := [some (.ref 48), some (.int (nI s)), some (.int (nI i)), some (.int (nI r)), some (.int (nI j)), none]) (st2 := []) b_X11_laysOnce_152_152 rfl (fun hd => ?_)
    refine R2.forget (ls2 := [some (.ref 48), some (.int (nI s)), none, none, none, none]) ⟨rfl, ⟨rfl, trivial⟩⟩ ?_
    exact ex
  | succ k ih =>
    intro j F hi hn ex
    refine R2.B (ls2 := [some (.ref 48), some (.int (nI s)), some (.int (nI i)), some (.int (nI r)), some (.int (nI j)), none]) (st2 := [.int (F 48 3), .int (nI j)]) b_X11_laysOnce_64_70 rfl (fun hd => ?_)
    rw [show (F 48 3 : Int32) = nI n from hn]
    refine R2.icmp_ge 152 hd (by decide) (fun c70 => absurd c70 (nI_ge (by omega) (by omega))) (fun c70 => ?_)
    refine R2.B (ls2 := [some (.ref 48), some (.int (nI s)), some (.int (nI i)), some (.int (nI r)), some (.int (nI j)), none]) (st2 := [.int (nI j), .int (nI s)]) b_X11_laysOnce_73_76 rfl (fun hd => ?_)
    refine R2.callS3 (M2 := mX11_isIn) (As := [.int (nI s), .int (nI j)]) (rest := []) hd lk_11_185 okX11_isIn (by decide) (me_isIn E L F s j (by omega) (by omega)) (by decide) rfl rfl (Nat.le_of_ble_eq_true rfl) ?_
    refine R2.B (ls2 := [some (.ref 48), some (.int (nI s)), some (.int (nI i)), some (.int (nI r)), some (.int (nI j)), none]) (st2 := [.int (b2i (tb s j))]) b_X11_laysOnce_79_79 rfl (fun hd => ?_)
    refine R2.if_eq 146 hd (by decide) (fun c79 => ?_) (fun c79 => ?_)
    · have nc79 : ¬ (tb s j) := b2i_zero.mp c79
      refine R2.B (ls2 := [some (.ref 48), some (.int (nI s)), some (.int (nI i)), some (.int (nI r)), some (.int ((nI j) + 1)), none]) (st2 := []) b_X11_laysOnce_146_64 rfl (fun hd => ?_)
      rw [show ((nI j) + 1 : Int32) = nI (j + 1) from nI_add j 1]
      have e : goI n s i r (k + 1) j F = goI n s i r k (j + 1) F := by
        simp only [goI]; rw [if_neg (by clear hd ih ex; grind)]
      rw [e] at ex
      refine R2.forget (ls2 := [some (.ref 48), some (.int (nI s)), some (.int (nI i)), some (.int (nI r)), some (.int (nI (j + 1))), none]) ⟨rfl, ⟨rfl, ⟨rfl, ⟨rfl, ⟨rfl, trivial⟩⟩⟩⟩⟩ ?_
      exact ih (j + 1) _ (by omega) hn ex
    · have nc79 : tb s j := b2i_nz.mp c79
      refine R2.B (ls2 := [some (.ref 48), some (.int (nI s)), some (.int (nI i)), some (.int (nI r)), some (.int (nI j)), none]) (st2 := [.int (nI j), .int (nI i), .ref 48]) b_X11_laysOnce_82_86 rfl (fun hd => ?_)
      refine R2.callV3 (M2 := mX11_isBound) (As := [.int (nI i), .int (nI j)]) (rest := []) hd lk_11_176 okX11_isBound (by decide) rfl (me_isBound E L F n hn hn10 i j (by omega) (by omega)) (by decide) rfl rfl (Nat.le_of_ble_eq_true rfl) ?_
      refine R2.B (ls2 := [some (.ref 48), some (.int (nI s)), some (.int (nI i)), some (.int (nI r)), some (.int (nI j)), none]) (st2 := [.int (b2i (mvd F n (F 51 0) (-1) i j = 0))]) b_X11_laysOnce_89_89 rfl (fun hd => ?_)
      refine R2.if_eq 146 hd (by decide) (fun c89 => ?_) (fun c89 => ?_)
      · have nc89 : ¬ (mvd F n (F 51 0) (-1) i j = 0) := b2i_zero.mp c89
        refine R2.B (ls2 := [some (.ref 48), some (.int (nI s)), some (.int (nI i)), some (.int (nI r)), some (.int ((nI j) + 1)), none]) (st2 := []) b_X11_laysOnce_146_64 rfl (fun hd => ?_)
        rw [show ((nI j) + 1 : Int32) = nI (j + 1) from nI_add j 1]
        have e : goI n s i r (k + 1) j F = goI n s i r k (j + 1) F := by
          simp only [goI]; rw [if_neg (by clear hd ih ex; grind)]
        rw [e] at ex
        refine R2.forget (ls2 := [some (.ref 48), some (.int (nI s)), some (.int (nI i)), some (.int (nI r)), some (.int (nI (j + 1))), none]) ⟨rfl, ⟨rfl, ⟨rfl, ⟨rfl, ⟨rfl, trivial⟩⟩⟩⟩⟩ ?_
        exact ih (j + 1) _ (by omega) hn ex
      · have nc89 : mvd F n (F 51 0) (-1) i j = 0 := b2i_nz.mp c89
        refine R2.B (ls2 := [some (.ref 48), some (.int (nI s)), some (.int (nI i)), some (.int (nI r)), some (.int (nI j)), none]) (st2 := [.int (nI j), .int (nI i), .ref 48, .int 1000000]) b_X11_laysOnce_92_98 rfl (fun hd => ?_)
        refine R2.callV3 (M2 := mX11_worthOf) (As := [.int (nI i), .int (nI j)]) (rest := [.int 1000000]) hd lk_11_166 okX11_worthOf (by decide) rfl (me_worthOf E L F i j (by omega) (by omega)) (by decide) rfl rfl (Nat.le_of_ble_eq_true rfl) ?_
        refine R2.B (ls2 := [some (.ref 48), some (.int (nI s)), some (.int (nI i)), some (.int (nI r)), some (.int (nI j)), none]) (st2 := [.int ((nI r) &&& ((1 <<< ((nI j) &&& 31)) ^^^ (-1))), .ref 61, .int (1000000 + (gan (F 52) (F 54) i j))]) b_X11_laysOnce_101_114 rfl (fun hd => ?_)
        refine R2.iald (cl r j) (cl_eq (by omega) (by omega)) hd rfl (fun _ => rfl) (by decide) (Nat.lt_of_le_of_lt (cl_le r j) hr) ?_
        refine R2.B (ls2 := [some (.ref 48), some (.int (nI s)), some (.int (nI i)), some (.int (nI r)), some (.int (nI j)), some (.int ((1000000 + (gan (F 52) (F 54) i j)) + (F 61 (cl r j))))]) (st2 := [.int (nI s), .ref 61, .int ((1000000 + (gan (F 52) (F 54) i j)) + (F 61 (cl r j))), .int (nI s), .ref 61]) b_X11_laysOnce_115_130 rfl (fun hd => ?_)
        refine R2.iald s rfl hd rfl (fun _ => rfl) (by decide) (by omega) ?_
        refine R2.B (ls2 := [some (.ref 48), some (.int (nI s)), some (.int (nI i)), some (.int (nI r)), some (.int (nI j)), some (.int ((1000000 + (gan (F 52) (F 54) i j)) + (F 61 (cl r j))))]) (st2 := [.int (F 61 s), .int ((1000000 + (gan (F 52) (F 54) i j)) + (F 61 (cl r j))), .int (nI s), .ref 61]) b_X11_laysOnce_131_131 rfl (fun hd => ?_)
        refine R2.icmp_le 139 hd (by decide) (fun c131 => ?_) (fun c131 => ?_)
        · refine R2.B (ls2 := [some (.ref 48), some (.int (nI s)), some (.int (nI i)), some (.int (nI r)), some (.int (nI j)), some (.int ((1000000 + (gan (F 52) (F 54) i j)) + (F 61 (cl r j))))]) (st2 := [.int (nI s), .ref 61, .int (nI s), .ref 61]) b_X11_laysOnce_139_144 rfl (fun hd => ?_)
          refine R2.iald s rfl hd rfl (fun _ => rfl) (by decide) (by omega) ?_
          refine R2.B (ls2 := [some (.ref 48), some (.int (nI s)), some (.int (nI i)), some (.int (nI r)), some (.int (nI j)), some (.int ((1000000 + (gan (F 52) (F 54) i j)) + (F 61 (cl r j))))]) (st2 := [.int (F 61 s), .int (nI s), .ref 61]) b_X11_laysOnce_145_145 rfl (fun hd => ?_)
          refine R2.iast s rfl hd (by decide) rfl (fun _ => rfl) (by decide) (by omega) ?_
          refine R2.B (ls2 := [some (.ref 48), some (.int (nI s)), some (.int (nI i)), some (.int (nI r)), some (.int ((nI j) + 1)), some (.int ((1000000 + (gan (F 52) (F 54) i j)) + (F 61 (cl r j))))]) (st2 := []) b_X11_laysOnce_146_64 rfl (fun hd => ?_)
          rw [show ((nI j) + 1 : Int32) = nI (j + 1) from nI_add j 1]
          have e : goI n s i r (k + 1) j F = goI n s i r k (j + 1) (up2 F 61 s (F 61 s)) := by
            simp only [goI]; rw [if_pos ⟨nc79, nc89⟩]; rw [if_pos (show by_ F i j r ≤ F 61 s from c131)]
          rw [e] at ex
          refine R2.forget (ls2 := [some (.ref 48), some (.int (nI s)), some (.int (nI i)), some (.int (nI r)), some (.int (nI (j + 1))), none]) ⟨rfl, ⟨rfl, ⟨rfl, ⟨rfl, ⟨rfl, trivial⟩⟩⟩⟩⟩ ?_
          exact ih (j + 1) _ (by omega) hn ex
        · refine R2.B (ls2 := [some (.ref 48), some (.int (nI s)), some (.int (nI i)), some (.int (nI r)), some (.int (nI j)), some (.int ((1000000 + (gan (F 52) (F 54) i j)) + (F 61 (cl r j))))]) (st2 := [.int ((1000000 + (gan (F 52) (F 54) i j)) + (F 61 (cl r j))), .int (nI s), .ref 61]) b_X11_laysOnce_134_145 rfl (fun hd => ?_)
          refine R2.iast s rfl hd (by decide) rfl (fun _ => rfl) (by decide) (by omega) ?_
          refine R2.B (ls2 := [some (.ref 48), some (.int (nI s)), some (.int (nI i)), some (.int (nI r)), some (.int ((nI j) + 1)), some (.int ((1000000 + (gan (F 52) (F 54) i j)) + (F 61 (cl r j))))]) (st2 := []) b_X11_laysOnce_146_64 rfl (fun hd => ?_)
          rw [show ((nI j) + 1 : Int32) = nI (j + 1) from nI_add j 1]
          have e : goI n s i r (k + 1) j F = goI n s i r k (j + 1) (up2 F 61 s ((1000000 + (gan (F 52) (F 54) i j)) + (F 61 (cl r j)))) := by
            simp only [goI]; rw [if_pos ⟨nc79, nc89⟩]; rw [if_neg (show ¬ by_ F i j r ≤ F 61 s from c131)]; rfl
          rw [e] at ex
          refine R2.forget (ls2 := [some (.ref 48), some (.int (nI s)), some (.int (nI i)), some (.int (nI r)), some (.int (nI (j + 1))), none]) ⟨rfl, ⟨rfl, ⟨rfl, ⟨rfl, ⟨rfl, trivial⟩⟩⟩⟩⟩ ?_
          exact ih (j + 1) _ (by omega) hn ex
theorem ex_tb_dec : ((List.range 1024).all fun s => decide (s = 0) || (decide (lwb s 10 0 < 10) && decide (tb s (lwb s 10 0)) && decide (2 ^ (lwb s 10 0) ≤ s))) = true := by decide +kernel
theorem lwb_ok {s : Nat} (h0 : 0 < s) (hs : s < 1024) : lwb s 10 0 < 10 ∧ tb s (lwb s 10 0) ∧ 2 ^ (lwb s 10 0) ≤ s := by
  have h := List.all_eq_true.mp ex_tb_dec s (List.mem_range.mpr hs)
  rcases (Bool.or_eq_true _ _).mp h with h | h
  · exact absurd (of_decide_eq_true h) (by omega)
  · have h2 := (Bool.and_eq_true _ _).mp h
    have h3 := (Bool.and_eq_true _ _).mp h2.1
    exact ⟨of_decide_eq_true h3.1, of_decide_eq_true h3.2, of_decide_eq_true h2.2⟩
theorem ex_tb {s : Nat} (h0 : 0 < s) (hs : s < 1024) : ∃ j, 0 ≤ j ∧ j < 10 ∧ tb s j := ⟨_, Nat.zero_le _, (lwb_ok h0 hs).1, (lwb_ok h0 hs).2.1⟩
theorem lwb_n {s n : Nat} (h0 : 0 < s) (hs : s < 2 ^ n) (hn : n ≤ 10) : lwb s 10 0 < n := by
  have h := (lwb_ok h0 (Nat.lt_of_lt_of_le hs (p2_le hn))).2.2
  exact (Nat.pow_lt_pow_iff_right (by decide)).mp (Nat.lt_of_le_of_lt h hs)
theorem b_X11_laysOnce_13_20 : bl2 mX11_laysOnce 13 [(.iload_n 1, 1, 1, 0, .null), (.iconst 1, 1, 0, 0, .int 1), (.aload_n 0, 1, 0, 0, .null), (.getfield 101, 3, 11, 3, .null), (.ishl, 1, 0, 0, .null)] 20 (.if_icmp .ge 138) 3 = true := by decide +kernel
theorem b_X11_laysOnce_158_158 : bl2 mX11_laysOnce 158 [] 158 (.iconst 1) 1 = true := by decide +kernel
theorem b_X11_laysOnce_23_25 : bl2 mX11_laysOnce 23 [(.iconst 0, 1, 0, 0, .int 0), (.istore_n 2, 1, 2, 0, .null)] 25 (.iload_n 1) 1 = true := by decide +kernel
theorem b_X11_laysOnce_39_57 : bl2 mX11_laysOnce 39 [(.iload_n 1, 1, 1, 0, .null), (.iconst 1, 1, 0, 0, .int 1), (.iload_n 2, 1, 2, 0, .null), (.ishl, 1, 0, 0, .null), (.iconst (-1), 1, 0, 0, .int (-1)), (.ixor, 1, 0, 0, .null), (.iand, 1, 0, 0, .null), (.istore_n 3, 1, 3, 0, .null), (.aload_n 0, 1, 0, 0, .null), (.getfield 46, 3, 11, 14, .null), (.iload_n 1, 1, 1, 0, .null), (.aload_n 0, 1, 0, 0, .null), (.getfield 46, 3, 11, 14, .null), (.iload_n 3, 1, 3, 0, .null)] 57 (.iaload) 1 = true := by decide +kernel
theorem b_X11_laysOnce_58_58 : bl2 mX11_laysOnce 58 [] 58 (.iastore) 1 = true := by decide +kernel
theorem b_X11_laysOnce_59_64 : bl2 mX11_laysOnce 59 [(.iload_n 2, 1, 2, 0, .null), (.iconst 1, 1, 0, 0, .int 1), (.iadd, 1, 0, 0, .null), (.istore 4, 2, 4, 0, .null)] 64 (.iload 4) 2 = true := by decide +kernel
theorem b_X11_laysOnce_152_13 : bl2 mX11_laysOnce 152 [(.iinc 1 1, 3, 1, 0, .int 1), (.goto (-142), 3, 13, 0, .null)] 13 (.iload_n 1) 1 = true := by decide +kernel
set_option maxRecDepth 20000 in
set_option maxHeartbeats 2000000 in
theorem ml_goO (E : EE) (L : Nat) (n : Nat) (hn10 : n ≤ 10) (Q : Q2) : ∀ (k : Nat) (s : Nat) (F : FF), s + k = 2 ^ n → 0 < s → F 48 3 = nI n → R2 E L mX11_laysOnce 6 158 [some (.ref 48), none, none, none, none, none] [] (goO n k s F) Q → R2 E L mX11_laysOnce 6 13 [some (.ref 48), some (.int (nI s)), none, none, none, none] [] F Q := by
  intro k
  induction k with
  | zero =>
    intro s F hi h0 hn ex
    refine R2.B (ls2 := [some (.ref 48), some (.int (nI s)), none, none, none, none]) (st2 := [.int (1 <<< ((F 48 3) &&& 31)), .int (nI s)]) b_X11_laysOnce_13_20 rfl (fun hd => ?_)
    rw [show (1 <<< ((F 48 3) &&& 31) : Int32) = nI (2 ^ n) from (by rw [hn]; exact sh_eq (by omega))]
    refine R2.icmp_ge 158 hd (by decide) (fun c20 => ?_) (fun c20 => absurd (nI_le (by omega) (by have := p2_le hn10; omega)) c20)
    refine R2.B (ls2 := [some (.ref 48), some (.int (nI s)), none, none, none, none]) (st2 := []) b_X11_laysOnce_158_158 rfl (fun hd => ?_)
    refine R2.forget (ls2 := [some (.ref 48), none, none, none, none, none]) ⟨rfl, trivial⟩ ?_
    exact ex
  | succ k ih =>
    intro s F hi h0 hn ex
    have hp := p2_le hn10
    have hlw := lwb_n h0 (show s < 2 ^ n by omega) hn10
    refine R2.B (ls2 := [some (.ref 48), some (.int (nI s)), none, none, none, none]) (st2 := [.int (1 <<< ((F 48 3) &&& 31)), .int (nI s)]) b_X11_laysOnce_13_20 rfl (fun hd => ?_)
    rw [show (1 <<< ((F 48 3) &&& 31) : Int32) = nI (2 ^ n) from (by rw [hn]; exact sh_eq (by omega))]
    refine R2.icmp_ge 158 hd (by decide) (fun c20 => absurd c20 (nI_ge (by omega) (by have := p2_le hn10; omega))) (fun c20 => ?_)
    refine R2.B (ls2 := [some (.ref 48), some (.int (nI s)), some (.int 0), none, none, none]) (st2 := []) b_X11_laysOnce_23_25 rfl (fun hd => ?_)
    refine ml_lw E L F s (by omega) _ 10 0 (by omega) (ex_tb (by omega) (by omega)) ?_
    refine R2.B (ls2 := [some (.ref 48), some (.int (nI s)), some (.int (nI (lwb s 10 0))), some (.int ((nI s) &&& ((1 <<< ((nI (lwb s 10 0)) &&& 31)) ^^^ (-1)))), none, none]) (st2 := [.int ((nI s) &&& ((1 <<< ((nI (lwb s 10 0)) &&& 31)) ^^^ (-1))), .ref 61, .int (nI s), .ref 61]) b_X11_laysOnce_39_57 rfl (fun hd => ?_)
    rw [show ((nI s) &&& ((1 <<< ((nI (lwb s 10 0)) &&& 31)) ^^^ (-1)) : Int32) = nI (cl s (lwb s 10 0)) from (cl_eq (by omega) (by omega))]
    have hcl := cl_le s (lwb s 10 0)
    refine R2.iald (cl s (lwb s 10 0)) rfl hd rfl (fun _ => rfl) (by decide) (by omega) ?_
    refine R2.B (ls2 := [some (.ref 48), some (.int (nI s)), some (.int (nI (lwb s 10 0))), some (.int (nI (cl s (lwb s 10 0)))), none, none]) (st2 := [.int (F 61 (cl s (lwb s 10 0))), .int (nI s), .ref 61]) b_X11_laysOnce_58_58 rfl (fun hd => ?_)
    refine R2.iast s rfl hd (by decide) rfl (fun _ => rfl) (by decide) (by omega) ?_
    refine R2.B (ls2 := [some (.ref 48), some (.int (nI s)), some (.int (nI (lwb s 10 0))), some (.int (nI (cl s (lwb s 10 0)))), some (.int ((nI (lwb s 10 0)) + 1)), none]) (st2 := []) b_X11_laysOnce_59_64 rfl (fun hd => ?_)
    rw [show ((nI (lwb s 10 0)) + 1 : Int32) = nI ((lwb s 10 0) + 1) from nI_add (lwb s 10 0) 1]
    refine ml_goI E L n s (lwb s 10 0) (cl s (lwb s 10 0)) hn10 (by omega) (by omega) (by omega) _ (n - (lwb s 10 0 + 1)) (lwb s 10 0 + 1) (up2 F 61 s (F 61 (cl s (lwb s 10 0)))) (by omega) hn ?_
    refine R2.B (ls2 := [some (.ref 48), some (.int ((nI s) + 1)), none, none, none, none]) (st2 := []) b_X11_laysOnce_152_13 rfl (fun hd => ?_)
    rw [show ((nI s) + 1 : Int32) = nI (s + 1) from nI_add s 1]
    exact ih (s + 1) _ (by omega) (by omega) ((congrFun (goS_row (by decide)) 3).trans hn) ex
