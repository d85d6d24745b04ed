/-! The reference: sheets, count. Printed by wip/whole/gen/spec26.py. -/
theorem cmp_rg {a q z : Nat} (ha : a < 2 ^ 31) (hq : q < 2 ^ 31) (hz : z ≤ 60) : (Int32.toInt64 (nI a) + Int32.toInt64 (nI q) ≤ Int32.toInt64 (nI z)) ↔ a + q ≤ z := by
  have e1 : (nI a).toInt = a := nI_toInt ha
  have e2 : (nI q).toInt = q := nI_toInt hq
  have e3 : (nI z).toInt = z := nI_toInt (by omega)
  rw [Int64.le_iff_toInt_le, Int64.toInt_add, Int32.toInt_toInt64, Int32.toInt_toInt64, Int32.toInt_toInt64, e1, e2, e3, Int.bmod_eq_of_le (by omega) (by omega)]
  omega
theorem sub_rg {a q z : Nat} (ha : a < 2 ^ 31) (hq : q < 2 ^ 31) (hz : z ≤ 60) : (nI a ≤ nI z - nI q) ↔ a + q ≤ z := by
  have e1 : (nI a).toInt = a := nI_toInt ha
  have e2 : (nI q).toInt = q := nI_toInt hq
  have e3 : (nI z).toInt = z := nI_toInt (by omega)
  rw [Int32.le_iff_toInt_le, Int32.toInt_sub, e1, e2, e3, Int.bmod_eq_of_le (by omega) (by omega)]
  omega
theorem cmp_of {x n w : Int32} {z : Nat} (hw : w = nI z) (hz : z ≤ 60) (hx : ¬ x < 0) (hn : ¬ n < 0) : (Int32.toInt64 x + Int32.toInt64 n ≤ Int32.toInt64 w) ↔ x ≤ w - n := by
  obtain ⟨a, ha, rfl⟩ := nI_of hx
  obtain ⟨q, hq, rfl⟩ := nI_of hn
  rw [hw, cmp_rg ha hq hz, sub_rg ha hq hz]
theorem le_pred60 {z : Nat} (hz : z ≤ 60) (x : Int32) : x ≤ nI z - 1 ↔ x < nI z := by
  refine i32_le_pred (nI z) (nI z - 1) x ?_
  rw [show (1 : Int32) = nI 1 from rfl, pk_sub_toInt (by omega) (by omega), nI_toInt (by omega)]; rfl
def lckA (th form size f i : Int32) : Int32 := if th = 0 then 1 else if ¬ form = f then 3 else if 0 ≤ i ∧ i ≤ size - 1 then 0 else 2
theorem lck_le {th form size f i : Int32} (h : ¬ lckA th form size f i = 0) : ¬ lckA th form size f i ≤ 0 := by
  unfold lckA at *; split at h
  · rw [if_pos (by assumption)]; decide
  · split at h
    · rw [if_neg (by assumption), if_pos (by assumption)]; decide
    · split at h
      · exact absurd rfl h
      · rw [if_neg (by assumption), if_neg (by assumption), if_neg (by assumption)]; decide
def zfL (s : Nat) : Nat → Nat → FF → FF
  | 0, _, F => F
  | k + 1, j, F => zfL s k (j + 1) (up2 F 72 (60 * s + j) 0)
def wrM (s : Nat) : Nat → Nat → FF → FF
  | 0, _, F => F
  | k + 1, j, F => wrM s k (j + 1) (up2 F 72 (60 * s + j) (nrw (F 70 s) (F 56 j)))
def mv1 (s a : Nat) : Nat → Nat → FF → FF
  | 0, _, F => F
  | k + 1, j, F => mv1 s a k (j + 1) (up2 F 73 j (F 72 (60 * s + a + j)))
def mv2 (t b : Nat) : Nat → Nat → FF → FF
  | 0, _, F => F
  | k + 1, j, F => mv2 t b k (j + 1) (up2 F 72 (60 * t + b + j) (F 73 j))
def rdM (n a s : Nat) : Nat → Nat → FF → Nat × FF
  | 0, j, F => (j, F)
  | k + 1, j, F => if 0 ≤ F 72 (60 * s + j) ∧ F 72 (60 * s + j) ≤ 7 then
      (if stC F n a (F 72 (60 * s + j)).toNatClampNeg then rdM n a s k (j + 1) (up2 (ly F n) 56 a (nbr (F 56 a) (F 72 (60 * s + j)).toNatClampNeg)) else (j, ly F n))
      else (j, F)
theorem dir7 {x : Int32} (h : 0 ≤ x ∧ x ≤ 7) : ∃ d, d < 8 ∧ x = nI d := dir_of ⟨h.1, (i32_le_pred 8 7 x (by decide)).mp h.2⟩
theorem b_X11_meets_0_2 : bl2 mX11_meets 0 [(.aload_n 0, 1, 0, 0, .null), (.iload_n 1, 1, 1, 0, .null)] 2 (.putfield 247) 3 = true := by decide +kernel
theorem b_X11_meets_5_9 : bl2 mX11_meets 5 [(.bipush (-10), 2, 0, 0, .int (-10)), (.iload_n 1, 1, 1, 0, .null), (.isub, 1, 0, 0, .null)] 9 (.ireturn) 1 = true := by decide +kernel
set_option maxRecDepth 20000 in
set_option maxHeartbeats 1000000 in
theorem me_meets (E : EE) (L : Nat) (F : FF) (x : Int32) : Ev3 E L 1 mX11_meets [.ref 48, .int x] F (some (.int (-10 - x))) (up2 F 48 31 x) := by
  refine Ev3.of okX11_meets.2.2.1 (Nat.le_of_ble_eq_true rfl) ?_
  show R2 E L mX11_meets 1 0 [some (.ref 48), some (.int x)] [] F _
  refine R2.B (ls2 := [some (.ref 48), some (.int x)]) (st2 := [.int x, .ref 48]) b_X11_meets_0_2 rfl (fun hd => ?_)
  refine R2.putf (a := 11) (b := 31) hd (by decide) (by decide) rfl rfl (fun _ => rfl) ?_
  refine R2.B (ls2 := [some (.ref 48), some (.int x)]) (st2 := [.int ((-10) - x)]) b_X11_meets_5_9 rfl (fun hd => ?_)
  exact R2.ret3 (r := some (.int ((-10) - x))) hd trivial rfl rfl rfl
theorem b_X11_isSheet_0_3 : bl2 mX11_isSheet 0 [(.iload_n 0, 1, 0, 0, .null), (.iconst 0, 1, 0, 0, .int 0), (.iconst 3, 1, 0, 0, .int 3)] 3 (.invokestatic 86) 3 = true := by decide +kernel
theorem b_X11_isSheet_6_6 : bl2 mX11_isSheet 6 [] 6 (.ireturn) 1 = true := by decide +kernel
set_option maxRecDepth 20000 in
set_option maxHeartbeats 1000000 in
theorem me_isSheet (E : EE) (L : Nat) (F : FF) (x : Int32) : Ev3 E L 2 mX11_isSheet [.int x] F (some (.int (b2i (0 ≤ x ∧ x ≤ 3)))) F := by
  refine Ev3.of okX11_isSheet.2.1 (Nat.le_of_ble_eq_true rfl) ?_
  show R2 E L mX11_isSheet 2 0 [some (.int x)] [] F _
  refine R2.B (ls2 := [some (.int x)]) (st2 := [.int 3, .int 0, .int x]) b_X11_isSheet_0_3 rfl (fun hd => ?_)
  refine R2.callS3 (M2 := mX11_in) (As := [.int x, .int 0, .int 3]) (rest := []) hd lk_11_86 okX11_in (by decide) (ev_in E L F x 0 3) (by decide) rfl rfl (Nat.le_of_ble_eq_true rfl) ?_
  refine R2.B (ls2 := [some (.int x)]) (st2 := [.int (b2i (0 ≤ x ∧ x ≤ 3))]) b_X11_isSheet_6_6 rfl (fun hd => ?_)
  exact R2.ret3 (r := some (.int (b2i (0 ≤ x ∧ x ≤ 3)))) hd b2i_01 rfl rfl rfl
theorem b_X11_sheet_0_1 : bl2 mX11_sheet 0 [(.iload_n 1, 1, 1, 0, .null)] 1 (.invokestatic 153) 3 = true := by decide +kernel
theorem b_X11_sheet_4_4 : bl2 mX11_sheet 4 [] 4 (.ifCond .eq 18) 3 = true := by decide +kernel
theorem b_X11_sheet_22_24 : bl2 mX11_sheet 22 [(.bipush (-2), 2, 0, 0, .int (-2))] 24 (.ireturn) 1 = true := by decide +kernel
theorem b_X11_sheet_7_10 : bl2 mX11_sheet 7 [(.iload_n 2, 1, 2, 0, .null), (.iconst 0, 1, 0, 0, .int 0), (.iconst 2, 1, 0, 0, .int 2)] 10 (.invokestatic 86) 3 = true := by decide +kernel
theorem b_X11_sheet_13_13 : bl2 mX11_sheet 13 [] 13 (.ifCond .eq 9) 3 = true := by decide +kernel
theorem b_X11_sheet_16_19 : bl2 mX11_sheet 16 [(.iload_n 3, 1, 3, 0, .null), (.bipush 60, 2, 0, 0, .int 60)] 19 (.if_icmp .le 6) 3 = true := by decide +kernel
theorem b_X11_sheet_25_25 : bl2 mX11_sheet 25 [] 25 (.iload_n 3) 1 = true := by decide +kernel
set_option maxRecDepth 20000 in
set_option maxHeartbeats 1000000 in
theorem y_sheet_bad (E : EE) (L : Nat) (F : FF) (s f x : Int32) (h : ¬ (0 ≤ s ∧ s < 4) ∨ ¬ (0 ≤ f ∧ f < 3) ∨ 60 < x) : Ev3 E L 16 mX11_sheet [.ref 48, .int s, .int f, .int x] F (some (.int (-2))) F := by
  refine Ev3.of okX11_sheet.2.2.1 (Nat.le_of_ble_eq_true rfl) ?_
  show R2 E L mX11_sheet 16 0 [some (.ref 48), some (.int s), some (.int f), some (.int x), none] [] F _
  refine R2.B (ls2 := [some (.ref 48), some (.int s), some (.int f), some (.int x), none]) (st2 := [.int s]) b_X11_sheet_0_1 rfl (fun hd => ?_)
  refine R2.callS3 (M2 := mX11_isSheet) (As := [.int s]) (rest := []) hd lk_11_153 okX11_isSheet (by decide) (me_isSheet E L F s) (by decide) rfl rfl (Nat.le_of_ble_eq_true rfl) ?_
  refine R2.B (ls2 := [some (.ref 48), some (.int s), some (.int f), some (.int x), none]) (st2 := [.int (b2i (0 ≤ s ∧ s ≤ 3))]) b_X11_sheet_4_4 rfl (fun hd => ?_)
  refine R2.if_eq 22 hd (by decide) (fun c4 => ?_) (fun c4 => ?_)
  · have nc4 : ¬ (0 ≤ s ∧ s ≤ 3) := b2i_zero.mp c4
    refine R2.B (ls2 := [some (.ref 48), some (.int s), some (.int f), some (.int x), none]) (st2 := [.int (-2)]) b_X11_sheet_22_24 rfl (fun hd => ?_)
    exact R2.ret3 (r := some (.int (-2))) hd trivial rfl rfl rfl
  · have nc4 : 0 ≤ s ∧ s ≤ 3 := b2i_nz.mp c4
    refine R2.B (ls2 := [some (.ref 48), some (.int s), some (.int f), some (.int x), none]) (st2 := [.int 2, .int 0, .int f]) b_X11_sheet_7_10 rfl (fun hd => ?_)
    refine R2.callS3 (M2 := mX11_in) (As := [.int f, .int 0, .int 2]) (rest := []) hd lk_11_86 okX11_in (by decide) (ev_in E L F f 0 2) (by decide) rfl rfl (Nat.le_of_ble_eq_true rfl) ?_
    refine R2.B (ls2 := [some (.ref 48), some (.int s), some (.int f), some (.int x), none]) (st2 := [.int (b2i (0 ≤ f ∧ f ≤ 2))]) b_X11_sheet_13_13 rfl (fun hd => ?_)
    refine R2.if_eq 22 hd (by decide) (fun c13 => ?_) (fun c13 => ?_)
    · have nc13 : ¬ (0 ≤ f ∧ f ≤ 2) := b2i_zero.mp c13
      refine R2.B (ls2 := [some (.ref 48), some (.int s), some (.int f), some (.int x), none]) (st2 := [.int (-2)]) b_X11_sheet_22_24 rfl (fun hd => ?_)
      exact R2.ret3 (r := some (.int (-2))) hd trivial rfl rfl rfl
    · have nc13 : 0 ≤ f ∧ f ≤ 2 := b2i_nz.mp c13
      refine R2.B (ls2 := [some (.ref 48), some (.int s), some (.int f), some (.int x), none]) (st2 := [.int 60, .int x]) b_X11_sheet_16_19 rfl (fun hd => ?_)
      refine R2.icmp_le 25 hd (by decide) (fun c19 => ?_) (fun c19 => ?_)
      · refine R2.B (ls2 := [some (.ref 48), some (.int s), some (.int f), some (.int x), none]) (st2 := []) b_X11_sheet_25_25 rfl (fun hd => ?_)
        exact False.elim (by clear hd; grind)
      · refine R2.B (ls2 := [some (.ref 48), some (.int s), some (.int f), some (.int x), none]) (st2 := [.int (-2)]) b_X11_sheet_22_24 rfl (fun hd => ?_)
        exact R2.ret3 (r := some (.int (-2))) hd trivial rfl rfl rfl
theorem b_X11_sheet_25_26 : bl2 mX11_sheet 25 [(.iload_n 3, 1, 3, 0, .null)] 26 (.ifCond .ge 9) 3 = true := by decide +kernel
theorem b_X11_sheet_29_31 : bl2 mX11_sheet 29 [(.aload_n 0, 1, 0, 0, .null), (.iconst 5, 1, 0, 0, .int 5)] 31 (.invokevirtual 156) 3 = true := by decide +kernel
theorem b_X11_sheet_34_34 : bl2 mX11_sheet 34 [] 34 (.ireturn) 1 = true := by decide +kernel
set_option maxRecDepth 20000 in
set_option maxHeartbeats 1000000 in
theorem y_sheet_size (E : EE) (L : Nat) (F : FF) (s : Nat) (hs4 : s < 4) (f x : Int32) (h : 0 ≤ f ∧ f < 3) (h60 : x ≤ 60) (hx : x < 0) : Ev3 E L 16 mX11_sheet [.ref 48, .int (nI s), .int f, .int x] F (some (.int (-10 - 5))) (up2 F 48 31 5) := by
  refine Ev3.of okX11_sheet.2.2.1 (Nat.le_of_ble_eq_true rfl) ?_
  show R2 E L mX11_sheet 16 0 [some (.ref 48), some (.int (nI s)), some (.int f), some (.int x), none] [] F _
  refine R2.B (ls2 := [some (.ref 48), some (.int (nI s)), some (.int f), some (.int x), none]) (st2 := [.int (nI s)]) b_X11_sheet_0_1 rfl (fun hd => ?_)
  refine R2.callS3 (M2 := mX11_isSheet) (As := [.int (nI s)]) (rest := []) hd lk_11_153 okX11_isSheet (by decide) (me_isSheet E L F (nI s)) (by decide) rfl rfl (Nat.le_of_ble_eq_true rfl) ?_
  refine R2.B (ls2 := [some (.ref 48), some (.int (nI s)), some (.int f), some (.int x), none]) (st2 := [.int (b2i (0 ≤ (nI s) ∧ (nI s) ≤ 3))]) b_X11_sheet_4_4 rfl (fun hd => ?_)
  refine R2.if_eq 22 hd (by decide) (fun c4 => absurd c4 (b2i_nz.mpr ⟨nI_pos' (by omega), (nI_leI (b := 3) (by omega) (by omega)).mpr (by omega)⟩)) (fun c4 => ?_)
  refine R2.B (ls2 := [some (.ref 48), some (.int (nI s)), some (.int f), some (.int x), none]) (st2 := [.int 2, .int 0, .int f]) b_X11_sheet_7_10 rfl (fun hd => ?_)
  refine R2.callS3 (M2 := mX11_in) (As := [.int f, .int 0, .int 2]) (rest := []) hd lk_11_86 okX11_in (by decide) (ev_in E L F f 0 2) (by decide) rfl rfl (Nat.le_of_ble_eq_true rfl) ?_
  refine R2.B (ls2 := [some (.ref 48), some (.int (nI s)), some (.int f), some (.int x), none]) (st2 := [.int (b2i (0 ≤ f ∧ f ≤ 2))]) b_X11_sheet_13_13 rfl (fun hd => ?_)
  refine R2.if_eq 22 hd (by decide) (fun c13 => ?_) (fun c13 => ?_)
  · have nc13 : ¬ (0 ≤ f ∧ f ≤ 2) := b2i_zero.mp c13
    refine R2.B (ls2 := [some (.ref 48), some (.int (nI s)), some (.int f), some (.int x), none]) (st2 := [.int (-2)]) b_X11_sheet_22_24 rfl (fun hd => ?_)
    exact False.elim (by clear hd; grind)
  · have nc13 : 0 ≤ f ∧ f ≤ 2 := b2i_nz.mp c13
    refine R2.B (ls2 := [some (.ref 48), some (.int (nI s)), some (.int f), some (.int x), none]) (st2 := [.int 60, .int x]) b_X11_sheet_16_19 rfl (fun hd => ?_)
    refine R2.icmp_le 25 hd (by decide) (fun c19 => ?_) (fun c19 => ?_)
    · refine R2.B (ls2 := [some (.ref 48), some (.int (nI s)), some (.int f), some (.int x), none]) (st2 := [.int x]) b_X11_sheet_25_26 rfl (fun hd => ?_)
      refine R2.if_ge 35 hd (by decide) (fun c26 => absurd c26 (Int32.not_le.mpr hx)) (fun c26 => ?_)
      refine R2.B (ls2 := [some (.ref 48), some (.int (nI s)), some (.int f), some (.int x), none]) (st2 := [.int 5, .ref 48]) b_X11_sheet_29_31 rfl (fun hd => ?_)
      refine R2.callV3 (M2 := mX11_meets) (As := [.int 5]) (rest := []) hd lk_11_156 okX11_meets (by decide) rfl (me_meets E L F 5) (by decide) rfl rfl (Nat.le_of_ble_eq_true rfl) ?_
      refine R2.B (ls2 := [some (.ref 48), some (.int (nI s)), some (.int f), some (.int x), none]) (st2 := [.int (-10 - 5)]) b_X11_sheet_34_34 rfl (fun hd => ?_)
      exact R2.ret3 (r := some (.int (-10 - 5))) hd trivial rfl rfl rfl
    · refine R2.B (ls2 := [some (.ref 48), some (.int (nI s)), some (.int f), some (.int x), none]) (st2 := [.int (-2)]) b_X11_sheet_22_24 rfl (fun hd => ?_)
      exact False.elim (by clear hd; grind)
theorem b_X11_sheet_59_63 : bl2 mX11_sheet 59 [(.iload 4, 2, 4, 0, .null), (.bipush 60, 2, 0, 0, .int 60)] 63 (.if_icmp .ge 22) 3 = true := by decide +kernel
theorem b_X11_sheet_85_86 : bl2 mX11_sheet 85 [(.iload_n 3, 1, 3, 0, .null)] 86 (.ireturn) 1 = true := by decide +kernel
theorem b_X11_sheet_66_78 : bl2 mX11_sheet 66 [(.aload_n 0, 1, 0, 0, .null), (.getfield 80, 3, 11, 29, .null), (.bipush 60, 2, 0, 0, .int 60), (.iload_n 1, 1, 1, 0, .null), (.imul, 1, 0, 0, .null), (.iload 4, 2, 4, 0, .null), (.iadd, 1, 0, 0, .null), (.iconst 0, 1, 0, 0, .int 0)] 78 (.iastore) 1 = true := by decide +kernel
theorem b_X11_sheet_79_59 : bl2 mX11_sheet 79 [(.iinc 4 1, 3, 4, 0, .int 1), (.goto (-23), 3, 59, 0, .null)] 59 (.iload 4) 2 = true := by decide +kernel
set_option maxRecDepth 20000 in
set_option maxHeartbeats 2000000 in
theorem ml_zf (E : EE) (L : Nat) (s : Nat) (hs4 : s < 4) (f x : Int32) : ∀ (k : Nat) (j : Nat) (F : FF), j + k = 60 → R2 E L mX11_sheet 16 59 [some (.ref 48), some (.int (nI s)), some (.int f), some (.int x), some (.int (nI j))] [] F (fun r' F' => r' = some (.int x) ∧ F' = zfL s k j F) := by
  intro k
  induction k with
  | zero =>
    intro j F hi
    refine R2.B (ls2 := [some (.ref 48), some (.int (nI s)), some (.int f), some (.int x), some (.int (nI j))]) (st2 := [.int 60, .int (nI j)]) b_X11_sheet_59_63 rfl (fun hd => ?_)
    refine R2.icmp_ge 85 hd (by decide) (fun c63 => ?_) (fun c63 => absurd (nI_le (a := 60) (by omega) (by omega)) c63)
    refine R2.B (ls2 := [some (.ref 48), some (.int (nI s)), some (.int f), some (.int x), some (.int (nI j))]) (st2 := [.int x]) b_X11_sheet_85_86 rfl (fun hd => ?_)
    exact R2.ret3 (r := some (.int x)) hd trivial rfl rfl rfl
  | succ k ih =>
    intro j F hi
    refine R2.B (ls2 := [some (.ref 48), some (.int (nI s)), some (.int f), some (.int x), some (.int (nI j))]) (st2 := [.int 60, .int (nI j)]) b_X11_sheet_59_63 rfl (fun hd => ?_)
    refine R2.icmp_ge 85 hd (by decide) (fun c63 => absurd c63 (nI_ge (b := 60) (by omega) (by omega))) (fun c63 => ?_)
    refine R2.B (ls2 := [some (.ref 48), some (.int (nI s)), some (.int f), some (.int x), some (.int (nI j))]) (st2 := [.int 0, .int ((60 * (nI s)) + (nI j)), .ref 72]) b_X11_sheet_66_78 rfl (fun hd => ?_)
    refine R2.iast (60 * s + j) (ix60 s j) hd (by decide) rfl (fun _ => rfl) (by decide) (by omega) ?_
    refine R2.B (ls2 := [some (.ref 48), some (.int (nI s)), some (.int f), some (.int x), some (.int ((nI j) + 1))]) (st2 := []) b_X11_sheet_79_59 rfl (fun hd => ?_)
    rw [show ((nI j) + 1 : Int32) = nI (j + 1) from nI_add j 1]
    exact ih (j + 1) _ (by omega)
theorem b_X11_sheet_35_41 : bl2 mX11_sheet 35 [(.aload_n 0, 1, 0, 0, .null), (.getfield 70, 3, 11, 26, .null), (.iload_n 1, 1, 1, 0, .null), (.iconst 1, 1, 0, 0, .int 1)] 41 (.bastore) 1 = true := by decide +kernel
theorem b_X11_sheet_42_48 : bl2 mX11_sheet 42 [(.aload_n 0, 1, 0, 0, .null), (.getfield 74, 3, 11, 27, .null), (.iload_n 1, 1, 1, 0, .null), (.iload_n 2, 1, 2, 0, .null)] 48 (.iastore) 1 = true := by decide +kernel
theorem b_X11_sheet_49_55 : bl2 mX11_sheet 49 [(.aload_n 0, 1, 0, 0, .null), (.getfield 77, 3, 11, 28, .null), (.iload_n 1, 1, 1, 0, .null), (.iload_n 3, 1, 3, 0, .null)] 55 (.iastore) 1 = true := by decide +kernel
theorem b_X11_sheet_56_59 : bl2 mX11_sheet 56 [(.iconst 0, 1, 0, 0, .int 0), (.istore 4, 2, 4, 0, .null)] 59 (.iload 4) 2 = true := by decide +kernel
set_option maxRecDepth 20000 in
set_option maxHeartbeats 1000000 in
theorem y_sheet (E : EE) (L : Nat) (F : FF) (s : Nat) (hs4 : s < 4) (f x : Int32) (h : 0 ≤ f ∧ f < 3) (h60 : x ≤ 60) (hx : 0 ≤ x) : Ev3 E L 16 mX11_sheet [.ref 48, .int (nI s), .int f, .int x] F (some (.int (x))) (zfL s 60 0 (up2 (up2 (up2 F 69 s 1) 70 s f) 71 s x)) := by
  refine Ev3.of okX11_sheet.2.2.1 (Nat.le_of_ble_eq_true rfl) ?_
  show R2 E L mX11_sheet 16 0 [some (.ref 48), some (.int (nI s)), some (.int f), some (.int x), none] [] F _
  refine R2.B (ls2 := [some (.ref 48), some (.int (nI s)), some (.int f), some (.int x), none]) (st2 := [.int (nI s)]) b_X11_sheet_0_1 rfl (fun hd => ?_)
  refine R2.callS3 (M2 := mX11_isSheet) (As := [.int (nI s)]) (rest := []) hd lk_11_153 okX11_isSheet (by decide) (me_isSheet E L F (nI s)) (by decide) rfl rfl (Nat.le_of_ble_eq_true rfl) ?_
  refine R2.B (ls2 := [some (.ref 48), some (.int (nI s)), some (.int f), some (.int x), none]) (st2 := [.int (b2i (0 ≤ (nI s) ∧ (nI s) ≤ 3))]) b_X11_sheet_4_4 rfl (fun hd => ?_)
  refine R2.if_eq 22 hd (by decide) (fun c4 => absurd c4 (b2i_nz.mpr ⟨nI_pos' (by omega), (nI_leI (b := 3) (by omega) (by omega)).mpr (by omega)⟩)) (fun c4 => ?_)
  refine R2.B (ls2 := [some (.ref 48), some (.int (nI s)), some (.int f), some (.int x), none]) (st2 := [.int 2, .int 0, .int f]) b_X11_sheet_7_10 rfl (fun hd => ?_)
  refine R2.callS3 (M2 := mX11_in) (As := [.int f, .int 0, .int 2]) (rest := []) hd lk_11_86 okX11_in (by decide) (ev_in E L F f 0 2) (by decide) rfl rfl (Nat.le_of_ble_eq_true rfl) ?_
  refine R2.B (ls2 := [some (.ref 48), some (.int (nI s)), some (.int f), some (.int x), none]) (st2 := [.int (b2i (0 ≤ f ∧ f ≤ 2))]) b_X11_sheet_13_13 rfl (fun hd => ?_)
  refine R2.if_eq 22 hd (by decide) (fun c13 => ?_) (fun c13 => ?_)
  · have nc13 : ¬ (0 ≤ f ∧ f ≤ 2) := b2i_zero.mp c13
    refine R2.B (ls2 := [some (.ref 48), some (.int (nI s)), some (.int f), some (.int x), none]) (st2 := [.int (-2)]) b_X11_sheet_22_24 rfl (fun hd => ?_)
    exact False.elim (by clear hd; grind)
  · have nc13 : 0 ≤ f ∧ f ≤ 2 := b2i_nz.mp c13
    refine R2.B (ls2 := [some (.ref 48), some (.int (nI s)), some (.int f), some (.int x), none]) (st2 := [.int 60, .int x]) b_X11_sheet_16_19 rfl (fun hd => ?_)
    refine R2.icmp_le 25 hd (by decide) (fun c19 => ?_) (fun c19 => ?_)
    · refine R2.B (ls2 := [some (.ref 48), some (.int (nI s)), some (.int f), some (.int x), none]) (st2 := [.int x]) b_X11_sheet_25_26 rfl (fun hd => ?_)
      refine R2.if_ge 35 hd (by decide) (fun c26 => ?_) (fun c26 => absurd (hx) c26)
      refine R2.B (ls2 := [some (.ref 48), some (.int (nI s)), some (.int f), some (.int x), none]) (st2 := [.int 1, .int (nI s), .ref 69]) b_X11_sheet_35_41 rfl (fun hd => ?_)
      refine R2.zast s rfl hd (by decide) rfl (fun _ => rfl) (by decide) (by omega) (by decide) ?_
      refine R2.B (ls2 := [some (.ref 48), some (.int (nI s)), some (.int f), some (.int x), none]) (st2 := [.int f, .int (nI s), .ref 70]) b_X11_sheet_42_48 rfl (fun hd => ?_)
      refine R2.iast s rfl hd (by decide) rfl (fun _ => rfl) (by decide) (by omega) ?_
      refine R2.B (ls2 := [some (.ref 48), some (.int (nI s)), some (.int f), some (.int x), none]) (st2 := [.int x, .int (nI s), .ref 71]) b_X11_sheet_49_55 rfl (fun hd => ?_)
      refine R2.iast s rfl hd (by decide) rfl (fun _ => rfl) (by decide) (by omega) ?_
      refine R2.B (ls2 := [some (.ref 48), some (.int (nI s)), some (.int f), some (.int x), some (.int 0)]) (st2 := []) b_X11_sheet_56_59 rfl (fun hd => ?_)
      exact ml_zf E L s hs4 f x 60 0 _ (by omega)
    · refine R2.B (ls2 := [some (.ref 48), some (.int (nI s)), some (.int f), some (.int x), none]) (st2 := [.int (-2)]) b_X11_sheet_22_24 rfl (fun hd => ?_)
      exact False.elim (by clear hd; grind)
theorem b_X11_lose_0_1 : bl2 mX11_lose 0 [(.iload_n 1, 1, 1, 0, .null)] 1 (.invokestatic 153) 3 = true := by decide +kernel
theorem b_X11_lose_4_4 : bl2 mX11_lose 4 [] 4 (.ifCond .ne 6) 3 = true := by decide +kernel
theorem b_X11_lose_10_10 : bl2 mX11_lose 10 [] 10 (.aload_n 0) 1 = true := by decide +kernel
theorem b_X11_lose_7_9 : bl2 mX11_lose 7 [(.bipush (-2), 2, 0, 0, .int (-2))] 9 (.ireturn) 1 = true := by decide +kernel
set_option maxRecDepth 20000 in
set_option maxHeartbeats 1000000 in
theorem y_lose_bad (E : EE) (L : Nat) (F : FF) (s : Int32) (h : ¬ (0 ≤ s ∧ s < 4)) : Ev3 E L 16 mX11_lose [.ref 48, .int s] F (some (.int (-2))) F := by
  refine Ev3.of okX11_lose.2.2.1 (Nat.le_of_ble_eq_true rfl) ?_
  show R2 E L mX11_lose 16 0 [some (.ref 48), some (.int s)] [] F _
  refine R2.B (ls2 := [some (.ref 48), some (.int s)]) (st2 := [.int s]) b_X11_lose_0_1 rfl (fun hd => ?_)
  refine R2.callS3 (M2 := mX11_isSheet) (As := [.int s]) (rest := []) hd lk_11_153 okX11_isSheet (by decide) (me_isSheet E L F s) (by decide) rfl rfl (Nat.le_of_ble_eq_true rfl) ?_
  refine R2.B (ls2 := [some (.ref 48), some (.int s)]) (st2 := [.int (b2i (0 ≤ s ∧ s ≤ 3))]) b_X11_lose_4_4 rfl (fun hd => ?_)
  refine R2.if_ne 10 hd (by decide) (fun c4 => ?_) (fun c4 => ?_)
  · have nc4 : 0 ≤ s ∧ s ≤ 3 := b2i_nz.mp c4
    refine R2.B (ls2 := [some (.ref 48), some (.int s)]) (st2 := []) b_X11_lose_10_10 rfl (fun hd => ?_)
    exact False.elim (by clear hd; grind)
  · have nc4 : ¬ (0 ≤ s ∧ s ≤ 3) := b2i_zero.mp c4
    refine R2.B (ls2 := [some (.ref 48), some (.int s)]) (st2 := [.int (-2)]) b_X11_lose_7_9 rfl (fun hd => ?_)
    exact R2.ret3 (r := some (.int (-2))) hd trivial rfl rfl rfl
theorem b_X11_lose_10_15 : bl2 mX11_lose 10 [(.aload_n 0, 1, 0, 0, .null), (.getfield 70, 3, 11, 26, .null), (.iload_n 1, 1, 1, 0, .null)] 15 (.baload) 1 = true := by decide +kernel
theorem b_X11_lose_16_16 : bl2 mX11_lose 16 [] 16 (.ifCond .ne 9) 3 = true := by decide +kernel
theorem b_X11_lose_19_21 : bl2 mX11_lose 19 [(.aload_n 0, 1, 0, 0, .null), (.iconst 1, 1, 0, 0, .int 1)] 21 (.invokevirtual 156) 3 = true := by decide +kernel
theorem b_X11_lose_24_24 : bl2 mX11_lose 24 [] 24 (.ireturn) 1 = true := by decide +kernel
set_option maxRecDepth 20000 in
set_option maxHeartbeats 1000000 in
theorem y_lose_null (E : EE) (L : Nat) (F : FF) (s : Nat) (hs4 : s < 4) (hl : F 69 s = 0) : Ev3 E L 16 mX11_lose [.ref 48, .int (nI s)] F (some (.int (-10 - 1))) (up2 F 48 31 1) := by
  refine Ev3.of okX11_lose.2.2.1 (Nat.le_of_ble_eq_true rfl) ?_
  show R2 E L mX11_lose 16 0 [some (.ref 48), some (.int (nI s))] [] F _
  refine R2.B (ls2 := [some (.ref 48), some (.int (nI s))]) (st2 := [.int (nI s)]) b_X11_lose_0_1 rfl (fun hd => ?_)
  refine R2.callS3 (M2 := mX11_isSheet) (As := [.int (nI s)]) (rest := []) hd lk_11_153 okX11_isSheet (by decide) (me_isSheet E L F (nI s)) (by decide) rfl rfl (Nat.le_of_ble_eq_true rfl) ?_
  refine R2.B (ls2 := [some (.ref 48), some (.int (nI s))]) (st2 := [.int (b2i (0 ≤ (nI s) ∧ (nI s) ≤ 3))]) b_X11_lose_4_4 rfl (fun hd => ?_)
  refine R2.if_ne 10 hd (by decide) (fun c4 => ?_) (fun c4 => absurd c4 (b2i_nz.mpr ⟨nI_pos' (by omega), (nI_leI (b := 3) (by omega) (by omega)).mpr (by omega)⟩))
  refine R2.B (ls2 := [some (.ref 48), some (.int (nI s))]) (st2 := [.int (nI s), .ref 69]) b_X11_lose_10_15 rfl (fun hd => ?_)
  refine R2.zald s rfl hd rfl (fun _ => rfl) (by decide) (by omega) ?_
  refine R2.B (ls2 := [some (.ref 48), some (.int (nI s))]) (st2 := [.int (F 69 s)]) b_X11_lose_16_16 rfl (fun hd => ?_)
  refine R2.if_ne 25 hd (by decide) (fun c16 => absurd (hl) c16) (fun c16 => ?_)
  refine R2.B (ls2 := [some (.ref 48), some (.int (nI s))]) (st2 := [.int 1, .ref 48]) b_X11_lose_19_21 rfl (fun hd => ?_)
  refine R2.callV3 (M2 := mX11_meets) (As := [.int 1]) (rest := []) hd lk_11_156 okX11_meets (by decide) rfl (me_meets E L F 1) (by decide) rfl rfl (Nat.le_of_ble_eq_true rfl) ?_
  refine R2.B (ls2 := [some (.ref 48), some (.int (nI s))]) (st2 := [.int (-10 - 1)]) b_X11_lose_24_24 rfl (fun hd => ?_)
  exact R2.ret3 (r := some (.int (-10 - 1))) hd trivial rfl rfl rfl
theorem b_X11_lose_25_31 : bl2 mX11_lose 25 [(.aload_n 0, 1, 0, 0, .null), (.getfield 70, 3, 11, 26, .null), (.iload_n 1, 1, 1, 0, .null), (.iconst 0, 1, 0, 0, .int 0)] 31 (.bastore) 1 = true := by decide +kernel
theorem b_X11_lose_32_37 : bl2 mX11_lose 32 [(.aload_n 0, 1, 0, 0, .null), (.getfield 77, 3, 11, 28, .null), (.iload_n 1, 1, 1, 0, .null)] 37 (.iaload) 1 = true := by decide +kernel
theorem b_X11_lose_38_38 : bl2 mX11_lose 38 [] 38 (.ireturn) 1 = true := by decide +kernel
set_option maxRecDepth 20000 in
set_option maxHeartbeats 1000000 in
theorem y_lose (E : EE) (L : Nat) (F : FF) (s : Nat) (hs4 : s < 4) (hl : ¬ F 69 s = 0) : Ev3 E L 16 mX11_lose [.ref 48, .int (nI s)] F (some (.int (F 71 s))) (up2 F 69 s 0) := by
  refine Ev3.of okX11_lose.2.2.1 (Nat.le_of_ble_eq_true rfl) ?_
  show R2 E L mX11_lose 16 0 [some (.ref 48), some (.int (nI s))] [] F _
  refine R2.B (ls2 := [some (.ref 48), some (.int (nI s))]) (st2 := [.int (nI s)]) b_X11_lose_0_1 rfl (fun hd => ?_)
  refine R2.callS3 (M2 := mX11_isSheet) (As := [.int (nI s)]) (rest := []) hd lk_11_153 okX11_isSheet (by decide) (me_isSheet E L F (nI s)) (by decide) rfl rfl (Nat.le_of_ble_eq_true rfl) ?_
  refine R2.B (ls2 := [some (.ref 48), some (.int (nI s))]) (st2 := [.int (b2i (0 ≤ (nI s) ∧ (nI s) ≤ 3))]) b_X11_lose_4_4 rfl (fun hd => ?_)
  refine R2.if_ne 10 hd (by decide) (fun c4 => ?_) (fun c4 => absurd c4 (b2i_nz.mpr ⟨nI_pos' (by omega), (nI_leI (b := 3) (by omega) (by omega)).mpr (by omega)⟩))
  refine R2.B (ls2 := [some (.ref 48), some (.int (nI s))]) (st2 := [.int (nI s), .ref 69]) b_X11_lose_10_15 rfl (fun hd => ?_)
  refine R2.zald s rfl hd rfl (fun _ => rfl) (by decide) (by omega) ?_
  refine R2.B (ls2 := [some (.ref 48), some (.int (nI s))]) (st2 := [.int (F 69 s)]) b_X11_lose_16_16 rfl (fun hd => ?_)
  refine R2.if_ne 25 hd (by decide) (fun c16 => ?_) (fun c16 => absurd c16 (hl))
  refine R2.B (ls2 := [some (.ref 48), some (.int (nI s))]) (st2 := [.int 0, .int (nI s), .ref 69]) b_X11_lose_25_31 rfl (fun hd => ?_)
  refine R2.zast s rfl hd (by decide) rfl (fun _ => rfl) (by decide) (by omega) (by decide) ?_
  refine R2.B (ls2 := [some (.ref 48), some (.int (nI s))]) (st2 := [.int (nI s), .ref 71]) b_X11_lose_32_37 rfl (fun hd => ?_)
  refine R2.iald s rfl hd rfl (fun _ => rfl) (by decide) (by omega) ?_
  refine R2.B (ls2 := [some (.ref 48), some (.int (nI s))]) (st2 := [.int (F 71 s)]) b_X11_lose_38_38 rfl (fun hd => ?_)
  exact R2.ret3 (r := some (.int (F 71 s))) hd trivial rfl rfl rfl
theorem b_X11_lacks_0_5 : bl2 mX11_lacks 0 [(.aload_n 0, 1, 0, 0, .null), (.getfield 70, 3, 11, 26, .null), (.iload_n 1, 1, 1, 0, .null)] 5 (.baload) 1 = true := by decide +kernel
theorem b_X11_lacks_6_6 : bl2 mX11_lacks 6 [] 6 (.ifCond .ne 7) 3 = true := by decide +kernel
theorem b_X11_lacks_13_18 : bl2 mX11_lacks 13 [(.aload_n 0, 1, 0, 0, .null), (.getfield 74, 3, 11, 27, .null), (.iload_n 1, 1, 1, 0, .null)] 18 (.iaload) 1 = true := by decide +kernel
theorem b_X11_lacks_19_20 : bl2 mX11_lacks 19 [(.iload_n 2, 1, 2, 0, .null)] 20 (.if_icmp .eq 7) 3 = true := by decide +kernel
theorem b_X11_lacks_27_34 : bl2 mX11_lacks 27 [(.iload_n 3, 1, 3, 0, .null), (.iconst 0, 1, 0, 0, .int 0), (.aload_n 0, 1, 0, 0, .null), (.getfield 77, 3, 11, 28, .null), (.iload_n 1, 1, 1, 0, .null)] 34 (.iaload) 1 = true := by decide +kernel
theorem b_X11_lacks_35_37 : bl2 mX11_lacks 35 [(.iconst 1, 1, 0, 0, .int 1), (.isub, 1, 0, 0, .null)] 37 (.invokestatic 86) 3 = true := by decide +kernel
theorem b_X11_lacks_40_40 : bl2 mX11_lacks 40 [] 40 (.ifCond .eq 7) 3 = true := by decide +kernel
theorem b_X11_lacks_47_48 : bl2 mX11_lacks 47 [(.iconst 2, 1, 0, 0, .int 2)] 48 (.ireturn) 1 = true := by decide +kernel
theorem b_X11_lacks_43_48 : bl2 mX11_lacks 43 [(.iconst 0, 1, 0, 0, .int 0), (.goto 4, 3, 48, 0, .null)] 48 (.ireturn) 1 = true := by decide +kernel
theorem b_X11_lacks_23_48 : bl2 mX11_lacks 23 [(.iconst 3, 1, 0, 0, .int 3), (.goto 24, 3, 48, 0, .null)] 48 (.ireturn) 1 = true := by decide +kernel
theorem b_X11_lacks_9_48 : bl2 mX11_lacks 9 [(.iconst 1, 1, 0, 0, .int 1), (.goto 38, 3, 48, 0, .null)] 48 (.ireturn) 1 = true := by decide +kernel
set_option maxRecDepth 20000 in
set_option maxHeartbeats 1000000 in
theorem me_lacks (E : EE) (L : Nat) (F : FF) (s : Nat) (hs4 : s < 4) (f x : Int32) : Ev3 E L 2 mX11_lacks [.ref 48, .int (nI s), .int f, .int x] F (some (.int (lckA (F 69 s) (F 70 s) (F 71 s) f x))) F := by
  refine Ev3.of okX11_lacks.2.2.1 (Nat.le_of_ble_eq_true rfl) ?_
  show R2 E L mX11_lacks 2 0 [some (.ref 48), some (.int (nI s)), some (.int f), some (.int x)] [] F _
  refine R2.B (ls2 := [some (.ref 48), some (.int (nI s)), some (.int f), some (.int x)]) (st2 := [.int (nI s), .ref 69]) b_X11_lacks_0_5 rfl (fun hd => ?_)
  refine R2.zald s rfl hd rfl (fun _ => rfl) (by decide) (by omega) ?_
  refine R2.B (ls2 := [some (.ref 48), some (.int (nI s)), some (.int f), some (.int x)]) (st2 := [.int (F 69 s)]) b_X11_lacks_6_6 rfl (fun hd => ?_)
  refine R2.if_ne 13 hd (by decide) (fun c6 => ?_) (fun c6 => ?_)
  · refine R2.B (ls2 := [some (.ref 48), some (.int (nI s)), some (.int f), some (.int x)]) (st2 := [.int (nI s), .ref 70]) b_X11_lacks_13_18 rfl (fun hd => ?_)
    refine R2.iald s rfl hd rfl (fun _ => rfl) (by decide) (by omega) ?_
    refine R2.B (ls2 := [some (.ref 48), some (.int (nI s)), some (.int f), some (.int x)]) (st2 := [.int f, .int (F 70 s)]) b_X11_lacks_19_20 rfl (fun hd => ?_)
    refine R2.icmp_eq 27 hd (by decide) (fun c20 => ?_) (fun c20 => ?_)
    · refine R2.B (ls2 := [some (.ref 48), some (.int (nI s)), some (.int f), some (.int x)]) (st2 := [.int (nI s), .ref 71, .int 0, .int x]) b_X11_lacks_27_34 rfl (fun hd => ?_)
      refine R2.iald s rfl hd rfl (fun _ => rfl) (by decide) (by omega) ?_
      refine R2.B (ls2 := [some (.ref 48), some (.int (nI s)), some (.int f), some (.int x)]) (st2 := [.int ((F 71 s) - 1), .int 0, .int x]) b_X11_lacks_35_37 rfl (fun hd => ?_)
      refine R2.callS3 (M2 := mX11_in) (As := [.int x, .int 0, .int ((F 71 s) - 1)]) (rest := []) hd lk_11_86 okX11_in (by decide) (ev_in E L F x 0 ((F 71 s) - 1)) (by decide) rfl rfl (Nat.le_of_ble_eq_true rfl) ?_
      refine R2.B (ls2 := [some (.ref 48), some (.int (nI s)), some (.int f), some (.int x)]) (st2 := [.int (b2i (0 ≤ x ∧ x ≤ ((F 71 s) - 1)))]) b_X11_lacks_40_40 rfl (fun hd => ?_)
      refine R2.if_eq 47 hd (by decide) (fun c40 => ?_) (fun c40 => ?_)
      · have nc40 : ¬ (0 ≤ x ∧ x ≤ ((F 71 s) - 1)) := b2i_zero.mp c40
        refine R2.B (ls2 := [some (.ref 48), some (.int (nI s)), some (.int f), some (.int x)]) (st2 := [.int 2]) b_X11_lacks_47_48 rfl (fun hd => ?_)
        exact R2.ret3 (r := some (.int 2)) hd trivial rfl (congrArg (fun z => some (Value.int z)) (by clear hd; unfold lckA; grind)) rfl
      · have nc40 : 0 ≤ x ∧ x ≤ ((F 71 s) - 1) := b2i_nz.mp c40
        refine R2.B (ls2 := [some (.ref 48), some (.int (nI s)), some (.int f), some (.int x)]) (st2 := [.int 0]) b_X11_lacks_43_48 rfl (fun hd => ?_)
        exact R2.ret3 (r := some (.int 0)) hd trivial rfl (congrArg (fun z => some (Value.int z)) (by clear hd; unfold lckA; grind)) rfl
    · refine R2.B (ls2 := [some (.ref 48), some (.int (nI s)), some (.int f), some (.int x)]) (st2 := [.int 3]) b_X11_lacks_23_48 rfl (fun hd => ?_)
      exact R2.ret3 (r := some (.int 3)) hd trivial rfl (congrArg (fun z => some (Value.int z)) (by clear hd; unfold lckA; grind)) rfl
  · refine R2.B (ls2 := [some (.ref 48), some (.int (nI s)), some (.int f), some (.int x)]) (st2 := [.int 1]) b_X11_lacks_9_48 rfl (fun hd => ?_)
    exact R2.ret3 (r := some (.int 1)) hd trivial rfl (congrArg (fun z => some (Value.int z)) (by clear hd; unfold lckA; grind)) rfl
theorem b_X11_keep_0_15 : bl2 mX11_keep 0 [(.aload_n 0, 1, 0, 0, .null), (.getfield 80, 3, 11, 29, .null), (.bipush 60, 2, 0, 0, .int 60), (.iload_n 1, 1, 1, 0, .null), (.imul, 1, 0, 0, .null), (.iload_n 2, 1, 2, 0, .null), (.iadd, 1, 0, 0, .null), (.aload_n 0, 1, 0, 0, .null), (.getfield 74, 3, 11, 27, .null), (.iload_n 1, 1, 1, 0, .null)] 15 (.iaload) 1 = true := by decide +kernel
theorem b_X11_keep_16_16 : bl2 mX11_keep 16 [] 16 (.ifCond .ne 8) 3 = true := by decide +kernel
theorem b_X11_keep_24_29 : bl2 mX11_keep 24 [(.aload_n 0, 1, 0, 0, .null), (.getfield 74, 3, 11, 27, .null), (.iload_n 1, 1, 1, 0, .null)] 29 (.iaload) 1 = true := by decide +kernel
theorem b_X11_keep_30_31 : bl2 mX11_keep 30 [(.iconst 1, 1, 0, 0, .int 1)] 31 (.if_icmp .ne 8) 3 = true := by decide +kernel
theorem b_X11_keep_39_40 : bl2 mX11_keep 39 [(.iload_n 3, 1, 3, 0, .null)] 40 (.iastore) 1 = true := by decide +kernel
theorem b_X11_keep_41_41 : bl2 mX11_keep 41 [] 41 (.return_) 1 = true := by decide +kernel
theorem b_X11_keep_34_40 : bl2 mX11_keep 34 [(.iload_n 3, 1, 3, 0, .null), (.i2s, 1, 0, 0, .null), (.goto 4, 3, 40, 0, .null)] 40 (.iastore) 1 = true := by decide +kernel
theorem b_X11_keep_19_40 : bl2 mX11_keep 19 [(.iload_n 3, 1, 3, 0, .null), (.i2b, 1, 0, 0, .null), (.goto 19, 3, 40, 0, .null)] 40 (.iastore) 1 = true := by decide +kernel
set_option maxRecDepth 20000 in
set_option maxHeartbeats 1000000 in
theorem me_keep (E : EE) (L : Nat) (F : FF) (s : Nat) (hs4 : s < 4) (j : Nat) (hj : j < 60) (v : Int32) : Ev3 E L 1 mX11_keep [.ref 48, .int (nI s), .int (nI j), .int v] F none (up2 F 72 (60 * s + j) (nrw (F 70 s) v)) := by
  refine Ev3.of okX11_keep.2.2.1 (Nat.le_of_ble_eq_true rfl) ?_
  show R2 E L mX11_keep 1 0 [some (.ref 48), some (.int (nI s)), some (.int (nI j)), some (.int v)] [] F _
  refine R2.B (ls2 := [some (.ref 48), some (.int (nI s)), some (.int (nI j)), some (.int v)]) (st2 := [.int (nI s), .ref 70, .int ((60 * (nI s)) + (nI j)), .ref 72]) b_X11_keep_0_15 rfl (fun hd => ?_)
  refine R2.iald s rfl hd rfl (fun _ => rfl) (by decide) (by omega) ?_
  refine R2.B (ls2 := [some (.ref 48), some (.int (nI s)), some (.int (nI j)), some (.int v)]) (st2 := [.int (F 70 s), .int ((60 * (nI s)) + (nI j)), .ref 72]) b_X11_keep_16_16 rfl (fun hd => ?_)
  refine R2.if_ne 24 hd (by decide) (fun c16 => ?_) (fun c16 => ?_)
  · refine R2.B (ls2 := [some (.ref 48), some (.int (nI s)), some (.int (nI j)), some (.int v)]) (st2 := [.int (nI s), .ref 70, .int ((60 * (nI s)) + (nI j)), .ref 72]) b_X11_keep_24_29 rfl (fun hd => ?_)
    refine R2.iald s rfl hd rfl (fun _ => rfl) (by decide) (by omega) ?_
    refine R2.B (ls2 := [some (.ref 48), some (.int (nI s)), some (.int (nI j)), some (.int v)]) (st2 := [.int 1, .int (F 70 s), .int ((60 * (nI s)) + (nI j)), .ref 72]) b_X11_keep_30_31 rfl (fun hd => ?_)
    refine R2.icmp_ne 39 hd (by decide) (fun c31 => ?_) (fun c31 => ?_)
    · refine R2.B (ls2 := [some (.ref 48), some (.int (nI s)), some (.int (nI j)), some (.int v)]) (st2 := [.int v, .int ((60 * (nI s)) + (nI j)), .ref 72]) b_X11_keep_39_40 rfl (fun hd => ?_)
      refine R2.iast (60 * s + j) (ix60 s j) hd (by decide) rfl (fun _ => rfl) (by decide) (by omega) ?_
      refine R2.B (ls2 := [some (.ref 48), some (.int (nI s)), some (.int (nI j)), some (.int v)]) (st2 := []) b_X11_keep_41_41 rfl (fun hd => ?_)
      refine R2.ret3 (r := none) hd trivial rfl rfl ?_
      unfold nrw
      first | (rw [if_pos c16]; done) | (rw [if_neg c16, if_pos c31]; done) | (rw [if_neg c16, if_neg c31]; done)
    · refine R2.B (ls2 := [some (.ref 48), some (.int (nI s)), some (.int (nI j)), some (.int v)]) (st2 := [.int v.toInt16.toInt32, .int ((60 * (nI s)) + (nI j)), .ref 72]) b_X11_keep_34_40 rfl (fun hd => ?_)
      refine R2.iast (60 * s + j) (ix60 s j) hd (by decide) rfl (fun _ => rfl) (by decide) (by omega) ?_
      refine R2.B (ls2 := [some (.ref 48), some (.int (nI s)), some (.int (nI j)), some (.int v)]) (st2 := []) b_X11_keep_41_41 rfl (fun hd => ?_)
      refine R2.ret3 (r := none) hd trivial rfl rfl ?_
      unfold nrw
      first | (rw [if_pos c16]; done) | (rw [if_neg c16, if_pos c31]; done) | (rw [if_neg c16, if_neg c31]; done)
  · refine R2.B (ls2 := [some (.ref 48), some (.int (nI s)), some (.int (nI j)), some (.int v)]) (st2 := [.int v.toInt8.toInt32, .int ((60 * (nI s)) + (nI j)), .ref 72]) b_X11_keep_19_40 rfl (fun hd => ?_)
    refine R2.iast (60 * s + j) (ix60 s j) hd (by decide) rfl (fun _ => rfl) (by decide) (by omega) ?_
    refine R2.B (ls2 := [some (.ref 48), some (.int (nI s)), some (.int (nI j)), some (.int v)]) (st2 := []) b_X11_keep_41_41 rfl (fun hd => ?_)
    refine R2.ret3 (r := none) hd trivial rfl rfl ?_
    unfold nrw
    first | (rw [if_pos c16]; done) | (rw [if_neg c16, if_pos c31]; done) | (rw [if_neg c16, if_neg c31]; done)
theorem b_X11_put_0_1 : bl2 mX11_put 0 [(.iload_n 1, 1, 1, 0, .null)] 1 (.invokestatic 153) 3 = true := by decide +kernel
theorem b_X11_put_4_4 : bl2 mX11_put 4 [] 4 (.ifCond .eq 12) 3 = true := by decide +kernel
theorem b_X11_put_16_18 : bl2 mX11_put 16 [(.bipush (-2), 2, 0, 0, .int (-2))] 18 (.ireturn) 1 = true := by decide +kernel
theorem b_X11_put_7_10 : bl2 mX11_put 7 [(.iload_n 2, 1, 2, 0, .null), (.iconst 0, 1, 0, 0, .int 0), (.iconst 2, 1, 0, 0, .int 2)] 10 (.invokestatic 86) 3 = true := by decide +kernel
theorem b_X11_put_13_13 : bl2 mX11_put 13 [] 13 (.ifCond .ne 6) 3 = true := by decide +kernel
theorem b_X11_put_19_19 : bl2 mX11_put 19 [] 19 (.aload_n 0) 1 = true := by decide +kernel
set_option maxRecDepth 20000 in
set_option maxHeartbeats 1000000 in
theorem y_put_bad (E : EE) (L : Nat) (F : FF) (s f x v : Int32) (h : ¬ (0 ≤ s ∧ s < 4) ∨ ¬ (0 ≤ f ∧ f < 3)) : Ev3 E L 16 mX11_put [.ref 48, .int s, .int f, .int x, .int v] F (some (.int (-2))) F := by
  refine Ev3.of okX11_put.2.2.1 (Nat.le_of_ble_eq_true rfl) ?_
  show R2 E L mX11_put 16 0 [some (.ref 48), some (.int s), some (.int f), some (.int x), some (.int v), none] [] F _
  refine R2.B (ls2 := [some (.ref 48), some (.int s), some (.int f), some (.int x), some (.int v), none]) (st2 := [.int s]) b_X11_put_0_1 rfl (fun hd => ?_)
  refine R2.callS3 (M2 := mX11_isSheet) (As := [.int s]) (rest := []) hd lk_11_153 okX11_isSheet (by decide) (me_isSheet E L F s) (by decide) rfl rfl (Nat.le_of_ble_eq_true rfl) ?_
  refine R2.B (ls2 := [some (.ref 48), some (.int s), some (.int f), some (.int x), some (.int v), none]) (st2 := [.int (b2i (0 ≤ s ∧ s ≤ 3))]) b_X11_put_4_4 rfl (fun hd => ?_)
  refine R2.if_eq 16 hd (by decide) (fun c4 => ?_) (fun c4 => ?_)
  · have nc4 : ¬ (0 ≤ s ∧ s ≤ 3) := b2i_zero.mp c4
    refine R2.B (ls2 := [some (.ref 48), some (.int s), some (.int f), some (.int x), some (.int v), none]) (st2 := [.int (-2)]) b_X11_put_16_18 rfl (fun hd => ?_)
    exact R2.ret3 (r := some (.int (-2))) hd trivial rfl rfl rfl
  · have nc4 : 0 ≤ s ∧ s ≤ 3 := b2i_nz.mp c4
    refine R2.B (ls2 := [some (.ref 48), some (.int s), some (.int f), some (.int x), some (.int v), none]) (st2 := [.int 2, .int 0, .int f]) b_X11_put_7_10 rfl (fun hd => ?_)
    refine R2.callS3 (M2 := mX11_in) (As := [.int f, .int 0, .int 2]) (rest := []) hd lk_11_86 okX11_in (by decide) (ev_in E L F f 0 2) (by decide) rfl rfl (Nat.le_of_ble_eq_true rfl) ?_
    refine R2.B (ls2 := [some (.ref 48), some (.int s), some (.int f), some (.int x), some (.int v), none]) (st2 := [.int (b2i (0 ≤ f ∧ f ≤ 2))]) b_X11_put_13_13 rfl (fun hd => ?_)
    refine R2.if_ne 19 hd (by decide) (fun c13 => ?_) (fun c13 => ?_)
    · have nc13 : 0 ≤ f ∧ f ≤ 2 := b2i_nz.mp c13
      refine R2.B (ls2 := [some (.ref 48), some (.int s), some (.int f), some (.int x), some (.int v), none]) (st2 := []) b_X11_put_19_19 rfl (fun hd => ?_)
      exact False.elim (by clear hd; grind)
    · have nc13 : ¬ (0 ≤ f ∧ f ≤ 2) := b2i_zero.mp c13
      refine R2.B (ls2 := [some (.ref 48), some (.int s), some (.int f), some (.int x), some (.int v), none]) (st2 := [.int (-2)]) b_X11_put_16_18 rfl (fun hd => ?_)
      exact R2.ret3 (r := some (.int (-2))) hd trivial rfl rfl rfl
theorem b_X11_put_19_23 : bl2 mX11_put 19 [(.aload_n 0, 1, 0, 0, .null), (.iload_n 1, 1, 1, 0, .null), (.iload_n 2, 1, 2, 0, .null), (.iload_n 3, 1, 3, 0, .null)] 23 (.invokevirtual 250) 3 = true := by decide +kernel
theorem b_X11_put_26_30 : bl2 mX11_put 26 [(.istore 5, 2, 5, 0, .null), (.iload 5, 2, 5, 0, .null)] 30 (.ifCond .le 10) 3 = true := by decide +kernel
theorem b_X11_put_33_36 : bl2 mX11_put 33 [(.aload_n 0, 1, 0, 0, .null), (.iload 5, 2, 5, 0, .null)] 36 (.invokevirtual 156) 3 = true := by decide +kernel
theorem b_X11_put_39_39 : bl2 mX11_put 39 [] 39 (.ireturn) 1 = true := by decide +kernel
set_option maxRecDepth 20000 in
set_option maxHeartbeats 1000000 in
theorem y_put_find (E : EE) (L : Nat) (F : FF) (s : Nat) (hs4 : s < 4) (f x v : Int32) (h : 0 ≤ f ∧ f < 3) (hf : ¬ lckA (F 69 s) (F 70 s) (F 71 s) f x = 0) : Ev3 E L 16 mX11_put [.ref 48, .int (nI s), .int f, .int x, .int v] F (some (.int (-10 - (lckA (F 69 s) (F 70 s) (F 71 s) f x)))) (up2 F 48 31 (lckA (F 69 s) (F 70 s) (F 71 s) f x)) := by
  refine Ev3.of okX11_put.2.2.1 (Nat.le_of_ble_eq_true rfl) ?_
  show R2 E L mX11_put 16 0 [some (.ref 48), some (.int (nI s)), some (.int f), some (.int x), some (.int v), none] [] F _
  refine R2.B (ls2 := [some (.ref 48), some (.int (nI s)), some (.int f), some (.int x), some (.int v), none]) (st2 := [.int (nI s)]) b_X11_put_0_1 rfl (fun hd => ?_)
  refine R2.callS3 (M2 := mX11_isSheet) (As := [.int (nI s)]) (rest := []) hd lk_11_153 okX11_isSheet (by decide) (me_isSheet E L F (nI s)) (by decide) rfl rfl (Nat.le_of_ble_eq_true rfl) ?_
  refine R2.B (ls2 := [some (.ref 48), some (.int (nI s)), some (.int f), some (.int x), some (.int v), none]) (st2 := [.int (b2i (0 ≤ (nI s) ∧ (nI s) ≤ 3))]) b_X11_put_4_4 rfl (fun hd => ?_)
  refine R2.if_eq 16 hd (by decide) (fun c4 => absurd c4 (b2i_nz.mpr ⟨nI_pos' (by omega), (nI_leI (b := 3) (by omega) (by omega)).mpr (by omega)⟩)) (fun c4 => ?_)
  refine R2.B (ls2 := [some (.ref 48), some (.int (nI s)), some (.int f), some (.int x), some (.int v), none]) (st2 := [.int 2, .int 0, .int f]) b_X11_put_7_10 rfl (fun hd => ?_)
  refine R2.callS3 (M2 := mX11_in) (As := [.int f, .int 0, .int 2]) (rest := []) hd lk_11_86 okX11_in (by decide) (ev_in E L F f 0 2) (by decide) rfl rfl (Nat.le_of_ble_eq_true rfl) ?_
  refine R2.B (ls2 := [some (.ref 48), some (.int (nI s)), some (.int f), some (.int x), some (.int v), none]) (st2 := [.int (b2i (0 ≤ f ∧ f ≤ 2))]) b_X11_put_13_13 rfl (fun hd => ?_)
  refine R2.if_ne 19 hd (by decide) (fun c13 => ?_) (fun c13 => ?_)
  · have nc13 : 0 ≤ f ∧ f ≤ 2 := b2i_nz.mp c13
    refine R2.B (ls2 := [some (.ref 48), some (.int (nI s)), some (.int f), some (.int x), some (.int v), none]) (st2 := [.int x, .int f, .int (nI s), .ref 48]) b_X11_put_19_23 rfl (fun hd => ?_)
    refine R2.callV3 (M2 := mX11_lacks) (As := [.int (nI s), .int f, .int x]) (rest := []) hd lk_11_250 okX11_lacks (by decide) rfl (me_lacks E L F s hs4 f x) (by decide) rfl rfl (Nat.le_of_ble_eq_true rfl) ?_
    refine R2.B (ls2 := [some (.ref 48), some (.int (nI s)), some (.int f), some (.int x), some (.int v), some (.int (lckA (F 69 s) (F 70 s) (F 71 s) f x))]) (st2 := [.int (lckA (F 69 s) (F 70 s) (F 71 s) f x)]) b_X11_put_26_30 rfl (fun hd => ?_)
    refine R2.if_le 40 hd (by decide) (fun c30 => absurd c30 (lck_le hf)) (fun c30 => ?_)
    refine R2.B (ls2 := [some (.ref 48), some (.int (nI s)), some (.int f), some (.int x), some (.int v), some (.int (lckA (F 69 s) (F 70 s) (F 71 s) f x))]) (st2 := [.int (lckA (F 69 s) (F 70 s) (F 71 s) f x), .ref 48]) b_X11_put_33_36 rfl (fun hd => ?_)
    refine R2.callV3 (M2 := mX11_meets) (As := [.int (lckA (F 69 s) (F 70 s) (F 71 s) f x)]) (rest := []) hd lk_11_156 okX11_meets (by decide) rfl (me_meets E L F (lckA (F 69 s) (F 70 s) (F 71 s) f x)) (by decide) rfl rfl (Nat.le_of_ble_eq_true rfl) ?_
    refine R2.B (ls2 := [some (.ref 48), some (.int (nI s)), some (.int f), some (.int x), some (.int v), some (.int (lckA (F 69 s) (F 70 s) (F 71 s) f x))]) (st2 := [.int (-10 - (lckA (F 69 s) (F 70 s) (F 71 s) f x))]) b_X11_put_39_39 rfl (fun hd => ?_)
    exact R2.ret3 (r := some (.int (-10 - (lckA (F 69 s) (F 70 s) (F 71 s) f x)))) hd trivial rfl rfl rfl
  · have nc13 : ¬ (0 ≤ f ∧ f ≤ 2) := b2i_zero.mp c13
    refine R2.B (ls2 := [some (.ref 48), some (.int (nI s)), some (.int f), some (.int x), some (.int v), none]) (st2 := [.int (-2)]) b_X11_put_16_18 rfl (fun hd => ?_)
    exact False.elim (by clear hd; grind)
theorem b_X11_put_40_45 : bl2 mX11_put 40 [(.aload_n 0, 1, 0, 0, .null), (.iload_n 1, 1, 1, 0, .null), (.iload_n 3, 1, 3, 0, .null), (.iload 4, 2, 4, 0, .null)] 45 (.invokevirtual 253) 3 = true := by decide +kernel
theorem b_X11_put_48_49 : bl2 mX11_put 48 [(.iconst 1, 1, 0, 0, .int 1)] 49 (.ireturn) 1 = true := by decide +kernel
set_option maxRecDepth 20000 in
set_option maxHeartbeats 1000000 in
theorem y_put (E : EE) (L : Nat) (F : FF) (s : Nat) (hs4 : s < 4) (f v : Int32) (h : 0 ≤ f ∧ f < 3) (j : Nat) (hj : j < 60) (hf : lckA (F 69 s) (F 70 s) (F 71 s) f (nI j) = 0) : Ev3 E L 16 mX11_put [.ref 48, .int (nI s), .int f, .int (nI j), .int v] F (some (.int (1))) (up2 F 72 (60 * s + j) (nrw (F 70 s) v)) := by
  refine Ev3.of okX11_put.2.2.1 (Nat.le_of_ble_eq_true rfl) ?_
  show R2 E L mX11_put 16 0 [some (.ref 48), some (.int (nI s)), some (.int f), some (.int (nI j)), some (.int v), none] [] F _
  refine R2.B (ls2 := [some (.ref 48), some (.int (nI s)), some (.int f), some (.int (nI j)), some (.int v), none]) (st2 := [.int (nI s)]) b_X11_put_0_1 rfl (fun hd => ?_)
  refine R2.callS3 (M2 := mX11_isSheet) (As := [.int (nI s)]) (rest := []) hd lk_11_153 okX11_isSheet (by decide) (me_isSheet E L F (nI s)) (by decide) rfl rfl (Nat.le_of_ble_eq_true rfl) ?_
  refine R2.B (ls2 := [some (.ref 48), some (.int (nI s)), some (.int f), some (.int (nI j)), some (.int v), none]) (st2 := [.int (b2i (0 ≤ (nI s) ∧ (nI s) ≤ 3))]) b_X11_put_4_4 rfl (fun hd => ?_)
  refine R2.if_eq 16 hd (by decide) (fun c4 => absurd c4 (b2i_nz.mpr ⟨nI_pos' (by omega), (nI_leI (b := 3) (by omega) (by omega)).mpr (by omega)⟩)) (fun c4 => ?_)
  refine R2.B (ls2 := [some (.ref 48), some (.int (nI s)), some (.int f), some (.int (nI j)), some (.int v), none]) (st2 := [.int 2, .int 0, .int f]) b_X11_put_7_10 rfl (fun hd => ?_)
  refine R2.callS3 (M2 := mX11_in) (As := [.int f, .int 0, .int 2]) (rest := []) hd lk_11_86 okX11_in (by decide) (ev_in E L F f 0 2) (by decide) rfl rfl (Nat.le_of_ble_eq_true rfl) ?_
  refine R2.B (ls2 := [some (.ref 48), some (.int (nI s)), some (.int f), some (.int (nI j)), some (.int v), none]) (st2 := [.int (b2i (0 ≤ f ∧ f ≤ 2))]) b_X11_put_13_13 rfl (fun hd => ?_)
  refine R2.if_ne 19 hd (by decide) (fun c13 => ?_) (fun c13 => ?_)
  · have nc13 : 0 ≤ f ∧ f ≤ 2 := b2i_nz.mp c13
    refine R2.B (ls2 := [some (.ref 48), some (.int (nI s)), some (.int f), some (.int (nI j)), some (.int v), none]) (st2 := [.int (nI j), .int f, .int (nI s), .ref 48]) b_X11_put_19_23 rfl (fun hd => ?_)
    refine R2.callV3 (M2 := mX11_lacks) (As := [.int (nI s), .int f, .int (nI j)]) (rest := []) hd lk_11_250 okX11_lacks (by decide) rfl (me_lacks E L F s hs4 f (nI j)) (by decide) rfl rfl (Nat.le_of_ble_eq_true rfl) ?_
    refine R2.B (ls2 := [some (.ref 48), some (.int (nI s)), some (.int f), some (.int (nI j)), some (.int v), some (.int (lckA (F 69 s) (F 70 s) (F 71 s) f (nI j)))]) (st2 := [.int (lckA (F 69 s) (F 70 s) (F 71 s) f (nI j))]) b_X11_put_26_30 rfl (fun hd => ?_)
    refine R2.if_le 40 hd (by decide) (fun c30 => ?_) (fun c30 => absurd ((by rw [hf]; decide)) c30)
    refine R2.B (ls2 := [some (.ref 48), some (.int (nI s)), some (.int f), some (.int (nI j)), some (.int v), some (.int (lckA (F 69 s) (F 70 s) (F 71 s) f (nI j)))]) (st2 := [.int v, .int (nI j), .int (nI s), .ref 48]) b_X11_put_40_45 rfl (fun hd => ?_)
    refine R2.callV3 (M2 := mX11_keep) (As := [.int (nI s), .int (nI j), .int v]) (rest := []) hd lk_11_253 okX11_keep (by decide) rfl (me_keep E L F s hs4 j (by omega) v) (by decide) rfl rfl (Nat.le_of_ble_eq_true rfl) ?_
    refine R2.B (ls2 := [some (.ref 48), some (.int (nI s)), some (.int f), some (.int (nI j)), some (.int v), some (.int (lckA (F 69 s) (F 70 s) (F 71 s) f (nI j)))]) (st2 := [.int 1]) b_X11_put_48_49 rfl (fun hd => ?_)
    exact R2.ret3 (r := some (.int 1)) hd trivial rfl rfl rfl
  · have nc13 : ¬ (0 ≤ f ∧ f ≤ 2) := b2i_zero.mp c13
    refine R2.B (ls2 := [some (.ref 48), some (.int (nI s)), some (.int f), some (.int (nI j)), some (.int v), none]) (st2 := [.int (-2)]) b_X11_put_16_18 rfl (fun hd => ?_)
    exact False.elim (by clear hd; grind)
theorem b_X11_get_0_1 : bl2 mX11_get 0 [(.iload_n 1, 1, 1, 0, .null)] 1 (.invokestatic 153) 3 = true := by decide +kernel
theorem b_X11_get_4_4 : bl2 mX11_get 4 [] 4 (.ifCond .eq 12) 3 = true := by decide +kernel
theorem b_X11_get_16_19 : bl2 mX11_get 16 [(.ldc_w 257, 3, 0, 0, .int (-2147483648))] 19 (.ireturn) 1 = true := by decide +kernel
theorem b_X11_get_7_10 : bl2 mX11_get 7 [(.iload_n 2, 1, 2, 0, .null), (.iconst 0, 1, 0, 0, .int 0), (.iconst 2, 1, 0, 0, .int 2)] 10 (.invokestatic 86) 3 = true := by decide +kernel
theorem b_X11_get_13_13 : bl2 mX11_get 13 [] 13 (.ifCond .ne 7) 3 = true := by decide +kernel
theorem b_X11_get_20_20 : bl2 mX11_get 20 [] 20 (.aload_n 0) 1 = true := by decide +kernel
set_option maxRecDepth 20000 in
set_option maxHeartbeats 1000000 in
theorem y_get_bad (E : EE) (L : Nat) (F : FF) (s f x : Int32) (h : ¬ (0 ≤ s ∧ s < 4) ∨ ¬ (0 ≤ f ∧ f < 3)) : Ev3 E L 16 mX11_get [.ref 48, .int s, .int f, .int x] F (some (.int (-2147483648))) F := by
  refine Ev3.of okX11_get.2.2.1 (Nat.le_of_ble_eq_true rfl) ?_
  show R2 E L mX11_get 16 0 [some (.ref 48), some (.int s), some (.int f), some (.int x), none] [] F _
  refine R2.B (ls2 := [some (.ref 48), some (.int s), some (.int f), some (.int x), none]) (st2 := [.int s]) b_X11_get_0_1 rfl (fun hd => ?_)
  refine R2.callS3 (M2 := mX11_isSheet) (As := [.int s]) (rest := []) hd lk_11_153 okX11_isSheet (by decide) (me_isSheet E L F s) (by decide) rfl rfl (Nat.le_of_ble_eq_true rfl) ?_
  refine R2.B (ls2 := [some (.ref 48), some (.int s), some (.int f), some (.int x), none]) (st2 := [.int (b2i (0 ≤ s ∧ s ≤ 3))]) b_X11_get_4_4 rfl (fun hd => ?_)
  refine R2.if_eq 16 hd (by decide) (fun c4 => ?_) (fun c4 => ?_)
  · have nc4 : ¬ (0 ≤ s ∧ s ≤ 3) := b2i_zero.mp c4
    refine R2.B (ls2 := [some (.ref 48), some (.int s), some (.int f), some (.int x), none]) (st2 := [.int (-2147483648)]) b_X11_get_16_19 rfl (fun hd => ?_)
    exact R2.ret3 (r := some (.int (-2147483648))) hd trivial rfl rfl rfl
  · have nc4 : 0 ≤ s ∧ s ≤ 3 := b2i_nz.mp c4
    refine R2.B (ls2 := [some (.ref 48), some (.int s), some (.int f), some (.int x), none]) (st2 := [.int 2, .int 0, .int f]) b_X11_get_7_10 rfl (fun hd => ?_)
    refine R2.callS3 (M2 := mX11_in) (As := [.int f, .int 0, .int 2]) (rest := []) hd lk_11_86 okX11_in (by decide) (ev_in E L F f 0 2) (by decide) rfl rfl (Nat.le_of_ble_eq_true rfl) ?_
    refine R2.B (ls2 := [some (.ref 48), some (.int s), some (.int f), some (.int x), none]) (st2 := [.int (b2i (0 ≤ f ∧ f ≤ 2))]) b_X11_get_13_13 rfl (fun hd => ?_)
    refine R2.if_ne 20 hd (by decide) (fun c13 => ?_) (fun c13 => ?_)
    · have nc13 : 0 ≤ f ∧ f ≤ 2 := b2i_nz.mp c13
      refine R2.B (ls2 := [some (.ref 48), some (.int s), some (.int f), some (.int x), none]) (st2 := []) b_X11_get_20_20 rfl (fun hd => ?_)
      exact False.elim (by clear hd; grind)
    · have nc13 : ¬ (0 ≤ f ∧ f ≤ 2) := b2i_zero.mp c13
      refine R2.B (ls2 := [some (.ref 48), some (.int s), some (.int f), some (.int x), none]) (st2 := [.int (-2147483648)]) b_X11_get_16_19 rfl (fun hd => ?_)
      exact R2.ret3 (r := some (.int (-2147483648))) hd trivial rfl rfl rfl
theorem b_X11_get_20_24 : bl2 mX11_get 20 [(.aload_n 0, 1, 0, 0, .null), (.iload_n 1, 1, 1, 0, .null), (.iload_n 2, 1, 2, 0, .null), (.iload_n 3, 1, 3, 0, .null)] 24 (.invokevirtual 250) 3 = true := by decide +kernel
theorem b_X11_get_27_31 : bl2 mX11_get 27 [(.istore 4, 2, 4, 0, .null), (.iload 4, 2, 4, 0, .null)] 31 (.ifCond .le 13) 3 = true := by decide +kernel
theorem b_X11_get_34_37 : bl2 mX11_get 34 [(.aload_n 0, 1, 0, 0, .null), (.iload 4, 2, 4, 0, .null)] 37 (.putfield 247) 3 = true := by decide +kernel
theorem b_X11_get_40_43 : bl2 mX11_get 40 [(.ldc_w 257, 3, 0, 0, .int (-2147483648))] 43 (.ireturn) 1 = true := by decide +kernel
set_option maxRecDepth 20000 in
set_option maxHeartbeats 1000000 in
theorem y_get_find (E : EE) (L : Nat) (F : FF) (s : Nat) (hs4 : s < 4) (f x : Int32) (h : 0 ≤ f ∧ f < 3) (hf : ¬ lckA (F 69 s) (F 70 s) (F 71 s) f x = 0) : Ev3 E L 16 mX11_get [.ref 48, .int (nI s), .int f, .int x] F (some (.int (-2147483648))) (up2 F 48 31 (lckA (F 69 s) (F 70 s) (F 71 s) f x)) := by
  refine Ev3.of okX11_get.2.2.1 (Nat.le_of_ble_eq_true rfl) ?_
  show R2 E L mX11_get 16 0 [some (.ref 48), some (.int (nI s)), some (.int f), some (.int x), none] [] F _
  refine R2.B (ls2 := [some (.ref 48), some (.int (nI s)), some (.int f), some (.int x), none]) (st2 := [.int (nI s)]) b_X11_get_0_1 rfl (fun hd => ?_)
  refine R2.callS3 (M2 := mX11_isSheet) (As := [.int (nI s)]) (rest := []) hd lk_11_153 okX11_isSheet (by decide) (me_isSheet E L F (nI s)) (by decide) rfl rfl (Nat.le_of_ble_eq_true rfl) ?_
  refine R2.B (ls2 := [some (.ref 48), some (.int (nI s)), some (.int f), some (.int x), none]) (st2 := [.int (b2i (0 ≤ (nI s) ∧ (nI s) ≤ 3))]) b_X11_get_4_4 rfl (fun hd => ?_)
  refine R2.if_eq 16 hd (by decide) (fun c4 => absurd c4 (b2i_nz.mpr ⟨nI_pos' (by omega), (nI_leI (b := 3) (by omega) (by omega)).mpr (by omega)⟩)) (fun c4 => ?_)
  refine R2.B (ls2 := [some (.ref 48), some (.int (nI s)), some (.int f), some (.int x), none]) (st2 := [.int 2, .int 0, .int f]) b_X11_get_7_10 rfl (fun hd => ?_)
  refine R2.callS3 (M2 := mX11_in) (As := [.int f, .int 0, .int 2]) (rest := []) hd lk_11_86 okX11_in (by decide) (ev_in E L F f 0 2) (by decide) rfl rfl (Nat.le_of_ble_eq_true rfl) ?_
  refine R2.B (ls2 := [some (.ref 48), some (.int (nI s)), some (.int f), some (.int x), none]) (st2 := [.int (b2i (0 ≤ f ∧ f ≤ 2))]) b_X11_get_13_13 rfl (fun hd => ?_)
  refine R2.if_ne 20 hd (by decide) (fun c13 => ?_) (fun c13 => absurd c13 (b2i_nz.mpr ⟨h.1, (i32_le_pred 3 2 f (by decide)).mpr h.2⟩))
  refine R2.B (ls2 := [some (.ref 48), some (.int (nI s)), some (.int f), some (.int x), none]) (st2 := [.int x, .int f, .int (nI s), .ref 48]) b_X11_get_20_24 rfl (fun hd => ?_)
  refine R2.callV3 (M2 := mX11_lacks) (As := [.int (nI s), .int f, .int x]) (rest := []) hd lk_11_250 okX11_lacks (by decide) rfl (me_lacks E L F s hs4 f x) (by decide) rfl rfl (Nat.le_of_ble_eq_true rfl) ?_
  refine R2.B (ls2 := [some (.ref 48), some (.int (nI s)), some (.int f), some (.int x), some (.int (lckA (F 69 s) (F 70 s) (F 71 s) f x))]) (st2 := [.int (lckA (F 69 s) (F 70 s) (F 71 s) f x)]) b_X11_get_27_31 rfl (fun hd => ?_)
  refine R2.if_le 44 hd (by decide) (fun c31 => absurd c31 (lck_le hf)) (fun c31 => ?_)
  refine R2.B (ls2 := [some (.ref 48), some (.int (nI s)), some (.int f), some (.int x), some (.int (lckA (F 69 s) (F 70 s) (F 71 s) f x))]) (st2 := [.int (lckA (F 69 s) (F 70 s) (F 71 s) f x), .ref 48]) b_X11_get_34_37 rfl (fun hd => ?_)
  refine R2.putf (a := 11) (b := 31) hd (by decide) (by decide) rfl rfl (fun _ => rfl) ?_
  refine R2.B (ls2 := [some (.ref 48), some (.int (nI s)), some (.int f), some (.int x), some (.int (lckA (F 69 s) (F 70 s) (F 71 s) f x))]) (st2 := [.int (-2147483648)]) b_X11_get_40_43 rfl (fun hd => ?_)
  exact R2.ret3 (r := some (.int (-2147483648))) hd trivial rfl rfl rfl
theorem b_X11_get_44_54 : bl2 mX11_get 44 [(.aload_n 0, 1, 0, 0, .null), (.getfield 80, 3, 11, 29, .null), (.bipush 60, 2, 0, 0, .int 60), (.iload_n 1, 1, 1, 0, .null), (.imul, 1, 0, 0, .null), (.iload_n 3, 1, 3, 0, .null), (.iadd, 1, 0, 0, .null)] 54 (.iaload) 1 = true := by decide +kernel
theorem b_X11_get_55_55 : bl2 mX11_get 55 [] 55 (.ireturn) 1 = true := by decide +kernel
set_option maxRecDepth 20000 in
set_option maxHeartbeats 1000000 in
theorem y_get (E : EE) (L : Nat) (F : FF) (s : Nat) (hs4 : s < 4) (f : Int32) (h : 0 ≤ f ∧ f < 3) (j : Nat) (hj : j < 60) (hf : lckA (F 69 s) (F 70 s) (F 71 s) f (nI j) = 0) : Ev3 E L 16 mX11_get [.ref 48, .int (nI s), .int f, .int (nI j)] F (some (.int (F 72 (60 * s + j)))) F := by
  refine Ev3.of okX11_get.2.2.1 (Nat.le_of_ble_eq_true rfl) ?_
  show R2 E L mX11_get 16 0 [some (.ref 48), some (.int (nI s)), some (.int f), some (.int (nI j)), none] [] F _
  refine R2.B (ls2 := [some (.ref 48), some (.int (nI s)), some (.int f), some (.int (nI j)), none]) (st2 := [.int (nI s)]) b_X11_get_0_1 rfl (fun hd => ?_)
  refine R2.callS3 (M2 := mX11_isSheet) (As := [.int (nI s)]) (rest := []) hd lk_11_153 okX11_isSheet (by decide) (me_isSheet E L F (nI s)) (by decide) rfl rfl (Nat.le_of_ble_eq_true rfl) ?_
  refine R2.B (ls2 := [some (.ref 48), some (.int (nI s)), some (.int f), some (.int (nI j)), none]) (st2 := [.int (b2i (0 ≤ (nI s) ∧ (nI s) ≤ 3))]) b_X11_get_4_4 rfl (fun hd => ?_)
  refine R2.if_eq 16 hd (by decide) (fun c4 => absurd c4 (b2i_nz.mpr ⟨nI_pos' (by omega), (nI_leI (b := 3) (by omega) (by omega)).mpr (by omega)⟩)) (fun c4 => ?_)
  refine R2.B (ls2 := [some (.ref 48), some (.int (nI s)), some (.int f), some (.int (nI j)), none]) (st2 := [.int 2, .int 0, .int f]) b_X11_get_7_10 rfl (fun hd => ?_)
  refine R2.callS3 (M2 := mX11_in) (As := [.int f, .int 0, .int 2]) (rest := []) hd lk_11_86 okX11_in (by decide) (ev_in E L F f 0 2) (by decide) rfl rfl (Nat.le_of_ble_eq_true rfl) ?_
  refine R2.B (ls2 := [some (.ref 48), some (.int (nI s)), some (.int f), some (.int (nI j)), none]) (st2 := [.int (b2i (0 ≤ f ∧ f ≤ 2))]) b_X11_get_13_13 rfl (fun hd => ?_)
  refine R2.if_ne 20 hd (by decide) (fun c13 => ?_) (fun c13 => absurd c13 (b2i_nz.mpr ⟨h.1, (i32_le_pred 3 2 f (by decide)).mpr h.2⟩))
  refine R2.B (ls2 := [some (.ref 48), some (.int (nI s)), some (.int f), some (.int (nI j)), none]) (st2 := [.int (nI j), .int f, .int (nI s), .ref 48]) b_X11_get_20_24 rfl (fun hd => ?_)
  refine R2.callV3 (M2 := mX11_lacks) (As := [.int (nI s), .int f, .int (nI j)]) (rest := []) hd lk_11_250 okX11_lacks (by decide) rfl (me_lacks E L F s hs4 f (nI j)) (by decide) rfl rfl (Nat.le_of_ble_eq_true rfl) ?_
  refine R2.B (ls2 := [some (.ref 48), some (.int (nI s)), some (.int f), some (.int (nI j)), some (.int (lckA (F 69 s) (F 70 s) (F 71 s) f (nI j)))]) (st2 := [.int (lckA (F 69 s) (F 70 s) (F 71 s) f (nI j))]) b_X11_get_27_31 rfl (fun hd => ?_)
  refine R2.if_le 44 hd (by decide) (fun c31 => ?_) (fun c31 => absurd ((by rw [hf]; decide)) c31)
  refine R2.B (ls2 := [some (.ref 48), some (.int (nI s)), some (.int f), some (.int (nI j)), some (.int (lckA (F 69 s) (F 70 s) (F 71 s) f (nI j)))]) (st2 := [.int ((60 * (nI s)) + (nI j)), .ref 72]) b_X11_get_44_54 rfl (fun hd => ?_)
  refine R2.iald (60 * s + j) (ix60 s j) hd rfl (fun _ => rfl) (by decide) (by omega) ?_
  refine R2.B (ls2 := [some (.ref 48), some (.int (nI s)), some (.int f), some (.int (nI j)), some (.int (lckA (F 69 s) (F 70 s) (F 71 s) f (nI j)))]) (st2 := [.int (F 72 (60 * s + j))]) b_X11_get_55_55 rfl (fun hd => ?_)
  exact R2.ret3 (r := some (.int (F 72 (60 * s + j)))) hd trivial rfl rfl rfl
theorem b_X11_write_0_1 : bl2 mX11_write 0 [(.iload_n 1, 1, 1, 0, .null)] 1 (.invokestatic 153) 3 = true := by decide +kernel
theorem b_X11_write_4_4 : bl2 mX11_write 4 [] 4 (.ifCond .ne 6) 3 = true := by decide +kernel
theorem b_X11_write_10_10 : bl2 mX11_write 10 [] 10 (.aload_n 0) 1 = true := by decide +kernel
theorem b_X11_write_7_9 : bl2 mX11_write 7 [(.bipush (-2), 2, 0, 0, .int (-2))] 9 (.ireturn) 1 = true := by decide +kernel
set_option maxRecDepth 20000 in
set_option maxHeartbeats 1000000 in
theorem y_write_bad (E : EE) (L : Nat) (F : FF) (s : Int32) (h : ¬ (0 ≤ s ∧ s < 4)) : Ev3 E L 16 mX11_write [.ref 48, .int s] F (some (.int (-2))) F := by
  refine Ev3.of okX11_write.2.2.1 (Nat.le_of_ble_eq_true rfl) ?_
  show R2 E L mX11_write 16 0 [some (.ref 48), some (.int s), none, none] [] F _
  refine R2.B (ls2 := [some (.ref 48), some (.int s), none, none]) (st2 := [.int s]) b_X11_write_0_1 rfl (fun hd => ?_)
  refine R2.callS3 (M2 := mX11_isSheet) (As := [.int s]) (rest := []) hd lk_11_153 okX11_isSheet (by decide) (me_isSheet E L F s) (by decide) rfl rfl (Nat.le_of_ble_eq_true rfl) ?_
  refine R2.B (ls2 := [some (.ref 48), some (.int s), none, none]) (st2 := [.int (b2i (0 ≤ s ∧ s ≤ 3))]) b_X11_write_4_4 rfl (fun hd => ?_)
  refine R2.if_ne 10 hd (by decide) (fun c4 => ?_) (fun c4 => ?_)
  · have nc4 : 0 ≤ s ∧ s ≤ 3 := b2i_nz.mp c4
    refine R2.B (ls2 := [some (.ref 48), some (.int s), none, none]) (st2 := []) b_X11_write_10_10 rfl (fun hd => ?_)
    exact False.elim (by clear hd; grind)
  · have nc4 : ¬ (0 ≤ s ∧ s ≤ 3) := b2i_zero.mp c4
    refine R2.B (ls2 := [some (.ref 48), some (.int s), none, none]) (st2 := [.int (-2)]) b_X11_write_7_9 rfl (fun hd => ?_)
    exact R2.ret3 (r := some (.int (-2))) hd trivial rfl rfl rfl
theorem b_X11_write_10_15 : bl2 mX11_write 10 [(.aload_n 0, 1, 0, 0, .null), (.getfield 70, 3, 11, 26, .null), (.iload_n 1, 1, 1, 0, .null)] 15 (.baload) 1 = true := by decide +kernel
theorem b_X11_write_16_16 : bl2 mX11_write 16 [] 16 (.ifCond .ne 9) 3 = true := by decide +kernel
theorem b_X11_write_19_21 : bl2 mX11_write 19 [(.aload_n 0, 1, 0, 0, .null), (.iconst 1, 1, 0, 0, .int 1)] 21 (.invokevirtual 156) 3 = true := by decide +kernel
theorem b_X11_write_24_24 : bl2 mX11_write 24 [] 24 (.ireturn) 1 = true := by decide +kernel
set_option maxRecDepth 20000 in
set_option maxHeartbeats 1000000 in
theorem y_write_null (E : EE) (L : Nat) (F : FF) (s : Nat) (hs4 : s < 4) (hl : F 69 s = 0) : Ev3 E L 16 mX11_write [.ref 48, .int (nI s)] F (some (.int (-10 - 1))) (up2 F 48 31 1) := by
  refine Ev3.of okX11_write.2.2.1 (Nat.le_of_ble_eq_true rfl) ?_
  show R2 E L mX11_write 16 0 [some (.ref 48), some (.int (nI s)), none, none] [] F _
  refine R2.B (ls2 := [some (.ref 48), some (.int (nI s)), none, none]) (st2 := [.int (nI s)]) b_X11_write_0_1 rfl (fun hd => ?_)
  refine R2.callS3 (M2 := mX11_isSheet) (As := [.int (nI s)]) (rest := []) hd lk_11_153 okX11_isSheet (by decide) (me_isSheet E L F (nI s)) (by decide) rfl rfl (Nat.le_of_ble_eq_true rfl) ?_
  refine R2.B (ls2 := [some (.ref 48), some (.int (nI s)), none, none]) (st2 := [.int (b2i (0 ≤ (nI s) ∧ (nI s) ≤ 3))]) b_X11_write_4_4 rfl (fun hd => ?_)
  refine R2.if_ne 10 hd (by decide) (fun c4 => ?_) (fun c4 => absurd c4 (b2i_nz.mpr ⟨nI_pos' (by omega), (nI_leI (b := 3) (by omega) (by omega)).mpr (by omega)⟩))
  refine R2.B (ls2 := [some (.ref 48), some (.int (nI s)), none, none]) (st2 := [.int (nI s), .ref 69]) b_X11_write_10_15 rfl (fun hd => ?_)
  refine R2.zald s rfl hd rfl (fun _ => rfl) (by decide) (by omega) ?_
  refine R2.B (ls2 := [some (.ref 48), some (.int (nI s)), none, none]) (st2 := [.int (F 69 s)]) b_X11_write_16_16 rfl (fun hd => ?_)
  refine R2.if_ne 25 hd (by decide) (fun c16 => absurd (hl) c16) (fun c16 => ?_)
  refine R2.B (ls2 := [some (.ref 48), some (.int (nI s)), none, none]) (st2 := [.int 1, .ref 48]) b_X11_write_19_21 rfl (fun hd => ?_)
  refine R2.callV3 (M2 := mX11_meets) (As := [.int 1]) (rest := []) hd lk_11_156 okX11_meets (by decide) rfl (me_meets E L F 1) (by decide) rfl rfl (Nat.le_of_ble_eq_true rfl) ?_
  refine R2.B (ls2 := [some (.ref 48), some (.int (nI s)), none, none]) (st2 := [.int (-10 - 1)]) b_X11_write_24_24 rfl (fun hd => ?_)
  exact R2.ret3 (r := some (.int (-10 - 1))) hd trivial rfl rfl rfl
theorem b_X11_write_32_38 : bl2 mX11_write 32 [(.iload_n 3, 1, 3, 0, .null), (.aload_n 0, 1, 0, 0, .null), (.getfield 77, 3, 11, 28, .null), (.iload_n 1, 1, 1, 0, .null)] 38 (.iaload) 1 = true := by decide +kernel
theorem b_X11_write_39_39 : bl2 mX11_write 39 [] 39 (.if_icmp .ge 29) 3 = true := by decide +kernel
theorem b_X11_write_68_69 : bl2 mX11_write 68 [(.iload_n 3, 1, 3, 0, .null)] 69 (.ireturn) 1 = true := by decide +kernel
theorem b_X11_write_42_47 : bl2 mX11_write 42 [(.iload_n 3, 1, 3, 0, .null), (.aload_n 0, 1, 0, 0, .null), (.getfield 101, 3, 11, 3, .null)] 47 (.if_icmp .ge 21) 3 = true := by decide +kernel
theorem b_X11_write_50_58 : bl2 mX11_write 50 [(.aload_n 0, 1, 0, 0, .null), (.iload_n 1, 1, 1, 0, .null), (.iload_n 3, 1, 3, 0, .null), (.aload_n 0, 1, 0, 0, .null), (.getfield 31, 3, 11, 8, .null), (.iload_n 3, 1, 3, 0, .null)] 58 (.iaload) 1 = true := by decide +kernel
theorem b_X11_write_59_59 : bl2 mX11_write 59 [] 59 (.invokevirtual 253) 3 = true := by decide +kernel
theorem b_X11_write_62_32 : bl2 mX11_write 62 [(.iinc 3 1, 3, 3, 0, .int 1), (.goto (-33), 3, 32, 0, .null)] 32 (.iload_n 3) 1 = true := by decide +kernel
set_option maxRecDepth 20000 in
set_option maxHeartbeats 2000000 in
theorem ml_wr (E : EE) (L : Nat) (s : Nat) (hs4 : s < 4) (n z W : Nat) (hn10 : n ≤ 10) (hz60 : z ≤ 60) (hW : W ≤ z ∧ W ≤ n ∧ (z ≤ W ∨ n ≤ W)) : ∀ (k : Nat) (j : Nat) (F : FF), j + k = W → F 71 s = nI z → F 48 3 = nI n → R2 E L mX11_write 16 32 [some (.ref 48), some (.int (nI s)), none, some (.int (nI j))] [] F (fun r' F' => r' = some (.int (nI W)) ∧ F' = wrM s k j F) := by
  intro k
  induction k with
  | zero =>
    intro j F hi h3 h5
    refine R2.B (ls2 := [some (.ref 48), some (.int (nI s)), none, some (.int (nI j))]) (st2 := [.int (nI s), .ref 71, .int (nI j)]) b_X11_write_32_38 rfl (fun hd => ?_)
    refine R2.iald s rfl hd rfl (fun _ => rfl) (by decide) (by omega) ?_
    refine R2.top (show (F 71 s : Int32) = nI z from h3) ?_
    refine R2.B (ls2 := [some (.ref 48), some (.int (nI s)), none, some (.int (nI j))]) (st2 := [.int (nI z), .int (nI j)]) b_X11_write_39_39 rfl (fun hd => ?_)
    refine R2.icmp_ge 68 hd (by decide) (fun c39 => ?_) (fun c39 => ?_)
    · have nc39 : z ≤ j := (nI_leI (a := z) (b := j) (by omega) (by omega)).mp c39
      refine R2.B (ls2 := [some (.ref 48), some (.int (nI s)), none, some (.int (nI j))]) (st2 := [.int (nI j)]) b_X11_write_68_69 rfl (fun hd => ?_)
      exact R2.ret3 (r := some (.int (nI j))) hd trivial rfl (congrArg (fun z => some (Value.int z)) (congrArg nI (show j = W by omega))) rfl
    · have nc39 : ¬ z ≤ j := fun h9 => c39 ((nI_leI (a := z) (b := j) (by omega) (by omega)).mpr h9)
      refine R2.B (ls2 := [some (.ref 48), some (.int (nI s)), none, some (.int (nI j))]) (st2 := [.int (F 48 3), .int (nI j)]) b_X11_write_42_47 rfl (fun hd => ?_)
      rw [show (F 48 3 : Int32) = nI n from h5]
      refine R2.icmp_ge 68 hd (by decide) (fun c47 => ?_) (fun c47 => ?_)
      · have nc47 : n ≤ j := (nI_leI (a := n) (b := j) (by omega) (by omega)).mp c47
        refine R2.B (ls2 := [some (.ref 48), some (.int (nI s)), none, some (.int (nI j))]) (st2 := [.int (nI j)]) b_X11_write_68_69 rfl (fun hd => ?_)
        exact R2.ret3 (r := some (.int (nI j))) hd trivial rfl (congrArg (fun z => some (Value.int z)) (congrArg nI (show j = W by omega))) rfl
      · have nc47 : ¬ n ≤ j := fun h9 => c47 ((nI_leI (a := n) (b := j) (by omega) (by omega)).mpr h9)
        refine R2.B (ls2 := [some (.ref 48), some (.int (nI s)), none, some (.int (nI j))]) (st2 := [.int (nI j), .ref 56, .int (nI j), .int (nI s), .ref 48]) b_X11_write_50_58 rfl (fun hd => ?_)
        refine R2.iald j rfl hd rfl (fun _ => rfl) (by decide) (by omega) ?_
        refine R2.B (ls2 := [some (.ref 48), some (.int (nI s)), none, some (.int (nI j))]) (st2 := [.int (F 56 j), .int (nI j), .int (nI s), .ref 48]) b_X11_write_59_59 rfl (fun hd => ?_)
        refine R2.callV3 (M2 := mX11_keep) (As := [.int (nI s), .int (nI j), .int (F 56 j)]) (rest := []) hd lk_11_253 okX11_keep (by decide) rfl (me_keep E L F s hs4 j (by omega) (F 56 j)) (by decide) rfl rfl (Nat.le_of_ble_eq_true rfl) ?_
        refine R2.B (ls2 := [some (.ref 48), some (.int (nI s)), none, some (.int ((nI j) + 1))]) (st2 := []) b_X11_write_62_32 rfl (fun hd => ?_)
        rw [show ((nI j) + 1 : Int32) = nI (j + 1) from nI_add j 1]
        exact False.elim (by omega)
  | succ k ih =>
    intro j F hi h3 h5
    refine R2.B (ls2 := [some (.ref 48), some (.int (nI s)), none, some (.int (nI j))]) (st2 := [.int (nI s), .ref 71, .int (nI j)]) b_X11_write_32_38 rfl (fun hd => ?_)
    refine R2.iald s rfl hd rfl (fun _ => rfl) (by decide) (by omega) ?_
    refine R2.top (show (F 71 s : Int32) = nI z from h3) ?_
    refine R2.B (ls2 := [some (.ref 48), some (.int (nI s)), none, some (.int (nI j))]) (st2 := [.int (nI z), .int (nI j)]) b_X11_write_39_39 rfl (fun hd => ?_)
    refine R2.icmp_ge 68 hd (by decide) (fun c39 => ?_) (fun c39 => ?_)
    · have nc39 : z ≤ j := (nI_leI (a := z) (b := j) (by omega) (by omega)).mp c39
      refine R2.B (ls2 := [some (.ref 48), some (.int (nI s)), none, some (.int (nI j))]) (st2 := [.int (nI j)]) b_X11_write_68_69 rfl (fun hd => ?_)
      exact False.elim (by omega)
    · have nc39 : ¬ z ≤ j := fun h9 => c39 ((nI_leI (a := z) (b := j) (by omega) (by omega)).mpr h9)
      refine R2.B (ls2 := [some (.ref 48), some (.int (nI s)), none, some (.int (nI j))]) (st2 := [.int (F 48 3), .int (nI j)]) b_X11_write_42_47 rfl (fun hd => ?_)
      rw [show (F 48 3 : Int32) = nI n from h5]
      refine R2.icmp_ge 68 hd (by decide) (fun c47 => ?_) (fun c47 => ?_)
      · have nc47 : n ≤ j := (nI_leI (a := n) (b := j) (by omega) (by omega)).mp c47
        refine R2.B (ls2 := [some (.ref 48), some (.int (nI s)), none, some (.int (nI j))]) (st2 := [.int (nI j)]) b_X11_write_68_69 rfl (fun hd => ?_)
        exact False.elim (by omega)
      · have nc47 : ¬ n ≤ j := fun h9 => c47 ((nI_leI (a := n) (b := j) (by omega) (by omega)).mpr h9)
        refine R2.B (ls2 := [some (.ref 48), some (.int (nI s)), none, some (.int (nI j))]) (st2 := [.int (nI j), .ref 56, .int (nI j), .int (nI s), .ref 48]) b_X11_write_50_58 rfl (fun hd => ?_)
        refine R2.iald j rfl hd rfl (fun _ => rfl) (by decide) (by omega) ?_
        refine R2.B (ls2 := [some (.ref 48), some (.int (nI s)), none, some (.int (nI j))]) (st2 := [.int (F 56 j), .int (nI j), .int (nI s), .ref 48]) b_X11_write_59_59 rfl (fun hd => ?_)
        refine R2.callV3 (M2 := mX11_keep) (As := [.int (nI s), .int (nI j), .int (F 56 j)]) (rest := []) hd lk_11_253 okX11_keep (by decide) rfl (me_keep E L F s hs4 j (by omega) (F 56 j)) (by decide) rfl rfl (Nat.le_of_ble_eq_true rfl) ?_
        refine R2.B (ls2 := [some (.ref 48), some (.int (nI s)), none, some (.int ((nI j) + 1))]) (st2 := []) b_X11_write_62_32 rfl (fun hd => ?_)
        rw [show ((nI j) + 1 : Int32) = nI (j + 1) from nI_add j 1]
        exact ih (j + 1) _ (by omega) h3 h5
theorem b_X11_write_25_26 : bl2 mX11_write 25 [(.aload_n 0, 1, 0, 0, .null)] 26 (.invokevirtual 116) 3 = true := by decide +kernel
theorem b_X11_write_29_32 : bl2 mX11_write 29 [(.istore_n 2, 1, 2, 0, .null), (.iconst 0, 1, 0, 0, .int 0), (.istore_n 3, 1, 3, 0, .null)] 32 (.iload_n 3) 1 = true := by decide +kernel
set_option maxRecDepth 20000 in
set_option maxHeartbeats 1000000 in
theorem y_write (E : EE) (L : Nat) (F : FF) (l n : Nat) (hm : MR F l n) (s : Nat) (hs4 : s < 4) (z : Nat) (hz : F 71 s = nI z) (hz60 : z ≤ 60) (hl : ¬ F 69 s = 0) : Ev3 E L 16 mX11_write [.ref 48, .int (nI s)] F (some (.int (nI (if n < z then n else z)))) (wrM s (if n < z then n else z) 0 F) := by
  refine Ev3.of okX11_write.2.2.1 (Nat.le_of_ble_eq_true rfl) ?_
  show R2 E L mX11_write 16 0 [some (.ref 48), some (.int (nI s)), none, none] [] F _
  refine R2.B (ls2 := [some (.ref 48), some (.int (nI s)), none, none]) (st2 := [.int (nI s)]) b_X11_write_0_1 rfl (fun hd => ?_)
  refine R2.callS3 (M2 := mX11_isSheet) (As := [.int (nI s)]) (rest := []) hd lk_11_153 okX11_isSheet (by decide) (me_isSheet E L F (nI s)) (by decide) rfl rfl (Nat.le_of_ble_eq_true rfl) ?_
  refine R2.B (ls2 := [some (.ref 48), some (.int (nI s)), none, none]) (st2 := [.int (b2i (0 ≤ (nI s) ∧ (nI s) ≤ 3))]) b_X11_write_4_4 rfl (fun hd => ?_)
  refine R2.if_ne 10 hd (by decide) (fun c4 => ?_) (fun c4 => absurd c4 (b2i_nz.mpr ⟨nI_pos' (by omega), (nI_leI (b := 3) (by omega) (by omega)).mpr (by omega)⟩))
  refine R2.B (ls2 := [some (.ref 48), some (.int (nI s)), none, none]) (st2 := [.int (nI s), .ref 69]) b_X11_write_10_15 rfl (fun hd => ?_)
  refine R2.zald s rfl hd rfl (fun _ => rfl) (by decide) (by omega) ?_
  refine R2.B (ls2 := [some (.ref 48), some (.int (nI s)), none, none]) (st2 := [.int (F 69 s)]) b_X11_write_16_16 rfl (fun hd => ?_)
  refine R2.if_ne 25 hd (by decide) (fun c16 => ?_) (fun c16 => absurd c16 (hl))
  refine R2.B (ls2 := [some (.ref 48), some (.int (nI s)), none, none]) (st2 := [.ref 48]) b_X11_write_25_26 rfl (fun hd => ?_)
  refine R2.callV3 (M2 := mX11_reads) (As := []) (rest := []) hd lk_11_116 okX11_reads (by decide) rfl (me_reads E L F l n hm) (by decide) rfl rfl (Nat.le_of_ble_eq_true rfl) ?_
  refine R2.B (ls2 := [some (.ref 48), some (.int (nI s)), some (.int ((rds F l).1)), some (.int 0)]) (st2 := []) b_X11_write_29_32 rfl (fun hd => ?_)
  refine R2.forget (ls2 := [some (.ref 48), some (.int (nI s)), none, some (.int 0)]) ⟨rfl, ⟨rfl, ⟨rfl, trivial⟩⟩⟩ ?_
  exact ml_wr E L s hs4 n z (if n < z then n else z) hm.2.2.1 hz60 (by split <;> omega) (if n < z then n else z) 0 F (by omega) hz hm.2.2.2.1
theorem b_X11_read_0_1 : bl2 mX11_read 0 [(.iload_n 1, 1, 1, 0, .null)] 1 (.invokestatic 153) 3 = true := by decide +kernel
theorem b_X11_read_4_4 : bl2 mX11_read 4 [] 4 (.ifCond .eq 11) 3 = true := by decide +kernel
theorem b_X11_read_15_17 : bl2 mX11_read 15 [(.bipush (-2), 2, 0, 0, .int (-2))] 17 (.ireturn) 1 = true := by decide +kernel
theorem b_X11_read_7_9 : bl2 mX11_read 7 [(.aload_n 0, 1, 0, 0, .null), (.iload_n 2, 1, 2, 0, .null)] 9 (.invokevirtual 131) 3 = true := by decide +kernel
theorem b_X11_read_12_12 : bl2 mX11_read 12 [] 12 (.ifCond .ne 6) 3 = true := by decide +kernel
theorem b_X11_read_18_18 : bl2 mX11_read 18 [] 18 (.aload_n 0) 1 = true := by decide +kernel
set_option maxRecDepth 20000 in
set_option maxHeartbeats 1000000 in
theorem y_read_bad (E : EE) (L : Nat) (F : FF) (l n : Nat) (hm : MR F l n) (s p : Int32) (h : ¬ (0 ≤ s ∧ s < 4) ∨ ¬ (0 ≤ p ∧ p < nI n)) : Ev3 E L 16 mX11_read [.ref 48, .int s, .int p] F (some (.int (-2))) F := by
  refine Ev3.of okX11_read.2.2.1 (Nat.le_of_ble_eq_true rfl) ?_
  show R2 E L mX11_read 16 0 [some (.ref 48), some (.int s), some (.int p), none] [] F _
  refine R2.B (ls2 := [some (.ref 48), some (.int s), some (.int p), none]) (st2 := [.int s]) b_X11_read_0_1 rfl (fun hd => ?_)
  refine R2.callS3 (M2 := mX11_isSheet) (As := [.int s]) (rest := []) hd lk_11_153 okX11_isSheet (by decide) (me_isSheet E L F s) (by decide) rfl rfl (Nat.le_of_ble_eq_true rfl) ?_
  refine R2.B (ls2 := [some (.ref 48), some (.int s), some (.int p), none]) (st2 := [.int (b2i (0 ≤ s ∧ s ≤ 3))]) b_X11_read_4_4 rfl (fun hd => ?_)
  refine R2.if_eq 15 hd (by decide) (fun c4 => ?_) (fun c4 => ?_)
  · have nc4 : ¬ (0 ≤ s ∧ s ≤ 3) := b2i_zero.mp c4
    refine R2.B (ls2 := [some (.ref 48), some (.int s), some (.int p), none]) (st2 := [.int (-2)]) b_X11_read_15_17 rfl (fun hd => ?_)
    exact R2.ret3 (r := some (.int (-2))) hd trivial rfl rfl rfl
  · have nc4 : 0 ≤ s ∧ s ≤ 3 := b2i_nz.mp c4
    refine R2.B (ls2 := [some (.ref 48), some (.int s), some (.int p), none]) (st2 := [.int p, .ref 48]) b_X11_read_7_9 rfl (fun hd => ?_)
    refine R2.callV3 (M2 := mX11_isPerson) (As := [.int p]) (rest := []) hd lk_11_131 okX11_isPerson (by decide) rfl (me_isPerson E L F l n hm p) (by decide) rfl rfl (Nat.le_of_ble_eq_true rfl) ?_
    refine R2.B (ls2 := [some (.ref 48), some (.int s), some (.int p), none]) (st2 := [.int (b2i (0 ≤ p ∧ p < nI n))]) b_X11_read_12_12 rfl (fun hd => ?_)
    refine R2.if_ne 18 hd (by decide) (fun c12 => ?_) (fun c12 => ?_)
    · have nc12 : 0 ≤ p ∧ p < nI n := b2i_nz.mp c12
      refine R2.B (ls2 := [some (.ref 48), some (.int s), some (.int p), none]) (st2 := []) b_X11_read_18_18 rfl (fun hd => ?_)
      exact False.elim (by clear hd; grind)
    · have nc12 : ¬ (0 ≤ p ∧ p < nI n) := b2i_zero.mp c12
      refine R2.B (ls2 := [some (.ref 48), some (.int s), some (.int p), none]) (st2 := [.int (-2)]) b_X11_read_15_17 rfl (fun hd => ?_)
      exact R2.ret3 (r := some (.int (-2))) hd trivial rfl rfl rfl
theorem b_X11_read_18_23 : bl2 mX11_read 18 [(.aload_n 0, 1, 0, 0, .null), (.getfield 70, 3, 11, 26, .null), (.iload_n 1, 1, 1, 0, .null)] 23 (.baload) 1 = true := by decide +kernel
theorem b_X11_read_24_24 : bl2 mX11_read 24 [] 24 (.ifCond .ne 9) 3 = true := by decide +kernel
theorem b_X11_read_27_29 : bl2 mX11_read 27 [(.aload_n 0, 1, 0, 0, .null), (.iconst 1, 1, 0, 0, .int 1)] 29 (.invokevirtual 156) 3 = true := by decide +kernel
theorem b_X11_read_32_32 : bl2 mX11_read 32 [] 32 (.ireturn) 1 = true := by decide +kernel
set_option maxRecDepth 20000 in
set_option maxHeartbeats 1000000 in
theorem y_read_null (E : EE) (L : Nat) (F : FF) (l n : Nat) (hm : MR F l n) (s : Nat) (hs4 : s < 4) (a : Nat) (ha : a < n) (hl : F 69 s = 0) : Ev3 E L 16 mX11_read [.ref 48, .int (nI s), .int (nI a)] F (some (.int (-10 - 1))) (up2 F 48 31 1) := by
  have hn10 := hm.2.2.1
  refine Ev3.of okX11_read.2.2.1 (Nat.le_of_ble_eq_true rfl) ?_
  show R2 E L mX11_read 16 0 [some (.ref 48), some (.int (nI s)), some (.int (nI a)), none] [] F _
  refine R2.B (ls2 := [some (.ref 48), some (.int (nI s)), some (.int (nI a)), none]) (st2 := [.int (nI s)]) b_X11_read_0_1 rfl (fun hd => ?_)
  refine R2.callS3 (M2 := mX11_isSheet) (As := [.int (nI s)]) (rest := []) hd lk_11_153 okX11_isSheet (by decide) (me_isSheet E L F (nI s)) (by decide) rfl rfl (Nat.le_of_ble_eq_true rfl) ?_
  refine R2.B (ls2 := [some (.ref 48), some (.int (nI s)), some (.int (nI a)), none]) (st2 := [.int (b2i (0 ≤ (nI s) ∧ (nI s) ≤ 3))]) b_X11_read_4_4 rfl (fun hd => ?_)
  refine R2.if_eq 15 hd (by decide) (fun c4 => absurd c4 (b2i_nz.mpr ⟨nI_pos' (by omega), (nI_leI (b := 3) (by omega) (by omega)).mpr (by omega)⟩)) (fun c4 => ?_)
  refine R2.B (ls2 := [some (.ref 48), some (.int (nI s)), some (.int (nI a)), none]) (st2 := [.int (nI a), .ref 48]) b_X11_read_7_9 rfl (fun hd => ?_)
  refine R2.callV3 (M2 := mX11_isPerson) (As := [.int (nI a)]) (rest := []) hd lk_11_131 okX11_isPerson (by decide) rfl (me_isPerson E L F l n hm (nI a)) (by decide) rfl rfl (Nat.le_of_ble_eq_true rfl) ?_
  refine R2.B (ls2 := [some (.ref 48), some (.int (nI s)), some (.int (nI a)), none]) (st2 := [.int (b2i (0 ≤ (nI a) ∧ (nI a) < nI n))]) b_X11_read_12_12 rfl (fun hd => ?_)
  refine R2.if_ne 18 hd (by decide) (fun c12 => ?_) (fun c12 => absurd c12 (b2i_nz.mpr (perM hn10 ha)))
  refine R2.B (ls2 := [some (.ref 48), some (.int (nI s)), some (.int (nI a)), none]) (st2 := [.int (nI s), .ref 69]) b_X11_read_18_23 rfl (fun hd => ?_)
  refine R2.zald s rfl hd rfl (fun _ => rfl) (by decide) (by omega) ?_
  refine R2.B (ls2 := [some (.ref 48), some (.int (nI s)), some (.int (nI a)), none]) (st2 := [.int (F 69 s)]) b_X11_read_24_24 rfl (fun hd => ?_)
  refine R2.if_ne 33 hd (by decide) (fun c24 => absurd (hl) c24) (fun c24 => ?_)
  refine R2.B (ls2 := [some (.ref 48), some (.int (nI s)), some (.int (nI a)), none]) (st2 := [.int 1, .ref 48]) b_X11_read_27_29 rfl (fun hd => ?_)
  refine R2.callV3 (M2 := mX11_meets) (As := [.int 1]) (rest := []) hd lk_11_156 okX11_meets (by decide) rfl (me_meets E L F 1) (by decide) rfl rfl (Nat.le_of_ble_eq_true rfl) ?_
  refine R2.B (ls2 := [some (.ref 48), some (.int (nI s)), some (.int (nI a)), none]) (st2 := [.int (-10 - 1)]) b_X11_read_32_32 rfl (fun hd => ?_)
  exact R2.ret3 (r := some (.int (-10 - 1))) hd trivial rfl rfl rfl
theorem b_X11_read_35_41 : bl2 mX11_read 35 [(.iload_n 3, 1, 3, 0, .null), (.aload_n 0, 1, 0, 0, .null), (.getfield 77, 3, 11, 28, .null), (.iload_n 1, 1, 1, 0, .null)] 41 (.iaload) 1 = true := by decide +kernel
theorem b_X11_read_42_42 : bl2 mX11_read 42 [] 42 (.if_icmp .ge 48) 3 = true := by decide +kernel
theorem b_X11_read_90_91 : bl2 mX11_read 90 [(.iload_n 3, 1, 3, 0, .null)] 91 (.ireturn) 1 = true := by decide +kernel
theorem b_X11_read_45_55 : bl2 mX11_read 45 [(.aload_n 0, 1, 0, 0, .null), (.getfield 80, 3, 11, 29, .null), (.bipush 60, 2, 0, 0, .int 60), (.iload_n 1, 1, 1, 0, .null), (.imul, 1, 0, 0, .null), (.iload_n 3, 1, 3, 0, .null), (.iadd, 1, 0, 0, .null)] 55 (.iaload) 1 = true := by decide +kernel
theorem b_X11_read_56_59 : bl2 mX11_read 56 [(.iconst 0, 1, 0, 0, .int 0), (.bipush 7, 2, 0, 0, .int 7)] 59 (.invokestatic 86) 3 = true := by decide +kernel
theorem b_X11_read_62_62 : bl2 mX11_read 62 [] 62 (.ifCond .eq 28) 3 = true := by decide +kernel
theorem b_X11_read_65_77 : bl2 mX11_read 65 [(.aload_n 0, 1, 0, 0, .null), (.iload_n 2, 1, 2, 0, .null), (.aload_n 0, 1, 0, 0, .null), (.getfield 80, 3, 11, 29, .null), (.bipush 60, 2, 0, 0, .int 60), (.iload_n 1, 1, 1, 0, .null), (.imul, 1, 0, 0, .null), (.iload_n 3, 1, 3, 0, .null), (.iadd, 1, 0, 0, .null)] 77 (.iaload) 1 = true := by decide +kernel
theorem b_X11_read_78_78 : bl2 mX11_read 78 [] 78 (.invokevirtual 150) 3 = true := by decide +kernel
theorem b_X11_read_81_81 : bl2 mX11_read 81 [] 81 (.ifCond .eq 9) 3 = true := by decide +kernel
theorem b_X11_read_84_35 : bl2 mX11_read 84 [(.iinc 3 1, 3, 3, 0, .int 1), (.goto (-52), 3, 35, 0, .null)] 35 (.iload_n 3) 1 = true := by decide +kernel
set_option maxRecDepth 20000 in
set_option maxHeartbeats 2000000 in
theorem ml_rd (E : EE) (L : Nat) (s : Nat) (hs4 : s < 4) (l n a z : Nat) (ha : a < n) (hz60 : z ≤ 60) : ∀ (k : Nat) (j : Nat) (F : FF), j + k = z → MR F l n → F 71 s = nI z → R2 E L mX11_read 16 35 [some (.ref 48), some (.int (nI s)), some (.int (nI a)), some (.int (nI j))] [] F (fun r' F' => r' = some (.int (nI (rdM n a s k j F).1)) ∧ F' = (rdM n a s k j F).2) := by
  intro k
  induction k with
  | zero =>
    intro j F hi hm h3
    have hn10 := hm.2.2.1
    refine R2.B (ls2 := [some (.ref 48), some (.int (nI s)), some (.int (nI a)), some (.int (nI j))]) (st2 := [.int (nI s), .ref 71, .int (nI j)]) b_X11_read_35_41 rfl (fun hd => ?_)
    refine R2.iald s rfl hd rfl (fun _ => rfl) (by decide) (by omega) ?_
    refine R2.top (show (F 71 s : Int32) = nI z from h3) ?_
    refine R2.B (ls2 := [some (.ref 48), some (.int (nI s)), some (.int (nI a)), some (.int (nI j))]) (st2 := [.int (nI z), .int (nI j)]) b_X11_read_42_42 rfl (fun hd => ?_)
    refine R2.icmp_ge 90 hd (by decide) (fun c42 => ?_) (fun c42 => absurd (nI_le (by omega) (by omega)) c42)
    refine R2.B (ls2 := [some (.ref 48), some (.int (nI s)), some (.int (nI a)), some (.int (nI j))]) (st2 := [.int (nI j)]) b_X11_read_90_91 rfl (fun hd => ?_)
    exact R2.ret3 (r := some (.int (nI j))) hd trivial rfl rfl rfl
  | succ k ih =>
    intro j F hi hm h3
    have hn10 := hm.2.2.1
    refine R2.B (ls2 := [some (.ref 48), some (.int (nI s)), some (.int (nI a)), some (.int (nI j))]) (st2 := [.int (nI s), .ref 71, .int (nI j)]) b_X11_read_35_41 rfl (fun hd => ?_)
    refine R2.iald s rfl hd rfl (fun _ => rfl) (by decide) (by omega) ?_
    refine R2.top (show (F 71 s : Int32) = nI z from h3) ?_
    refine R2.B (ls2 := [some (.ref 48), some (.int (nI s)), some (.int (nI a)), some (.int (nI j))]) (st2 := [.int (nI z), .int (nI j)]) b_X11_read_42_42 rfl (fun hd => ?_)
    refine R2.icmp_ge 90 hd (by decide) (fun c42 => absurd c42 (nI_ge (by omega) (by omega))) (fun c42 => ?_)
    refine R2.B (ls2 := [some (.ref 48), some (.int (nI s)), some (.int (nI a)), some (.int (nI j))]) (st2 := [.int ((60 * (nI s)) + (nI j)), .ref 72]) b_X11_read_45_55 rfl (fun hd => ?_)
    refine R2.iald (60 * s + j) (ix60 s j) hd rfl (fun _ => rfl) (by decide) (by omega) ?_
    refine R2.B (ls2 := [some (.ref 48), some (.int (nI s)), some (.int (nI a)), some (.int (nI j))]) (st2 := [.int 7, .int 0, .int (F 72 (60 * s + j))]) b_X11_read_56_59 rfl (fun hd => ?_)
    refine R2.callS3 (M2 := mX11_in) (As := [.int (F 72 (60 * s + j)), .int 0, .int 7]) (rest := []) hd lk_11_86 okX11_in (by decide) (ev_in E L F (F 72 (60 * s + j)) 0 7) (by decide) rfl rfl (Nat.le_of_ble_eq_true rfl) ?_
    refine R2.B (ls2 := [some (.ref 48), some (.int (nI s)), some (.int (nI a)), some (.int (nI j))]) (st2 := [.int (b2i (0 ≤ (F 72 (60 * s + j)) ∧ (F 72 (60 * s + j)) ≤ 7))]) b_X11_read_62_62 rfl (fun hd => ?_)
    refine R2.if_eq 90 hd (by decide) (fun c62 => ?_) (fun c62 => ?_)
    · have nc62 : ¬ (0 ≤ (F 72 (60 * s + j)) ∧ (F 72 (60 * s + j)) ≤ 7) := b2i_zero.mp c62
      refine R2.B (ls2 := [some (.ref 48), some (.int (nI s)), some (.int (nI a)), some (.int (nI j))]) (st2 := [.int (nI j)]) b_X11_read_90_91 rfl (fun hd => ?_)
      have e : rdM n a s (k + 1) j F = (j, F) := by
        simp only [rdM]; rw [if_neg nc62]
      exact R2.ret3 (r := some (.int (nI j))) hd trivial rfl (by rw [e]) (by rw [e])
    · have nc62 : 0 ≤ (F 72 (60 * s + j)) ∧ (F 72 (60 * s + j)) ≤ 7 := b2i_nz.mp c62
      refine R2.B (ls2 := [some (.ref 48), some (.int (nI s)), some (.int (nI a)), some (.int (nI j))]) (st2 := [.int ((60 * (nI s)) + (nI j)), .ref 72, .int (nI a), .ref 48]) b_X11_read_65_77 rfl (fun hd => ?_)
      obtain ⟨d, hd8, ed⟩ := dir7 nc62
      refine R2.iald (60 * s + j) (ix60 s j) hd rfl (fun _ => rfl) (by decide) (by omega) ?_
      refine R2.top (show (F 72 (60 * s + j) : Int32) = nI d from ed) ?_
      refine R2.B (ls2 := [some (.ref 48), some (.int (nI s)), some (.int (nI a)), some (.int (nI j))]) (st2 := [.int (nI d), .int (nI a), .ref 48]) b_X11_read_78_78 rfl (fun hd => ?_)
      by_cases hl9 : stC F n a d
      · refine R2.callV3 (M2 := mX11_steps) (As := [.int (nI a), .int (nI d)]) (rest := []) hd lk_11_150 okX11_steps (by decide) rfl (me_steps1 E L F l n hm a d ha hd8 hl9) (by decide) rfl rfl (Nat.le_of_ble_eq_true rfl) ?_
        refine R2.B (ls2 := [some (.ref 48), some (.int (nI s)), some (.int (nI a)), some (.int (nI j))]) (st2 := [.int 1]) b_X11_read_81_81 rfl (fun hd => ?_)
        refine R2.if_eq 90 hd (by decide) (fun c81 => absurd c81 (by decide)) (fun c81 => ?_)
        refine R2.B (ls2 := [some (.ref 48), some (.int (nI s)), some (.int (nI a)), some (.int ((nI j) + 1))]) (st2 := []) b_X11_read_84_35 rfl (fun hd => ?_)
        rw [show ((nI j) + 1 : Int32) = nI (j + 1) from nI_add j 1]
        have e : rdM n a s (k + 1) j F = rdM n a s k (j + 1) (up2 (ly F n) 56 a (nbr (F 56 a) d)) := by
          simp only [rdM]; rw [if_pos nc62, ed, nI_clamp (by omega), if_pos hl9]
        rw [e]
        exact ih (j + 1) _ (by omega) ((hm.lyy n).1.set (by decide) _ _).1 (by rw [up2_row (by decide), ly_row (by decide)]; exact h3)
      · refine R2.callV3 (M2 := mX11_steps) (As := [.int (nI a), .int (nI d)]) (rest := []) hd lk_11_150 okX11_steps (by decide) rfl (me_steps0 E L F l n hm a d ha hd8 hl9) (by decide) rfl rfl (Nat.le_of_ble_eq_true rfl) ?_
        refine R2.B (ls2 := [some (.ref 48), some (.int (nI s)), some (.int (nI a)), some (.int (nI j))]) (st2 := [.int 0]) b_X11_read_81_81 rfl (fun hd => ?_)
        refine R2.if_eq 90 hd (by decide) (fun c81 => ?_) (fun c81 => absurd (by decide) c81)
        refine R2.B (ls2 := [some (.ref 48), some (.int (nI s)), some (.int (nI a)), some (.int (nI j))]) (st2 := [.int (nI j)]) b_X11_read_90_91 rfl (fun hd => ?_)
        have e : rdM n a s (k + 1) j F = (j, (ly F n)) := by
          simp only [rdM]; rw [if_pos nc62, ed, nI_clamp (by omega), if_neg hl9]
        exact R2.ret3 (r := some (.int (nI j))) hd trivial rfl (by rw [e]) (by rw [e])
theorem b_X11_read_33_35 : bl2 mX11_read 33 [(.iconst 0, 1, 0, 0, .int 0), (.istore_n 3, 1, 3, 0, .null)] 35 (.iload_n 3) 1 = true := by decide +kernel
set_option maxRecDepth 20000 in
set_option maxHeartbeats 1000000 in
theorem y_read (E : EE) (L : Nat) (F : FF) (l n : Nat) (hm : MR F l n) (s : Nat) (hs4 : s < 4) (a : Nat) (ha : a < n) (z : Nat) (hz : F 71 s = nI z) (hz60 : z ≤ 60) (hl : ¬ F 69 s = 0) : Ev3 E L 16 mX11_read [.ref 48, .int (nI s), .int (nI a)] F (some (.int (nI (rdM n a s z 0 F).1))) (rdM n a s z 0 F).2 := by
  have hn10 := hm.2.2.1
  refine Ev3.of okX11_read.2.2.1 (Nat.le_of_ble_eq_true rfl) ?_
  show R2 E L mX11_read 16 0 [some (.ref 48), some (.int (nI s)), some (.int (nI a)), none] [] F _
  refine R2.B (ls2 := [some (.ref 48), some (.int (nI s)), some (.int (nI a)), none]) (st2 := [.int (nI s)]) b_X11_read_0_1 rfl (fun hd => ?_)
  refine R2.callS3 (M2 := mX11_isSheet) (As := [.int (nI s)]) (rest := []) hd lk_11_153 okX11_isSheet (by decide) (me_isSheet E L F (nI s)) (by decide) rfl rfl (Nat.le_of_ble_eq_true rfl) ?_
  refine R2.B (ls2 := [some (.ref 48), some (.int (nI s)), some (.int (nI a)), none]) (st2 := [.int (b2i (0 ≤ (nI s) ∧ (nI s) ≤ 3))]) b_X11_read_4_4 rfl (fun hd => ?_)
  refine R2.if_eq 15 hd (by decide) (fun c4 => absurd c4 (b2i_nz.mpr ⟨nI_pos' (by omega), (nI_leI (b := 3) (by omega) (by omega)).mpr (by omega)⟩)) (fun c4 => ?_)
  refine R2.B (ls2 := [some (.ref 48), some (.int (nI s)), some (.int (nI a)), none]) (st2 := [.int (nI a), .ref 48]) b_X11_read_7_9 rfl (fun hd => ?_)
  refine R2.callV3 (M2 := mX11_isPerson) (As := [.int (nI a)]) (rest := []) hd lk_11_131 okX11_isPerson (by decide) rfl (me_isPerson E L F l n hm (nI a)) (by decide) rfl rfl (Nat.le_of_ble_eq_true rfl) ?_
  refine R2.B (ls2 := [some (.ref 48), some (.int (nI s)), some (.int (nI a)), none]) (st2 := [.int (b2i (0 ≤ (nI a) ∧ (nI a) < nI n))]) b_X11_read_12_12 rfl (fun hd => ?_)
  refine R2.if_ne 18 hd (by decide) (fun c12 => ?_) (fun c12 => absurd c12 (b2i_nz.mpr (perM hn10 ha)))
  refine R2.B (ls2 := [some (.ref 48), some (.int (nI s)), some (.int (nI a)), none]) (st2 := [.int (nI s), .ref 69]) b_X11_read_18_23 rfl (fun hd => ?_)
  refine R2.zald s rfl hd rfl (fun _ => rfl) (by decide) (by omega) ?_
  refine R2.B (ls2 := [some (.ref 48), some (.int (nI s)), some (.int (nI a)), none]) (st2 := [.int (F 69 s)]) b_X11_read_24_24 rfl (fun hd => ?_)
  refine R2.if_ne 33 hd (by decide) (fun c24 => ?_) (fun c24 => absurd c24 (hl))
  refine R2.B (ls2 := [some (.ref 48), some (.int (nI s)), some (.int (nI a)), some (.int 0)]) (st2 := []) b_X11_read_33_35 rfl (fun hd => ?_)
  exact ml_rd E L s hs4 l n a z ha hz60 z 0 F (by omega) hm hz
