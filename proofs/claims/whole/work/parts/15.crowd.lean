/-! Crowd's rest, Market. Printed by wip/whole/gen/spec3.py. -/
theorem min10 {a : Nat} (h : a < 1000) : (if (10 : Int32) < nI a then (10 : Int32) else nI a) = nI (if a < 10 then a else 10) := by
  have e10 : (10 : Int32) = nI 10 := rfl
  rw [e10]
  by_cases ha : a < 10
  · rw [if_pos ha, if_neg (fun z => Nat.lt_asymm ha ((nI_ltI (a := 10) (by decide) (by omega)).mp z))]
  · rw [if_neg ha]
    by_cases hb : a = 10
    · subst hb; rw [if_neg (fun z => Nat.lt_irrefl 10 ((nI_ltI (a := 10) (b := 10) (by decide) (by decide)).mp z))]
    · rw [if_pos ((nI_ltI (a := 10) (b := a) (by decide) (by omega)).mpr (by omega))]
def mayS (X : Nat → Int32) (p : Nat) (t near : Int32) : Nat → Nat → Bool
  | 0, _ => true
  | k + 1, i => if i ≠ p ∧ awy (X i) t < near then false else mayS X p t near k (i + 1)
def lawS (X : Nat → Int32) (p d : Nat) (near : Int32) (n : Nat) : Int32 := if nbr (X p) d ≠ -1 ∧ mayS X p (nbr (X p) d) near n 0 = true then nbr (X p) d else -1
abbrev nrC (X : Nat → Int32) (a b : Nat) (w clr : Int32) (q : Nat) : Prop := q ≠ a ∧ q ≠ b ∧ nI q ≠ w ∧ (awy (X q) (X a) < clr ∨ awy (X q) (X b) < clr)
def fnr (X : Nat → Int32) (a b : Nat) (w clr : Int32) : Nat → Nat → Int32
  | 0, _ => -1
  | k + 1, i => if nrC X a b w clr i then nI i else fnr X a b w clr k (i + 1)
def vdB (K T P X : Nat → Int32) (clr due w : Int32) (n a b : Nat) : Int32 :=
  if awy (X a) (X b) ≠ due * due then 1 else if fnr X a b w clr n 0 ≠ -1 then 2 else if trd K T P a b then 0 else 3
def cvd (F : FF) (X : Nat → Int32) (n : Nat) (due w : Int32) (a b : Nat) : Int32 := vdB (F 11) (F 12) (F 13) X (F 17 1 * F 17 1) due w n a b
def sumI (g : Nat → Int32) : Nat → Nat → Int32 → Int32
  | 0, _, acc => acc
  | k + 1, b, acc => sumI g k (b + 1) (acc + g b)
def sumO (g : Nat → Nat → Int32) (n : Nat) : Nat → Nat → Int32 → Int32
  | 0, _, acc => acc
  | k + 1, a, acc => sumO g n k (a + 1) (sumI (g a) (n - (a + 1)) (a + 1) acc)
def gBP (F : FF) (X : Nat → Int32) (n : Nat) (due : Int32) (a b : Nat) : Int32 := if cvd F X n due (-1) a b = 0 then 1 else 0
def cBP (F : FF) (n : Nat) (due : Int32) : Int32 := sumO (gBP F (F 15) n due) n n 0 0
def bdL (g : Nat → Int32) : Nat → Nat → Nat → Int32 → Nat
  | 0, _, best, _ => best
  | k + 1, j, best, most => if most < g j then bdL g k (j + 1) j (g j) else bdL g k (j + 1) best most
def cBD (F : FF) (n f t : Nat) : Nat := bdL (fun j => sumO (gBP F (F 15) n (nI j)) n n 0 0) (t - f) (f + 1) f (sumO (gBP F (F 15) n (nI f)) n n 0 0)
abbrev hndC (F : FF) (n p a b : Nat) : Prop := cvd F (F 15) n (F 17 0) (nI p) a b = 0 ∧ ¬ cvd F (F 15) n (F 17 0) (-1) a b = 0
def gHN (F : FF) (n p : Nat) (wo : Int32) (a b : Nat) : Int32 := if a ≠ p ∧ b ≠ p ∧ hndC F n p a b then (if wo = 0 then 1 else gan (F 11) (F 13) a b) else 0
def cHN (F : FF) (n p : Nat) (wo : Int32) : Int32 := sumO (gHN F n p wo) n n 0 0
theorem b_X0_tell_40_45 : bl2 mX0_tell 40 [(.iload_n 2, 1, 2, 0, .null), (.aload_n 0, 1, 0, 0, .null), (.getfield 27, 3, 0, 5, .null)] 45 (.if_icmp .ge 15) 3 = true := by decide +kernel
theorem b_X0_tell_60_60 : bl2 mX0_tell 60 [] 60 (.return_) 1 = true := by decide +kernel
theorem b_X0_tell_48_51 : bl2 mX0_tell 48 [(.aload_n 0, 1, 0, 0, .null), (.aload_n 1, 1, 1, 0, .null), (.iload_n 2, 1, 2, 0, .null)] 51 (.invokevirtual 50) 3 = true := by decide +kernel
theorem b_X0_tell_54_40 : bl2 mX0_tell 54 [(.iinc 2 1, 3, 2, 0, .int 1), (.goto (-17), 3, 40, 0, .null)] 40 (.iload_n 2) 1 = true := by decide +kernel
set_option maxRecDepth 20000 in
set_option maxHeartbeats 2000000 in
theorem lp_tell (E : EE) (L : Nat) (l n : Nat) (hl : l ≤ 90) (hn : n ≤ 10) : ∀ (k : Nat) (p : Nat) (F : FF), p + k = n → F 10 5 = nI n → F 6 1 = nI l → R2 E L mX0_tell 6 40 [some (.ref 10), some (.ref 6), some (.int (nI p))] [] F (fun r' F' => r' = none ∧ F' = plcL l k p F) := by
  intro k
  induction k with
  | zero =>
    intro p F hi h5 h6
    refine R2.B (ls2 := [some (.ref 10), some (.ref 6), some (.int (nI p))]) (st2 := [.int (F 10 5), .int (nI p)]) b_X0_tell_40_45 rfl (fun hd => ?_)
    rw [show (F 10 5 : Int32) = nI n from h5]
    refine R2.icmp_ge 60 hd (by decide) (fun c45 => ?_) (fun c45 => absurd (nI_le (by omega) (by omega)) c45)
    refine R2.B (ls2 := [some (.ref 10), some (.ref 6), some (.int (nI p))]) (st2 := []) b_X0_tell_60_60 rfl (fun hd => ?_)
    exact R2.ret3 (r := none) hd trivial rfl rfl rfl
  | succ k ih =>
    intro p F hi h5 h6
    refine R2.B (ls2 := [some (.ref 10), some (.ref 6), some (.int (nI p))]) (st2 := [.int (F 10 5), .int (nI p)]) b_X0_tell_40_45 rfl (fun hd => ?_)
    rw [show (F 10 5 : Int32) = nI n from h5]
    refine R2.icmp_ge 60 hd (by decide) (fun c45 => absurd c45 (nI_ge (by omega) (by omega))) (fun c45 => ?_)
    refine R2.B (ls2 := [some (.ref 10), some (.ref 6), some (.int (nI p))]) (st2 := [.int (nI p), .ref 6, .ref 10]) b_X0_tell_48_51 rfl (fun hd => ?_)
    refine R2.callV3 (M2 := mX0_place) (As := [.ref 6, .int (nI p)]) (rest := []) hd lk_0_50 okX0_place (by decide) rfl (ev_place E L F l p h6 hl (by omega)) (by decide) rfl rfl (Nat.le_of_ble_eq_true rfl) ?_
    refine R2.B (ls2 := [some (.ref 10), some (.ref 6), some (.int ((nI p) + 1))]) (st2 := []) b_X0_tell_54_40 rfl (fun hd => ?_)
    rw [show ((nI p) + 1 : Int32) = nI (p + 1) from nI_add p 1]
    exact ih (p + 1) (plcF F l p) (by omega) h5 h6
theorem b_X0_tell_0_2 : bl2 mX0_tell 0 [(.aload_n 0, 1, 0, 0, .null), (.aload_n 1, 1, 1, 0, .null)] 2 (.invokestatic 34) 3 = true := by decide +kernel
theorem b_X0_tell_5_5 : bl2 mX0_tell 5 [] 5 (.putfield 31) 3 = true := by decide +kernel
theorem b_X0_tell_8_14 : bl2 mX0_tell 8 [(.aload_n 0, 1, 0, 0, .null), (.aload_n 0, 1, 0, 0, .null), (.getfield 31, 3, 0, 6, .null), (.iconst (-1), 1, 0, 0, .int (-1))] 14 (.if_icmp .ne 20) 3 = true := by decide +kernel
theorem b_X0_tell_34_35 : bl2 mX0_tell 34 [(.iconst 0, 1, 0, 0, .int 0)] 35 (.putfield 27) 3 = true := by decide +kernel
theorem b_X0_tell_38_40 : bl2 mX0_tell 38 [(.iconst 0, 1, 0, 0, .int 0), (.istore_n 2, 1, 2, 0, .null)] 40 (.iload_n 2) 1 = true := by decide +kernel
theorem b_X0_tell_17_18 : bl2 mX0_tell 17 [(.aload_n 1, 1, 1, 0, .null)] 18 (.invokevirtual 38) 3 = true := by decide +kernel
theorem b_X0_tell_21_25 : bl2 mX0_tell 21 [(.iconst 1, 1, 0, 0, .int 1), (.iadd, 1, 0, 0, .null), (.bipush 9, 2, 0, 0, .int 9)] 25 (.idiv) 1 = true := by decide +kernel
theorem b_X0_tell_26_28 : bl2 mX0_tell 26 [(.bipush 10, 2, 0, 0, .int 10)] 28 (.invokestatic 44) 3 = true := by decide +kernel
theorem b_X0_tell_31_35 : bl2 mX0_tell 31 [(.goto 4, 3, 35, 0, .null)] 35 (.putfield 27) 3 = true := by decide +kernel
set_option maxRecDepth 20000 in
set_option maxHeartbeats 1000000 in
theorem ev_tell (E : EE) (L : Nat) (F : FF) (l : Nat) (hlen : F 6 1 = nI l) (hl : l ≤ 90) : Ev3 E L 6 mX0_tell [.ref 10, .ref 6] F none (tellF F l) := by
  refine Ev3.of okX0_tell.2.2.1 (Nat.le_of_ble_eq_true rfl) ?_
  show R2 E L mX0_tell 6 0 [some (.ref 10), some (.ref 6), none] [] F _
  refine R2.B (ls2 := [some (.ref 10), some (.ref 6), none]) (st2 := [.ref 6, .ref 10]) b_X0_tell_0_2 rfl (fun hd => ?_)
  refine R2.callS3 (M2 := mX0_faultOf) (As := [.ref 6]) (rest := [.ref 10]) hd lk_0_34 okX0_faultOf (by decide) (ev_faultOf E L F l hlen hl) (by decide) rfl rfl (Nat.le_of_ble_eq_true rfl) ?_
  refine R2.B (ls2 := [some (.ref 10), some (.ref 6), none]) (st2 := [.int (cFlt l (F 7) l 0), .ref 10]) b_X0_tell_5_5 rfl (fun hd => ?_)
  refine R2.putf (a := 0) (b := 6) hd (by decide) (by decide) rfl rfl (fun _ => rfl) ?_
  refine R2.B (ls2 := [some (.ref 10), some (.ref 6), none]) (st2 := [.int (-1), .int (cFlt l (F 7) l 0), .ref 10]) b_X0_tell_8_14 rfl (fun hd => ?_)
  refine R2.icmp_ne 34 hd (by decide) (fun c14 => ?_) (fun c14 => ?_)
  · refine R2.B (ls2 := [some (.ref 10), some (.ref 6), none]) (st2 := [.int 0, .ref 10]) b_X0_tell_34_35 rfl (fun hd => ?_)
    refine R2.putf (a := 0) (b := 5) hd (by decide) (by decide) rfl rfl (fun _ => rfl) ?_
    refine R2.B (ls2 := [some (.ref 10), some (.ref 6), some (.int 0)]) (st2 := []) b_X0_tell_38_40 rfl (fun hd => ?_)
    have hq : cCnt l (F 7) ≤ 10 := by unfold cCnt; split <;> (try split) <;> omega
    refine R2.eqF (F2 := up2 (up2 F 10 6 (cFlt l (F 7) l 0)) 10 5 (nI (cCnt l (F 7)))) (by unfold cCnt; clear hd; first | rw [if_pos c14] | rw [if_neg c14]; rfl) ?_
    exact lp_tell E L l (cCnt l (F 7)) hl hq (cCnt l (F 7)) 0 _ (by omega) rfl hlen
  · refine R2.B (ls2 := [some (.ref 10), some (.ref 6), none]) (st2 := [.ref 6, .ref 10]) b_X0_tell_17_18 rfl (fun hd => ?_)
    refine R2.callV3 (M2 := mX7_length) (As := []) (rest := [.ref 10]) hd lk_0_38 okX7_length (by decide) rfl (ev_length6 E L _) (by decide) rfl rfl (Nat.le_of_ble_eq_true rfl) ?_
    refine R2.top (show (F 6 1 : Int32) = nI l from hlen) ?_
    refine R2.B (ls2 := [some (.ref 10), some (.ref 6), none]) (st2 := [.int 9, .int ((nI l) + 1), .ref 10]) b_X0_tell_21_25 rfl (fun hd => ?_)
    rw [show ((nI l) + 1 : Int32) = nI (l + 1) from nI_add l 1]
    refine R2.idiv hd (by decide) ?_
    refine R2.top (show ((nI (l + 1)) / 9 : Int32) = nI ((l + 1) / 9) from pk_div (by omega) (by decide) (by decide)) ?_
    refine R2.B (ls2 := [some (.ref 10), some (.ref 6), none]) (st2 := [.int 10, .int (nI ((l + 1) / 9)), .ref 10]) b_X0_tell_26_28 rfl (fun hd => ?_)
    refine R2.mmin hd ma_0_44 (by decide) (Nat.le_of_ble_eq_true rfl) ?_
    refine R2.top (show (if 10 < nI ((l + 1) / 9) then 10 else nI ((l + 1) / 9) : Int32) = nI (if (l + 1) / 9 < 10 then (l + 1) / 9 else 10) from min10 (by omega)) ?_
    refine R2.B (ls2 := [some (.ref 10), some (.ref 6), none]) (st2 := [.int (nI (if (l + 1) / 9 < 10 then (l + 1) / 9 else 10)), .ref 10]) b_X0_tell_31_35 rfl (fun hd => ?_)
    refine R2.putf (a := 0) (b := 5) hd (by decide) (by decide) rfl rfl (fun _ => rfl) ?_
    refine R2.B (ls2 := [some (.ref 10), some (.ref 6), some (.int 0)]) (st2 := []) b_X0_tell_38_40 rfl (fun hd => ?_)
    have hq : cCnt l (F 7) ≤ 10 := by unfold cCnt; split <;> (try split) <;> omega
    refine R2.eqF (F2 := up2 (up2 F 10 6 (cFlt l (F 7) l 0)) 10 5 (nI (cCnt l (F 7)))) (by unfold cCnt; clear hd; first | rw [if_pos c14] | rw [if_neg c14]; rfl) ?_
    exact lp_tell E L l (cCnt l (F 7)) hl hq (cCnt l (F 7)) 0 _ (by omega) rfl hlen
theorem b_X0_goHome_4_9 : bl2 mX0_goHome 4 [(.iload_n 2, 1, 2, 0, .null), (.aload_n 0, 1, 0, 0, .null), (.getfield 27, 3, 0, 5, .null)] 9 (.if_icmp .ge 39) 3 = true := by decide +kernel
theorem b_X0_goHome_48_49 : bl2 mX0_goHome 48 [(.iload_n 1, 1, 1, 0, .null)] 49 (.ireturn) 1 = true := by decide +kernel
theorem b_X0_goHome_12_17 : bl2 mX0_goHome 12 [(.aload_n 0, 1, 0, 0, .null), (.getfield 24, 3, 0, 4, .null), (.iload_n 2, 1, 2, 0, .null)] 17 (.iaload) 1 = true := by decide +kernel
theorem b_X0_goHome_18_23 : bl2 mX0_goHome 18 [(.aload_n 0, 1, 0, 0, .null), (.getfield 21, 3, 0, 3, .null), (.iload_n 2, 1, 2, 0, .null)] 23 (.iaload) 1 = true := by decide +kernel
theorem b_X0_goHome_24_24 : bl2 mX0_goHome 24 [] 24 (.if_icmp .eq 6) 3 = true := by decide +kernel
theorem b_X0_goHome_30_40 : bl2 mX0_goHome 30 [(.aload_n 0, 1, 0, 0, .null), (.getfield 24, 3, 0, 4, .null), (.iload_n 2, 1, 2, 0, .null), (.aload_n 0, 1, 0, 0, .null), (.getfield 21, 3, 0, 3, .null), (.iload_n 2, 1, 2, 0, .null)] 40 (.iaload) 1 = true := by decide +kernel
theorem b_X0_goHome_41_41 : bl2 mX0_goHome 41 [] 41 (.iastore) 1 = true := by decide +kernel
theorem b_X0_goHome_42_4 : bl2 mX0_goHome 42 [(.iinc 2 1, 3, 2, 0, .int 1), (.goto (-41), 3, 4, 0, .null)] 4 (.iload_n 2) 1 = true := by decide +kernel
theorem b_X0_goHome_27_40 : bl2 mX0_goHome 27 [(.iinc 1 1, 3, 1, 0, .int 1), (.aload_n 0, 1, 0, 0, .null), (.getfield 24, 3, 0, 4, .null), (.iload_n 2, 1, 2, 0, .null), (.aload_n 0, 1, 0, 0, .null), (.getfield 21, 3, 0, 3, .null), (.iload_n 2, 1, 2, 0, .null)] 40 (.iaload) 1 = true := by decide +kernel
set_option maxRecDepth 20000 in
set_option maxHeartbeats 2000000 in
theorem lp_goHome (E : EE) (L : Nat) (n : Nat) (hn : n ≤ 10) : ∀ (k : Nat) (p : Nat) (acc : Int32) (F : FF), p + k = n → F 10 5 = nI n → R2 E L mX0_goHome 1 4 [some (.ref 10), some (.int acc), some (.int (nI p))] [] F (fun r' F' => r' = some (.int (homeL k p acc F).1) ∧ F' = (homeL k p acc F).2) := by
  intro k
  induction k with
  | zero =>
    intro p acc F hi h5
    refine R2.B (ls2 := [some (.ref 10), some (.int acc), some (.int (nI p))]) (st2 := [.int (F 10 5), .int (nI p)]) b_X0_goHome_4_9 rfl (fun hd => ?_)
    rw [show (F 10 5 : Int32) = nI n from h5]
    refine R2.icmp_ge 48 hd (by decide) (fun c9 => ?_) (fun c9 => absurd (nI_le (by omega) (by omega)) c9)
    refine R2.B (ls2 := [some (.ref 10), some (.int acc), some (.int (nI p))]) (st2 := [.int acc]) b_X0_goHome_48_49 rfl (fun hd => ?_)
    exact R2.ret3 (r := some (.int acc)) hd trivial rfl rfl rfl
  | succ k ih =>
    intro p acc F hi h5
    refine R2.B (ls2 := [some (.ref 10), some (.int acc), some (.int (nI p))]) (st2 := [.int (F 10 5), .int (nI p)]) b_X0_goHome_4_9 rfl (fun hd => ?_)
    rw [show (F 10 5 : Int32) = nI n from h5]
    refine R2.icmp_ge 48 hd (by decide) (fun c9 => absurd c9 (nI_ge (by omega) (by omega))) (fun c9 => ?_)
    refine R2.B (ls2 := [some (.ref 10), some (.int acc), some (.int (nI p))]) (st2 := [.int (nI p), .ref 15]) b_X0_goHome_12_17 rfl (fun hd => ?_)
    refine R2.iald p rfl hd rfl (fun _ => rfl) (by decide) (by omega) ?_
    refine R2.B (ls2 := [some (.ref 10), some (.int acc), some (.int (nI p))]) (st2 := [.int (nI p), .ref 14, .int (F 15 p)]) b_X0_goHome_18_23 rfl (fun hd => ?_)
    refine R2.iald p rfl hd rfl (fun _ => rfl) (by decide) (by omega) ?_
    refine R2.B (ls2 := [some (.ref 10), some (.int acc), some (.int (nI p))]) (st2 := [.int (F 14 p), .int (F 15 p)]) b_X0_goHome_24_24 rfl (fun hd => ?_)
    refine R2.icmp_eq 30 hd (by decide) (fun c24 => ?_) (fun c24 => ?_)
    · refine R2.B (ls2 := [some (.ref 10), some (.int acc), some (.int (nI p))]) (st2 := [.int (nI p), .ref 14, .int (nI p), .ref 15]) b_X0_goHome_30_40 rfl (fun hd => ?_)
      refine R2.iald p rfl hd rfl (fun _ => rfl) (by decide) (by omega) ?_
      refine R2.B (ls2 := [some (.ref 10), some (.int acc), some (.int (nI p))]) (st2 := [.int (F 14 p), .int (nI p), .ref 15]) b_X0_goHome_41_41 rfl (fun hd => ?_)
      refine R2.iast p rfl hd (by decide) rfl (fun _ => rfl) (by decide) (by omega) ?_
      refine R2.B (ls2 := [some (.ref 10), some (.int acc), some (.int ((nI p) + 1))]) (st2 := []) b_X0_goHome_42_4 rfl (fun hd => ?_)
      rw [show ((nI p) + 1 : Int32) = nI (p + 1) from nI_add p 1]
      rw [show homeL (k + 1) p acc F = homeL k (p + 1) acc (up2 F 15 p (F 14 p)) from (by simp only [homeL]; rw [if_pos c24])]
      exact ih (p + 1) acc (up2 F 15 p (F 14 p)) (by omega) h5
    · refine R2.B (ls2 := [some (.ref 10), some (.int (acc + 1)), some (.int (nI p))]) (st2 := [.int (nI p), .ref 14, .int (nI p), .ref 15]) b_X0_goHome_27_40 rfl (fun hd => ?_)
      refine R2.iald p rfl hd rfl (fun _ => rfl) (by decide) (by omega) ?_
      refine R2.B (ls2 := [some (.ref 10), some (.int (acc + 1)), some (.int (nI p))]) (st2 := [.int (F 14 p), .int (nI p), .ref 15]) b_X0_goHome_41_41 rfl (fun hd => ?_)
      refine R2.iast p rfl hd (by decide) rfl (fun _ => rfl) (by decide) (by omega) ?_
      refine R2.B (ls2 := [some (.ref 10), some (.int (acc + 1)), some (.int ((nI p) + 1))]) (st2 := []) b_X0_goHome_42_4 rfl (fun hd => ?_)
      rw [show ((nI p) + 1 : Int32) = nI (p + 1) from nI_add p 1]
      rw [show homeL (k + 1) p acc F = homeL k (p + 1) (acc + 1) (up2 F 15 p (F 14 p)) from (by simp only [homeL]; rw [if_neg c24])]
      exact ih (p + 1) (acc + 1) (up2 F 15 p (F 14 p)) (by omega) h5
theorem b_X0_goHome_0_4 : bl2 mX0_goHome 0 [(.iconst 0, 1, 0, 0, .int 0), (.istore_n 1, 1, 1, 0, .null), (.iconst 0, 1, 0, 0, .int 0), (.istore_n 2, 1, 2, 0, .null)] 4 (.iload_n 2) 1 = true := by decide +kernel
set_option maxRecDepth 20000 in
set_option maxHeartbeats 1000000 in
theorem ev_goHome (E : EE) (L : Nat) (F : FF) (n : Nat) (hn : F 10 5 = nI n) (hn10 : n ≤ 10) : Ev3 E L 1 mX0_goHome [.ref 10] F (some (.int (homeL n 0 0 F).1)) (homeL n 0 0 F).2 := by
  refine Ev3.of okX0_goHome.2.2.1 (Nat.le_of_ble_eq_true rfl) ?_
  show R2 E L mX0_goHome 1 0 [some (.ref 10), none, none] [] F _
  refine R2.B (ls2 := [some (.ref 10), some (.int 0), some (.int 0)]) (st2 := []) b_X0_goHome_0_4 rfl (fun hd => ?_)
  exact lp_goHome E L n hn10 n 0 0 F (by omega) hn
theorem b_X0_sellsTo_0_5 : bl2 mX0_sellsTo 0 [(.aload_n 0, 1, 0, 0, .null), (.getfield 9, 3, 0, 0, .null), (.iload_n 1, 1, 1, 0, .null)] 5 (.iaload) 1 = true := by decide +kernel
theorem b_X0_sellsTo_6_6 : bl2 mX0_sellsTo 6 [] 6 (.ifCond .ne 47) 3 = true := by decide +kernel
theorem b_X0_sellsTo_53_54 : bl2 mX0_sellsTo 53 [(.iconst 0, 1, 0, 0, .int 0)] 54 (.ireturn) 1 = true := by decide +kernel
theorem b_X0_sellsTo_9_14 : bl2 mX0_sellsTo 9 [(.aload_n 0, 1, 0, 0, .null), (.getfield 9, 3, 0, 0, .null), (.iload_n 2, 1, 2, 0, .null)] 14 (.iaload) 1 = true := by decide +kernel
theorem b_X0_sellsTo_15_16 : bl2 mX0_sellsTo 15 [(.iconst 1, 1, 0, 0, .int 1)] 16 (.if_icmp .ne 37) 3 = true := by decide +kernel
theorem b_X0_sellsTo_19_24 : bl2 mX0_sellsTo 19 [(.aload_n 0, 1, 0, 0, .null), (.getfield 15, 3, 0, 1, .null), (.iload_n 1, 1, 1, 0, .null)] 24 (.iaload) 1 = true := by decide +kernel
theorem b_X0_sellsTo_25_30 : bl2 mX0_sellsTo 25 [(.aload_n 0, 1, 0, 0, .null), (.getfield 15, 3, 0, 1, .null), (.iload_n 2, 1, 2, 0, .null)] 30 (.iaload) 1 = true := by decide +kernel
theorem b_X0_sellsTo_31_31 : bl2 mX0_sellsTo 31 [] 31 (.if_icmp .ne 22) 3 = true := by decide +kernel
theorem b_X0_sellsTo_34_39 : bl2 mX0_sellsTo 34 [(.aload_n 0, 1, 0, 0, .null), (.getfield 18, 3, 0, 2, .null), (.iload_n 2, 1, 2, 0, .null)] 39 (.iaload) 1 = true := by decide +kernel
theorem b_X0_sellsTo_40_45 : bl2 mX0_sellsTo 40 [(.aload_n 0, 1, 0, 0, .null), (.getfield 18, 3, 0, 2, .null), (.iload_n 1, 1, 1, 0, .null)] 45 (.iaload) 1 = true := by decide +kernel
theorem b_X0_sellsTo_46_46 : bl2 mX0_sellsTo 46 [] 46 (.if_icmp .lt 7) 3 = true := by decide +kernel
theorem b_X0_sellsTo_49_54 : bl2 mX0_sellsTo 49 [(.iconst 1, 1, 0, 0, .int 1), (.goto 4, 3, 54, 0, .null)] 54 (.ireturn) 1 = true := by decide +kernel
set_option maxRecDepth 20000 in
set_option maxHeartbeats 1000000 in
theorem ev_sellsTo (E : EE) (L : Nat) (F : FF) (a b : Nat) (ha : a < 10) (hb : b < 10) : Ev3 E L 1 mX0_sellsTo [.ref 10, .int (nI a), .int (nI b)] F (some (.int (b2i (sls (F 11) (F 12) (F 13) a b)))) F := by
  refine Ev3.of okX0_sellsTo.2.2.1 (Nat.le_of_ble_eq_true rfl) ?_
  show R2 E L mX0_sellsTo 1 0 [some (.ref 10), some (.int (nI a)), some (.int (nI b))] [] F _
  refine R2.B (ls2 := [some (.ref 10), some (.int (nI a)), some (.int (nI b))]) (st2 := [.int (nI a), .ref 11]) b_X0_sellsTo_0_5 rfl (fun hd => ?_)
  refine R2.iald a rfl hd rfl (fun _ => rfl) (by decide) (by omega) ?_
  refine R2.B (ls2 := [some (.ref 10), some (.int (nI a)), some (.int (nI b))]) (st2 := [.int (F 11 a)]) b_X0_sellsTo_6_6 rfl (fun hd => ?_)
  refine R2.if_ne 53 hd (by decide) (fun c6 => ?_) (fun c6 => ?_)
  · refine R2.B (ls2 := [some (.ref 10), some (.int (nI a)), some (.int (nI b))]) (st2 := [.int 0]) b_X0_sellsTo_53_54 rfl (fun hd => ?_)
    exact R2.ret3 (r := some (.int 0)) hd (Or.inl rfl) rfl (congrArg (fun z => some (Value.int z)) (b2i_f (by clear hd; grind))) rfl
  · refine R2.B (ls2 := [some (.ref 10), some (.int (nI a)), some (.int (nI b))]) (st2 := [.int (nI b), .ref 11]) b_X0_sellsTo_9_14 rfl (fun hd => ?_)
    refine R2.iald b rfl hd rfl (fun _ => rfl) (by decide) (by omega) ?_
    refine R2.B (ls2 := [some (.ref 10), some (.int (nI a)), some (.int (nI b))]) (st2 := [.int 1, .int (F 11 b)]) b_X0_sellsTo_15_16 rfl (fun hd => ?_)
    refine R2.icmp_ne 53 hd (by decide) (fun c16 => ?_) (fun c16 => ?_)
    · refine R2.B (ls2 := [some (.ref 10), some (.int (nI a)), some (.int (nI b))]) (st2 := [.int 0]) b_X0_sellsTo_53_54 rfl (fun hd => ?_)
      exact R2.ret3 (r := some (.int 0)) hd (Or.inl rfl) rfl (congrArg (fun z => some (Value.int z)) (b2i_f (by clear hd; grind))) rfl
    · refine R2.B (ls2 := [some (.ref 10), some (.int (nI a)), some (.int (nI b))]) (st2 := [.int (nI a), .ref 12]) b_X0_sellsTo_19_24 rfl (fun hd => ?_)
      refine R2.iald a rfl hd rfl (fun _ => rfl) (by decide) (by omega) ?_
      refine R2.B (ls2 := [some (.ref 10), some (.int (nI a)), some (.int (nI b))]) (st2 := [.int (nI b), .ref 12, .int (F 12 a)]) b_X0_sellsTo_25_30 rfl (fun hd => ?_)
      refine R2.iald b rfl hd rfl (fun _ => rfl) (by decide) (by omega) ?_
      refine R2.B (ls2 := [some (.ref 10), some (.int (nI a)), some (.int (nI b))]) (st2 := [.int (F 12 b), .int (F 12 a)]) b_X0_sellsTo_31_31 rfl (fun hd => ?_)
      refine R2.icmp_ne 53 hd (by decide) (fun c31 => ?_) (fun c31 => ?_)
      · refine R2.B (ls2 := [some (.ref 10), some (.int (nI a)), some (.int (nI b))]) (st2 := [.int 0]) b_X0_sellsTo_53_54 rfl (fun hd => ?_)
        exact R2.ret3 (r := some (.int 0)) hd (Or.inl rfl) rfl (congrArg (fun z => some (Value.int z)) (b2i_f (by clear hd; grind))) rfl
      · refine R2.B (ls2 := [some (.ref 10), some (.int (nI a)), some (.int (nI b))]) (st2 := [.int (nI b), .ref 13]) b_X0_sellsTo_34_39 rfl (fun hd => ?_)
        refine R2.iald b rfl hd rfl (fun _ => rfl) (by decide) (by omega) ?_
        refine R2.B (ls2 := [some (.ref 10), some (.int (nI a)), some (.int (nI b))]) (st2 := [.int (nI a), .ref 13, .int (F 13 b)]) b_X0_sellsTo_40_45 rfl (fun hd => ?_)
        refine R2.iald a rfl hd rfl (fun _ => rfl) (by decide) (by omega) ?_
        refine R2.B (ls2 := [some (.ref 10), some (.int (nI a)), some (.int (nI b))]) (st2 := [.int (F 13 a), .int (F 13 b)]) b_X0_sellsTo_46_46 rfl (fun hd => ?_)
        refine R2.icmp_lt 53 hd (by decide) (fun c46 => ?_) (fun c46 => ?_)
        · refine R2.B (ls2 := [some (.ref 10), some (.int (nI a)), some (.int (nI b))]) (st2 := [.int 0]) b_X0_sellsTo_53_54 rfl (fun hd => ?_)
          exact R2.ret3 (r := some (.int 0)) hd (Or.inl rfl) rfl (congrArg (fun z => some (Value.int z)) (b2i_f (by clear hd; grind))) rfl
        · refine R2.B (ls2 := [some (.ref 10), some (.int (nI a)), some (.int (nI b))]) (st2 := [.int 1]) b_X0_sellsTo_49_54 rfl (fun hd => ?_)
          exact R2.ret3 (r := some (.int 1)) hd (Or.inr rfl) rfl (congrArg (fun z => some (Value.int z)) (b2i_t (by clear hd; grind))) rfl
theorem b_X0_canTrade_0_3 : bl2 mX0_canTrade 0 [(.aload_n 0, 1, 0, 0, .null), (.iload_n 1, 1, 1, 0, .null), (.iload_n 2, 1, 2, 0, .null)] 3 (.invokevirtual 54) 3 = true := by decide +kernel
theorem b_X0_canTrade_6_6 : bl2 mX0_canTrade 6 [] 6 (.ifCond .ne 12) 3 = true := by decide +kernel
theorem b_X0_canTrade_18_23 : bl2 mX0_canTrade 18 [(.iconst 1, 1, 0, 0, .int 1), (.goto 4, 3, 23, 0, .null)] 23 (.ireturn) 1 = true := by decide +kernel
theorem b_X0_canTrade_9_12 : bl2 mX0_canTrade 9 [(.aload_n 0, 1, 0, 0, .null), (.iload_n 2, 1, 2, 0, .null), (.iload_n 1, 1, 1, 0, .null)] 12 (.invokevirtual 54) 3 = true := by decide +kernel
theorem b_X0_canTrade_15_15 : bl2 mX0_canTrade 15 [] 15 (.ifCond .eq 7) 3 = true := by decide +kernel
theorem b_X0_canTrade_22_23 : bl2 mX0_canTrade 22 [(.iconst 0, 1, 0, 0, .int 0)] 23 (.ireturn) 1 = true := by decide +kernel
set_option maxRecDepth 20000 in
set_option maxHeartbeats 1000000 in
theorem ev_canTrade (E : EE) (L : Nat) (F : FF) (a b : Nat) (ha : a < 10) (hb : b < 10) : Ev3 E L 2 mX0_canTrade [.ref 10, .int (nI a), .int (nI b)] F (some (.int (b2i (trd (F 11) (F 12) (F 13) a b)))) F := by
  refine Ev3.of okX0_canTrade.2.2.1 (Nat.le_of_ble_eq_true rfl) ?_
  show R2 E L mX0_canTrade 2 0 [some (.ref 10), some (.int (nI a)), some (.int (nI b))] [] F _
  refine R2.B (ls2 := [some (.ref 10), some (.int (nI a)), some (.int (nI b))]) (st2 := [.int (nI b), .int (nI a), .ref 10]) b_X0_canTrade_0_3 rfl (fun hd => ?_)
  refine R2.callV3 (M2 := mX0_sellsTo) (As := [.int (nI a), .int (nI b)]) (rest := []) hd lk_0_54 okX0_sellsTo (by decide) rfl (ev_sellsTo E L F a b (by omega) (by omega)) (by decide) rfl rfl (Nat.le_of_ble_eq_true rfl) ?_
  refine R2.B (ls2 := [some (.ref 10), some (.int (nI a)), some (.int (nI b))]) (st2 := [.int (b2i (sls (F 11) (F 12) (F 13) a b))]) b_X0_canTrade_6_6 rfl (fun hd => ?_)
  refine R2.if_ne 18 hd (by decide) (fun c6 => ?_) (fun c6 => ?_)
  · have nc6 : sls (F 11) (F 12) (F 13) a b := b2i_nz.mp c6
    refine R2.B (ls2 := [some (.ref 10), some (.int (nI a)), some (.int (nI b))]) (st2 := [.int 1]) b_X0_canTrade_18_23 rfl (fun hd => ?_)
    exact R2.ret3 (r := some (.int 1)) hd (Or.inr rfl) rfl (congrArg (fun z => some (Value.int z)) (b2i_t (by clear hd; grind))) rfl
  · have nc6 : ¬ (sls (F 11) (F 12) (F 13) a b) := b2i_zero.mp c6
    refine R2.B (ls2 := [some (.ref 10), some (.int (nI a)), some (.int (nI b))]) (st2 := [.int (nI a), .int (nI b), .ref 10]) b_X0_canTrade_9_12 rfl (fun hd => ?_)
    refine R2.callV3 (M2 := mX0_sellsTo) (As := [.int (nI b), .int (nI a)]) (rest := []) hd lk_0_54 okX0_sellsTo (by decide) rfl (ev_sellsTo E L F b a (by omega) (by omega)) (by decide) rfl rfl (Nat.le_of_ble_eq_true rfl) ?_
    refine R2.B (ls2 := [some (.ref 10), some (.int (nI a)), some (.int (nI b))]) (st2 := [.int (b2i (sls (F 11) (F 12) (F 13) b a))]) b_X0_canTrade_15_15 rfl (fun hd => ?_)
    refine R2.if_eq 22 hd (by decide) (fun c15 => ?_) (fun c15 => ?_)
    · have nc15 : ¬ (sls (F 11) (F 12) (F 13) b a) := b2i_zero.mp c15
      refine R2.B (ls2 := [some (.ref 10), some (.int (nI a)), some (.int (nI b))]) (st2 := [.int 0]) b_X0_canTrade_22_23 rfl (fun hd => ?_)
      exact R2.ret3 (r := some (.int 0)) hd (Or.inl rfl) rfl (congrArg (fun z => some (Value.int z)) (b2i_f (by clear hd; grind))) rfl
    · have nc15 : sls (F 11) (F 12) (F 13) b a := b2i_nz.mp c15
      refine R2.B (ls2 := [some (.ref 10), some (.int (nI a)), some (.int (nI b))]) (st2 := [.int 1]) b_X0_canTrade_18_23 rfl (fun hd => ?_)
      exact R2.ret3 (r := some (.int 1)) hd (Or.inr rfl) rfl (congrArg (fun z => some (Value.int z)) (b2i_t (by clear hd; grind))) rfl
theorem b_X0_gain_0_5 : bl2 mX0_gain 0 [(.aload_n 0, 1, 0, 0, .null), (.getfield 9, 3, 0, 0, .null), (.iload_n 1, 1, 1, 0, .null)] 5 (.iaload) 1 = true := by decide +kernel
theorem b_X0_gain_6_7 : bl2 mX0_gain 6 [(.iconst 1, 1, 0, 0, .int 1)] 7 (.if_icmp .ne 19) 3 = true := by decide +kernel
theorem b_X0_gain_26_31 : bl2 mX0_gain 26 [(.aload_n 0, 1, 0, 0, .null), (.getfield 18, 3, 0, 2, .null), (.iload_n 2, 1, 2, 0, .null)] 31 (.iaload) 1 = true := by decide +kernel
theorem b_X0_gain_32_37 : bl2 mX0_gain 32 [(.aload_n 0, 1, 0, 0, .null), (.getfield 18, 3, 0, 2, .null), (.iload_n 1, 1, 1, 0, .null)] 37 (.iaload) 1 = true := by decide +kernel
theorem b_X0_gain_38_39 : bl2 mX0_gain 38 [(.isub, 1, 0, 0, .null)] 39 (.ireturn) 1 = true := by decide +kernel
theorem b_X0_gain_10_15 : bl2 mX0_gain 10 [(.aload_n 0, 1, 0, 0, .null), (.getfield 18, 3, 0, 2, .null), (.iload_n 1, 1, 1, 0, .null)] 15 (.iaload) 1 = true := by decide +kernel
theorem b_X0_gain_16_21 : bl2 mX0_gain 16 [(.aload_n 0, 1, 0, 0, .null), (.getfield 18, 3, 0, 2, .null), (.iload_n 2, 1, 2, 0, .null)] 21 (.iaload) 1 = true := by decide +kernel
theorem b_X0_gain_22_39 : bl2 mX0_gain 22 [(.isub, 1, 0, 0, .null), (.goto 16, 3, 39, 0, .null)] 39 (.ireturn) 1 = true := by decide +kernel
set_option maxRecDepth 20000 in
set_option maxHeartbeats 1000000 in
theorem ev_gain (E : EE) (L : Nat) (F : FF) (a b : Nat) (ha : a < 10) (hb : b < 10) : Ev3 E L 1 mX0_gain [.ref 10, .int (nI a), .int (nI b)] F (some (.int (gan (F 11) (F 13) a b))) F := by
  refine Ev3.of okX0_gain.2.2.1 (Nat.le_of_ble_eq_true rfl) ?_
  show R2 E L mX0_gain 1 0 [some (.ref 10), some (.int (nI a)), some (.int (nI b))] [] F _
  refine R2.B (ls2 := [some (.ref 10), some (.int (nI a)), some (.int (nI b))]) (st2 := [.int (nI a), .ref 11]) b_X0_gain_0_5 rfl (fun hd => ?_)
  refine R2.iald a rfl hd rfl (fun _ => rfl) (by decide) (by omega) ?_
  refine R2.B (ls2 := [some (.ref 10), some (.int (nI a)), some (.int (nI b))]) (st2 := [.int 1, .int (F 11 a)]) b_X0_gain_6_7 rfl (fun hd => ?_)
  refine R2.icmp_ne 26 hd (by decide) (fun c7 => ?_) (fun c7 => ?_)
  · refine R2.B (ls2 := [some (.ref 10), some (.int (nI a)), some (.int (nI b))]) (st2 := [.int (nI b), .ref 13]) b_X0_gain_26_31 rfl (fun hd => ?_)
    refine R2.iald b rfl hd rfl (fun _ => rfl) (by decide) (by omega) ?_
    refine R2.B (ls2 := [some (.ref 10), some (.int (nI a)), some (.int (nI b))]) (st2 := [.int (nI a), .ref 13, .int (F 13 b)]) b_X0_gain_32_37 rfl (fun hd => ?_)
    refine R2.iald a rfl hd rfl (fun _ => rfl) (by decide) (by omega) ?_
    refine R2.B (ls2 := [some (.ref 10), some (.int (nI a)), some (.int (nI b))]) (st2 := [.int ((F 13 b) - (F 13 a))]) b_X0_gain_38_39 rfl (fun hd => ?_)
    exact R2.ret3 (r := some (.int ((F 13 b) - (F 13 a)))) hd trivial rfl (congrArg (fun z => some (Value.int z)) (by clear hd; unfold gan; grind)) rfl
  · refine R2.B (ls2 := [some (.ref 10), some (.int (nI a)), some (.int (nI b))]) (st2 := [.int (nI a), .ref 13]) b_X0_gain_10_15 rfl (fun hd => ?_)
    refine R2.iald a rfl hd rfl (fun _ => rfl) (by decide) (by omega) ?_
    refine R2.B (ls2 := [some (.ref 10), some (.int (nI a)), some (.int (nI b))]) (st2 := [.int (nI b), .ref 13, .int (F 13 a)]) b_X0_gain_16_21 rfl (fun hd => ?_)
    refine R2.iald b rfl hd rfl (fun _ => rfl) (by decide) (by omega) ?_
    refine R2.B (ls2 := [some (.ref 10), some (.int (nI a)), some (.int (nI b))]) (st2 := [.int ((F 13 a) - (F 13 b))]) b_X0_gain_22_39 rfl (fun hd => ?_)
    exact R2.ret3 (r := some (.int ((F 13 a) - (F 13 b)))) hd trivial rfl (congrArg (fun z => some (Value.int z)) (by clear hd; unfold gan; grind)) rfl
