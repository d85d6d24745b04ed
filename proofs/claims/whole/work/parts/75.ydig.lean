/-! digest, of the reference. Printed by wip/whole/gen/spec28.py. -/
def mpF (F S J : FF) (n a : Nat) (h : Int64) : Int64 := mx (mx (mx (mx (mx (mx (mx (mx (mx h (F 11 a)) (F 12 a)) (F 13 a)) (rem32 (F 15 a))) (F 15 a / 32)) (S 28 a)) (J 23 a)) (cHN F n a 0)) (cHN F n a 1)
def dPF (F S J : FF) (n : Nat) : Nat → Nat → Int64 → Int64
  | 0, _, h => h
  | k + 1, p, h => dPF F S J n k (p + 1) (mpF F S J n p h)
def dgE (F S J : FF) (n m : Nat) (h : Int64) : Int64 := mx (mx (mx (mx (mx (mx (mx (mx (mx h (cBP F n (F 17 0))) (S 25 4)) (S 25 5)) (J 22 3)) (J 22 4)) (J 22 5)) (sumO (gPA (F 34) (F 17 0 * F 17 0)) m m 0 0)) (nI (bsV F m))) (seenS (F 34) m (nI (bsV F m)) (F 17 0 * F 17 0))
def DGF (F S J : FF) (n m : Nat) : Int64 := dgD F n (mx (mx (dgE F S J n m (dPF F S J n n 0 (dgA F))) (brV J n).1) (brV J n).2)
theorem DG_eq (F : FF) (n s m : Nat) : DGJ F n s m = DGF F (solF F n) (jgF (solF F n) n s) n m := by
  have hrJ : ∀ a, a ≠ 22 → a ≠ 23 → a ≠ 24 → a ≠ 25 → a ≠ 26 → a ≠ 27 → a ≠ 28 → (jgF (solF F n) n s) a = F a := fun a h1 h2 h3 h4 h5 h6 h7 => (jgF_row h1 h2 h3).trans (solF_row h4 h5 h6 h7)
  have e11 := hrJ 11 (by decide) (by decide) (by decide) (by decide) (by decide) (by decide) (by decide)
  have e12 := hrJ 12 (by decide) (by decide) (by decide) (by decide) (by decide) (by decide) (by decide)
  have e13 := hrJ 13 (by decide) (by decide) (by decide) (by decide) (by decide) (by decide) (by decide)
  have e15 := hrJ 15 (by decide) (by decide) (by decide) (by decide) (by decide) (by decide) (by decide)
  have e17 := hrJ 17 (by decide) (by decide) (by decide) (by decide) (by decide) (by decide) (by decide)
  have e34 := hrJ 34 (by decide) (by decide) (by decide) (by decide) (by decide) (by decide) (by decide)
  have e25 : (jgF (solF F n) n s) 25 = (solF F n) 25 := jgF_row (by decide) (by decide) (by decide)
  have e28 : (jgF (solF F n) n s) 28 = (solF F n) 28 := jgF_row (by decide) (by decide) (by decide)
  unfold DGJ
  generalize (jgF (solF F n) n s) = J at *
  generalize (solF F n) = S at *
  have ep : ∀ (k p : Nat) (h : Int64), dPL J n k p h = dPF F S J n k p h := by
    intro k
    induction k with
    | zero => intro p h; rfl
    | succ k ih =>
      intro p h
      rw [dPL, dPF, ih]
      unfold mpV mpF
      rw [cHN_c (wo := 0) e11 e12 e13 e15 e17, cHN_c (wo := 1) e11 e12 e13 e15 e17, e11, e12, e13, e15, e28]
  have eb : bsV J m = bsV F m := by unfold bsV; rw [e34, e17]
  have ec : cBP J n (J 17 0) = cBP F n (F 17 0) := by rw [e17]; exact cBP_c e11 e12 e13 e15 e17
  show dgD J n (dgC J n m (dPL J n n 0 (dgA F))) = DGF F S J n m
  unfold DGF dgC dgE dgD
  rw [ep, ec, eb, e25, e34, e17, cBD_c (f := 10) (t := 30) e11 e12 e13 e15 e17, cBP_c (due := nI (cBD F n 10 30)) e11 e12 e13 e15 e17]
theorem b_X11_digest_59_64 : bl2 mX11_digest 59 [(.iload_n 3, 1, 3, 0, .null), (.aload_n 0, 1, 0, 0, .null), (.getfield 101, 3, 11, 3, .null)] 64 (.if_icmp .ge 93) 3 = true := by decide +kernel
theorem b_X11_digest_157_157 : bl2 mX11_digest 157 [] 157 (.ldc2_w 263) 3 = true := by decide +kernel
theorem b_X11_digest_67_73 : bl2 mX11_digest 67 [(.iconst 0, 1, 0, 0, .int 0), (.istore 4, 2, 4, 0, .null), (.iload 4, 2, 4, 0, .null), (.iconst 5, 1, 0, 0, .int 5)] 73 (.if_icmp .ge 24) 3 = true := by decide +kernel
theorem b_X11_digest_76_85 : bl2 mX11_digest 76 [(.ldc2_w 263, 3, 0, 0, .long 31), (.lload_n 1, 1, 1, 0, .null), (.lmul, 1, 0, 0, .null), (.aload_n 0, 1, 0, 0, .null), (.iload_n 3, 1, 3, 0, .null), (.iload 4, 2, 4, 0, .null)] 85 (.invokevirtual 134) 3 = true := by decide +kernel
theorem b_X11_digest_88_73 : bl2 mX11_digest 88 [(.i2l, 1, 0, 0, .null), (.ladd, 1, 0, 0, .null), (.lstore_n 1, 1, 1, 0, .null), (.iinc 4 1, 3, 4, 0, .int 1), (.goto (-24), 3, 70, 0, .null), (.iload 4, 2, 4, 0, .null), (.iconst 5, 1, 0, 0, .int 5)] 73 (.if_icmp .ge 24) 3 = true := by decide +kernel
theorem b_X11_digest_97_104 : bl2 mX11_digest 97 [(.ldc2_w 263, 3, 0, 0, .long 31), (.lload_n 1, 1, 1, 0, .null), (.lmul, 1, 0, 0, .null), (.aload_n 0, 1, 0, 0, .null), (.iload_n 3, 1, 3, 0, .null)] 104 (.invokevirtual 192) 3 = true := by decide +kernel
theorem b_X11_digest_107_117 : bl2 mX11_digest 107 [(.i2l, 1, 0, 0, .null), (.ladd, 1, 0, 0, .null), (.lstore_n 1, 1, 1, 0, .null), (.ldc2_w 263, 3, 0, 0, .long 31), (.lload_n 1, 1, 1, 0, .null), (.lmul, 1, 0, 0, .null), (.aload_n 0, 1, 0, 0, .null), (.iload_n 3, 1, 3, 0, .null)] 117 (.invokevirtual 213) 3 = true := by decide +kernel
theorem b_X11_digest_120_131 : bl2 mX11_digest 120 [(.i2l, 1, 0, 0, .null), (.ladd, 1, 0, 0, .null), (.lstore_n 1, 1, 1, 0, .null), (.ldc2_w 263, 3, 0, 0, .long 31), (.lload_n 1, 1, 1, 0, .null), (.lmul, 1, 0, 0, .null), (.aload_n 0, 1, 0, 0, .null), (.iload_n 3, 1, 3, 0, .null), (.iconst 0, 1, 0, 0, .int 0)] 131 (.invokevirtual 223) 3 = true := by decide +kernel
theorem b_X11_digest_134_145 : bl2 mX11_digest 134 [(.i2l, 1, 0, 0, .null), (.ladd, 1, 0, 0, .null), (.lstore_n 1, 1, 1, 0, .null), (.ldc2_w 263, 3, 0, 0, .long 31), (.lload_n 1, 1, 1, 0, .null), (.lmul, 1, 0, 0, .null), (.aload_n 0, 1, 0, 0, .null), (.iload_n 3, 1, 3, 0, .null), (.iconst 1, 1, 0, 0, .int 1)] 145 (.invokevirtual 223) 3 = true := by decide +kernel
theorem b_X11_digest_148_59 : bl2 mX11_digest 148 [(.i2l, 1, 0, 0, .null), (.ladd, 1, 0, 0, .null), (.lstore_n 1, 1, 1, 0, .null), (.iinc 3 1, 3, 3, 0, .int 1), (.goto (-95), 3, 59, 0, .null)] 59 (.iload_n 3) 1 = true := by decide +kernel
set_option maxRecDepth 20000 in
set_option maxHeartbeats 2000000 in
theorem ml_dg (E : EE) (L : Nat) (F : FF) (l0 l1 n m : Nat) (s : Nat) (hF : FairOK F n s) (hn10 : n ≤ 10) (Q : Q2) : ∀ (k p : Nat) (h : Int64) (G : FF), p + k = n → DI F G l0 l1 n m → (∀ G', DI F G' l0 l1 n m → R2 E L mX11_digest 17 157 [some (.ref 48), some (.long (dPF F (solF F n) (jgF (solF F n) n s) n k p h)), none, none, none] [] G' Q) → R2 E L mX11_digest 17 59 [some (.ref 48), some (.long h), none, some (.int (nI p)), none] [] G Q := by
  intro k
  induction k with
  | zero =>
    intro p h G hi hD ex
    refine R2.B (ls2 := [some (.ref 48), some (.long h), none, some (.int (nI p)), none]) (st2 := [.int (G 48 3), .int (nI p)]) b_X11_digest_59_64 rfl (fun hd => ?_)
    rw [show (G 48 3 : Int32) = nI n from hD.1.2.2.2.1.1.2.2]
    refine R2.icmp_ge 157 hd (by decide) (fun c64 => ?_) (fun c64 => absurd (nI_le (by omega) (by omega)) c64)
    refine R2.B (ls2 := [some (.ref 48), some (.long h), none, some (.int (nI p)), none]) (st2 := []) b_X11_digest_157_157 rfl (fun hd => ?_)
    refine R2.forget (ls2 := [some (.ref 48), some (.long h), none, none, none]) ⟨rfl, ⟨rfl, trivial⟩⟩ ?_
    exact ex G hD
  | succ k ih =>
    intro p h G hi hD ex
    refine R2.B (ls2 := [some (.ref 48), some (.long h), none, some (.int (nI p)), none]) (st2 := [.int (G 48 3), .int (nI p)]) b_X11_digest_59_64 rfl (fun hd => ?_)
    rw [show (G 48 3 : Int32) = nI n from hD.1.2.2.2.1.1.2.2]
    refine R2.icmp_ge 157 hd (by decide) (fun c64 => absurd c64 (nI_ge (by omega) (by omega))) (fun c64 => ?_)
    refine R2.B (ls2 := [some (.ref 48), some (.long h), none, some (.int (nI p)), some (.int 0)]) (st2 := [.int 5, .int 0]) b_X11_digest_67_73 rfl (fun hd => ?_)
    refine R2.icmp_ge 97 hd (by decide) (fun c73 => absurd c73 (by decide)) (fun c73 => ?_)
    refine R2.B (ls2 := [some (.ref 48), some (.long h), none, some (.int (nI p)), some (.int 0)]) (st2 := [.int 0, .int (nI p), .ref 48, .long (31 * h)]) b_X11_digest_76_85 rfl (fun hd => ?_)
    refine R2.callV (M2 := mX11_personOf) (As := [.int (nI p), .int 0]) (rest := [.long (31 * h)]) hd lk_11_134 okX11_personOf (by decide) rfl (q_person E L hD p (by omega) 0 (by omega)) (by decide) rfl rfl (Nat.le_of_ble_eq_true rfl) (fun r1 G1 q1 => ?_)
    obtain ⟨q1, hD1⟩ := q1
    subst q1
    refine R2.B (ls2 := [some (.ref 48), some (.long ((31 * h) + (Int32.toInt64 (F 11 p)))), none, some (.int (nI p)), some (.int (0 + 1))]) (st2 := [.int 5, .int (0 + 1)]) b_X11_digest_88_73 rfl (fun hd => ?_)
    rw [show ((31 * h) + (Int32.toInt64 (F 11 p)) : Int64) = mx h (F 11 p) from rfl]
    rw [show (0 + 1 : Int32) = 1 from (by decide)]
    refine R2.icmp_ge 97 hd (by decide) (fun c73 => absurd c73 (by decide)) (fun c73 => ?_)
    refine R2.B (ls2 := [some (.ref 48), some (.long (mx h (F 11 p))), none, some (.int (nI p)), some (.int 1)]) (st2 := [.int 1, .int (nI p), .ref 48, .long (31 * (mx h (F 11 p)))]) b_X11_digest_76_85 rfl (fun hd => ?_)
    refine R2.callV (M2 := mX11_personOf) (As := [.int (nI p), .int 1]) (rest := [.long (31 * (mx h (F 11 p)))]) hd lk_11_134 okX11_personOf (by decide) rfl (q_person E L hD1 p (by omega) 1 (by omega)) (by decide) rfl rfl (Nat.le_of_ble_eq_true rfl) (fun r2 G2 q2 => ?_)
    obtain ⟨q2, hD2⟩ := q2
    subst q2
    refine R2.B (ls2 := [some (.ref 48), some (.long ((31 * (mx h (F 11 p))) + (Int32.toInt64 (F 12 p)))), none, some (.int (nI p)), some (.int (1 + 1))]) (st2 := [.int 5, .int (1 + 1)]) b_X11_digest_88_73 rfl (fun hd => ?_)
    rw [show ((31 * (mx h (F 11 p))) + (Int32.toInt64 (F 12 p)) : Int64) = mx (mx h (F 11 p)) (F 12 p) from rfl]
    rw [show (1 + 1 : Int32) = 2 from (by decide)]
    refine R2.icmp_ge 97 hd (by decide) (fun c73 => absurd c73 (by decide)) (fun c73 => ?_)
    refine R2.B (ls2 := [some (.ref 48), some (.long (mx (mx h (F 11 p)) (F 12 p))), none, some (.int (nI p)), some (.int 2)]) (st2 := [.int 2, .int (nI p), .ref 48, .long (31 * (mx (mx h (F 11 p)) (F 12 p)))]) b_X11_digest_76_85 rfl (fun hd => ?_)
    refine R2.callV (M2 := mX11_personOf) (As := [.int (nI p), .int 2]) (rest := [.long (31 * (mx (mx h (F 11 p)) (F 12 p)))]) hd lk_11_134 okX11_personOf (by decide) rfl (q_person E L hD2 p (by omega) 2 (by omega)) (by decide) rfl rfl (Nat.le_of_ble_eq_true rfl) (fun r3 G3 q3 => ?_)
    obtain ⟨q3, hD3⟩ := q3
    subst q3
    refine R2.B (ls2 := [some (.ref 48), some (.long ((31 * (mx (mx h (F 11 p)) (F 12 p))) + (Int32.toInt64 (F 13 p)))), none, some (.int (nI p)), some (.int (2 + 1))]) (st2 := [.int 5, .int (2 + 1)]) b_X11_digest_88_73 rfl (fun hd => ?_)
    rw [show ((31 * (mx (mx h (F 11 p)) (F 12 p))) + (Int32.toInt64 (F 13 p)) : Int64) = mx (mx (mx h (F 11 p)) (F 12 p)) (F 13 p) from rfl]
    rw [show (2 + 1 : Int32) = 3 from (by decide)]
    refine R2.icmp_ge 97 hd (by decide) (fun c73 => absurd c73 (by decide)) (fun c73 => ?_)
    refine R2.B (ls2 := [some (.ref 48), some (.long (mx (mx (mx h (F 11 p)) (F 12 p)) (F 13 p))), none, some (.int (nI p)), some (.int 3)]) (st2 := [.int 3, .int (nI p), .ref 48, .long (31 * (mx (mx (mx h (F 11 p)) (F 12 p)) (F 13 p)))]) b_X11_digest_76_85 rfl (fun hd => ?_)
    refine R2.callV (M2 := mX11_personOf) (As := [.int (nI p), .int 3]) (rest := [.long (31 * (mx (mx (mx h (F 11 p)) (F 12 p)) (F 13 p)))]) hd lk_11_134 okX11_personOf (by decide) rfl (q_person E L hD3 p (by omega) 3 (by omega)) (by decide) rfl rfl (Nat.le_of_ble_eq_true rfl) (fun r4 G4 q4 => ?_)
    obtain ⟨q4, hD4⟩ := q4
    subst q4
    refine R2.B (ls2 := [some (.ref 48), some (.long ((31 * (mx (mx (mx h (F 11 p)) (F 12 p)) (F 13 p))) + (Int32.toInt64 (rem32 (F 15 p))))), none, some (.int (nI p)), some (.int (3 + 1))]) (st2 := [.int 5, .int (3 + 1)]) b_X11_digest_88_73 rfl (fun hd => ?_)
    rw [show ((31 * (mx (mx (mx h (F 11 p)) (F 12 p)) (F 13 p))) + (Int32.toInt64 (rem32 (F 15 p))) : Int64) = mx (mx (mx (mx h (F 11 p)) (F 12 p)) (F 13 p)) (rem32 (F 15 p)) from rfl]
    rw [show (3 + 1 : Int32) = 4 from (by decide)]
    refine R2.icmp_ge 97 hd (by decide) (fun c73 => absurd c73 (by decide)) (fun c73 => ?_)
    refine R2.B (ls2 := [some (.ref 48), some (.long (mx (mx (mx (mx h (F 11 p)) (F 12 p)) (F 13 p)) (rem32 (F 15 p)))), none, some (.int (nI p)), some (.int 4)]) (st2 := [.int 4, .int (nI p), .ref 48, .long (31 * (mx (mx (mx (mx h (F 11 p)) (F 12 p)) (F 13 p)) (rem32 (F 15 p))))]) b_X11_digest_76_85 rfl (fun hd => ?_)
    refine R2.callV (M2 := mX11_personOf) (As := [.int (nI p), .int 4]) (rest := [.long (31 * (mx (mx (mx (mx h (F 11 p)) (F 12 p)) (F 13 p)) (rem32 (F 15 p))))]) hd lk_11_134 okX11_personOf (by decide) rfl (q_person E L hD4 p (by omega) 4 (by omega)) (by decide) rfl rfl (Nat.le_of_ble_eq_true rfl) (fun r5 G5 q5 => ?_)
    obtain ⟨q5, hD5⟩ := q5
    subst q5
    refine R2.B (ls2 := [some (.ref 48), some (.long ((31 * (mx (mx (mx (mx h (F 11 p)) (F 12 p)) (F 13 p)) (rem32 (F 15 p)))) + (Int32.toInt64 (F 15 p / 32)))), none, some (.int (nI p)), some (.int (4 + 1))]) (st2 := [.int 5, .int (4 + 1)]) b_X11_digest_88_73 rfl (fun hd => ?_)
    rw [show ((31 * (mx (mx (mx (mx h (F 11 p)) (F 12 p)) (F 13 p)) (rem32 (F 15 p)))) + (Int32.toInt64 (F 15 p / 32)) : Int64) = mx (mx (mx (mx (mx h (F 11 p)) (F 12 p)) (F 13 p)) (rem32 (F 15 p))) (F 15 p / 32) from rfl]
    rw [show (4 + 1 : Int32) = 5 from (by decide)]
    refine R2.icmp_ge 97 hd (by decide) (fun c73 => ?_) (fun c73 => absurd (by decide) c73)
    refine R2.B (ls2 := [some (.ref 48), some (.long (mx (mx (mx (mx (mx h (F 11 p)) (F 12 p)) (F 13 p)) (rem32 (F 15 p))) (F 15 p / 32))), none, some (.int (nI p)), some (.int 5)]) (st2 := [.int (nI p), .ref 48, .long (31 * (mx (mx (mx (mx (mx h (F 11 p)) (F 12 p)) (F 13 p)) (rem32 (F 15 p))) (F 15 p / 32)))]) b_X11_digest_97_104 rfl (fun hd => ?_)
    refine R2.callV (M2 := mX11_onceOf) (As := [.int (nI p)]) (rest := [.long (31 * (mx (mx (mx (mx (mx h (F 11 p)) (F 12 p)) (F 13 p)) (rem32 (F 15 p))) (F 15 p / 32)))]) hd lk_11_192 okX11_onceOf (by decide) rfl (q_once E L hD5 p (by omega)) (by decide) rfl rfl (Nat.le_of_ble_eq_true rfl) (fun r6 G6 q6 => ?_)
    obtain ⟨q6, hD6⟩ := q6
    subst q6
    refine R2.B (ls2 := [some (.ref 48), some (.long ((31 * (mx (mx (mx (mx (mx h (F 11 p)) (F 12 p)) (F 13 p)) (rem32 (F 15 p))) (F 15 p / 32))) + (Int32.toInt64 ((solF F n) 28 p)))), none, some (.int (nI p)), some (.int 5)]) (st2 := [.int (nI p), .ref 48, .long (31 * ((31 * (mx (mx (mx (mx (mx h (F 11 p)) (F 12 p)) (F 13 p)) (rem32 (F 15 p))) (F 15 p / 32))) + (Int32.toInt64 ((solF F n) 28 p))))]) b_X11_digest_107_117 rfl (fun hd => ?_)
    rw [show ((31 * (mx (mx (mx (mx (mx h (F 11 p)) (F 12 p)) (F 13 p)) (rem32 (F 15 p))) (F 15 p / 32))) + (Int32.toInt64 ((solF F n) 28 p)) : Int64) = mx (mx (mx (mx (mx (mx h (F 11 p)) (F 12 p)) (F 13 p)) (rem32 (F 15 p))) (F 15 p / 32)) ((solF F n) 28 p) from rfl]
    refine R2.callV (M2 := mX11_endsOf) (As := [.int (nI p)]) (rest := [.long (31 * ((31 * (mx (mx (mx (mx (mx h (F 11 p)) (F 12 p)) (F 13 p)) (rem32 (F 15 p))) (F 15 p / 32))) + (Int32.toInt64 ((solF F n) 28 p))))]) hd lk_11_213 okX11_endsOf (by decide) rfl (q_ends E L hD6 hF p (by omega)) (by decide) rfl rfl (Nat.le_of_ble_eq_true rfl) (fun r7 G7 q7 => ?_)
    obtain ⟨q7, hD7⟩ := q7
    subst q7
    refine R2.B (ls2 := [some (.ref 48), some (.long ((31 * ((31 * (mx (mx (mx (mx (mx h (F 11 p)) (F 12 p)) (F 13 p)) (rem32 (F 15 p))) (F 15 p / 32))) + (Int32.toInt64 ((solF F n) 28 p)))) + (Int32.toInt64 ((jgF (solF F n) n s) 23 p)))), none, some (.int (nI p)), some (.int 5)]) (st2 := [.int 0, .int (nI p), .ref 48, .long (31 * ((31 * ((31 * (mx (mx (mx (mx (mx h (F 11 p)) (F 12 p)) (F 13 p)) (rem32 (F 15 p))) (F 15 p / 32))) + (Int32.toInt64 ((solF F n) 28 p)))) + (Int32.toInt64 ((jgF (solF F n) n s) 23 p))))]) b_X11_digest_120_131 rfl (fun hd => ?_)
    rw [show ((31 * ((31 * (mx (mx (mx (mx (mx h (F 11 p)) (F 12 p)) (F 13 p)) (rem32 (F 15 p))) (F 15 p / 32))) + (Int32.toInt64 ((solF F n) 28 p)))) + (Int32.toInt64 ((jgF (solF F n) n s) 23 p)) : Int64) = mx ((31 * (mx (mx (mx (mx (mx h (F 11 p)) (F 12 p)) (F 13 p)) (rem32 (F 15 p))) (F 15 p / 32))) + (Int32.toInt64 ((solF F n) 28 p))) ((jgF (solF F n) n s) 23 p) from rfl]
    refine R2.callV (M2 := mX11_hindersOf) (As := [.int (nI p), .int 0]) (rest := [.long (31 * ((31 * ((31 * (mx (mx (mx (mx (mx h (F 11 p)) (F 12 p)) (F 13 p)) (rem32 (F 15 p))) (F 15 p / 32))) + (Int32.toInt64 ((solF F n) 28 p)))) + (Int32.toInt64 ((jgF (solF F n) n s) 23 p))))]) hd lk_11_223 okX11_hindersOf (by decide) rfl (q_hinders0 E L hD7 p (by omega)) (by decide) rfl rfl (Nat.le_of_ble_eq_true rfl) (fun r8 G8 q8 => ?_)
    obtain ⟨q8, hD8⟩ := q8
    subst q8
    refine R2.B (ls2 := [some (.ref 48), some (.long ((31 * ((31 * ((31 * (mx (mx (mx (mx (mx h (F 11 p)) (F 12 p)) (F 13 p)) (rem32 (F 15 p))) (F 15 p / 32))) + (Int32.toInt64 ((solF F n) 28 p)))) + (Int32.toInt64 ((jgF (solF F n) n s) 23 p)))) + (Int32.toInt64 (cHN F n p 0)))), none, some (.int (nI p)), some (.int 5)]) (st2 := [.int 1, .int (nI p), .ref 48, .long (31 * ((31 * ((31 * ((31 * (mx (mx (mx (mx (mx h (F 11 p)) (F 12 p)) (F 13 p)) (rem32 (F 15 p))) (F 15 p / 32))) + (Int32.toInt64 ((solF F n) 28 p)))) + (Int32.toInt64 ((jgF (solF F n) n s) 23 p)))) + (Int32.toInt64 (cHN F n p 0))))]) b_X11_digest_134_145 rfl (fun hd => ?_)
    rw [show ((31 * ((31 * ((31 * (mx (mx (mx (mx (mx h (F 11 p)) (F 12 p)) (F 13 p)) (rem32 (F 15 p))) (F 15 p / 32))) + (Int32.toInt64 ((solF F n) 28 p)))) + (Int32.toInt64 ((jgF (solF F n) n s) 23 p)))) + (Int32.toInt64 (cHN F n p 0)) : Int64) = mx ((31 * ((31 * (mx (mx (mx (mx (mx h (F 11 p)) (F 12 p)) (F 13 p)) (rem32 (F 15 p))) (F 15 p / 32))) + (Int32.toInt64 ((solF F n) 28 p)))) + (Int32.toInt64 ((jgF (solF F n) n s) 23 p))) (cHN F n p 0) from rfl]
    refine R2.callV (M2 := mX11_hindersOf) (As := [.int (nI p), .int 1]) (rest := [.long (31 * ((31 * ((31 * ((31 * (mx (mx (mx (mx (mx h (F 11 p)) (F 12 p)) (F 13 p)) (rem32 (F 15 p))) (F 15 p / 32))) + (Int32.toInt64 ((solF F n) 28 p)))) + (Int32.toInt64 ((jgF (solF F n) n s) 23 p)))) + (Int32.toInt64 (cHN F n p 0))))]) hd lk_11_223 okX11_hindersOf (by decide) rfl (q_hinders1 E L hD8 p (by omega)) (by decide) rfl rfl (Nat.le_of_ble_eq_true rfl) (fun r9 G9 q9 => ?_)
    obtain ⟨q9, hD9⟩ := q9
    subst q9
    refine R2.B (ls2 := [some (.ref 48), some (.long ((31 * ((31 * ((31 * ((31 * (mx (mx (mx (mx (mx h (F 11 p)) (F 12 p)) (F 13 p)) (rem32 (F 15 p))) (F 15 p / 32))) + (Int32.toInt64 ((solF F n) 28 p)))) + (Int32.toInt64 ((jgF (solF F n) n s) 23 p)))) + (Int32.toInt64 (cHN F n p 0)))) + (Int32.toInt64 (cHN F n p 1)))), none, some (.int ((nI p) + 1)), some (.int 5)]) (st2 := []) b_X11_digest_148_59 rfl (fun hd => ?_)
    rw [show ((31 * ((31 * ((31 * ((31 * (mx (mx (mx (mx (mx h (F 11 p)) (F 12 p)) (F 13 p)) (rem32 (F 15 p))) (F 15 p / 32))) + (Int32.toInt64 ((solF F n) 28 p)))) + (Int32.toInt64 ((jgF (solF F n) n s) 23 p)))) + (Int32.toInt64 (cHN F n p 0)))) + (Int32.toInt64 (cHN F n p 1)) : Int64) = mx ((31 * ((31 * ((31 * (mx (mx (mx (mx (mx h (F 11 p)) (F 12 p)) (F 13 p)) (rem32 (F 15 p))) (F 15 p / 32))) + (Int32.toInt64 ((solF F n) 28 p)))) + (Int32.toInt64 ((jgF (solF F n) n s) 23 p)))) + (Int32.toInt64 (cHN F n p 0))) (cHN F n p 1) from rfl]
    rw [show ((nI p) + 1 : Int32) = nI (p + 1) from nI_add p 1]
    refine R2.forget (ls2 := [some (.ref 48), some (.long (mpF F (solF F n) (jgF (solF F n) n s) n p h)), none, some (.int (nI (p + 1))), none]) ⟨rfl, ⟨rfl, ⟨rfl, trivial⟩⟩⟩ ?_
    exact ih (p + 1) _ _ (by omega) hD9 ex
theorem q_comes (E : EE) (L : Nat) {F G J F1 : FF} {l0 l1 n m : Nat} (h : DI F G l0 l1 n m) (hJ : PPr n J G) (hr : ∀ a, a ≠ 35 → a ≠ 36 → a ≠ 37 → a ≠ 38 → F1 a = J a) {v : Int32} (hc : CMd J F1 n v) (h2 : 1 < n) : Ev2 E L 7 mX11_comesOf [.ref 48, .int 0, .int 1] G (fun r' G' => r' = some (.int v) ∧ INV G') := by
  have hn := h.1.2.2.2.1.1.1
  have e56 := (hJ.1 0 (by omega)).2.2.2
  have go : ∀ s0 : Nat, s0 < 1024 → J 15 0 = nI s0 → lfF G n 0 1 s0 63 s0 = v → Ev2 E L 7 mX11_comesOf [.ref 48, .int 0, .int 1] G (fun r' G' => r' = some (.int v) ∧ INV G') := fun s0 hs0 es0 ev =>
    Ev2.post (me_comesOf E L G l0 n h.1.2.2.1.1 0 1 s0 (by omega) (by omega) (e56.trans es0) hs0) (fun _ _ q => ⟨by rw [q.1, ev], by rw [q.2]; exact (h.1.lf n 0 1 s0).i⟩)
  rcases hc with ⟨c1, c2⟩ | ⟨c1, s0, hs0, es0, c2⟩
  · obtain ⟨-, s0, hs0, es0⟩ := h.1.at (p := 0) (by omega)
    have e0 : J 15 0 = nI s0 := by rw [← e56, (h.1.at (p := 0) (by omega)).1.2.2.2.2]; exact es0
    exact go s0 hs0 e0 ((far_none hn hJ (by omega) (by omega) hs0 c1).trans c2.symm)
  · refine go s0 hs0 es0 ?_
    have hF := far_eq (F := F1) (G := G) (a := 0) (b := 1) hn (hJ.ofF (hr 11 (by decide) (by decide) (by decide) (by decide)) (hr 12 (by decide) (by decide) (by decide) (by decide)) (hr 13 (by decide) (by decide) (by decide) (by decide)) (hr 15 (by decide) (by decide) (by decide) (by decide)) (hr 17 (by decide) (by decide) (by decide) (by decide))) (by omega) (by omega) hs0
    rw [c2]; exact hF.1.symm
theorem b_X11_digest_258_265 : bl2 mX11_digest 258 [(.ldc2_w 263, 3, 0, 0, .long 31), (.lload_n 1, 1, 1, 0, .null), (.lmul, 1, 0, 0, .null), (.aload_n 0, 1, 0, 0, .null), (.iconst 0, 1, 0, 0, .int 0)] 265 (.invokevirtual 241) 3 = true := by decide +kernel
theorem b_X11_digest_268_278 : bl2 mX11_digest 268 [(.i2l, 1, 0, 0, .null), (.ladd, 1, 0, 0, .null), (.lstore_n 1, 1, 1, 0, .null), (.ldc2_w 263, 3, 0, 0, .long 31), (.lload_n 1, 1, 1, 0, .null), (.lmul, 1, 0, 0, .null), (.aload_n 0, 1, 0, 0, .null), (.iconst 1, 1, 0, 0, .int 1)] 278 (.invokevirtual 241) 3 = true := by decide +kernel
theorem b_X11_digest_281_295 : bl2 mX11_digest 281 [(.i2l, 1, 0, 0, .null), (.ladd, 1, 0, 0, .null), (.lstore_n 1, 1, 1, 0, .null), (.ldc2_w 263, 3, 0, 0, .long 31), (.lload_n 1, 1, 1, 0, .null), (.lmul, 1, 0, 0, .null), (.aload_n 0, 1, 0, 0, .null), (.bipush 10, 2, 0, 0, .int 10), (.bipush 30, 2, 0, 0, .int 30), (.iconst 0, 1, 0, 0, .int 0)] 295 (.invokevirtual 244) 3 = true := by decide +kernel
theorem b_X11_digest_298_312 : bl2 mX11_digest 298 [(.i2l, 1, 0, 0, .null), (.ladd, 1, 0, 0, .null), (.lstore_n 1, 1, 1, 0, .null), (.ldc2_w 263, 3, 0, 0, .long 31), (.lload_n 1, 1, 1, 0, .null), (.lmul, 1, 0, 0, .null), (.aload_n 0, 1, 0, 0, .null), (.bipush 10, 2, 0, 0, .int 10), (.bipush 30, 2, 0, 0, .int 30), (.iconst 1, 1, 0, 0, .int 1)] 312 (.invokevirtual 244) 3 = true := by decide +kernel
theorem b_X11_digest_315_323 : bl2 mX11_digest 315 [(.i2l, 1, 0, 0, .null), (.ladd, 1, 0, 0, .null), (.lstore_n 1, 1, 1, 0, .null), (.aload_n 0, 1, 0, 0, .null), (.getfield 101, 3, 11, 3, .null), (.iconst 1, 1, 0, 0, .int 1)] 323 (.if_icmp .le 19) 3 = true := by decide +kernel
theorem b_X11_digest_342_343 : bl2 mX11_digest 342 [(.lload_n 1, 1, 1, 0, .null)] 343 (.lreturn) 1 = true := by decide +kernel
theorem b_X11_digest_326_334 : bl2 mX11_digest 326 [(.ldc2_w 263, 3, 0, 0, .long 31), (.lload_n 1, 1, 1, 0, .null), (.lmul, 1, 0, 0, .null), (.aload_n 0, 1, 0, 0, .null), (.iconst 0, 1, 0, 0, .int 0), (.iconst 1, 1, 0, 0, .int 1)] 334 (.invokevirtual 220) 3 = true := by decide +kernel
theorem b_X11_digest_337_343 : bl2 mX11_digest 337 [(.i2l, 1, 0, 0, .null), (.ladd, 1, 0, 0, .null), (.goto 4, 3, 343, 0, .null)] 343 (.lreturn) 1 = true := by decide +kernel
set_option maxRecDepth 20000 in
set_option maxHeartbeats 2000000 in
theorem md_3 (E : EE) (L : Nat) (F : FF) (l0 l1 n m : Nat) (s : Nat) (hF : FairOK F n s) (hn10 : n ≤ 10) (hJ : ∀ G, DI F G l0 l1 n m → PPr n (jgF (solF F n) n s) G) (h d : Int64) (hd2 : DGp (jgF (solF F n) n s) n (dgD F n (mx (mx h (brV (jgF (solF F n) n s) n).1) (brV (jgF (solF F n) n s) n).2)) d) (G : FF) (hD : DI F G l0 l1 n m) : R2 E L mX11_digest 17 258 [some (.ref 48), some (.long h), none, none, none] [] G (fun r' G' => r' = some (.long d) ∧ INV G') := by
  refine R2.B (ls2 := [some (.ref 48), some (.long h), none, none, none]) (st2 := [.int 0, .ref 48, .long (31 * h)]) b_X11_digest_258_265 rfl (fun hd => ?_)
  refine R2.callV (M2 := mX11_brokerOf) (As := [.int 0]) (rest := [.long (31 * h)]) hd lk_11_241 okX11_brokerOf (by decide) rfl (q_broker E L hD (hJ _ hD) 0) (by decide) rfl rfl (Nat.le_of_ble_eq_true rfl) (fun r10 G10 q10 => ?_)
  obtain ⟨q10, hD10⟩ := q10
  subst q10
  refine R2.B (ls2 := [some (.ref 48), some (.long ((31 * h) + (Int32.toInt64 ((brV (jgF (solF F n) n s) n).1)))), none, none, none]) (st2 := [.int 1, .ref 48, .long (31 * ((31 * h) + (Int32.toInt64 ((brV (jgF (solF F n) n s) n).1))))]) b_X11_digest_268_278 rfl (fun hd => ?_)
  rw [show ((31 * h) + (Int32.toInt64 ((brV (jgF (solF F n) n s) n).1)) : Int64) = mx h ((brV (jgF (solF F n) n s) n).1) from rfl]
  refine R2.callV (M2 := mX11_brokerOf) (As := [.int 1]) (rest := [.long (31 * ((31 * h) + (Int32.toInt64 ((brV (jgF (solF F n) n s) n).1))))]) hd lk_11_241 okX11_brokerOf (by decide) rfl (q_broker E L hD10 (hJ _ hD10) 1) (by decide) rfl rfl (Nat.le_of_ble_eq_true rfl) (fun r11 G11 q11 => ?_)
  obtain ⟨q11, hD11⟩ := q11
  subst q11
  refine R2.B (ls2 := [some (.ref 48), some (.long ((31 * ((31 * h) + (Int32.toInt64 ((brV (jgF (solF F n) n s) n).1)))) + (Int32.toInt64 ((brV (jgF (solF F n) n s) n).2)))), none, none, none]) (st2 := [.int 0, .int 30, .int 10, .ref 48, .long (31 * ((31 * ((31 * h) + (Int32.toInt64 ((brV (jgF (solF F n) n s) n).1)))) + (Int32.toInt64 ((brV (jgF (solF F n) n s) n).2))))]) b_X11_digest_281_295 rfl (fun hd => ?_)
  rw [show ((31 * ((31 * h) + (Int32.toInt64 ((brV (jgF (solF F n) n s) n).1)))) + (Int32.toInt64 ((brV (jgF (solF F n) n s) n).2)) : Int64) = mx ((31 * h) + (Int32.toInt64 ((brV (jgF (solF F n) n s) n).1))) ((brV (jgF (solF F n) n s) n).2) from rfl]
  refine R2.callV (M2 := mX11_otherOf) (As := [.int 10, .int 30, .int 0]) (rest := [.long (31 * ((31 * ((31 * h) + (Int32.toInt64 ((brV (jgF (solF F n) n s) n).1)))) + (Int32.toInt64 ((brV (jgF (solF F n) n s) n).2))))]) hd lk_11_244 okX11_otherOf (by decide) rfl (q_other E L hD11 0) (by decide) rfl rfl (Nat.le_of_ble_eq_true rfl) (fun r12 G12 q12 => ?_)
  obtain ⟨q12, hD12⟩ := q12
  subst q12
  refine R2.B (ls2 := [some (.ref 48), some (.long ((31 * ((31 * ((31 * h) + (Int32.toInt64 ((brV (jgF (solF F n) n s) n).1)))) + (Int32.toInt64 ((brV (jgF (solF F n) n s) n).2)))) + (Int32.toInt64 (nI (cBD F n 10 30))))), none, none, none]) (st2 := [.int 1, .int 30, .int 10, .ref 48, .long (31 * ((31 * ((31 * ((31 * h) + (Int32.toInt64 ((brV (jgF (solF F n) n s) n).1)))) + (Int32.toInt64 ((brV (jgF (solF F n) n s) n).2)))) + (Int32.toInt64 (nI (cBD F n 10 30)))))]) b_X11_digest_298_312 rfl (fun hd => ?_)
  rw [show ((31 * ((31 * ((31 * h) + (Int32.toInt64 ((brV (jgF (solF F n) n s) n).1)))) + (Int32.toInt64 ((brV (jgF (solF F n) n s) n).2)))) + (Int32.toInt64 (nI (cBD F n 10 30))) : Int64) = mx ((31 * ((31 * h) + (Int32.toInt64 ((brV (jgF (solF F n) n s) n).1)))) + (Int32.toInt64 ((brV (jgF (solF F n) n s) n).2))) (nI (cBD F n 10 30)) from rfl]
  refine R2.callV (M2 := mX11_otherOf) (As := [.int 10, .int 30, .int 1]) (rest := [.long (31 * ((31 * ((31 * ((31 * h) + (Int32.toInt64 ((brV (jgF (solF F n) n s) n).1)))) + (Int32.toInt64 ((brV (jgF (solF F n) n s) n).2)))) + (Int32.toInt64 (nI (cBD F n 10 30)))))]) hd lk_11_244 okX11_otherOf (by decide) rfl (q_other E L hD12 1) (by decide) rfl rfl (Nat.le_of_ble_eq_true rfl) (fun r13 G13 q13 => ?_)
  obtain ⟨q13, hD13⟩ := q13
  subst q13
  refine R2.B (ls2 := [some (.ref 48), some (.long ((31 * ((31 * ((31 * ((31 * h) + (Int32.toInt64 ((brV (jgF (solF F n) n s) n).1)))) + (Int32.toInt64 ((brV (jgF (solF F n) n s) n).2)))) + (Int32.toInt64 (nI (cBD F n 10 30))))) + (Int32.toInt64 (cBP F n (nI (cBD F n 10 30)))))), none, none, none]) (st2 := [.int 1, .int (G13 48 3)]) b_X11_digest_315_323 rfl (fun hd => ?_)
  rw [show ((31 * ((31 * ((31 * ((31 * h) + (Int32.toInt64 ((brV (jgF (solF F n) n s) n).1)))) + (Int32.toInt64 ((brV (jgF (solF F n) n s) n).2)))) + (Int32.toInt64 (nI (cBD F n 10 30))))) + (Int32.toInt64 (cBP F n (nI (cBD F n 10 30)))) : Int64) = mx ((31 * ((31 * ((31 * h) + (Int32.toInt64 ((brV (jgF (solF F n) n s) n).1)))) + (Int32.toInt64 ((brV (jgF (solF F n) n s) n).2)))) + (Int32.toInt64 (nI (cBD F n 10 30)))) (cBP F n (nI (cBD F n 10 30))) from rfl]
  rw [show (G13 48 3 : Int32) = nI n from hD13.1.2.2.2.1.1.2.2]
  refine R2.icmp_le 342 hd (by decide) (fun c323 => ?_) (fun c323 => ?_)
  · have nc323 : n ≤ 1 := (nI_leI (a := n) (b := 1) (by omega) (by omega)).mp c323
    refine R2.B (ls2 := [some (.ref 48), some (.long (mx ((31 * ((31 * ((31 * h) + (Int32.toInt64 ((brV (jgF (solF F n) n s) n).1)))) + (Int32.toInt64 ((brV (jgF (solF F n) n s) n).2)))) + (Int32.toInt64 (nI (cBD F n 10 30)))) (cBP F n (nI (cBD F n 10 30))))), none, none, none]) (st2 := [.long (mx ((31 * ((31 * ((31 * h) + (Int32.toInt64 ((brV (jgF (solF F n) n s) n).1)))) + (Int32.toInt64 ((brV (jgF (solF F n) n s) n).2)))) + (Int32.toInt64 (nI (cBD F n 10 30)))) (cBP F n (nI (cBD F n 10 30))))]) b_X11_digest_342_343 rfl (fun hd => ?_)
    exact R2.ret (r := some (.long (mx ((31 * ((31 * ((31 * h) + (Int32.toInt64 ((brV (jgF (solF F n) n s) n).1)))) + (Int32.toInt64 ((brV (jgF (solF F n) n s) n).2)))) + (Int32.toInt64 (nI (cBD F n 10 30)))) (cBP F n (nI (cBD F n 10 30)))))) hd trivial rfl ⟨by rw [hd2.1 (by omega)]; rfl, hD13.1.i⟩
  · have nc323 : ¬ n ≤ 1 := fun h9 => c323 ((nI_leI (a := n) (b := 1) (by omega) (by omega)).mpr h9)
    refine R2.B (ls2 := [some (.ref 48), some (.long (mx ((31 * ((31 * ((31 * h) + (Int32.toInt64 ((brV (jgF (solF F n) n s) n).1)))) + (Int32.toInt64 ((brV (jgF (solF F n) n s) n).2)))) + (Int32.toInt64 (nI (cBD F n 10 30)))) (cBP F n (nI (cBD F n 10 30))))), none, none, none]) (st2 := [.int 1, .int 0, .ref 48, .long (31 * (mx ((31 * ((31 * ((31 * h) + (Int32.toInt64 ((brV (jgF (solF F n) n s) n).1)))) + (Int32.toInt64 ((brV (jgF (solF F n) n s) n).2)))) + (Int32.toInt64 (nI (cBD F n 10 30)))) (cBP F n (nI (cBD F n 10 30)))))]) b_X11_digest_326_334 rfl (fun hd => ?_)
    obtain ⟨F1, v, hr1, hcm0, hdv⟩ := hd2.2 (by omega)
    have hcm : Ev2 E L 7 mX11_comesOf [.ref 48, .int 0, .int 1] G13 (fun r' G' => r' = some (.int v) ∧ INV G') := q_comes E L hD13 (hJ _ hD13) hr1 hcm0 (by omega)
    refine R2.callV (M2 := mX11_comesOf) (As := [.int 0, .int 1]) (rest := [.long (31 * (mx ((31 * ((31 * ((31 * h) + (Int32.toInt64 ((brV (jgF (solF F n) n s) n).1)))) + (Int32.toInt64 ((brV (jgF (solF F n) n s) n).2)))) + (Int32.toInt64 (nI (cBD F n 10 30)))) (cBP F n (nI (cBD F n 10 30)))))]) hd lk_11_220 okX11_comesOf (by decide) rfl (hcm) (by decide) rfl rfl (Nat.le_of_ble_eq_true rfl) (fun r9 G9 q9 => ?_)
    obtain ⟨q9, hI9⟩ := q9
    subst q9
    refine R2.B (ls2 := [some (.ref 48), some (.long (mx ((31 * ((31 * ((31 * h) + (Int32.toInt64 ((brV (jgF (solF F n) n s) n).1)))) + (Int32.toInt64 ((brV (jgF (solF F n) n s) n).2)))) + (Int32.toInt64 (nI (cBD F n 10 30)))) (cBP F n (nI (cBD F n 10 30))))), none, none, none]) (st2 := [.long ((31 * (mx ((31 * ((31 * ((31 * h) + (Int32.toInt64 ((brV (jgF (solF F n) n s) n).1)))) + (Int32.toInt64 ((brV (jgF (solF F n) n s) n).2)))) + (Int32.toInt64 (nI (cBD F n 10 30)))) (cBP F n (nI (cBD F n 10 30))))) + (Int32.toInt64 v))]) b_X11_digest_337_343 rfl (fun hd => ?_)
    rw [show ((31 * (mx ((31 * ((31 * ((31 * h) + (Int32.toInt64 ((brV (jgF (solF F n) n s) n).1)))) + (Int32.toInt64 ((brV (jgF (solF F n) n s) n).2)))) + (Int32.toInt64 (nI (cBD F n 10 30)))) (cBP F n (nI (cBD F n 10 30))))) + (Int32.toInt64 v) : Int64) = mx (mx ((31 * ((31 * ((31 * h) + (Int32.toInt64 ((brV (jgF (solF F n) n s) n).1)))) + (Int32.toInt64 ((brV (jgF (solF F n) n s) n).2)))) + (Int32.toInt64 (nI (cBD F n 10 30)))) (cBP F n (nI (cBD F n 10 30)))) v from rfl]
    exact R2.ret (r := some (.long (mx (mx ((31 * ((31 * ((31 * h) + (Int32.toInt64 ((brV (jgF (solF F n) n s) n).1)))) + (Int32.toInt64 ((brV (jgF (solF F n) n s) n).2)))) + (Int32.toInt64 (nI (cBD F n 10 30)))) (cBP F n (nI (cBD F n 10 30)))) v))) hd trivial rfl ⟨by rw [hdv]; rfl, hI9⟩
theorem b_X11_digest_157_163 : bl2 mX11_digest 157 [(.ldc2_w 263, 3, 0, 0, .long 31), (.lload_n 1, 1, 1, 0, .null), (.lmul, 1, 0, 0, .null), (.aload_n 0, 1, 0, 0, .null)] 163 (.invokevirtual 182) 3 = true := by decide +kernel
theorem b_X11_digest_166_176 : bl2 mX11_digest 166 [(.i2l, 1, 0, 0, .null), (.ladd, 1, 0, 0, .null), (.lstore_n 1, 1, 1, 0, .null), (.ldc2_w 263, 3, 0, 0, .long 31), (.lload_n 1, 1, 1, 0, .null), (.lmul, 1, 0, 0, .null), (.aload_n 0, 1, 0, 0, .null), (.iconst (-1), 1, 0, 0, .int (-1))] 176 (.invokevirtual 192) 3 = true := by decide +kernel
theorem b_X11_digest_179_188 : bl2 mX11_digest 179 [(.i2l, 1, 0, 0, .null), (.ladd, 1, 0, 0, .null), (.lstore_n 1, 1, 1, 0, .null), (.ldc2_w 263, 3, 0, 0, .long 31), (.lload_n 1, 1, 1, 0, .null), (.lmul, 1, 0, 0, .null), (.aload_n 0, 1, 0, 0, .null)] 188 (.invokevirtual 195) 3 = true := by decide +kernel
theorem b_X11_digest_191_198 : bl2 mX11_digest 191 [(.i2l, 1, 0, 0, .null), (.ladd, 1, 0, 0, .null), (.lstore_n 1, 1, 1, 0, .null), (.iconst 0, 1, 0, 0, .int 0), (.istore_n 3, 1, 3, 0, .null), (.iload_n 3, 1, 3, 0, .null), (.iconst 3, 1, 0, 0, .int 3)] 198 (.if_icmp .ge 22) 3 = true := by decide +kernel
theorem b_X11_digest_201_208 : bl2 mX11_digest 201 [(.ldc2_w 263, 3, 0, 0, .long 31), (.lload_n 1, 1, 1, 0, .null), (.lmul, 1, 0, 0, .null), (.aload_n 0, 1, 0, 0, .null), (.iload_n 3, 1, 3, 0, .null)] 208 (.invokevirtual 210) 3 = true := by decide +kernel
theorem b_X11_digest_211_198 : bl2 mX11_digest 211 [(.i2l, 1, 0, 0, .null), (.ladd, 1, 0, 0, .null), (.lstore_n 1, 1, 1, 0, .null), (.iinc 3 1, 3, 3, 0, .int 1), (.goto (-21), 3, 196, 0, .null), (.iload_n 3, 1, 3, 0, .null), (.iconst 3, 1, 0, 0, .int 3)] 198 (.if_icmp .ge 22) 3 = true := by decide +kernel
theorem b_X11_digest_220_226 : bl2 mX11_digest 220 [(.ldc2_w 263, 3, 0, 0, .long 31), (.lload_n 1, 1, 1, 0, .null), (.lmul, 1, 0, 0, .null), (.aload_n 0, 1, 0, 0, .null)] 226 (.invokevirtual 232) 3 = true := by decide +kernel
theorem b_X11_digest_229_239 : bl2 mX11_digest 229 [(.i2l, 1, 0, 0, .null), (.ladd, 1, 0, 0, .null), (.lstore_n 1, 1, 1, 0, .null), (.ldc2_w 263, 3, 0, 0, .long 31), (.lload_n 1, 1, 1, 0, .null), (.lmul, 1, 0, 0, .null), (.aload_n 0, 1, 0, 0, .null), (.iconst 0, 1, 0, 0, .int 0)] 239 (.invokevirtual 235) 3 = true := by decide +kernel
theorem b_X11_digest_242_252 : bl2 mX11_digest 242 [(.i2l, 1, 0, 0, .null), (.ladd, 1, 0, 0, .null), (.lstore_n 1, 1, 1, 0, .null), (.ldc2_w 263, 3, 0, 0, .long 31), (.lload_n 1, 1, 1, 0, .null), (.lmul, 1, 0, 0, .null), (.aload_n 0, 1, 0, 0, .null), (.iconst 1, 1, 0, 0, .int 1)] 252 (.invokevirtual 235) 3 = true := by decide +kernel
theorem b_X11_digest_255_258 : bl2 mX11_digest 255 [(.i2l, 1, 0, 0, .null), (.ladd, 1, 0, 0, .null), (.lstore_n 1, 1, 1, 0, .null)] 258 (.ldc2_w 263) 3 = true := by decide +kernel
set_option maxRecDepth 20000 in
set_option maxHeartbeats 2000000 in
theorem md_2 (E : EE) (L : Nat) (F : FF) (l0 l1 n m : Nat) (s : Nat) (hF : FairOK F n s) (hn10 : n ≤ 10) (hJ : ∀ G, DI F G l0 l1 n m → PPr n (jgF (solF F n) n s) G) (h d : Int64) (hd2 : DGp (jgF (solF F n) n s) n (dgD F n (mx (mx (dgE F (solF F n) (jgF (solF F n) n s) n m h) (brV (jgF (solF F n) n s) n).1) (brV (jgF (solF F n) n s) n).2)) d) (G : FF) (hD : DI F G l0 l1 n m) : R2 E L mX11_digest 17 157 [some (.ref 48), some (.long h), none, none, none] [] G (fun r' G' => r' = some (.long d) ∧ INV G') := by
  refine R2.B (ls2 := [some (.ref 48), some (.long h), none, none, none]) (st2 := [.ref 48, .long (31 * h)]) b_X11_digest_157_163 rfl (fun hd => ?_)
  refine R2.callV (M2 := mX11_pairsNow) (As := []) (rest := [.long (31 * h)]) hd lk_11_182 okX11_pairsNow (by decide) rfl (q_pairs E L hD) (by decide) rfl rfl (Nat.le_of_ble_eq_true rfl) (fun r14 G14 q14 => ?_)
  obtain ⟨q14, hD14⟩ := q14
  subst q14
  refine R2.B (ls2 := [some (.ref 48), some (.long ((31 * h) + (Int32.toInt64 (cBP F n (F 17 0))))), none, none, none]) (st2 := [.int (-1), .ref 48, .long (31 * ((31 * h) + (Int32.toInt64 (cBP F n (F 17 0)))))]) b_X11_digest_166_176 rfl (fun hd => ?_)
  rw [show ((31 * h) + (Int32.toInt64 (cBP F n (F 17 0))) : Int64) = mx h (cBP F n (F 17 0)) from rfl]
  refine R2.callV (M2 := mX11_onceOf) (As := [.int (-1)]) (rest := [.long (31 * ((31 * h) + (Int32.toInt64 (cBP F n (F 17 0)))))]) hd lk_11_192 okX11_onceOf (by decide) rfl (q_onceN E L hD14) (by decide) rfl rfl (Nat.le_of_ble_eq_true rfl) (fun r15 G15 q15 => ?_)
  obtain ⟨q15, hD15⟩ := q15
  subst q15
  refine R2.B (ls2 := [some (.ref 48), some (.long ((31 * ((31 * h) + (Int32.toInt64 (cBP F n (F 17 0))))) + (Int32.toInt64 ((solF F n) 25 4)))), none, none, none]) (st2 := [.ref 48, .long (31 * ((31 * ((31 * h) + (Int32.toInt64 (cBP F n (F 17 0))))) + (Int32.toInt64 ((solF F n) 25 4))))]) b_X11_digest_179_188 rfl (fun hd => ?_)
  rw [show ((31 * ((31 * h) + (Int32.toInt64 (cBP F n (F 17 0))))) + (Int32.toInt64 ((solF F n) 25 4)) : Int64) = mx ((31 * h) + (Int32.toInt64 (cBP F n (F 17 0)))) ((solF F n) 25 4) from rfl]
  refine R2.callV (M2 := mX11_worthNow) (As := []) (rest := [.long (31 * ((31 * ((31 * h) + (Int32.toInt64 (cBP F n (F 17 0))))) + (Int32.toInt64 ((solF F n) 25 4))))]) hd lk_11_195 okX11_worthNow (by decide) rfl (q_worth E L hD15) (by decide) rfl rfl (Nat.le_of_ble_eq_true rfl) (fun r16 G16 q16 => ?_)
  obtain ⟨q16, hD16⟩ := q16
  subst q16
  refine R2.B (ls2 := [some (.ref 48), some (.long ((31 * ((31 * ((31 * h) + (Int32.toInt64 (cBP F n (F 17 0))))) + (Int32.toInt64 ((solF F n) 25 4)))) + (Int32.toInt64 ((solF F n) 25 5)))), none, some (.int 0), none]) (st2 := [.int 3, .int 0]) b_X11_digest_191_198 rfl (fun hd => ?_)
  rw [show ((31 * ((31 * ((31 * h) + (Int32.toInt64 (cBP F n (F 17 0))))) + (Int32.toInt64 ((solF F n) 25 4)))) + (Int32.toInt64 ((solF F n) 25 5)) : Int64) = mx ((31 * ((31 * h) + (Int32.toInt64 (cBP F n (F 17 0))))) + (Int32.toInt64 ((solF F n) 25 4))) ((solF F n) 25 5) from rfl]
  refine R2.icmp_ge 220 hd (by decide) (fun c198 => absurd c198 (by decide)) (fun c198 => ?_)
  refine R2.B (ls2 := [some (.ref 48), some (.long (mx ((31 * ((31 * h) + (Int32.toInt64 (cBP F n (F 17 0))))) + (Int32.toInt64 ((solF F n) 25 4))) ((solF F n) 25 5))), none, some (.int 0), none]) (st2 := [.int 0, .ref 48, .long (31 * (mx ((31 * ((31 * h) + (Int32.toInt64 (cBP F n (F 17 0))))) + (Int32.toInt64 ((solF F n) 25 4))) ((solF F n) 25 5)))]) b_X11_digest_201_208 rfl (fun hd => ?_)
  refine R2.callV (M2 := mX11_judgedOf) (As := [.int 0]) (rest := [.long (31 * (mx ((31 * ((31 * h) + (Int32.toInt64 (cBP F n (F 17 0))))) + (Int32.toInt64 ((solF F n) 25 4))) ((solF F n) 25 5)))]) hd lk_11_210 okX11_judgedOf (by decide) rfl (q_judged E L hD16 hF 0 (by omega)) (by decide) rfl rfl (Nat.le_of_ble_eq_true rfl) (fun r17 G17 q17 => ?_)
  obtain ⟨q17, hD17⟩ := q17
  subst q17
  refine R2.B (ls2 := [some (.ref 48), some (.long ((31 * (mx ((31 * ((31 * h) + (Int32.toInt64 (cBP F n (F 17 0))))) + (Int32.toInt64 ((solF F n) 25 4))) ((solF F n) 25 5))) + (Int32.toInt64 ((jgF (solF F n) n s) 22 3)))), none, some (.int (0 + 1)), none]) (st2 := [.int 3, .int (0 + 1)]) b_X11_digest_211_198 rfl (fun hd => ?_)
  rw [show ((31 * (mx ((31 * ((31 * h) + (Int32.toInt64 (cBP F n (F 17 0))))) + (Int32.toInt64 ((solF F n) 25 4))) ((solF F n) 25 5))) + (Int32.toInt64 ((jgF (solF F n) n s) 22 3)) : Int64) = mx (mx ((31 * ((31 * h) + (Int32.toInt64 (cBP F n (F 17 0))))) + (Int32.toInt64 ((solF F n) 25 4))) ((solF F n) 25 5)) ((jgF (solF F n) n s) 22 3) from rfl]
  rw [show (0 + 1 : Int32) = 1 from (by decide)]
  refine R2.icmp_ge 220 hd (by decide) (fun c198 => absurd c198 (by decide)) (fun c198 => ?_)
  refine R2.B (ls2 := [some (.ref 48), some (.long (mx (mx ((31 * ((31 * h) + (Int32.toInt64 (cBP F n (F 17 0))))) + (Int32.toInt64 ((solF F n) 25 4))) ((solF F n) 25 5)) ((jgF (solF F n) n s) 22 3))), none, some (.int 1), none]) (st2 := [.int 1, .ref 48, .long (31 * (mx (mx ((31 * ((31 * h) + (Int32.toInt64 (cBP F n (F 17 0))))) + (Int32.toInt64 ((solF F n) 25 4))) ((solF F n) 25 5)) ((jgF (solF F n) n s) 22 3)))]) b_X11_digest_201_208 rfl (fun hd => ?_)
  refine R2.callV (M2 := mX11_judgedOf) (As := [.int 1]) (rest := [.long (31 * (mx (mx ((31 * ((31 * h) + (Int32.toInt64 (cBP F n (F 17 0))))) + (Int32.toInt64 ((solF F n) 25 4))) ((solF F n) 25 5)) ((jgF (solF F n) n s) 22 3)))]) hd lk_11_210 okX11_judgedOf (by decide) rfl (q_judged E L hD17 hF 1 (by omega)) (by decide) rfl rfl (Nat.le_of_ble_eq_true rfl) (fun r18 G18 q18 => ?_)
  obtain ⟨q18, hD18⟩ := q18
  subst q18
  refine R2.B (ls2 := [some (.ref 48), some (.long ((31 * (mx (mx ((31 * ((31 * h) + (Int32.toInt64 (cBP F n (F 17 0))))) + (Int32.toInt64 ((solF F n) 25 4))) ((solF F n) 25 5)) ((jgF (solF F n) n s) 22 3))) + (Int32.toInt64 ((jgF (solF F n) n s) 22 4)))), none, some (.int (1 + 1)), none]) (st2 := [.int 3, .int (1 + 1)]) b_X11_digest_211_198 rfl (fun hd => ?_)
  rw [show ((31 * (mx (mx ((31 * ((31 * h) + (Int32.toInt64 (cBP F n (F 17 0))))) + (Int32.toInt64 ((solF F n) 25 4))) ((solF F n) 25 5)) ((jgF (solF F n) n s) 22 3))) + (Int32.toInt64 ((jgF (solF F n) n s) 22 4)) : Int64) = mx (mx (mx ((31 * ((31 * h) + (Int32.toInt64 (cBP F n (F 17 0))))) + (Int32.toInt64 ((solF F n) 25 4))) ((solF F n) 25 5)) ((jgF (solF F n) n s) 22 3)) ((jgF (solF F n) n s) 22 4) from rfl]
  rw [show (1 + 1 : Int32) = 2 from (by decide)]
  refine R2.icmp_ge 220 hd (by decide) (fun c198 => absurd c198 (by decide)) (fun c198 => ?_)
  refine R2.B (ls2 := [some (.ref 48), some (.long (mx (mx (mx ((31 * ((31 * h) + (Int32.toInt64 (cBP F n (F 17 0))))) + (Int32.toInt64 ((solF F n) 25 4))) ((solF F n) 25 5)) ((jgF (solF F n) n s) 22 3)) ((jgF (solF F n) n s) 22 4))), none, some (.int 2), none]) (st2 := [.int 2, .ref 48, .long (31 * (mx (mx (mx ((31 * ((31 * h) + (Int32.toInt64 (cBP F n (F 17 0))))) + (Int32.toInt64 ((solF F n) 25 4))) ((solF F n) 25 5)) ((jgF (solF F n) n s) 22 3)) ((jgF (solF F n) n s) 22 4)))]) b_X11_digest_201_208 rfl (fun hd => ?_)
  refine R2.callV (M2 := mX11_judgedOf) (As := [.int 2]) (rest := [.long (31 * (mx (mx (mx ((31 * ((31 * h) + (Int32.toInt64 (cBP F n (F 17 0))))) + (Int32.toInt64 ((solF F n) 25 4))) ((solF F n) 25 5)) ((jgF (solF F n) n s) 22 3)) ((jgF (solF F n) n s) 22 4)))]) hd lk_11_210 okX11_judgedOf (by decide) rfl (q_judged E L hD18 hF 2 (by omega)) (by decide) rfl rfl (Nat.le_of_ble_eq_true rfl) (fun r19 G19 q19 => ?_)
  obtain ⟨q19, hD19⟩ := q19
  subst q19
  refine R2.B (ls2 := [some (.ref 48), some (.long ((31 * (mx (mx (mx ((31 * ((31 * h) + (Int32.toInt64 (cBP F n (F 17 0))))) + (Int32.toInt64 ((solF F n) 25 4))) ((solF F n) 25 5)) ((jgF (solF F n) n s) 22 3)) ((jgF (solF F n) n s) 22 4))) + (Int32.toInt64 ((jgF (solF F n) n s) 22 5)))), none, some (.int (2 + 1)), none]) (st2 := [.int 3, .int (2 + 1)]) b_X11_digest_211_198 rfl (fun hd => ?_)
  rw [show ((31 * (mx (mx (mx ((31 * ((31 * h) + (Int32.toInt64 (cBP F n (F 17 0))))) + (Int32.toInt64 ((solF F n) 25 4))) ((solF F n) 25 5)) ((jgF (solF F n) n s) 22 3)) ((jgF (solF F n) n s) 22 4))) + (Int32.toInt64 ((jgF (solF F n) n s) 22 5)) : Int64) = mx (mx (mx (mx ((31 * ((31 * h) + (Int32.toInt64 (cBP F n (F 17 0))))) + (Int32.toInt64 ((solF F n) 25 4))) ((solF F n) 25 5)) ((jgF (solF F n) n s) 22 3)) ((jgF (solF F n) n s) 22 4)) ((jgF (solF F n) n s) 22 5) from rfl]
  rw [show (2 + 1 : Int32) = 3 from (by decide)]
  refine R2.icmp_ge 220 hd (by decide) (fun c198 => ?_) (fun c198 => absurd (by decide) c198)
  refine R2.B (ls2 := [some (.ref 48), some (.long (mx (mx (mx (mx ((31 * ((31 * h) + (Int32.toInt64 (cBP F n (F 17 0))))) + (Int32.toInt64 ((solF F n) 25 4))) ((solF F n) 25 5)) ((jgF (solF F n) n s) 22 3)) ((jgF (solF F n) n s) 22 4)) ((jgF (solF F n) n s) 22 5))), none, some (.int 3), none]) (st2 := [.ref 48, .long (31 * (mx (mx (mx (mx ((31 * ((31 * h) + (Int32.toInt64 (cBP F n (F 17 0))))) + (Int32.toInt64 ((solF F n) 25 4))) ((solF F n) 25 5)) ((jgF (solF F n) n s) 22 3)) ((jgF (solF F n) n s) 22 4)) ((jgF (solF F n) n s) 22 5)))]) b_X11_digest_220_226 rfl (fun hd => ?_)
  refine R2.callV (M2 := mX11_seesNow) (As := []) (rest := [.long (31 * (mx (mx (mx (mx ((31 * ((31 * h) + (Int32.toInt64 (cBP F n (F 17 0))))) + (Int32.toInt64 ((solF F n) 25 4))) ((solF F n) 25 5)) ((jgF (solF F n) n s) 22 3)) ((jgF (solF F n) n s) 22 4)) ((jgF (solF F n) n s) 22 5)))]) hd lk_11_232 okX11_seesNow (by decide) rfl (q_sees E L hD19) (by decide) rfl rfl (Nat.le_of_ble_eq_true rfl) (fun r20 G20 q20 => ?_)
  obtain ⟨q20, hD20⟩ := q20
  subst q20
  refine R2.B (ls2 := [some (.ref 48), some (.long ((31 * (mx (mx (mx (mx ((31 * ((31 * h) + (Int32.toInt64 (cBP F n (F 17 0))))) + (Int32.toInt64 ((solF F n) 25 4))) ((solF F n) 25 5)) ((jgF (solF F n) n s) 22 3)) ((jgF (solF F n) n s) 22 4)) ((jgF (solF F n) n s) 22 5))) + (Int32.toInt64 (sumO (gPA (F 34) (F 17 0 * F 17 0)) m m 0 0)))), none, some (.int 3), none]) (st2 := [.int 0, .ref 48, .long (31 * ((31 * (mx (mx (mx (mx ((31 * ((31 * h) + (Int32.toInt64 (cBP F n (F 17 0))))) + (Int32.toInt64 ((solF F n) 25 4))) ((solF F n) 25 5)) ((jgF (solF F n) n s) 22 3)) ((jgF (solF F n) n s) 22 4)) ((jgF (solF F n) n s) 22 5))) + (Int32.toInt64 (sumO (gPA (F 34) (F 17 0 * F 17 0)) m m 0 0))))]) b_X11_digest_229_239 rfl (fun hd => ?_)
  rw [show ((31 * (mx (mx (mx (mx ((31 * ((31 * h) + (Int32.toInt64 (cBP F n (F 17 0))))) + (Int32.toInt64 ((solF F n) 25 4))) ((solF F n) 25 5)) ((jgF (solF F n) n s) 22 3)) ((jgF (solF F n) n s) 22 4)) ((jgF (solF F n) n s) 22 5))) + (Int32.toInt64 (sumO (gPA (F 34) (F 17 0 * F 17 0)) m m 0 0)) : Int64) = mx (mx (mx (mx (mx ((31 * ((31 * h) + (Int32.toInt64 (cBP F n (F 17 0))))) + (Int32.toInt64 ((solF F n) 25 4))) ((solF F n) 25 5)) ((jgF (solF F n) n s) 22 3)) ((jgF (solF F n) n s) 22 4)) ((jgF (solF F n) n s) 22 5)) (sumO (gPA (F 34) (F 17 0 * F 17 0)) m m 0 0) from rfl]
  refine R2.callV (M2 := mX11_moreOf) (As := [.int 0]) (rest := [.long (31 * ((31 * (mx (mx (mx (mx ((31 * ((31 * h) + (Int32.toInt64 (cBP F n (F 17 0))))) + (Int32.toInt64 ((solF F n) 25 4))) ((solF F n) 25 5)) ((jgF (solF F n) n s) 22 3)) ((jgF (solF F n) n s) 22 4)) ((jgF (solF F n) n s) 22 5))) + (Int32.toInt64 (sumO (gPA (F 34) (F 17 0 * F 17 0)) m m 0 0))))]) hd lk_11_235 okX11_moreOf (by decide) rfl (q_more0 E L hD20) (by decide) rfl rfl (Nat.le_of_ble_eq_true rfl) (fun r21 G21 q21 => ?_)
  obtain ⟨q21, hD21⟩ := q21
  subst q21
  refine R2.B (ls2 := [some (.ref 48), some (.long ((31 * ((31 * (mx (mx (mx (mx ((31 * ((31 * h) + (Int32.toInt64 (cBP F n (F 17 0))))) + (Int32.toInt64 ((solF F n) 25 4))) ((solF F n) 25 5)) ((jgF (solF F n) n s) 22 3)) ((jgF (solF F n) n s) 22 4)) ((jgF (solF F n) n s) 22 5))) + (Int32.toInt64 (sumO (gPA (F 34) (F 17 0 * F 17 0)) m m 0 0)))) + (Int32.toInt64 (nI (bsV F m))))), none, some (.int 3), none]) (st2 := [.int 1, .ref 48, .long (31 * ((31 * ((31 * (mx (mx (mx (mx ((31 * ((31 * h) + (Int32.toInt64 (cBP F n (F 17 0))))) + (Int32.toInt64 ((solF F n) 25 4))) ((solF F n) 25 5)) ((jgF (solF F n) n s) 22 3)) ((jgF (solF F n) n s) 22 4)) ((jgF (solF F n) n s) 22 5))) + (Int32.toInt64 (sumO (gPA (F 34) (F 17 0 * F 17 0)) m m 0 0)))) + (Int32.toInt64 (nI (bsV F m)))))]) b_X11_digest_242_252 rfl (fun hd => ?_)
  rw [show ((31 * ((31 * (mx (mx (mx (mx ((31 * ((31 * h) + (Int32.toInt64 (cBP F n (F 17 0))))) + (Int32.toInt64 ((solF F n) 25 4))) ((solF F n) 25 5)) ((jgF (solF F n) n s) 22 3)) ((jgF (solF F n) n s) 22 4)) ((jgF (solF F n) n s) 22 5))) + (Int32.toInt64 (sumO (gPA (F 34) (F 17 0 * F 17 0)) m m 0 0)))) + (Int32.toInt64 (nI (bsV F m))) : Int64) = mx ((31 * (mx (mx (mx (mx ((31 * ((31 * h) + (Int32.toInt64 (cBP F n (F 17 0))))) + (Int32.toInt64 ((solF F n) 25 4))) ((solF F n) 25 5)) ((jgF (solF F n) n s) 22 3)) ((jgF (solF F n) n s) 22 4)) ((jgF (solF F n) n s) 22 5))) + (Int32.toInt64 (sumO (gPA (F 34) (F 17 0 * F 17 0)) m m 0 0))) (nI (bsV F m)) from rfl]
  refine R2.callV (M2 := mX11_moreOf) (As := [.int 1]) (rest := [.long (31 * ((31 * ((31 * (mx (mx (mx (mx ((31 * ((31 * h) + (Int32.toInt64 (cBP F n (F 17 0))))) + (Int32.toInt64 ((solF F n) 25 4))) ((solF F n) 25 5)) ((jgF (solF F n) n s) 22 3)) ((jgF (solF F n) n s) 22 4)) ((jgF (solF F n) n s) 22 5))) + (Int32.toInt64 (sumO (gPA (F 34) (F 17 0 * F 17 0)) m m 0 0)))) + (Int32.toInt64 (nI (bsV F m)))))]) hd lk_11_235 okX11_moreOf (by decide) rfl (q_more1 E L hD21) (by decide) rfl rfl (Nat.le_of_ble_eq_true rfl) (fun r22 G22 q22 => ?_)
  obtain ⟨q22, hD22⟩ := q22
  subst q22
  refine R2.B (ls2 := [some (.ref 48), some (.long ((31 * ((31 * ((31 * (mx (mx (mx (mx ((31 * ((31 * h) + (Int32.toInt64 (cBP F n (F 17 0))))) + (Int32.toInt64 ((solF F n) 25 4))) ((solF F n) 25 5)) ((jgF (solF F n) n s) 22 3)) ((jgF (solF F n) n s) 22 4)) ((jgF (solF F n) n s) 22 5))) + (Int32.toInt64 (sumO (gPA (F 34) (F 17 0 * F 17 0)) m m 0 0)))) + (Int32.toInt64 (nI (bsV F m))))) + (Int32.toInt64 (seenS (F 34) m (nI (bsV F m)) (F 17 0 * F 17 0))))), none, some (.int 3), none]) (st2 := []) b_X11_digest_255_258 rfl (fun hd => ?_)
  rw [show ((31 * ((31 * ((31 * (mx (mx (mx (mx ((31 * ((31 * h) + (Int32.toInt64 (cBP F n (F 17 0))))) + (Int32.toInt64 ((solF F n) 25 4))) ((solF F n) 25 5)) ((jgF (solF F n) n s) 22 3)) ((jgF (solF F n) n s) 22 4)) ((jgF (solF F n) n s) 22 5))) + (Int32.toInt64 (sumO (gPA (F 34) (F 17 0 * F 17 0)) m m 0 0)))) + (Int32.toInt64 (nI (bsV F m))))) + (Int32.toInt64 (seenS (F 34) m (nI (bsV F m)) (F 17 0 * F 17 0))) : Int64) = mx ((31 * ((31 * (mx (mx (mx (mx ((31 * ((31 * h) + (Int32.toInt64 (cBP F n (F 17 0))))) + (Int32.toInt64 ((solF F n) 25 4))) ((solF F n) 25 5)) ((jgF (solF F n) n s) 22 3)) ((jgF (solF F n) n s) 22 4)) ((jgF (solF F n) n s) 22 5))) + (Int32.toInt64 (sumO (gPA (F 34) (F 17 0 * F 17 0)) m m 0 0)))) + (Int32.toInt64 (nI (bsV F m)))) (seenS (F 34) m (nI (bsV F m)) (F 17 0 * F 17 0)) from rfl]
  refine R2.forget (ls2 := [some (.ref 48), some (.long (dgE F (solF F n) (jgF (solF F n) n s) n m h)), none, none, none]) ⟨rfl, ⟨rfl, trivial⟩⟩ ?_
  exact md_3 E L F l0 l1 n m s hF hn10 hJ _ d hd2 _ hD22
theorem b_X11_digest_0_9 : bl2 mX11_digest 0 [(.ldc2_w 261, 3, 0, 0, .long 17), (.lstore_n 1, 1, 1, 0, .null), (.iconst 0, 1, 0, 0, .int 0), (.istore_n 3, 1, 3, 0, .null), (.iload_n 3, 1, 3, 0, .null), (.bipush 8, 2, 0, 0, .int 8)] 9 (.if_icmp .ge 22) 3 = true := by decide +kernel
theorem b_X11_digest_12_19 : bl2 mX11_digest 12 [(.ldc2_w 263, 3, 0, 0, .long 31), (.lload_n 1, 1, 1, 0, .null), (.lmul, 1, 0, 0, .null), (.aload_n 0, 1, 0, 0, .null), (.iload_n 3, 1, 3, 0, .null)] 19 (.invokevirtual 265) 3 = true := by decide +kernel
theorem b_X11_digest_22_9 : bl2 mX11_digest 22 [(.i2l, 1, 0, 0, .null), (.ladd, 1, 0, 0, .null), (.lstore_n 1, 1, 1, 0, .null), (.iinc 3 1, 3, 3, 0, .int 1), (.goto (-22), 3, 6, 0, .null), (.iload_n 3, 1, 3, 0, .null), (.bipush 8, 2, 0, 0, .int 8)] 9 (.if_icmp .ge 22) 3 = true := by decide +kernel
theorem b_X11_digest_31_38 : bl2 mX11_digest 31 [(.ldc2_w 263, 3, 0, 0, .long 31), (.lload_n 1, 1, 1, 0, .null), (.lmul, 1, 0, 0, .null), (.aload_n 0, 1, 0, 0, .null), (.iconst 0, 1, 0, 0, .int 0)] 38 (.invokevirtual 128) 3 = true := by decide +kernel
theorem b_X11_digest_41_51 : bl2 mX11_digest 41 [(.i2l, 1, 0, 0, .null), (.ladd, 1, 0, 0, .null), (.lstore_n 1, 1, 1, 0, .null), (.ldc2_w 263, 3, 0, 0, .long 31), (.lload_n 1, 1, 1, 0, .null), (.lmul, 1, 0, 0, .null), (.aload_n 0, 1, 0, 0, .null), (.iconst 1, 1, 0, 0, .int 1)] 51 (.invokevirtual 128) 3 = true := by decide +kernel
theorem b_X11_digest_54_59 : bl2 mX11_digest 54 [(.i2l, 1, 0, 0, .null), (.ladd, 1, 0, 0, .null), (.lstore_n 1, 1, 1, 0, .null), (.iconst 0, 1, 0, 0, .int 0), (.istore_n 3, 1, 3, 0, .null)] 59 (.iload_n 3) 1 = true := by decide +kernel
set_option maxRecDepth 20000 in
set_option maxHeartbeats 1000000 in
theorem y_digest (E : EE) (L : Nat) (G : FF) (F : FF) (l0 l1 n m : Nat) (s : Nat) (hF : FairOK F n s) (hn10 : n ≤ 10) (hJ : ∀ G, DI F G l0 l1 n m → PPr n (jgF (solF F n) n s) G) (d : Int64) (hd2 : DGp (jgF (solF F n) n s) n (DGF F (solF F n) (jgF (solF F n) n s) n m) d) (hD : DI F G l0 l1 n m) : Ev2 E L 17 mX11_digest [.ref 48] G (fun r' G' => r' = some (.long d) ∧ INV G') := by
  refine Ev2.of okX11_digest.2.2.1 (Nat.le_of_ble_eq_true rfl) ?_
  show R2 E L mX11_digest 17 0 [some (.ref 48), none, none, none, none] [] G _
  refine R2.B (ls2 := [some (.ref 48), some (.long 17), none, some (.int 0), none]) (st2 := [.int 8, .int 0]) b_X11_digest_0_9 rfl (fun hd => ?_)
  refine R2.icmp_ge 31 hd (by decide) (fun c9 => absurd c9 (by decide)) (fun c9 => ?_)
  refine R2.B (ls2 := [some (.ref 48), some (.long 17), none, some (.int 0), none]) (st2 := [.int 0, .ref 48, .long (31 * 17)]) b_X11_digest_12_19 rfl (fun hd => ?_)
  refine R2.callV (M2 := mX11_count) (As := [.int 0]) (rest := [.long (31 * 17)]) hd lk_11_265 okX11_count (by decide) rfl (q_count E L hD 0 (by omega)) (by decide) rfl rfl (Nat.le_of_ble_eq_true rfl) (fun r23 G23 q23 => ?_)
  obtain ⟨q23, hD23⟩ := q23
  subst q23
  refine R2.B (ls2 := [some (.ref 48), some (.long ((31 * 17) + (Int32.toInt64 (F 10 5)))), none, some (.int (0 + 1)), none]) (st2 := [.int 8, .int (0 + 1)]) b_X11_digest_22_9 rfl (fun hd => ?_)
  rw [show ((31 * 17) + (Int32.toInt64 (F 10 5)) : Int64) = mx 17 (F 10 5) from rfl]
  rw [show (0 + 1 : Int32) = 1 from (by decide)]
  refine R2.icmp_ge 31 hd (by decide) (fun c9 => absurd c9 (by decide)) (fun c9 => ?_)
  refine R2.B (ls2 := [some (.ref 48), some (.long (mx 17 (F 10 5))), none, some (.int 1), none]) (st2 := [.int 1, .ref 48, .long (31 * (mx 17 (F 10 5)))]) b_X11_digest_12_19 rfl (fun hd => ?_)
  refine R2.callV (M2 := mX11_count) (As := [.int 1]) (rest := [.long (31 * (mx 17 (F 10 5)))]) hd lk_11_265 okX11_count (by decide) rfl (q_count E L hD23 1 (by omega)) (by decide) rfl rfl (Nat.le_of_ble_eq_true rfl) (fun r24 G24 q24 => ?_)
  obtain ⟨q24, hD24⟩ := q24
  subst q24
  refine R2.B (ls2 := [some (.ref 48), some (.long ((31 * (mx 17 (F 10 5))) + (Int32.toInt64 (F 6 1)))), none, some (.int (1 + 1)), none]) (st2 := [.int 8, .int (1 + 1)]) b_X11_digest_22_9 rfl (fun hd => ?_)
  rw [show ((31 * (mx 17 (F 10 5))) + (Int32.toInt64 (F 6 1)) : Int64) = mx (mx 17 (F 10 5)) (F 6 1) from rfl]
  rw [show (1 + 1 : Int32) = 2 from (by decide)]
  refine R2.icmp_ge 31 hd (by decide) (fun c9 => absurd c9 (by decide)) (fun c9 => ?_)
  refine R2.B (ls2 := [some (.ref 48), some (.long (mx (mx 17 (F 10 5)) (F 6 1))), none, some (.int 2), none]) (st2 := [.int 2, .ref 48, .long (31 * (mx (mx 17 (F 10 5)) (F 6 1)))]) b_X11_digest_12_19 rfl (fun hd => ?_)
  refine R2.callV (M2 := mX11_count) (As := [.int 2]) (rest := [.long (31 * (mx (mx 17 (F 10 5)) (F 6 1)))]) hd lk_11_265 okX11_count (by decide) rfl (q_count E L hD24 2 (by omega)) (by decide) rfl rfl (Nat.le_of_ble_eq_true rfl) (fun r25 G25 q25 => ?_)
  obtain ⟨q25, hD25⟩ := q25
  subst q25
  refine R2.B (ls2 := [some (.ref 48), some (.long ((31 * (mx (mx 17 (F 10 5)) (F 6 1))) + (Int32.toInt64 (F 8 1)))), none, some (.int (2 + 1)), none]) (st2 := [.int 8, .int (2 + 1)]) b_X11_digest_22_9 rfl (fun hd => ?_)
  rw [show ((31 * (mx (mx 17 (F 10 5)) (F 6 1))) + (Int32.toInt64 (F 8 1)) : Int64) = mx (mx (mx 17 (F 10 5)) (F 6 1)) (F 8 1) from rfl]
  rw [show (2 + 1 : Int32) = 3 from (by decide)]
  refine R2.icmp_ge 31 hd (by decide) (fun c9 => absurd c9 (by decide)) (fun c9 => ?_)
  refine R2.B (ls2 := [some (.ref 48), some (.long (mx (mx (mx 17 (F 10 5)) (F 6 1)) (F 8 1))), none, some (.int 3), none]) (st2 := [.int 3, .ref 48, .long (31 * (mx (mx (mx 17 (F 10 5)) (F 6 1)) (F 8 1)))]) b_X11_digest_12_19 rfl (fun hd => ?_)
  refine R2.callV (M2 := mX11_count) (As := [.int 3]) (rest := [.long (31 * (mx (mx (mx 17 (F 10 5)) (F 6 1)) (F 8 1)))]) hd lk_11_265 okX11_count (by decide) rfl (q_count E L hD25 3 (by omega)) (by decide) rfl rfl (Nat.le_of_ble_eq_true rfl) (fun r26 G26 q26 => ?_)
  obtain ⟨q26, hD26⟩ := q26
  subst q26
  refine R2.B (ls2 := [some (.ref 48), some (.long ((31 * (mx (mx (mx 17 (F 10 5)) (F 6 1)) (F 8 1))) + (Int32.toInt64 (F 18 3)))), none, some (.int (3 + 1)), none]) (st2 := [.int 8, .int (3 + 1)]) b_X11_digest_22_9 rfl (fun hd => ?_)
  rw [show ((31 * (mx (mx (mx 17 (F 10 5)) (F 6 1)) (F 8 1))) + (Int32.toInt64 (F 18 3)) : Int64) = mx (mx (mx (mx 17 (F 10 5)) (F 6 1)) (F 8 1)) (F 18 3) from rfl]
  rw [show (3 + 1 : Int32) = 4 from (by decide)]
  refine R2.icmp_ge 31 hd (by decide) (fun c9 => absurd c9 (by decide)) (fun c9 => ?_)
  refine R2.B (ls2 := [some (.ref 48), some (.long (mx (mx (mx (mx 17 (F 10 5)) (F 6 1)) (F 8 1)) (F 18 3))), none, some (.int 4), none]) (st2 := [.int 4, .ref 48, .long (31 * (mx (mx (mx (mx 17 (F 10 5)) (F 6 1)) (F 8 1)) (F 18 3)))]) b_X11_digest_12_19 rfl (fun hd => ?_)
  refine R2.callV (M2 := mX11_count) (As := [.int 4]) (rest := [.long (31 * (mx (mx (mx (mx 17 (F 10 5)) (F 6 1)) (F 8 1)) (F 18 3)))]) hd lk_11_265 okX11_count (by decide) rfl (q_count E L hD26 4 (by omega)) (by decide) rfl rfl (Nat.le_of_ble_eq_true rfl) (fun r27 G27 q27 => ?_)
  obtain ⟨q27, hD27⟩ := q27
  subst q27
  refine R2.B (ls2 := [some (.ref 48), some (.long ((31 * (mx (mx (mx (mx 17 (F 10 5)) (F 6 1)) (F 8 1)) (F 18 3))) + (Int32.toInt64 (F 33 1)))), none, some (.int (4 + 1)), none]) (st2 := [.int 8, .int (4 + 1)]) b_X11_digest_22_9 rfl (fun hd => ?_)
  rw [show ((31 * (mx (mx (mx (mx 17 (F 10 5)) (F 6 1)) (F 8 1)) (F 18 3))) + (Int32.toInt64 (F 33 1)) : Int64) = mx (mx (mx (mx (mx 17 (F 10 5)) (F 6 1)) (F 8 1)) (F 18 3)) (F 33 1) from rfl]
  rw [show (4 + 1 : Int32) = 5 from (by decide)]
  refine R2.icmp_ge 31 hd (by decide) (fun c9 => absurd c9 (by decide)) (fun c9 => ?_)
  refine R2.B (ls2 := [some (.ref 48), some (.long (mx (mx (mx (mx (mx 17 (F 10 5)) (F 6 1)) (F 8 1)) (F 18 3)) (F 33 1))), none, some (.int 5), none]) (st2 := [.int 5, .ref 48, .long (31 * (mx (mx (mx (mx (mx 17 (F 10 5)) (F 6 1)) (F 8 1)) (F 18 3)) (F 33 1)))]) b_X11_digest_12_19 rfl (fun hd => ?_)
  refine R2.callV (M2 := mX11_count) (As := [.int 5]) (rest := [.long (31 * (mx (mx (mx (mx (mx 17 (F 10 5)) (F 6 1)) (F 8 1)) (F 18 3)) (F 33 1)))]) hd lk_11_265 okX11_count (by decide) rfl (q_count E L hD27 5 (by omega)) (by decide) rfl rfl (Nat.le_of_ble_eq_true rfl) (fun r28 G28 q28 => ?_)
  obtain ⟨q28, hD28⟩ := q28
  subst q28
  refine R2.B (ls2 := [some (.ref 48), some (.long ((31 * (mx (mx (mx (mx (mx 17 (F 10 5)) (F 6 1)) (F 8 1)) (F 18 3)) (F 33 1))) + (Int32.toInt64 (F 17 0)))), none, some (.int (5 + 1)), none]) (st2 := [.int 8, .int (5 + 1)]) b_X11_digest_22_9 rfl (fun hd => ?_)
  rw [show ((31 * (mx (mx (mx (mx (mx 17 (F 10 5)) (F 6 1)) (F 8 1)) (F 18 3)) (F 33 1))) + (Int32.toInt64 (F 17 0)) : Int64) = mx (mx (mx (mx (mx (mx 17 (F 10 5)) (F 6 1)) (F 8 1)) (F 18 3)) (F 33 1)) (F 17 0) from rfl]
  rw [show (5 + 1 : Int32) = 6 from (by decide)]
  refine R2.icmp_ge 31 hd (by decide) (fun c9 => absurd c9 (by decide)) (fun c9 => ?_)
  refine R2.B (ls2 := [some (.ref 48), some (.long (mx (mx (mx (mx (mx (mx 17 (F 10 5)) (F 6 1)) (F 8 1)) (F 18 3)) (F 33 1)) (F 17 0))), none, some (.int 6), none]) (st2 := [.int 6, .ref 48, .long (31 * (mx (mx (mx (mx (mx (mx 17 (F 10 5)) (F 6 1)) (F 8 1)) (F 18 3)) (F 33 1)) (F 17 0)))]) b_X11_digest_12_19 rfl (fun hd => ?_)
  refine R2.callV (M2 := mX11_count) (As := [.int 6]) (rest := [.long (31 * (mx (mx (mx (mx (mx (mx 17 (F 10 5)) (F 6 1)) (F 8 1)) (F 18 3)) (F 33 1)) (F 17 0)))]) hd lk_11_265 okX11_count (by decide) rfl (q_count E L hD28 6 (by omega)) (by decide) rfl rfl (Nat.le_of_ble_eq_true rfl) (fun r29 G29 q29 => ?_)
  obtain ⟨q29, hD29⟩ := q29
  subst q29
  refine R2.B (ls2 := [some (.ref 48), some (.long ((31 * (mx (mx (mx (mx (mx (mx 17 (F 10 5)) (F 6 1)) (F 8 1)) (F 18 3)) (F 33 1)) (F 17 0))) + (Int32.toInt64 (F 17 1)))), none, some (.int (6 + 1)), none]) (st2 := [.int 8, .int (6 + 1)]) b_X11_digest_22_9 rfl (fun hd => ?_)
  rw [show ((31 * (mx (mx (mx (mx (mx (mx 17 (F 10 5)) (F 6 1)) (F 8 1)) (F 18 3)) (F 33 1)) (F 17 0))) + (Int32.toInt64 (F 17 1)) : Int64) = mx (mx (mx (mx (mx (mx (mx 17 (F 10 5)) (F 6 1)) (F 8 1)) (F 18 3)) (F 33 1)) (F 17 0)) (F 17 1) from rfl]
  rw [show (6 + 1 : Int32) = 7 from (by decide)]
  refine R2.icmp_ge 31 hd (by decide) (fun c9 => absurd c9 (by decide)) (fun c9 => ?_)
  refine R2.B (ls2 := [some (.ref 48), some (.long (mx (mx (mx (mx (mx (mx (mx 17 (F 10 5)) (F 6 1)) (F 8 1)) (F 18 3)) (F 33 1)) (F 17 0)) (F 17 1))), none, some (.int 7), none]) (st2 := [.int 7, .ref 48, .long (31 * (mx (mx (mx (mx (mx (mx (mx 17 (F 10 5)) (F 6 1)) (F 8 1)) (F 18 3)) (F 33 1)) (F 17 0)) (F 17 1)))]) b_X11_digest_12_19 rfl (fun hd => ?_)
  refine R2.callV (M2 := mX11_count) (As := [.int 7]) (rest := [.long (31 * (mx (mx (mx (mx (mx (mx (mx 17 (F 10 5)) (F 6 1)) (F 8 1)) (F 18 3)) (F 33 1)) (F 17 0)) (F 17 1)))]) hd lk_11_265 okX11_count (by decide) rfl (q_count E L hD29 7 (by omega)) (by decide) rfl rfl (Nat.le_of_ble_eq_true rfl) (fun r30 G30 q30 => ?_)
  obtain ⟨q30, hD30⟩ := q30
  subst q30
  refine R2.B (ls2 := [some (.ref 48), some (.long ((31 * (mx (mx (mx (mx (mx (mx (mx 17 (F 10 5)) (F 6 1)) (F 8 1)) (F 18 3)) (F 33 1)) (F 17 0)) (F 17 1))) + (Int32.toInt64 (F 17 2)))), none, some (.int (7 + 1)), none]) (st2 := [.int 8, .int (7 + 1)]) b_X11_digest_22_9 rfl (fun hd => ?_)
  rw [show ((31 * (mx (mx (mx (mx (mx (mx (mx 17 (F 10 5)) (F 6 1)) (F 8 1)) (F 18 3)) (F 33 1)) (F 17 0)) (F 17 1))) + (Int32.toInt64 (F 17 2)) : Int64) = mx (mx (mx (mx (mx (mx (mx (mx 17 (F 10 5)) (F 6 1)) (F 8 1)) (F 18 3)) (F 33 1)) (F 17 0)) (F 17 1)) (F 17 2) from rfl]
  rw [show (7 + 1 : Int32) = 8 from (by decide)]
  refine R2.icmp_ge 31 hd (by decide) (fun c9 => ?_) (fun c9 => absurd (by decide) c9)
  refine R2.B (ls2 := [some (.ref 48), some (.long (mx (mx (mx (mx (mx (mx (mx (mx 17 (F 10 5)) (F 6 1)) (F 8 1)) (F 18 3)) (F 33 1)) (F 17 0)) (F 17 1)) (F 17 2))), none, some (.int 8), none]) (st2 := [.int 0, .ref 48, .long (31 * (mx (mx (mx (mx (mx (mx (mx (mx 17 (F 10 5)) (F 6 1)) (F 8 1)) (F 18 3)) (F 33 1)) (F 17 0)) (F 17 1)) (F 17 2)))]) b_X11_digest_31_38 rfl (fun hd => ?_)
  refine R2.callV (M2 := mX11_faultOf) (As := [.int 0]) (rest := [.long (31 * (mx (mx (mx (mx (mx (mx (mx (mx 17 (F 10 5)) (F 6 1)) (F 8 1)) (F 18 3)) (F 33 1)) (F 17 0)) (F 17 1)) (F 17 2)))]) hd lk_11_128 okX11_faultOf (by decide) rfl (q_fault0 E L hD30) (by decide) rfl rfl (Nat.le_of_ble_eq_true rfl) (fun r31 G31 q31 => ?_)
  obtain ⟨q31, hD31⟩ := q31
  subst q31
  refine R2.B (ls2 := [some (.ref 48), some (.long ((31 * (mx (mx (mx (mx (mx (mx (mx (mx 17 (F 10 5)) (F 6 1)) (F 8 1)) (F 18 3)) (F 33 1)) (F 17 0)) (F 17 1)) (F 17 2))) + (Int32.toInt64 (F 10 6)))), none, some (.int 8), none]) (st2 := [.int 1, .ref 48, .long (31 * ((31 * (mx (mx (mx (mx (mx (mx (mx (mx 17 (F 10 5)) (F 6 1)) (F 8 1)) (F 18 3)) (F 33 1)) (F 17 0)) (F 17 1)) (F 17 2))) + (Int32.toInt64 (F 10 6))))]) b_X11_digest_41_51 rfl (fun hd => ?_)
  rw [show ((31 * (mx (mx (mx (mx (mx (mx (mx (mx 17 (F 10 5)) (F 6 1)) (F 8 1)) (F 18 3)) (F 33 1)) (F 17 0)) (F 17 1)) (F 17 2))) + (Int32.toInt64 (F 10 6)) : Int64) = mx (mx (mx (mx (mx (mx (mx (mx (mx 17 (F 10 5)) (F 6 1)) (F 8 1)) (F 18 3)) (F 33 1)) (F 17 0)) (F 17 1)) (F 17 2)) (F 10 6) from rfl]
  refine R2.callV (M2 := mX11_faultOf) (As := [.int 1]) (rest := [.long (31 * ((31 * (mx (mx (mx (mx (mx (mx (mx (mx 17 (F 10 5)) (F 6 1)) (F 8 1)) (F 18 3)) (F 33 1)) (F 17 0)) (F 17 1)) (F 17 2))) + (Int32.toInt64 (F 10 6))))]) hd lk_11_128 okX11_faultOf (by decide) rfl (q_fault1 E L hD31) (by decide) rfl rfl (Nat.le_of_ble_eq_true rfl) (fun r32 G32 q32 => ?_)
  obtain ⟨q32, hD32⟩ := q32
  subst q32
  refine R2.B (ls2 := [some (.ref 48), some (.long ((31 * ((31 * (mx (mx (mx (mx (mx (mx (mx (mx 17 (F 10 5)) (F 6 1)) (F 8 1)) (F 18 3)) (F 33 1)) (F 17 0)) (F 17 1)) (F 17 2))) + (Int32.toInt64 (F 10 6)))) + (Int32.toInt64 (F 18 4)))), none, some (.int 0), none]) (st2 := []) b_X11_digest_54_59 rfl (fun hd => ?_)
  rw [show ((31 * ((31 * (mx (mx (mx (mx (mx (mx (mx (mx 17 (F 10 5)) (F 6 1)) (F 8 1)) (F 18 3)) (F 33 1)) (F 17 0)) (F 17 1)) (F 17 2))) + (Int32.toInt64 (F 10 6)))) + (Int32.toInt64 (F 18 4)) : Int64) = mx ((31 * (mx (mx (mx (mx (mx (mx (mx (mx 17 (F 10 5)) (F 6 1)) (F 8 1)) (F 18 3)) (F 33 1)) (F 17 0)) (F 17 1)) (F 17 2))) + (Int32.toInt64 (F 10 6))) (F 18 4) from rfl]
  refine R2.forget (ls2 := [some (.ref 48), some (.long (dgA F)), none, some (.int 0), none]) ⟨rfl, ⟨rfl, ⟨rfl, trivial⟩⟩⟩ ?_
  refine ml_dg E L F l0 l1 n m s hF hn10 _ n 0 (dgA F) _ (by omega) hD32 (fun G' hG' => ?_)
  exact md_2 E L F l0 l1 n m s hF hn10 hJ _ d hd2 G' hG'
def PrD (E : EE) (L : Nat) (M1 M2 : MTy) (F : FF) : Prop := ∃ d1, d1 ≤ 17 ∧ Ev2 E L d1 M1 [.ref 5] F (fun r1 F1 => ∃ (v : Int64) (d2 : Nat), d2 ≤ 17 ∧ r1 = some (.long v) ∧ Ev2 E L d2 M2 [.ref 48] F1 (fun r2 F2 => r2 = some (.long v) ∧ INV F2))
theorem pr_digest (E : EE) (L : Nat) {F : FF} {l0 l1 n m : Nat} (h : IV F l0 l1 n m) : PrD E L mX10_digest mX11_digest F := by
  obtain ⟨hc, ht, ⟨hm, hf⟩, hp, hfi, hst, hps, hfd, hsh⟩ := id h
  obtain ⟨⟨hn, hn5, hn3⟩, hpp⟩ := id hp
  obtain ⟨s, f1, f2, f3, f4, f5⟩ := fair_s (G := F) ht.2.2.2.1 hn hfi h.tat1
  refine ⟨17, Nat.le_refl _, Ev2.post (x_digest E L F hc n hn5 hn m hps.2.1 hps.1 s f1 (fun p hp => (hpp p hp).2.1) (fun p hp => (h.at hp).2)) (fun r1 F1 q => ?_)⟩
  obtain ⟨⟨d, e, hd⟩, hr⟩ := q
  refine ⟨d, 17, Nat.le_refl _, e, ?_⟩
  have hD : DI F F1 l0 l1 n m := ⟨h.row hr, fun a _ ha => hr a (Or.inl ha)⟩
  rw [DG_eq] at hd
  refine y_digest E L F1 F l0 l1 n m s f1 hn (fun G hG => ?_) d hd hD
  have hrJ : ∀ a, a ≠ 22 → a ≠ 23 → a ≠ 24 → a ≠ 25 → a ≠ 26 → a ≠ 27 → a ≠ 28 → (jgF (solF F n) n s) a = F a := fun a h1 h2 h3 h4 h5 h6 h7 => (jgF_row h1 h2 h3).trans (solF_row h4 h5 h6 h7)
  exact hG.ppr.ofF (hrJ 11 (by decide) (by decide) (by decide) (by decide) (by decide) (by decide) (by decide)) (hrJ 12 (by decide) (by decide) (by decide) (by decide) (by decide) (by decide) (by decide)) (hrJ 13 (by decide) (by decide) (by decide) (by decide) (by decide) (by decide) (by decide)) (hrJ 15 (by decide) (by decide) (by decide) (by decide) (by decide) (by decide) (by decide)) (hrJ 17 (by decide) (by decide) (by decide) (by decide) (by decide) (by decide) (by decide))
