/-! The reference: the trial's answers, steps, home. Printed by wip/whole/gen/spec19.py. -/
theorem nI_ex {x : Int32} {n : Nat} (h0 : 0 ≤ x) (h1 : x < nI n) (hn : n < 2 ^ 31) : ∃ a, a < n ∧ x = nI a := by
  obtain ⟨j, hj, rfl⟩ := nI_of (Int32.not_lt.mpr h0)
  exact ⟨j, (nI_ltI hj hn).mp h1, rfl⟩
theorem mfP_row {F : FF} {part : Nat} {dn f1 f2 : Int32} {a : Nat} (h1 : a ≠ 58) (h2 : a ≠ 59) (h3 : a ≠ 60) : mfP F part dn f1 f2 a = F a := by
  funext j; unfold mfP; simp [up2, h1, h2, h3]
theorem mf_row (l n : Nat) (a : Nat) (h0 : a ≠ 48) (h1 : a ≠ 58) (h2 : a ≠ 59) (h3 : a ≠ 60) : ∀ (k part at_ : Nat) (F : FF), (mfL l n k part at_ F).2 a = F a := by
  intro k
  induction k with
  | zero => intro part at_ F; rfl
  | succ k ih =>
    intro part at_ F
    have hq : ∀ (x y z : Int32) (q : Nat), up2 (mfP F part x y z) 48 10 (nI q) a = F a := fun x y z q => by
      rw [show up2 (mfP F part x y z) 48 10 (nI q) a = mfP F part x y z a from (by funext j; simp [up2, h0])]; exact mfP_row h1 h2 h3
    simp only [mfL]
    repeat' split
    all_goals first | rfl | exact hq _ _ _ _ | exact mfP_row h1 h2 h3 | (rw [ih]; exact mfP_row h1 h2 h3)
theorem mf_48 (l n : Nat) (j : Nat) (hj : j ≠ 10) : ∀ (k part at_ : Nat) (F : FF), (mfL l n k part at_ F).2 48 j = F 48 j := by
  intro k
  induction k with
  | zero => intro part at_ F; rfl
  | succ k ih =>
    intro part at_ F
    have hp : ∀ (x y z : Int32), mfP F part x y z 48 j = F 48 j := fun x y z => by rw [mfP_row (by decide) (by decide) (by decide)]
    have hq : ∀ (x y z : Int32) (q : Nat), up2 (mfP F part x y z) 48 10 (nI q) 48 j = F 48 j := fun x y z q => by
      rw [show up2 (mfP F part x y z) 48 10 (nI q) 48 j = mfP F part x y z 48 j from (by simp [up2, hj])]; exact hp x y z
    simp only [mfL]
    repeat' split
    all_goals first | rfl | exact hq _ _ _ _ | exact hp _ _ _ | (rw [ih]; exact hp _ _ _)
theorem fds_row {F : FF} {l n a : Nat} (h0 : a ≠ 48) (h1 : a ≠ 58) (h2 : a ≠ 59) (h3 : a ≠ 60) : (fds F l n).2 a = F a := by
  unfold fds; rw [mf_row l n a h0 h1 h2 h3]; funext j; simp [up2, h0]
theorem fds_48 {F : FF} {l n j : Nat} (hj : j ≠ 10) : (fds F l n).2 48 j = F 48 j := by
  unfold fds; rw [mf_48 l n j hj]; simp [up2, hj]
theorem MR.fdss {F : FF} {l n : Nat} (h : MR F l n) (l1 m : Nat) : MR (fds F l1 m).2 l n ∧ (rds (fds F l1 m).2 l).1 = (rds F l).1 :=
  h.of (fds_48 (by decide)) (by rw [fds_row (by decide) (by decide) (by decide) (by decide)]) (fds_row (by decide) (by decide) (by decide) (by decide)) (fds_row (by decide) (by decide) (by decide) (by decide)) (fds_row (by decide) (by decide) (by decide) (by decide)) (fds_row (by decide) (by decide) (by decide) (by decide)) (fds_row (by decide) (by decide) (by decide) (by decide))
abbrev POK (F : FF) (n q : Nat) : Prop := ∃ a b : Nat, a < n ∧ F 58 q = nI a ∧ F 59 q = nI b ∧ ((F 60 q = 0 ∧ b < 8) ∨ (F 60 q = 1 ∧ b < n))
theorem POK_mfP {F : FF} {n part : Nat} (h : ∀ q, q < part → POK F n q) {dn f1 f2 : Int32} (hp : ∃ a b : Nat, a < n ∧ f1 = nI a ∧ f2 = nI b ∧ ((dn = 0 ∧ b < 8) ∨ (dn = 1 ∧ b < n))) : ∀ q, q < part + 1 → POK (mfP F part dn f1 f2) n q := by
  intro q hq
  by_cases e : q = part
  · subst e; unfold POK mfP; simpa [up2] using hp
  · obtain ⟨a, b, hh⟩ := h q (by omega)
    exact ⟨a, b, by simpa [mfP, up2, e] using hh⟩
theorem mf_ok (l n : Nat) (hl : l ≤ 60) (hn : n ≤ 10) : ∀ (k part at_ : Nat) (F : FF), part + k = 21 → 3 * part ≤ at_ → at_ ≤ l → F 48 10 = 0 → (∀ q, q < part → POK F n q) → ∃ s, MFair (mfL l n k part at_ F).2 n s := by
  intro k
  induction k with
  | zero => intro part at_ F h1 h2 h3; omega
  | succ k ih =>
    intro part at_ F h1 h2 h3 h0 hq
    have z0 : ∃ s, MFair F n s := ⟨0, h0, by omega, fun q hq => absurd hq (by omega)⟩
    have z1 : ∀ (x y z : Int32), ∃ s, MFair (mfP F part x y z) n s := fun x y z => ⟨0, (by rw [mfP_row (by decide) (by decide) (by decide)]; exact h0), by omega, fun q hq => absurd hq (by omega)⟩
    have z2 : ∀ (x y z : Int32), part + 1 ≤ 20 → (∀ q, q < part + 1 → POK (mfP F part x y z) n q) → ∃ s, MFair (up2 (mfP F part x y z) 48 10 (nI (part + 1))) n s := fun x y z hs hp => ⟨part + 1, up2_same _ _ _ _, hs, hp⟩
    have hz : ∀ (x y z : Int32), mfP F part x y z 48 10 = 0 := fun x y z => by rw [mfP_row (by decide) (by decide) (by decide)]; exact h0
    have i1 : ∀ x : Int32, ¬ ¬ (0 ≤ x ∧ x ≤ nI n - 1) → ∃ a, a < n ∧ x = nI a := fun x hx => by
      have hx := (n1_iff hn x).mp (Classical.not_not.mp hx); exact nI_ex hx.1 hx.2 (by omega)
    have i2 : ∀ x : Int32, ¬ ¬ (0 ≤ x ∧ x ≤ 7) → ∃ a, a < 8 ∧ x = nI a := fun x hx => by
      have hx := Classical.not_not.mp hx; exact nI_ex (n := 8) hx.1 ((i32_le_pred 8 7 x (by decide)).mp hx.2) (by omega)
    simp only [mfL]
    split
    · exact z0
    · split
      · split
        · exact z0
        · next c1 =>
          obtain ⟨a, ha, ea⟩ := i1 _ c1
          split
          · exact z0
          · next c2 =>
            obtain ⟨b, hb, eb⟩ := i1 _ (fun z => c2 (Or.inl z))
            have hp := POK_mfP hq (dn := 1) ⟨a, b, ha, ea, eb, Or.inr ⟨rfl, hb⟩⟩
            split
            · exact z2 _ _ _ (by omega) hp
            · split
              · exact z1 _ _ _
              · next c3 =>
                have := tat_lt (Classical.not_not.mp c3)
                exact ih (part + 1) _ _ (by omega) (by omega) (by omega) (hz _ _ _) hp
      · split
        · exact z0
        · next c1 =>
          obtain ⟨a, ha, ea⟩ := i1 _ c1
          split
          · exact z0
          · next c2 =>
            obtain ⟨b, hb, eb⟩ := i2 _ c2
            have hp := POK_mfP hq (dn := 0) ⟨a, b, ha, ea, eb, Or.inl ⟨rfl, hb⟩⟩
            split
            · exact z2 _ _ _ (by omega) hp
            · split
              · exact z1 _ _ _
              · next c3 =>
                have := tat_lt (Classical.not_not.mp c3)
                exact ih (part + 1) _ _ (by omega) (by omega) (by omega) (hz _ _ _) hp
theorem fds_ok {F : FF} {l n : Nat} (hl : l ≤ 60) (hn : n ≤ 10) : ∃ s, MFair (fds F l n).2 n s :=
  mf_ok l n hl hn 21 0 0 _ (by omega) (by omega) (by omega) (up2_same _ _ _ _) (fun q hq => absurd hq (by omega))
abbrev stC (F : FF) (n a d : Nat) : Prop := ¬ nbr (F 56 a) d = -1 ∧ mayS (ly F n 57) a (nbr (F 56 a) d) (F 51 2 * F 51 2) n 0 = true
def mhL : Nat → Nat → Int32 → FF → Int32 × FF
  | 0, _, acc, F => (acc, F)
  | k + 1, p, acc, F => mhL k (p + 1) (acc + if F 56 p = F 55 p then 0 else 1) (up2 F 56 p (F 55 p))
theorem b_X11_judges_0_1 : bl2 mX11_judges 0 [(.aload_n 0, 1, 0, 0, .null)] 1 (.invokevirtual 125) 3 = true := by decide +kernel
theorem b_X11_judges_4_6 : bl2 mX11_judges 4 [(.istore_n 1, 1, 1, 0, .null), (.aload_n 0, 1, 0, 0, .null)] 6 (.invokevirtual 140) 3 = true := by decide +kernel
theorem b_X11_judges_9_11 : bl2 mX11_judges 9 [(.aload_n 0, 1, 0, 0, .null), (.iconst (-1), 1, 0, 0, .int (-1))] 11 (.putfield 198) 3 = true := by decide +kernel
theorem b_X11_judges_14_16 : bl2 mX11_judges 14 [(.aload_n 0, 1, 0, 0, .null), (.iconst 0, 1, 0, 0, .int 0)] 16 (.putfield 201) 3 = true := by decide +kernel
theorem b_X11_judges_19_21 : bl2 mX11_judges 19 [(.aload_n 0, 1, 0, 0, .null), (.iconst 0, 1, 0, 0, .int 0)] 21 (.putfield 204) 3 = true := by decide +kernel
theorem b_X11_judges_24_28 : bl2 mX11_judges 24 [(.iconst 0, 1, 0, 0, .int 0), (.istore_n 2, 1, 2, 0, .null), (.iconst 0, 1, 0, 0, .int 0), (.istore_n 3, 1, 3, 0, .null)] 28 (.iload_n 3) 1 = true := by decide +kernel
set_option maxRecDepth 20000 in
set_option maxHeartbeats 1000000 in
theorem me_judges (E : EE) (L : Nat) (F : FF) (l n : Nat) (hm : MR F l n) (l1 : Nat) (hl1 : l1 ≤ 60) (h1 : F 49 1 = nI l1) (s : Nat) (hf : MFair (fds F l1 n).2 n s) : Ev3 E L 6 mX11_judges [.ref 48] F none (mjF (fds F l1 n).2 n s) := by
  refine Ev3.of okX11_judges.2.2.1 (Nat.le_of_ble_eq_true rfl) ?_
  show R2 E L mX11_judges 6 0 [some (.ref 48), none, none, none, none, none, none, none] [] F _
  refine R2.B (ls2 := [some (.ref 48), none, none, none, none, none, none, none]) (st2 := [.ref 48]) b_X11_judges_0_1 rfl (fun hd => ?_)
  refine R2.callV3 (M2 := mX11_fairFault) (As := []) (rest := []) hd lk_11_125 okX11_fairFault (by decide) rfl (me_fairFault E L F l n hm l1 hl1 h1) (by decide) rfl rfl (Nat.le_of_ble_eq_true rfl) ?_
  refine R2.B (ls2 := [some (.ref 48), some (.int ((fds F l1 n).1)), none, none, none, none, none, none]) (st2 := [.ref 48]) b_X11_judges_4_6 rfl (fun hd => ?_)
  refine R2.callV3 (M2 := mX11_lays) (As := []) (rest := []) hd lk_11_140 okX11_lays (by decide) rfl (me_lays E L (fds F l1 n).2 l n (hm.fdss l1 n).1) (by decide) rfl rfl (Nat.le_of_ble_eq_true rfl) ?_
  refine R2.B (ls2 := [some (.ref 48), some (.int ((fds F l1 n).1)), none, none, none, none, none, none]) (st2 := [.int (-1), .ref 48]) b_X11_judges_9_11 rfl (fun hd => ?_)
  refine R2.putf (a := 11) (b := 16) hd (by decide) (by decide) rfl rfl (fun _ => rfl) ?_
  refine R2.B (ls2 := [some (.ref 48), some (.int ((fds F l1 n).1)), none, none, none, none, none, none]) (st2 := [.int 0, .ref 48]) b_X11_judges_14_16 rfl (fun hd => ?_)
  refine R2.putf (a := 11) (b := 17) hd (by decide) (by decide) rfl rfl (fun _ => rfl) ?_
  refine R2.B (ls2 := [some (.ref 48), some (.int ((fds F l1 n).1)), none, none, none, none, none, none]) (st2 := [.int 0, .ref 48]) b_X11_judges_19_21 rfl (fun hd => ?_)
  refine R2.putf (a := 11) (b := 18) hd (by decide) (by decide) rfl rfl (fun _ => rfl) ?_
  refine R2.B (ls2 := [some (.ref 48), some (.int ((fds F l1 n).1)), some (.int 0), some (.int 0), none, none, none, none]) (st2 := []) b_X11_judges_24_28 rfl (fun hd => ?_)
  refine R2.forget (ls2 := [some (.ref 48), none, some (.int 0), some (.int 0), none, none, none, none]) ⟨rfl, ⟨rfl, ⟨rfl, trivial⟩⟩⟩ ?_
  exact ml_jg E L n s hm.2.2.1 s 0 0 _ (by omega) ((congrFun (ly_row (by decide)) 3).trans (hm.fdss l1 n).1.2.2.2.1) (hf.of (congrFun (ly_row (a := 48) (by decide)) 10) (ly_row (a := 58) (by decide)) (ly_row (a := 59) (by decide)) (ly_row (a := 60) (by decide)))
theorem b_X11_judgedOf_0_1 : bl2 mX11_judgedOf 0 [(.aload_n 0, 1, 0, 0, .null)] 1 (.invokevirtual 207) 3 = true := by decide +kernel
theorem b_X11_judgedOf_4_5 : bl2 mX11_judgedOf 4 [(.iload_n 1, 1, 1, 0, .null)] 5 (.ifCond .ne 10) 3 = true := by decide +kernel
theorem b_X11_judgedOf_15_17 : bl2 mX11_judgedOf 15 [(.iload_n 1, 1, 1, 0, .null), (.iconst 1, 1, 0, 0, .int 1)] 17 (.if_icmp .ne 10) 3 = true := by decide +kernel
theorem b_X11_judgedOf_27_31 : bl2 mX11_judgedOf 27 [(.aload_n 0, 1, 0, 0, .null), (.getfield 204, 3, 11, 18, .null)] 31 (.ireturn) 1 = true := by decide +kernel
theorem b_X11_judgedOf_20_31 : bl2 mX11_judgedOf 20 [(.aload_n 0, 1, 0, 0, .null), (.getfield 201, 3, 11, 17, .null), (.goto 7, 3, 31, 0, .null)] 31 (.ireturn) 1 = true := by decide +kernel
theorem b_X11_judgedOf_8_31 : bl2 mX11_judgedOf 8 [(.aload_n 0, 1, 0, 0, .null), (.getfield 198, 3, 11, 16, .null), (.goto 19, 3, 31, 0, .null)] 31 (.ireturn) 1 = true := by decide +kernel
set_option maxRecDepth 20000 in
set_option maxHeartbeats 1000000 in
theorem me_judgedOf (E : EE) (L : Nat) (F : FF) (l n : Nat) (hm : MR F l n) (l1 : Nat) (hl1 : l1 ≤ 60) (h1 : F 49 1 = nI l1) (s : Nat) (hf : MFair (fds F l1 n).2 n s) (x : Int32) : Ev3 E L 7 mX11_judgedOf [.ref 48, .int x] F (some (.int (if x = 0 then (mjF (fds F l1 n).2 n s) 48 16 else if x = 1 then (mjF (fds F l1 n).2 n s) 48 17 else (mjF (fds F l1 n).2 n s) 48 18))) (mjF (fds F l1 n).2 n s) := by
  refine Ev3.of okX11_judgedOf.2.2.1 (Nat.le_of_ble_eq_true rfl) ?_
  show R2 E L mX11_judgedOf 7 0 [some (.ref 48), some (.int x)] [] F _
  refine R2.B (ls2 := [some (.ref 48), some (.int x)]) (st2 := [.ref 48]) b_X11_judgedOf_0_1 rfl (fun hd => ?_)
  refine R2.callV3 (M2 := mX11_judges) (As := []) (rest := []) hd lk_11_207 okX11_judges (by decide) rfl (me_judges E L F l n hm l1 hl1 h1 s hf) (by decide) rfl rfl (Nat.le_of_ble_eq_true rfl) ?_
  refine R2.B (ls2 := [some (.ref 48), some (.int x)]) (st2 := [.int x]) b_X11_judgedOf_4_5 rfl (fun hd => ?_)
  refine R2.if_ne 15 hd (by decide) (fun c5 => ?_) (fun c5 => ?_)
  · refine R2.B (ls2 := [some (.ref 48), some (.int x)]) (st2 := [.int 1, .int x]) b_X11_judgedOf_15_17 rfl (fun hd => ?_)
    refine R2.icmp_ne 27 hd (by decide) (fun c17 => ?_) (fun c17 => ?_)
    · refine R2.B (ls2 := [some (.ref 48), some (.int x)]) (st2 := [.int ((mjF (fds F l1 n).2 n s) 48 18)]) b_X11_judgedOf_27_31 rfl (fun hd => ?_)
      exact R2.ret3 (r := some (.int ((mjF (fds F l1 n).2 n s) 48 18))) hd trivial rfl (congrArg (fun z => some (Value.int z)) (by clear hd; grind)) rfl
    · refine R2.B (ls2 := [some (.ref 48), some (.int x)]) (st2 := [.int ((mjF (fds F l1 n).2 n s) 48 17)]) b_X11_judgedOf_20_31 rfl (fun hd => ?_)
      exact R2.ret3 (r := some (.int ((mjF (fds F l1 n).2 n s) 48 17))) hd trivial rfl (congrArg (fun z => some (Value.int z)) (by clear hd; grind)) rfl
  · refine R2.B (ls2 := [some (.ref 48), some (.int x)]) (st2 := [.int ((mjF (fds F l1 n).2 n s) 48 16)]) b_X11_judgedOf_8_31 rfl (fun hd => ?_)
    exact R2.ret3 (r := some (.int ((mjF (fds F l1 n).2 n s) 48 16))) hd trivial rfl (congrArg (fun z => some (Value.int z)) (by clear hd; grind)) rfl
theorem b_X11_endsOf_0_1 : bl2 mX11_endsOf 0 [(.aload_n 0, 1, 0, 0, .null)] 1 (.invokevirtual 207) 3 = true := by decide +kernel
theorem b_X11_endsOf_4_9 : bl2 mX11_endsOf 4 [(.aload_n 0, 1, 0, 0, .null), (.getfield 34, 3, 11, 9, .null), (.iload_n 1, 1, 1, 0, .null)] 9 (.iaload) 1 = true := by decide +kernel
theorem b_X11_endsOf_10_10 : bl2 mX11_endsOf 10 [] 10 (.ireturn) 1 = true := by decide +kernel
set_option maxRecDepth 20000 in
set_option maxHeartbeats 1000000 in
theorem me_endsOf (E : EE) (L : Nat) (F : FF) (l n : Nat) (hm : MR F l n) (l1 : Nat) (hl1 : l1 ≤ 60) (h1 : F 49 1 = nI l1) (s : Nat) (hf : MFair (fds F l1 n).2 n s) (p : Nat) (hp : p < 11) : Ev3 E L 7 mX11_endsOf [.ref 48, .int (nI p)] F (some (.int ((mjF (fds F l1 n).2 n s) 57 p))) (mjF (fds F l1 n).2 n s) := by
  refine Ev3.of okX11_endsOf.2.2.1 (Nat.le_of_ble_eq_true rfl) ?_
  show R2 E L mX11_endsOf 7 0 [some (.ref 48), some (.int (nI p))] [] F _
  refine R2.B (ls2 := [some (.ref 48), some (.int (nI p))]) (st2 := [.ref 48]) b_X11_endsOf_0_1 rfl (fun hd => ?_)
  refine R2.callV3 (M2 := mX11_judges) (As := []) (rest := []) hd lk_11_207 okX11_judges (by decide) rfl (me_judges E L F l n hm l1 hl1 h1 s hf) (by decide) rfl rfl (Nat.le_of_ble_eq_true rfl) ?_
  refine R2.B (ls2 := [some (.ref 48), some (.int (nI p))]) (st2 := [.int (nI p), .ref 57]) b_X11_endsOf_4_9 rfl (fun hd => ?_)
  refine R2.iald p rfl hd rfl (fun _ => rfl) (by decide) (by omega) ?_
  refine R2.B (ls2 := [some (.ref 48), some (.int (nI p))]) (st2 := [.int ((mjF (fds F l1 n).2 n s) 57 p)]) b_X11_endsOf_10_10 rfl (fun hd => ?_)
  exact R2.ret3 (r := some (.int ((mjF (fds F l1 n).2 n s) 57 p))) hd trivial rfl rfl rfl
theorem b_X11_partsNow_0_1 : bl2 mX11_partsNow 0 [(.aload_n 0, 1, 0, 0, .null)] 1 (.invokevirtual 125) 3 = true := by decide +kernel
theorem b_X11_partsNow_4_9 : bl2 mX11_partsNow 4 [(.istore_n 1, 1, 1, 0, .null), (.aload_n 0, 1, 0, 0, .null), (.getfield 122, 3, 11, 10, .null)] 9 (.ireturn) 1 = true := by decide +kernel
set_option maxRecDepth 20000 in
set_option maxHeartbeats 1000000 in
theorem me_partsNow (E : EE) (L : Nat) (F : FF) (l n : Nat) (hm : MR F l n) (l1 : Nat) (hl1 : l1 ≤ 60) (h1 : F 49 1 = nI l1) : Ev3 E L 6 mX11_partsNow [.ref 48] F (some (.int ((fds F l1 n).2 48 10))) (fds F l1 n).2 := by
  refine Ev3.of okX11_partsNow.2.2.1 (Nat.le_of_ble_eq_true rfl) ?_
  show R2 E L mX11_partsNow 6 0 [some (.ref 48), none] [] F _
  refine R2.B (ls2 := [some (.ref 48), none]) (st2 := [.ref 48]) b_X11_partsNow_0_1 rfl (fun hd => ?_)
  refine R2.callV3 (M2 := mX11_fairFault) (As := []) (rest := []) hd lk_11_125 okX11_fairFault (by decide) rfl (me_fairFault E L F l n hm l1 hl1 h1) (by decide) rfl rfl (Nat.le_of_ble_eq_true rfl) ?_
  refine R2.B (ls2 := [some (.ref 48), some (.int ((fds F l1 n).1))]) (st2 := [.int ((fds F l1 n).2 48 10)]) b_X11_partsNow_4_9 rfl (fun hd => ?_)
  exact R2.ret3 (r := some (.int ((fds F l1 n).2 48 10))) hd trivial rfl rfl rfl
theorem b_X11_steps_0_1 : bl2 mX11_steps 0 [(.aload_n 0, 1, 0, 0, .null)] 1 (.invokevirtual 140) 3 = true := by decide +kernel
theorem b_X11_steps_4_9 : bl2 mX11_steps 4 [(.aload_n 0, 1, 0, 0, .null), (.getfield 31, 3, 11, 8, .null), (.iload_n 1, 1, 1, 0, .null)] 9 (.iaload) 1 = true := by decide +kernel
theorem b_X11_steps_10_11 : bl2 mX11_steps 10 [(.iload_n 2, 1, 2, 0, .null)] 11 (.invokestatic 143) 3 = true := by decide +kernel
theorem b_X11_steps_14_17 : bl2 mX11_steps 14 [(.istore_n 3, 1, 3, 0, .null), (.iload_n 3, 1, 3, 0, .null), (.iconst (-1), 1, 0, 0, .int (-1))] 17 (.if_icmp .eq 12) 3 = true := by decide +kernel
theorem b_X11_steps_29_30 : bl2 mX11_steps 29 [(.iconst 0, 1, 0, 0, .int 0)] 30 (.ireturn) 1 = true := by decide +kernel
theorem b_X11_steps_20_23 : bl2 mX11_steps 20 [(.aload_n 0, 1, 0, 0, .null), (.iload_n 1, 1, 1, 0, .null), (.iload_n 3, 1, 3, 0, .null)] 23 (.invokevirtual 146) 3 = true := by decide +kernel
theorem b_X11_steps_26_26 : bl2 mX11_steps 26 [] 26 (.ifCond .ne 5) 3 = true := by decide +kernel
theorem b_X11_steps_31_37 : bl2 mX11_steps 31 [(.aload_n 0, 1, 0, 0, .null), (.getfield 31, 3, 11, 8, .null), (.iload_n 1, 1, 1, 0, .null), (.iload_n 3, 1, 3, 0, .null)] 37 (.iastore) 1 = true := by decide +kernel
theorem b_X11_steps_38_39 : bl2 mX11_steps 38 [(.iconst 1, 1, 0, 0, .int 1)] 39 (.ireturn) 1 = true := by decide +kernel
set_option maxRecDepth 20000 in
set_option maxHeartbeats 1000000 in
theorem me_steps0 (E : EE) (L : Nat) (F : FF) (l n : Nat) (hm : MR F l n) (a d : Nat) (ha : a < n) (hd8 : d < 8) (h : ¬ stC F n a d) : Ev3 E L 6 mX11_steps [.ref 48, .int (nI a), .int (nI d)] F (some (.int 0)) (ly F n) := by
  have hn10 := hm.2.2.1
  refine Ev3.of okX11_steps.2.2.1 (Nat.le_of_ble_eq_true rfl) ?_
  show R2 E L mX11_steps 6 0 [some (.ref 48), some (.int (nI a)), some (.int (nI d)), none] [] F _
  refine R2.B (ls2 := [some (.ref 48), some (.int (nI a)), some (.int (nI d)), none]) (st2 := [.ref 48]) b_X11_steps_0_1 rfl (fun hd => ?_)
  refine R2.callV3 (M2 := mX11_lays) (As := []) (rest := []) hd lk_11_140 okX11_lays (by decide) rfl (me_lays E L F l n hm) (by decide) rfl rfl (Nat.le_of_ble_eq_true rfl) ?_
  refine R2.B (ls2 := [some (.ref 48), some (.int (nI a)), some (.int (nI d)), none]) (st2 := [.int (nI a), .ref 56]) b_X11_steps_4_9 rfl (fun hd => ?_)
  refine R2.iald a rfl hd rfl (fun _ => rfl) (by decide) (by omega) ?_
  refine R2.top (show ((ly F n) 56 a : Int32) = F 56 a from (by rw [ly_row (by decide)])) ?_
  refine R2.B (ls2 := [some (.ref 48), some (.int (nI a)), some (.int (nI d)), none]) (st2 := [.int (nI d), .int (F 56 a)]) b_X11_steps_10_11 rfl (fun hd => ?_)
  refine R2.callS3 (M2 := mX11_stepTo) (As := [.int (F 56 a), .int (nI d)]) (rest := []) hd lk_11_143 okX11_stepTo (by decide) (me_stepTo E L (ly F n) (F 56 a) d (by omega)) (by decide) rfl rfl (Nat.le_of_ble_eq_true rfl) ?_
  refine R2.B (ls2 := [some (.ref 48), some (.int (nI a)), some (.int (nI d)), some (.int (nbr (F 56 a) d))]) (st2 := [.int (-1), .int (nbr (F 56 a) d)]) b_X11_steps_14_17 rfl (fun hd => ?_)
  refine R2.icmp_eq 29 hd (by decide) (fun c17 => ?_) (fun c17 => ?_)
  · refine R2.B (ls2 := [some (.ref 48), some (.int (nI a)), some (.int (nI d)), some (.int (nbr (F 56 a) d))]) (st2 := [.int 0]) b_X11_steps_29_30 rfl (fun hd => ?_)
    exact R2.ret3 (r := some (.int 0)) hd (Or.inl rfl) rfl rfl rfl
  · refine R2.B (ls2 := [some (.ref 48), some (.int (nI a)), some (.int (nI d)), some (.int (nbr (F 56 a) d))]) (st2 := [.int (nbr (F 56 a) d), .int (nI a), .ref 48]) b_X11_steps_20_23 rfl (fun hd => ?_)
    refine R2.callV3 (M2 := mX11_isFree) (As := [.int (nI a), .int (nbr (F 56 a) d)]) (rest := []) hd lk_11_146 okX11_isFree (by decide) rfl (me_isFree E L (ly F n) n ((congrFun (ly_row (by decide)) 3).trans hm.2.2.2.1) hm.2.2.1 a (nbr (F 56 a) d) (by omega)) (by decide) rfl rfl (Nat.le_of_ble_eq_true rfl) ?_
    refine R2.top (show (b2i (mayS ((ly F n) 57) a (nbr (F 56 a) d) ((ly F n) 51 2 * (ly F n) 51 2) n 0 = true) : Int32) = b2i (mayS (ly F n 57) a (nbr (F 56 a) d) (F 51 2 * F 51 2) n 0 = true) from (by rw [ly_row (a := 51) (by decide)])) ?_
    refine R2.B (ls2 := [some (.ref 48), some (.int (nI a)), some (.int (nI d)), some (.int (nbr (F 56 a) d))]) (st2 := [.int (b2i (mayS (ly F n 57) a (nbr (F 56 a) d) (F 51 2 * F 51 2) n 0 = true))]) b_X11_steps_26_26 rfl (fun hd => ?_)
    refine R2.if_ne 31 hd (by decide) (fun c26 => ?_) (fun c26 => ?_)
    · have nc26 : mayS (ly F n 57) a (nbr (F 56 a) d) (F 51 2 * F 51 2) n 0 = true := b2i_nz.mp c26
      refine R2.B (ls2 := [some (.ref 48), some (.int (nI a)), some (.int (nI d)), some (.int (nbr (F 56 a) d))]) (st2 := [.int (nbr (F 56 a) d), .int (nI a), .ref 56]) b_X11_steps_31_37 rfl (fun hd => ?_)
      refine R2.iast a rfl hd (by decide) rfl (fun _ => rfl) (by decide) (by omega) ?_
      refine R2.B (ls2 := [some (.ref 48), some (.int (nI a)), some (.int (nI d)), some (.int (nbr (F 56 a) d))]) (st2 := [.int 1]) b_X11_steps_38_39 rfl (fun hd => ?_)
      exact False.elim (by clear hd; grind)
    · have nc26 : ¬ (mayS (ly F n 57) a (nbr (F 56 a) d) (F 51 2 * F 51 2) n 0 = true) := b2i_zero.mp c26
      refine R2.B (ls2 := [some (.ref 48), some (.int (nI a)), some (.int (nI d)), some (.int (nbr (F 56 a) d))]) (st2 := [.int 0]) b_X11_steps_29_30 rfl (fun hd => ?_)
      exact R2.ret3 (r := some (.int 0)) hd (Or.inl rfl) rfl rfl rfl
set_option maxRecDepth 20000 in
set_option maxHeartbeats 1000000 in
theorem me_steps1 (E : EE) (L : Nat) (F : FF) (l n : Nat) (hm : MR F l n) (a d : Nat) (ha : a < n) (hd8 : d < 8) (h : stC F n a d) : Ev3 E L 6 mX11_steps [.ref 48, .int (nI a), .int (nI d)] F (some (.int 1)) (up2 (ly F n) 56 a (nbr (F 56 a) d)) := by
  have hn10 := hm.2.2.1
  refine Ev3.of okX11_steps.2.2.1 (Nat.le_of_ble_eq_true rfl) ?_
  show R2 E L mX11_steps 6 0 [some (.ref 48), some (.int (nI a)), some (.int (nI d)), none] [] F _
  refine R2.B (ls2 := [some (.ref 48), some (.int (nI a)), some (.int (nI d)), none]) (st2 := [.ref 48]) b_X11_steps_0_1 rfl (fun hd => ?_)
  refine R2.callV3 (M2 := mX11_lays) (As := []) (rest := []) hd lk_11_140 okX11_lays (by decide) rfl (me_lays E L F l n hm) (by decide) rfl rfl (Nat.le_of_ble_eq_true rfl) ?_
  refine R2.B (ls2 := [some (.ref 48), some (.int (nI a)), some (.int (nI d)), none]) (st2 := [.int (nI a), .ref 56]) b_X11_steps_4_9 rfl (fun hd => ?_)
  refine R2.iald a rfl hd rfl (fun _ => rfl) (by decide) (by omega) ?_
  refine R2.top (show ((ly F n) 56 a : Int32) = F 56 a from (by rw [ly_row (by decide)])) ?_
  refine R2.B (ls2 := [some (.ref 48), some (.int (nI a)), some (.int (nI d)), none]) (st2 := [.int (nI d), .int (F 56 a)]) b_X11_steps_10_11 rfl (fun hd => ?_)
  refine R2.callS3 (M2 := mX11_stepTo) (As := [.int (F 56 a), .int (nI d)]) (rest := []) hd lk_11_143 okX11_stepTo (by decide) (me_stepTo E L (ly F n) (F 56 a) d (by omega)) (by decide) rfl rfl (Nat.le_of_ble_eq_true rfl) ?_
  refine R2.B (ls2 := [some (.ref 48), some (.int (nI a)), some (.int (nI d)), some (.int (nbr (F 56 a) d))]) (st2 := [.int (-1), .int (nbr (F 56 a) d)]) b_X11_steps_14_17 rfl (fun hd => ?_)
  refine R2.icmp_eq 29 hd (by decide) (fun c17 => ?_) (fun c17 => ?_)
  · refine R2.B (ls2 := [some (.ref 48), some (.int (nI a)), some (.int (nI d)), some (.int (nbr (F 56 a) d))]) (st2 := [.int 0]) b_X11_steps_29_30 rfl (fun hd => ?_)
    exact False.elim (by clear hd; grind)
  · refine R2.B (ls2 := [some (.ref 48), some (.int (nI a)), some (.int (nI d)), some (.int (nbr (F 56 a) d))]) (st2 := [.int (nbr (F 56 a) d), .int (nI a), .ref 48]) b_X11_steps_20_23 rfl (fun hd => ?_)
    refine R2.callV3 (M2 := mX11_isFree) (As := [.int (nI a), .int (nbr (F 56 a) d)]) (rest := []) hd lk_11_146 okX11_isFree (by decide) rfl (me_isFree E L (ly F n) n ((congrFun (ly_row (by decide)) 3).trans hm.2.2.2.1) hm.2.2.1 a (nbr (F 56 a) d) (by omega)) (by decide) rfl rfl (Nat.le_of_ble_eq_true rfl) ?_
    refine R2.top (show (b2i (mayS ((ly F n) 57) a (nbr (F 56 a) d) ((ly F n) 51 2 * (ly F n) 51 2) n 0 = true) : Int32) = b2i (mayS (ly F n 57) a (nbr (F 56 a) d) (F 51 2 * F 51 2) n 0 = true) from (by rw [ly_row (a := 51) (by decide)])) ?_
    refine R2.B (ls2 := [some (.ref 48), some (.int (nI a)), some (.int (nI d)), some (.int (nbr (F 56 a) d))]) (st2 := [.int (b2i (mayS (ly F n 57) a (nbr (F 56 a) d) (F 51 2 * F 51 2) n 0 = true))]) b_X11_steps_26_26 rfl (fun hd => ?_)
    refine R2.if_ne 31 hd (by decide) (fun c26 => ?_) (fun c26 => ?_)
    · have nc26 : mayS (ly F n 57) a (nbr (F 56 a) d) (F 51 2 * F 51 2) n 0 = true := b2i_nz.mp c26
      refine R2.B (ls2 := [some (.ref 48), some (.int (nI a)), some (.int (nI d)), some (.int (nbr (F 56 a) d))]) (st2 := [.int (nbr (F 56 a) d), .int (nI a), .ref 56]) b_X11_steps_31_37 rfl (fun hd => ?_)
      refine R2.iast a rfl hd (by decide) rfl (fun _ => rfl) (by decide) (by omega) ?_
      refine R2.B (ls2 := [some (.ref 48), some (.int (nI a)), some (.int (nI d)), some (.int (nbr (F 56 a) d))]) (st2 := [.int 1]) b_X11_steps_38_39 rfl (fun hd => ?_)
      exact R2.ret3 (r := some (.int 1)) hd (Or.inr rfl) rfl rfl rfl
    · have nc26 : ¬ (mayS (ly F n 57) a (nbr (F 56 a) d) (F 51 2 * F 51 2) n 0 = true) := b2i_zero.mp c26
      refine R2.B (ls2 := [some (.ref 48), some (.int (nI a)), some (.int (nI d)), some (.int (nbr (F 56 a) d))]) (st2 := [.int 0]) b_X11_steps_29_30 rfl (fun hd => ?_)
      exact False.elim (by clear hd; grind)
theorem b_X11_home_9_14 : bl2 mX11_home 9 [(.iload_n 3, 1, 3, 0, .null), (.aload_n 0, 1, 0, 0, .null), (.getfield 101, 3, 11, 3, .null)] 14 (.if_icmp .ge 44) 3 = true := by decide +kernel
theorem b_X11_home_58_59 : bl2 mX11_home 58 [(.iload_n 2, 1, 2, 0, .null)] 59 (.ireturn) 1 = true := by decide +kernel
theorem b_X11_home_17_23 : bl2 mX11_home 17 [(.iload_n 2, 1, 2, 0, .null), (.aload_n 0, 1, 0, 0, .null), (.getfield 31, 3, 11, 8, .null), (.iload_n 3, 1, 3, 0, .null)] 23 (.iaload) 1 = true := by decide +kernel
theorem b_X11_home_24_29 : bl2 mX11_home 24 [(.aload_n 0, 1, 0, 0, .null), (.getfield 28, 3, 11, 7, .null), (.iload_n 3, 1, 3, 0, .null)] 29 (.iaload) 1 = true := by decide +kernel
theorem b_X11_home_30_30 : bl2 mX11_home 30 [] 30 (.if_icmp .ne 7) 3 = true := by decide +kernel
theorem b_X11_home_37_50 : bl2 mX11_home 37 [(.iconst 1, 1, 0, 0, .int 1), (.iadd, 1, 0, 0, .null), (.istore_n 2, 1, 2, 0, .null), (.aload_n 0, 1, 0, 0, .null), (.getfield 31, 3, 11, 8, .null), (.iload_n 3, 1, 3, 0, .null), (.aload_n 0, 1, 0, 0, .null), (.getfield 28, 3, 11, 7, .null), (.iload_n 3, 1, 3, 0, .null)] 50 (.iaload) 1 = true := by decide +kernel
theorem b_X11_home_51_51 : bl2 mX11_home 51 [] 51 (.iastore) 1 = true := by decide +kernel
theorem b_X11_home_52_9 : bl2 mX11_home 52 [(.iinc 3 1, 3, 3, 0, .int 1), (.goto (-46), 3, 9, 0, .null)] 9 (.iload_n 3) 1 = true := by decide +kernel
theorem b_X11_home_33_50 : bl2 mX11_home 33 [(.iconst 0, 1, 0, 0, .int 0), (.goto 4, 3, 38, 0, .null), (.iadd, 1, 0, 0, .null), (.istore_n 2, 1, 2, 0, .null), (.aload_n 0, 1, 0, 0, .null), (.getfield 31, 3, 11, 8, .null), (.iload_n 3, 1, 3, 0, .null), (.aload_n 0, 1, 0, 0, .null), (.getfield 28, 3, 11, 7, .null), (.iload_n 3, 1, 3, 0, .null)] 50 (.iaload) 1 = true := by decide +kernel
set_option maxRecDepth 20000 in
set_option maxHeartbeats 2000000 in
theorem ml_home (E : EE) (L : Nat) (n : Nat) (hn10 : n ≤ 10) : ∀ (k : Nat) (p : Nat) (acc : Int32) (F : FF), p + k = n → F 48 3 = nI n → R2 E L mX11_home 6 9 [some (.ref 48), none, some (.int acc), some (.int (nI p))] [] F (fun r' F' => r' = some (.int (mhL k p acc F).1) ∧ F' = (mhL k p acc F).2) := by
  intro k
  induction k with
  | zero =>
    intro p acc F hi h3
    refine R2.B (ls2 := [some (.ref 48), none, some (.int acc), some (.int (nI p))]) (st2 := [.int (F 48 3), .int (nI p)]) b_X11_home_9_14 rfl (fun hd => ?_)
    rw [show (F 48 3 : Int32) = nI n from h3]
    refine R2.icmp_ge 58 hd (by decide) (fun c14 => ?_) (fun c14 => absurd (nI_le (by omega) (by omega)) c14)
    refine R2.B (ls2 := [some (.ref 48), none, some (.int acc), some (.int (nI p))]) (st2 := [.int acc]) b_X11_home_58_59 rfl (fun hd => ?_)
    exact R2.ret3 (r := some (.int acc)) hd trivial rfl rfl rfl
  | succ k ih =>
    intro p acc F hi h3
    refine R2.B (ls2 := [some (.ref 48), none, some (.int acc), some (.int (nI p))]) (st2 := [.int (F 48 3), .int (nI p)]) b_X11_home_9_14 rfl (fun hd => ?_)
    rw [show (F 48 3 : Int32) = nI n from h3]
    refine R2.icmp_ge 58 hd (by decide) (fun c14 => absurd c14 (nI_ge (by omega) (by omega))) (fun c14 => ?_)
    refine R2.B (ls2 := [some (.ref 48), none, some (.int acc), some (.int (nI p))]) (st2 := [.int (nI p), .ref 56, .int acc]) b_X11_home_17_23 rfl (fun hd => ?_)
    refine R2.iald p rfl hd rfl (fun _ => rfl) (by decide) (by omega) ?_
    refine R2.B (ls2 := [some (.ref 48), none, some (.int acc), some (.int (nI p))]) (st2 := [.int (nI p), .ref 55, .int (F 56 p), .int acc]) b_X11_home_24_29 rfl (fun hd => ?_)
    refine R2.iald p rfl hd rfl (fun _ => rfl) (by decide) (by omega) ?_
    refine R2.B (ls2 := [some (.ref 48), none, some (.int acc), some (.int (nI p))]) (st2 := [.int (F 55 p), .int (F 56 p), .int acc]) b_X11_home_30_30 rfl (fun hd => ?_)
    refine R2.icmp_ne 37 hd (by decide) (fun c30 => ?_) (fun c30 => ?_)
    · refine R2.B (ls2 := [some (.ref 48), none, some (.int (acc + 1)), some (.int (nI p))]) (st2 := [.int (nI p), .ref 55, .int (nI p), .ref 56]) b_X11_home_37_50 rfl (fun hd => ?_)
      refine R2.iald p rfl hd rfl (fun _ => rfl) (by decide) (by omega) ?_
      refine R2.B (ls2 := [some (.ref 48), none, some (.int (acc + 1)), some (.int (nI p))]) (st2 := [.int (F 55 p), .int (nI p), .ref 56]) b_X11_home_51_51 rfl (fun hd => ?_)
      refine R2.iast p rfl hd (by decide) rfl (fun _ => rfl) (by decide) (by omega) ?_
      refine R2.B (ls2 := [some (.ref 48), none, some (.int (acc + 1)), some (.int ((nI p) + 1))]) (st2 := []) b_X11_home_52_9 rfl (fun hd => ?_)
      rw [show ((nI p) + 1 : Int32) = nI (p + 1) from nI_add p 1]
      have e : mhL (k + 1) p acc F = mhL k (p + 1) (acc + 1) (up2 F 56 p (F 55 p)) := by
        simp only [mhL]; first | rw [if_pos c30] | rw [if_neg c30]
      rw [e]
      exact ih (p + 1) _ _ (by omega) h3
    · refine R2.B (ls2 := [some (.ref 48), none, some (.int (acc + 0)), some (.int (nI p))]) (st2 := [.int (nI p), .ref 55, .int (nI p), .ref 56]) b_X11_home_33_50 rfl (fun hd => ?_)
      refine R2.iald p rfl hd rfl (fun _ => rfl) (by decide) (by omega) ?_
      refine R2.B (ls2 := [some (.ref 48), none, some (.int (acc + 0)), some (.int (nI p))]) (st2 := [.int (F 55 p), .int (nI p), .ref 56]) b_X11_home_51_51 rfl (fun hd => ?_)
      refine R2.iast p rfl hd (by decide) rfl (fun _ => rfl) (by decide) (by omega) ?_
      refine R2.B (ls2 := [some (.ref 48), none, some (.int (acc + 0)), some (.int ((nI p) + 1))]) (st2 := []) b_X11_home_52_9 rfl (fun hd => ?_)
      rw [show ((nI p) + 1 : Int32) = nI (p + 1) from nI_add p 1]
      have e : mhL (k + 1) p acc F = mhL k (p + 1) (acc + 0) (up2 F 56 p (F 55 p)) := by
        simp only [mhL]; first | rw [if_pos c30] | rw [if_neg c30]
      rw [e]
      exact ih (p + 1) _ _ (by omega) h3
theorem b_X11_home_0_1 : bl2 mX11_home 0 [(.aload_n 0, 1, 0, 0, .null)] 1 (.invokevirtual 116) 3 = true := by decide +kernel
theorem b_X11_home_4_9 : bl2 mX11_home 4 [(.istore_n 1, 1, 1, 0, .null), (.iconst 0, 1, 0, 0, .int 0), (.istore_n 2, 1, 2, 0, .null), (.iconst 0, 1, 0, 0, .int 0), (.istore_n 3, 1, 3, 0, .null)] 9 (.iload_n 3) 1 = true := by decide +kernel
set_option maxRecDepth 20000 in
set_option maxHeartbeats 1000000 in
theorem me_home (E : EE) (L : Nat) (F : FF) (l n : Nat) (hm : MR F l n) : Ev3 E L 6 mX11_home [.ref 48] F (some (.int (mhL n 0 0 F).1)) (mhL n 0 0 F).2 := by
  refine Ev3.of okX11_home.2.2.1 (Nat.le_of_ble_eq_true rfl) ?_
  show R2 E L mX11_home 6 0 [some (.ref 48), none, none, none] [] F _
  refine R2.B (ls2 := [some (.ref 48), none, none, none]) (st2 := [.ref 48]) b_X11_home_0_1 rfl (fun hd => ?_)
  refine R2.callV3 (M2 := mX11_reads) (As := []) (rest := []) hd lk_11_116 okX11_reads (by decide) rfl (me_reads E L F l n hm) (by decide) rfl rfl (Nat.le_of_ble_eq_true rfl) ?_
  refine R2.B (ls2 := [some (.ref 48), some (.int ((rds F l).1)), some (.int 0), some (.int 0)]) (st2 := []) b_X11_home_4_9 rfl (fun hd => ?_)
  refine R2.forget (ls2 := [some (.ref 48), none, some (.int 0), some (.int 0)]) ⟨rfl, ⟨rfl, ⟨rfl, trivial⟩⟩⟩ ?_
  exact ml_home E L n hm.2.2.1 n 0 0 F (by omega) hm.2.2.2.1
