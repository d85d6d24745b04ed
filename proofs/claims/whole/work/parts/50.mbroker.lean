/-! The reference: broker, both. Printed by wip/whole/gen/spec24.py. -/
def bi4 : Nat → Nat → FF → FF
  | 0, _, F => F
  | k + 1, t, F => bi4 k (t + 1) (up2 (up2 F 67 t (-1)) 68 t 100)
def askM (F : FF) (tr : Int32) (t : Nat) (pr : Int32) : FF :=
  up2 (up2 F 67 t (if tr = 1 ∧ ¬ pr ≤ F 67 t then pr else F 67 t)) 68 t (if tr = 0 ∧ ¬ F 68 t ≤ pr then pr else F 68 t)
def stayM (F : FF) (t : Nat) : FF := up2 (up2 F 67 t (F 67 t)) 68 t (F 68 t)
def gMM (D C : Nat → Int32) (t : Nat) : Int32 := if ¬ D t ≤ C t then D t - C t else 0
def mrM (D C : Nat → Int32) : Int32 := sumI (gMM D C) 4 0 0
def asD (D : Nat → Int32) (tr : Int32) (t : Nat) (pr : Int32) : Nat → Int32 := if tr = 1 ∧ ¬ pr ≤ D t then up1 D t pr else D
def asC (C : Nat → Int32) (tr : Int32) (t : Nat) (pr : Int32) : Nat → Int32 := if tr = 0 ∧ ¬ C t ≤ pr then up1 C t pr else C
def pmL (K T P X al : Nat → Int32) (due clr sp : Int32) : Nat → Nat → (Nat → Int32) → (Nat → Int32) → Int32
  | 0, _, D, C => mrM D C
  | k + 1, p, D, C => if awy sp (X p) < clr then 0
    else if awy sp (X p) = due ∧ al p = 1 then pmL K T P X al due clr sp k (p + 1) (asD D (K p) (T p).toNatClampNeg (P p)) (asC C (K p) (T p).toNatClampNeg (P p))
    else pmL K T P X al due clr sp k (p + 1) D C
def mPf (F : FF) (n : Nat) (sp : Int32) : Int32 := pmL (F 52) (F 53) (F 54) (F 57) (F 66) (F 51 0 * F 51 0) (F 51 1 * F 51 1) sp n 0 (fun j => if j < 4 then -1 else F 67 j) (fun j => if j < 4 then 100 else F 68 j)
def ThM (F : FF) (n : Nat) : Prop := ∀ p, p < n → ∃ t : Nat, t < 4 ∧ F 53 p = nI t
theorem bi4_row {x : Nat} (h1 : x ≠ 67) (h2 : x ≠ 68) : ∀ (k t : Nat) (F : FF), bi4 k t F x = F x
  | 0, _, _ => rfl
  | k + 1, t, F => by rw [bi4, bi4_row h1 h2 k, up2_row h2, up2_row h1]
theorem bi4_at : ∀ (k t : Nat) (F : FF) (j : Nat), bi4 k t F 67 j = (if t ≤ j ∧ j < t + k then -1 else F 67 j) ∧ bi4 k t F 68 j = (if t ≤ j ∧ j < t + k then 100 else F 68 j)
  | 0, t, F, j => by rw [if_neg (by omega), if_neg (by omega)]; exact ⟨rfl, rfl⟩
  | k + 1, t, F, j => by
    rw [bi4, (bi4_at k (t + 1) _ j).1, (bi4_at k (t + 1) _ j).2]
    by_cases h : j = t
    · subst h; constructor
      · rw [if_neg (by omega), if_pos (by omega)]; simp [up2]
      · rw [if_neg (by omega), if_pos (by omega)]; simp [up2]
    · rw [show up2 (up2 F 67 t (-1)) 68 t 100 67 j = F 67 j by simp [up2, h], show up2 (up2 F 67 t (-1)) 68 t 100 68 j = F 68 j by simp [up2, h]]
      by_cases h2 : t + 1 ≤ j ∧ j < t + 1 + k
      · constructor
        · rw [if_pos h2, if_pos (by omega)]
        · rw [if_pos h2, if_pos (by omega)]
      · constructor
        · rw [if_neg h2, if_neg (by omega)]
        · rw [if_neg h2, if_neg (by omega)]
theorem up1_id {D : Nat → Int32} {t : Nat} : up1 D t (D t) = D := by funext j; unfold up1; split <;> simp [*]
theorem askM_67 {F : FF} {tr pr : Int32} {t : Nat} : askM F tr t pr 67 = asD (F 67) tr t pr := by
  unfold askM asD
  rw [up2_row (by decide)]
  by_cases h : tr = 1 ∧ ¬ pr ≤ F 67 t
  · rw [if_pos h, if_pos h]; rfl
  · rw [if_neg h, if_neg h, up2_id _ _ _ rfl]
theorem askM_68 {F : FF} {tr pr : Int32} {t : Nat} : askM F tr t pr 68 = asC (F 68) tr t pr := by
  unfold askM asC
  by_cases h : tr = 0 ∧ ¬ F 68 t ≤ pr
  · rw [if_pos h, if_pos h]; rfl
  · rw [if_neg h, if_neg h, up2_id _ 68 t (by rw [up2_row (by decide)]), up2_row (by decide)]
theorem askM_row {F : FF} {tr pr : Int32} {t a : Nat} (h1 : a ≠ 67) (h2 : a ≠ 68) : askM F tr t pr a = F a := by unfold askM; rw [up2_row h2, up2_row h1]
theorem stayM_eq (F : FF) (t : Nat) : stayM F t = F := by unfold stayM; rw [up2_id _ _ _ rfl, up2_id _ _ _ rfl]
theorem b_X11_brokes_2_4 : bl2 mX11_brokes 2 [(.iload_n 2, 1, 2, 0, .null), (.iconst 4, 1, 0, 0, .int 4)] 4 (.if_icmp .ge 24) 3 = true := by decide +kernel
theorem b_X11_brokes_28_28 : bl2 mX11_brokes 28 [] 28 (.iconst 0) 1 = true := by decide +kernel
theorem b_X11_brokes_7_13 : bl2 mX11_brokes 7 [(.aload_n 0, 1, 0, 0, .null), (.getfield 64, 3, 11, 24, .null), (.iload_n 2, 1, 2, 0, .null), (.iconst (-1), 1, 0, 0, .int (-1))] 13 (.iastore) 1 = true := by decide +kernel
theorem b_X11_brokes_14_21 : bl2 mX11_brokes 14 [(.aload_n 0, 1, 0, 0, .null), (.getfield 67, 3, 11, 25, .null), (.iload_n 2, 1, 2, 0, .null), (.bipush 100, 2, 0, 0, .int 100)] 21 (.iastore) 1 = true := by decide +kernel
theorem b_X11_brokes_22_2 : bl2 mX11_brokes 22 [(.iinc 2 1, 3, 2, 0, .int 1), (.goto (-23), 3, 2, 0, .null)] 2 (.iload_n 2) 1 = true := by decide +kernel
set_option maxRecDepth 20000 in
set_option maxHeartbeats 2000000 in
theorem ml_bi (E : EE) (L : Nat) (sp : Int32) (Q : Q2) : ∀ (k : Nat) (t : Nat) (F : FF), t + k = 4 → R2 E L mX11_brokes 3 28 [some (.ref 48), some (.int sp), none, none, none] [] (bi4 k t F) Q → R2 E L mX11_brokes 3 2 [some (.ref 48), some (.int sp), some (.int (nI t)), none, none] [] F Q := by
  intro k
  induction k with
  | zero =>
    intro t F hi ex
    refine R2.B (ls2 := [some (.ref 48), some (.int sp), some (.int (nI t)), none, none]) (st2 := [.int 4, .int (nI t)]) b_X11_brokes_2_4 rfl (fun hd => ?_)
    refine R2.icmp_ge 28 hd (by decide) (fun c4 => ?_) (fun c4 => absurd (nI_le (a := 4) (by omega) (by omega)) c4)
    refine R2.B (ls2 := [some (.ref 48), some (.int sp), some (.int (nI t)), none, none]) (st2 := []) b_X11_brokes_28_28 rfl (fun hd => ?_)
    refine R2.forget (ls2 := [some (.ref 48), some (.int sp), none, none, none]) ⟨rfl, ⟨rfl, trivial⟩⟩ ?_
    exact ex
  | succ k ih =>
    intro t F hi ex
    refine R2.B (ls2 := [some (.ref 48), some (.int sp), some (.int (nI t)), none, none]) (st2 := [.int 4, .int (nI t)]) b_X11_brokes_2_4 rfl (fun hd => ?_)
    refine R2.icmp_ge 28 hd (by decide) (fun c4 => absurd c4 (nI_ge (b := 4) (by omega) (by omega))) (fun c4 => ?_)
    refine R2.B (ls2 := [some (.ref 48), some (.int sp), some (.int (nI t)), none, none]) (st2 := [.int (-1), .int (nI t), .ref 67]) b_X11_brokes_7_13 rfl (fun hd => ?_)
    refine R2.iast t rfl hd (by decide) rfl (fun _ => rfl) (by decide) (by omega) ?_
    refine R2.B (ls2 := [some (.ref 48), some (.int sp), some (.int (nI t)), none, none]) (st2 := [.int 100, .int (nI t), .ref 68]) b_X11_brokes_14_21 rfl (fun hd => ?_)
    refine R2.iast t rfl hd (by decide) rfl (fun _ => rfl) (by decide) (by omega) ?_
    refine R2.B (ls2 := [some (.ref 48), some (.int sp), some (.int ((nI t) + 1)), none, none]) (st2 := []) b_X11_brokes_22_2 rfl (fun hd => ?_)
    rw [show ((nI t) + 1 : Int32) = nI (t + 1) from nI_add t 1]
    exact ih (t + 1) _ (by omega) ex
theorem b_X11_brokes_215_217 : bl2 mX11_brokes 215 [(.iload_n 3, 1, 3, 0, .null), (.iconst 4, 1, 0, 0, .int 4)] 217 (.if_icmp .ge 44) 3 = true := by decide +kernel
theorem b_X11_brokes_261_262 : bl2 mX11_brokes 261 [(.iload_n 2, 1, 2, 0, .null)] 262 (.ireturn) 1 = true := by decide +kernel
theorem b_X11_brokes_220_226 : bl2 mX11_brokes 220 [(.iload_n 2, 1, 2, 0, .null), (.aload_n 0, 1, 0, 0, .null), (.getfield 64, 3, 11, 24, .null), (.iload_n 3, 1, 3, 0, .null)] 226 (.iaload) 1 = true := by decide +kernel
theorem b_X11_brokes_227_232 : bl2 mX11_brokes 227 [(.aload_n 0, 1, 0, 0, .null), (.getfield 67, 3, 11, 25, .null), (.iload_n 3, 1, 3, 0, .null)] 232 (.iaload) 1 = true := by decide +kernel
theorem b_X11_brokes_233_233 : bl2 mX11_brokes 233 [] 233 (.if_icmp .le 19) 3 = true := by decide +kernel
theorem b_X11_brokes_252_215 : bl2 mX11_brokes 252 [(.iconst 0, 1, 0, 0, .int 0), (.iadd, 1, 0, 0, .null), (.istore_n 2, 1, 2, 0, .null), (.iinc 3 1, 3, 3, 0, .int 1), (.goto (-43), 3, 215, 0, .null)] 215 (.iload_n 3) 1 = true := by decide +kernel
theorem b_X11_brokes_236_241 : bl2 mX11_brokes 236 [(.aload_n 0, 1, 0, 0, .null), (.getfield 64, 3, 11, 24, .null), (.iload_n 3, 1, 3, 0, .null)] 241 (.iaload) 1 = true := by decide +kernel
theorem b_X11_brokes_242_247 : bl2 mX11_brokes 242 [(.aload_n 0, 1, 0, 0, .null), (.getfield 67, 3, 11, 25, .null), (.iload_n 3, 1, 3, 0, .null)] 247 (.iaload) 1 = true := by decide +kernel
theorem b_X11_brokes_248_215 : bl2 mX11_brokes 248 [(.isub, 1, 0, 0, .null), (.goto 4, 3, 253, 0, .null), (.iadd, 1, 0, 0, .null), (.istore_n 2, 1, 2, 0, .null), (.iinc 3 1, 3, 3, 0, .int 1), (.goto (-43), 3, 215, 0, .null)] 215 (.iload_n 3) 1 = true := by decide +kernel
set_option maxRecDepth 20000 in
set_option maxHeartbeats 2000000 in
theorem ml_mg (E : EE) (L : Nat) (F : FF) (sp : Int32) : ∀ (k : Nat) (t : Nat) (acc : Int32), t + k = 4 → R2 E L mX11_brokes 3 215 [some (.ref 48), some (.int sp), some (.int acc), some (.int (nI t)), none] [] F (fun r' F' => r' = some (.int (sumI (gMM (F 67) (F 68)) k t acc)) ∧ F' = F) := by
  intro k
  induction k with
  | zero =>
    intro t acc hi
    refine R2.B (ls2 := [some (.ref 48), some (.int sp), some (.int acc), some (.int (nI t)), none]) (st2 := [.int 4, .int (nI t)]) b_X11_brokes_215_217 rfl (fun hd => ?_)
    refine R2.icmp_ge 261 hd (by decide) (fun c217 => ?_) (fun c217 => absurd (nI_le (a := 4) (by omega) (by omega)) c217)
    refine R2.B (ls2 := [some (.ref 48), some (.int sp), some (.int acc), some (.int (nI t)), none]) (st2 := [.int acc]) b_X11_brokes_261_262 rfl (fun hd => ?_)
    exact R2.ret3 (r := some (.int acc)) hd trivial rfl rfl rfl
  | succ k ih =>
    intro t acc hi
    refine R2.B (ls2 := [some (.ref 48), some (.int sp), some (.int acc), some (.int (nI t)), none]) (st2 := [.int 4, .int (nI t)]) b_X11_brokes_215_217 rfl (fun hd => ?_)
    refine R2.icmp_ge 261 hd (by decide) (fun c217 => absurd c217 (nI_ge (b := 4) (by omega) (by omega))) (fun c217 => ?_)
    refine R2.B (ls2 := [some (.ref 48), some (.int sp), some (.int acc), some (.int (nI t)), none]) (st2 := [.int (nI t), .ref 67, .int acc]) b_X11_brokes_220_226 rfl (fun hd => ?_)
    refine R2.iald t rfl hd rfl (fun _ => rfl) (by decide) (by omega) ?_
    refine R2.B (ls2 := [some (.ref 48), some (.int sp), some (.int acc), some (.int (nI t)), none]) (st2 := [.int (nI t), .ref 68, .int (F 67 t), .int acc]) b_X11_brokes_227_232 rfl (fun hd => ?_)
    refine R2.iald t rfl hd rfl (fun _ => rfl) (by decide) (by omega) ?_
    refine R2.B (ls2 := [some (.ref 48), some (.int sp), some (.int acc), some (.int (nI t)), none]) (st2 := [.int (F 68 t), .int (F 67 t), .int acc]) b_X11_brokes_233_233 rfl (fun hd => ?_)
    refine R2.icmp_le 252 hd (by decide) (fun c233 => ?_) (fun c233 => ?_)
    · refine R2.B (ls2 := [some (.ref 48), some (.int sp), some (.int (acc + 0)), some (.int ((nI t) + 1)), none]) (st2 := []) b_X11_brokes_252_215 rfl (fun hd => ?_)
      rw [show ((nI t) + 1 : Int32) = nI (t + 1) from nI_add t 1]
      rw [show sumI (gMM (F 67) (F 68)) (k + 1) t acc = sumI (gMM (F 67) (F 68)) k (t + 1) (acc + 0) from (by simp only [sumI, gMM]; rw [if_neg (fun z => z c233)])]
      refine R2.forget (ls2 := [some (.ref 48), some (.int sp), some (.int (acc + 0)), some (.int (nI (t + 1))), none]) ⟨rfl, ⟨rfl, ⟨rfl, ⟨rfl, trivial⟩⟩⟩⟩ ?_
      exact ih (t + 1) _ (by omega)
    · refine R2.B (ls2 := [some (.ref 48), some (.int sp), some (.int acc), some (.int (nI t)), none]) (st2 := [.int (nI t), .ref 67, .int acc]) b_X11_brokes_236_241 rfl (fun hd => ?_)
      refine R2.iald t rfl hd rfl (fun _ => rfl) (by decide) (by omega) ?_
      refine R2.B (ls2 := [some (.ref 48), some (.int sp), some (.int acc), some (.int (nI t)), none]) (st2 := [.int (nI t), .ref 68, .int (F 67 t), .int acc]) b_X11_brokes_242_247 rfl (fun hd => ?_)
      refine R2.iald t rfl hd rfl (fun _ => rfl) (by decide) (by omega) ?_
      refine R2.B (ls2 := [some (.ref 48), some (.int sp), some (.int (acc + ((F 67 t) - (F 68 t)))), some (.int ((nI t) + 1)), none]) (st2 := []) b_X11_brokes_248_215 rfl (fun hd => ?_)
      rw [show ((nI t) + 1 : Int32) = nI (t + 1) from nI_add t 1]
      rw [show sumI (gMM (F 67) (F 68)) (k + 1) t acc = sumI (gMM (F 67) (F 68)) k (t + 1) (acc + ((F 67 t) - (F 68 t))) from (by simp only [sumI, gMM]; rw [if_pos c233])]
      refine R2.forget (ls2 := [some (.ref 48), some (.int sp), some (.int (acc + ((F 67 t) - (F 68 t)))), some (.int (nI (t + 1))), none]) ⟨rfl, ⟨rfl, ⟨rfl, ⟨rfl, trivial⟩⟩⟩⟩ ?_
      exact ih (t + 1) _ (by omega)
theorem R2.post2 {E : EE} {L : Nat} {M : MTy} {d pc : Nat} {ls : List (Option Value)} {st : List Value} {F : FF} {Q Q' : Q2} (h : R2 E L M d pc ls st F Q) (hq : ∀ r F, Q r F → Q' r F) : R2 E L M d pc ls st F Q' :=
  Rn.post h (fun r sh G ⟨F1, e1, e2, h1⟩ => ⟨F1, e1, e2, hq r F1 h1⟩)
theorem b_X11_brokes_30_35 : bl2 mX11_brokes 30 [(.iload_n 2, 1, 2, 0, .null), (.aload_n 0, 1, 0, 0, .null), (.getfield 101, 3, 11, 3, .null)] 35 (.if_icmp .ge 176) 3 = true := by decide +kernel
theorem b_X11_brokes_211_215 : bl2 mX11_brokes 211 [(.iconst 0, 1, 0, 0, .int 0), (.istore_n 2, 1, 2, 0, .null), (.iconst 0, 1, 0, 0, .int 0), (.istore_n 3, 1, 3, 0, .null)] 215 (.iload_n 3) 1 = true := by decide +kernel
theorem b_X11_brokes_38_43 : bl2 mX11_brokes 38 [(.aload_n 0, 1, 0, 0, .null), (.getfield 22, 3, 11, 5, .null), (.iload_n 2, 1, 2, 0, .null)] 43 (.iaload) 1 = true := by decide +kernel
theorem b_X11_brokes_44_51 : bl2 mX11_brokes 44 [(.istore_n 3, 1, 3, 0, .null), (.iload_n 1, 1, 1, 0, .null), (.aload_n 0, 1, 0, 0, .null), (.getfield 34, 3, 11, 9, .null), (.iload_n 2, 1, 2, 0, .null)] 51 (.iaload) 1 = true := by decide +kernel
theorem b_X11_brokes_52_52 : bl2 mX11_brokes 52 [] 52 (.invokestatic 137) 3 = true := by decide +kernel
theorem b_X11_brokes_55_60 : bl2 mX11_brokes 55 [(.aload_n 0, 1, 0, 0, .null), (.getfield 16, 3, 11, 2, .null), (.iconst 1, 1, 0, 0, .int 1)] 60 (.iaload) 1 = true := by decide +kernel
theorem b_X11_brokes_61_66 : bl2 mX11_brokes 61 [(.aload_n 0, 1, 0, 0, .null), (.getfield 16, 3, 11, 2, .null), (.iconst 1, 1, 0, 0, .int 1)] 66 (.iaload) 1 = true := by decide +kernel
theorem b_X11_brokes_67_68 : bl2 mX11_brokes 67 [(.imul, 1, 0, 0, .null)] 68 (.if_icmp .ge 5) 3 = true := by decide +kernel
theorem b_X11_brokes_73_80 : bl2 mX11_brokes 73 [(.aload_n 0, 1, 0, 0, .null), (.iload_n 1, 1, 1, 0, .null), (.aload_n 0, 1, 0, 0, .null), (.getfield 34, 3, 11, 9, .null), (.iload_n 2, 1, 2, 0, .null)] 80 (.iaload) 1 = true := by decide +kernel
theorem b_X11_brokes_81_81 : bl2 mX11_brokes 81 [] 81 (.invokevirtual 229) 3 = true := by decide +kernel
theorem b_X11_brokes_84_84 : bl2 mX11_brokes 84 [] 84 (.ifCond .eq 17) 3 = true := by decide +kernel
theorem b_X11_brokes_101_111 : bl2 mX11_brokes 101 [(.iconst 0, 1, 0, 0, .int 0), (.istore 4, 2, 4, 0, .null), (.aload_n 0, 1, 0, 0, .null), (.getfield 64, 3, 11, 24, .null), (.iload_n 3, 1, 3, 0, .null), (.iload 4, 2, 4, 0, .null)] 111 (.ifCond .eq 37) 3 = true := by decide +kernel
theorem b_X11_brokes_148_153 : bl2 mX11_brokes 148 [(.aload_n 0, 1, 0, 0, .null), (.getfield 64, 3, 11, 24, .null), (.iload_n 3, 1, 3, 0, .null)] 153 (.iaload) 1 = true := by decide +kernel
theorem b_X11_brokes_154_154 : bl2 mX11_brokes 154 [] 154 (.iastore) 1 = true := by decide +kernel
theorem b_X11_brokes_155_162 : bl2 mX11_brokes 155 [(.aload_n 0, 1, 0, 0, .null), (.getfield 67, 3, 11, 25, .null), (.iload_n 3, 1, 3, 0, .null), (.iload 4, 2, 4, 0, .null)] 162 (.ifCond .eq 36) 3 = true := by decide +kernel
theorem b_X11_brokes_198_203 : bl2 mX11_brokes 198 [(.aload_n 0, 1, 0, 0, .null), (.getfield 67, 3, 11, 25, .null), (.iload_n 3, 1, 3, 0, .null)] 203 (.iaload) 1 = true := by decide +kernel
theorem b_X11_brokes_204_204 : bl2 mX11_brokes 204 [] 204 (.iastore) 1 = true := by decide +kernel
theorem b_X11_brokes_205_30 : bl2 mX11_brokes 205 [(.iinc 2 1, 3, 2, 0, .int 1), (.goto (-178), 3, 30, 0, .null)] 30 (.iload_n 2) 1 = true := by decide +kernel
theorem b_X11_brokes_87_92 : bl2 mX11_brokes 87 [(.aload_n 0, 1, 0, 0, .null), (.getfield 61, 3, 11, 23, .null), (.iload_n 2, 1, 2, 0, .null)] 92 (.iaload) 1 = true := by decide +kernel
theorem b_X11_brokes_93_94 : bl2 mX11_brokes 93 [(.iconst 1, 1, 0, 0, .int 1)] 94 (.if_icmp .ne 7) 3 = true := by decide +kernel
theorem b_X11_brokes_97_111 : bl2 mX11_brokes 97 [(.iconst 1, 1, 0, 0, .int 1), (.goto 4, 3, 102, 0, .null), (.istore 4, 2, 4, 0, .null), (.aload_n 0, 1, 0, 0, .null), (.getfield 64, 3, 11, 24, .null), (.iload_n 3, 1, 3, 0, .null), (.iload 4, 2, 4, 0, .null)] 111 (.ifCond .eq 37) 3 = true := by decide +kernel
theorem b_X11_brokes_114_119 : bl2 mX11_brokes 114 [(.aload_n 0, 1, 0, 0, .null), (.getfield 19, 3, 11, 4, .null), (.iload_n 2, 1, 2, 0, .null)] 119 (.iaload) 1 = true := by decide +kernel
theorem b_X11_brokes_120_121 : bl2 mX11_brokes 120 [(.iconst 1, 1, 0, 0, .int 1)] 121 (.if_icmp .ne 27) 3 = true := by decide +kernel
theorem b_X11_brokes_165_170 : bl2 mX11_brokes 165 [(.aload_n 0, 1, 0, 0, .null), (.getfield 19, 3, 11, 4, .null), (.iload_n 2, 1, 2, 0, .null)] 170 (.iaload) 1 = true := by decide +kernel
theorem b_X11_brokes_171_171 : bl2 mX11_brokes 171 [] 171 (.ifCond .ne 27) 3 = true := by decide +kernel
theorem b_X11_brokes_174_179 : bl2 mX11_brokes 174 [(.aload_n 0, 1, 0, 0, .null), (.getfield 25, 3, 11, 6, .null), (.iload_n 2, 1, 2, 0, .null)] 179 (.iaload) 1 = true := by decide +kernel
theorem b_X11_brokes_180_185 : bl2 mX11_brokes 180 [(.aload_n 0, 1, 0, 0, .null), (.getfield 67, 3, 11, 25, .null), (.iload_n 3, 1, 3, 0, .null)] 185 (.iaload) 1 = true := by decide +kernel
theorem b_X11_brokes_186_186 : bl2 mX11_brokes 186 [] 186 (.if_icmp .ge 12) 3 = true := by decide +kernel
theorem b_X11_brokes_189_194 : bl2 mX11_brokes 189 [(.aload_n 0, 1, 0, 0, .null), (.getfield 25, 3, 11, 6, .null), (.iload_n 2, 1, 2, 0, .null)] 194 (.iaload) 1 = true := by decide +kernel
theorem b_X11_brokes_195_204 : bl2 mX11_brokes 195 [(.goto 9, 3, 204, 0, .null)] 204 (.iastore) 1 = true := by decide +kernel
theorem b_X11_brokes_124_129 : bl2 mX11_brokes 124 [(.aload_n 0, 1, 0, 0, .null), (.getfield 25, 3, 11, 6, .null), (.iload_n 2, 1, 2, 0, .null)] 129 (.iaload) 1 = true := by decide +kernel
theorem b_X11_brokes_130_135 : bl2 mX11_brokes 130 [(.aload_n 0, 1, 0, 0, .null), (.getfield 64, 3, 11, 24, .null), (.iload_n 3, 1, 3, 0, .null)] 135 (.iaload) 1 = true := by decide +kernel
theorem b_X11_brokes_136_136 : bl2 mX11_brokes 136 [] 136 (.if_icmp .le 12) 3 = true := by decide +kernel
theorem b_X11_brokes_139_144 : bl2 mX11_brokes 139 [(.aload_n 0, 1, 0, 0, .null), (.getfield 25, 3, 11, 6, .null), (.iload_n 2, 1, 2, 0, .null)] 144 (.iaload) 1 = true := by decide +kernel
theorem b_X11_brokes_145_154 : bl2 mX11_brokes 145 [(.goto 9, 3, 154, 0, .null)] 154 (.iastore) 1 = true := by decide +kernel
theorem b_X11_brokes_71_72 : bl2 mX11_brokes 71 [(.iconst 0, 1, 0, 0, .int 0)] 72 (.ireturn) 1 = true := by decide +kernel
set_option maxRecDepth 20000 in
set_option maxHeartbeats 2000000 in
theorem ml_bk (E : EE) (L : Nat) (F0 : FF) (n : Nat) (hn : F0 48 3 = nI n) (hn10 : n ≤ 10) (hth : ThM F0 n) (sp : Int32) : ∀ (k : Nat) (p : Nat) (F : FF), p + k = n → (∀ a, a ≠ 67 → a ≠ 68 → F a = F0 a) → R2 E L mX11_brokes 3 30 [some (.ref 48), some (.int sp), some (.int (nI p)), none, none] [] F (fun r' F' => r' = some (.int (pmL (F0 52) (F0 53) (F0 54) (F0 57) (F0 66) (F0 51 0 * F0 51 0) (F0 51 1 * F0 51 1) sp k p (F 67) (F 68))) ∧ ∀ a, a ≠ 67 → a ≠ 68 → F' a = F0 a) := by
  intro k
  induction k with
  | zero =>
    intro p F hi hs
    refine R2.B (ls2 := [some (.ref 48), some (.int sp), some (.int (nI p)), none, none]) (st2 := [.int (F 48 3), .int (nI p)]) b_X11_brokes_30_35 rfl (fun hd => ?_)
    rw [show (F 48 3 : Int32) = nI n from ((congrFun (hs 48 (by decide) (by decide)) 3).trans hn)]
    refine R2.icmp_ge 211 hd (by decide) (fun c35 => ?_) (fun c35 => absurd (nI_le (by omega) (by omega)) c35)
    refine R2.B (ls2 := [some (.ref 48), some (.int sp), some (.int 0), some (.int 0), none]) (st2 := []) b_X11_brokes_211_215 rfl (fun hd => ?_)
    refine (ml_mg E L F sp 4 0 0 (by omega)).post2 (fun r1 F1 h => ?_)
    exact ⟨h.1, fun a h1 h2 => by rw [h.2]; exact hs a h1 h2⟩
  | succ k ih =>
    intro p F hi hs
    obtain ⟨t, ht, et⟩ := hth p (by omega)
    refine R2.B (ls2 := [some (.ref 48), some (.int sp), some (.int (nI p)), none, none]) (st2 := [.int (F 48 3), .int (nI p)]) b_X11_brokes_30_35 rfl (fun hd => ?_)
    rw [show (F 48 3 : Int32) = nI n from ((congrFun (hs 48 (by decide) (by decide)) 3).trans hn)]
    refine R2.icmp_ge 211 hd (by decide) (fun c35 => absurd c35 (nI_ge (by omega) (by omega))) (fun c35 => ?_)
    refine R2.B (ls2 := [some (.ref 48), some (.int sp), some (.int (nI p)), none, none]) (st2 := [.int (nI p), .ref 53]) b_X11_brokes_38_43 rfl (fun hd => ?_)
    refine R2.iald p rfl hd rfl (fun _ => rfl) (by decide) (by omega) ?_
    refine R2.top (show (F 53 p : Int32) = nI t from ((congrFun (hs 53 (by decide) (by decide)) p).trans et)) ?_
    refine R2.B (ls2 := [some (.ref 48), some (.int sp), some (.int (nI p)), some (.int (nI t)), none]) (st2 := [.int (nI p), .ref 57, .int sp]) b_X11_brokes_44_51 rfl (fun hd => ?_)
    refine R2.iald p rfl hd rfl (fun _ => rfl) (by decide) (by omega) ?_
    refine R2.top (show (F 57 p : Int32) = F0 57 p from (by rw [hs 57 (by decide) (by decide)])) ?_
    refine R2.B (ls2 := [some (.ref 48), some (.int sp), some (.int (nI p)), some (.int (nI t)), none]) (st2 := [.int (F0 57 p), .int sp]) b_X11_brokes_52_52 rfl (fun hd => ?_)
    refine R2.callS3 (M2 := mX11_awayBy) (As := [.int sp, .int (F0 57 p)]) (rest := []) hd lk_11_137 okX11_awayBy (by decide) (me_awayBy E L F sp (F0 57 p)) (by decide) rfl rfl (Nat.le_of_ble_eq_true rfl) ?_
    refine R2.B (ls2 := [some (.ref 48), some (.int sp), some (.int (nI p)), some (.int (nI t)), none]) (st2 := [.int 1, .ref 51, .int (awy sp (F0 57 p))]) b_X11_brokes_55_60 rfl (fun hd => ?_)
    refine R2.iald 1 rfl hd rfl (fun _ => rfl) (by decide) (by omega) ?_
    refine R2.top (show (F 51 1 : Int32) = F0 51 1 from (by rw [hs 51 (by decide) (by decide)])) ?_
    refine R2.B (ls2 := [some (.ref 48), some (.int sp), some (.int (nI p)), some (.int (nI t)), none]) (st2 := [.int 1, .ref 51, .int (F0 51 1), .int (awy sp (F0 57 p))]) b_X11_brokes_61_66 rfl (fun hd => ?_)
    refine R2.iald 1 rfl hd rfl (fun _ => rfl) (by decide) (by omega) ?_
    refine R2.top (show (F 51 1 : Int32) = F0 51 1 from (by rw [hs 51 (by decide) (by decide)])) ?_
    refine R2.B (ls2 := [some (.ref 48), some (.int sp), some (.int (nI p)), some (.int (nI t)), none]) (st2 := [.int ((F0 51 1) * (F0 51 1)), .int (awy sp (F0 57 p))]) b_X11_brokes_67_68 rfl (fun hd => ?_)
    refine R2.icmp_ge 73 hd (by decide) (fun c68 => ?_) (fun c68 => ?_)
    · refine R2.B (ls2 := [some (.ref 48), some (.int sp), some (.int (nI p)), some (.int (nI t)), none]) (st2 := [.int (nI p), .ref 57, .int sp, .ref 48]) b_X11_brokes_73_80 rfl (fun hd => ?_)
      refine R2.iald p rfl hd rfl (fun _ => rfl) (by decide) (by omega) ?_
      refine R2.top (show (F 57 p : Int32) = F0 57 p from (by rw [hs 57 (by decide) (by decide)])) ?_
      refine R2.B (ls2 := [some (.ref 48), some (.int sp), some (.int (nI p)), some (.int (nI t)), none]) (st2 := [.int (F0 57 p), .int sp, .ref 48]) b_X11_brokes_81_81 rfl (fun hd => ?_)
      refine R2.callV3 (M2 := mX11_isDue) (As := [.int sp, .int (F0 57 p)]) (rest := []) hd lk_11_229 okX11_isDue (by decide) rfl ((show F 51 0 = F0 51 0 from (by rw [hs 51 (by decide) (by decide)])) ▸ me_isDue E L F sp (F0 57 p)) (by decide) rfl rfl (Nat.le_of_ble_eq_true rfl) ?_
      refine R2.B (ls2 := [some (.ref 48), some (.int sp), some (.int (nI p)), some (.int (nI t)), none]) (st2 := [.int (b2i (awy sp (F0 57 p) = F0 51 0 * F0 51 0))]) b_X11_brokes_84_84 rfl (fun hd => ?_)
      refine R2.if_eq 101 hd (by decide) (fun c84 => ?_) (fun c84 => ?_)
      · have nc84 : ¬ (awy sp (F0 57 p) = F0 51 0 * F0 51 0) := b2i_zero.mp c84
        refine R2.B (ls2 := [some (.ref 48), some (.int sp), some (.int (nI p)), some (.int (nI t)), some (.int 0)]) (st2 := [.int 0, .int (nI t), .ref 67]) b_X11_brokes_101_111 rfl (fun hd => ?_)
        refine R2.if_eq 148 hd (by decide) (fun c111 => ?_) (fun c111 => absurd (by decide) c111)
        refine R2.B (ls2 := [some (.ref 48), some (.int sp), some (.int (nI p)), some (.int (nI t)), some (.int 0)]) (st2 := [.int (nI t), .ref 67, .int (nI t), .ref 67]) b_X11_brokes_148_153 rfl (fun hd => ?_)
        refine R2.iald t rfl hd rfl (fun _ => rfl) (by decide) (by omega) ?_
        refine R2.B (ls2 := [some (.ref 48), some (.int sp), some (.int (nI p)), some (.int (nI t)), some (.int 0)]) (st2 := [.int (F 67 t), .int (nI t), .ref 67]) b_X11_brokes_154_154 rfl (fun hd => ?_)
        refine R2.iast t rfl hd (by decide) rfl (fun _ => rfl) (by decide) (by omega) ?_
        refine R2.B (ls2 := [some (.ref 48), some (.int sp), some (.int (nI p)), some (.int (nI t)), some (.int 0)]) (st2 := [.int 0, .int (nI t), .ref 68]) b_X11_brokes_155_162 rfl (fun hd => ?_)
        refine R2.if_eq 198 hd (by decide) (fun c162 => ?_) (fun c162 => absurd (by decide) c162)
        refine R2.B (ls2 := [some (.ref 48), some (.int sp), some (.int (nI p)), some (.int (nI t)), some (.int 0)]) (st2 := [.int (nI t), .ref 68, .int (nI t), .ref 68]) b_X11_brokes_198_203 rfl (fun hd => ?_)
        refine R2.iald t rfl hd rfl (fun _ => rfl) (by decide) (by omega) ?_
        refine R2.B (ls2 := [some (.ref 48), some (.int sp), some (.int (nI p)), some (.int (nI t)), some (.int 0)]) (st2 := [.int (F 68 t), .int (nI t), .ref 68]) b_X11_brokes_204_204 rfl (fun hd => ?_)
        refine R2.iast t rfl hd (by decide) rfl (fun _ => rfl) (by decide) (by omega) ?_
        refine R2.B (ls2 := [some (.ref 48), some (.int sp), some (.int ((nI p) + 1)), some (.int (nI t)), some (.int 0)]) (st2 := []) b_X11_brokes_205_30 rfl (fun hd => ?_)
        rw [show ((nI p) + 1 : Int32) = nI (p + 1) from nI_add p 1]
        refine R2.eqF (F2 := F) (stayM_eq F t) ?_
        rw [show pmL (F0 52) (F0 53) (F0 54) (F0 57) (F0 66) (F0 51 0 * F0 51 0) (F0 51 1 * F0 51 1) sp (k + 1) p (F 67) (F 68) = pmL (F0 52) (F0 53) (F0 54) (F0 57) (F0 66) (F0 51 0 * F0 51 0) (F0 51 1 * F0 51 1) sp k (p + 1) (F 67) (F 68) from (by simp only [pmL]; rw [if_neg (Int32.not_lt.mpr c68), if_neg (fun z => nc84 z.1)])]
        refine R2.forget (ls2 := [some (.ref 48), some (.int sp), some (.int (nI (p + 1))), none, none]) ⟨rfl, ⟨rfl, ⟨rfl, trivial⟩⟩⟩ ?_
        exact ih (p + 1) F (by omega) hs
      · have nc84 : awy sp (F0 57 p) = F0 51 0 * F0 51 0 := b2i_nz.mp c84
        refine R2.B (ls2 := [some (.ref 48), some (.int sp), some (.int (nI p)), some (.int (nI t)), none]) (st2 := [.int (nI p), .ref 66]) b_X11_brokes_87_92 rfl (fun hd => ?_)
        refine R2.iald p rfl hd rfl (fun _ => rfl) (by decide) (by omega) ?_
        refine R2.top (show (F 66 p : Int32) = F0 66 p from (by rw [hs 66 (by decide) (by decide)])) ?_
        refine R2.B (ls2 := [some (.ref 48), some (.int sp), some (.int (nI p)), some (.int (nI t)), none]) (st2 := [.int 1, .int (F0 66 p)]) b_X11_brokes_93_94 rfl (fun hd => ?_)
        refine R2.icmp_ne 101 hd (by decide) (fun c94 => ?_) (fun c94 => ?_)
        · refine R2.B (ls2 := [some (.ref 48), some (.int sp), some (.int (nI p)), some (.int (nI t)), some (.int 0)]) (st2 := [.int 0, .int (nI t), .ref 67]) b_X11_brokes_101_111 rfl (fun hd => ?_)
          refine R2.if_eq 148 hd (by decide) (fun c111 => ?_) (fun c111 => absurd (by decide) c111)
          refine R2.B (ls2 := [some (.ref 48), some (.int sp), some (.int (nI p)), some (.int (nI t)), some (.int 0)]) (st2 := [.int (nI t), .ref 67, .int (nI t), .ref 67]) b_X11_brokes_148_153 rfl (fun hd => ?_)
          refine R2.iald t rfl hd rfl (fun _ => rfl) (by decide) (by omega) ?_
          refine R2.B (ls2 := [some (.ref 48), some (.int sp), some (.int (nI p)), some (.int (nI t)), some (.int 0)]) (st2 := [.int (F 67 t), .int (nI t), .ref 67]) b_X11_brokes_154_154 rfl (fun hd => ?_)
          refine R2.iast t rfl hd (by decide) rfl (fun _ => rfl) (by decide) (by omega) ?_
          refine R2.B (ls2 := [some (.ref 48), some (.int sp), some (.int (nI p)), some (.int (nI t)), some (.int 0)]) (st2 := [.int 0, .int (nI t), .ref 68]) b_X11_brokes_155_162 rfl (fun hd => ?_)
          refine R2.if_eq 198 hd (by decide) (fun c162 => ?_) (fun c162 => absurd (by decide) c162)
          refine R2.B (ls2 := [some (.ref 48), some (.int sp), some (.int (nI p)), some (.int (nI t)), some (.int 0)]) (st2 := [.int (nI t), .ref 68, .int (nI t), .ref 68]) b_X11_brokes_198_203 rfl (fun hd => ?_)
          refine R2.iald t rfl hd rfl (fun _ => rfl) (by decide) (by omega) ?_
          refine R2.B (ls2 := [some (.ref 48), some (.int sp), some (.int (nI p)), some (.int (nI t)), some (.int 0)]) (st2 := [.int (F 68 t), .int (nI t), .ref 68]) b_X11_brokes_204_204 rfl (fun hd => ?_)
          refine R2.iast t rfl hd (by decide) rfl (fun _ => rfl) (by decide) (by omega) ?_
          refine R2.B (ls2 := [some (.ref 48), some (.int sp), some (.int ((nI p) + 1)), some (.int (nI t)), some (.int 0)]) (st2 := []) b_X11_brokes_205_30 rfl (fun hd => ?_)
          rw [show ((nI p) + 1 : Int32) = nI (p + 1) from nI_add p 1]
          refine R2.eqF (F2 := F) (stayM_eq F t) ?_
          rw [show pmL (F0 52) (F0 53) (F0 54) (F0 57) (F0 66) (F0 51 0 * F0 51 0) (F0 51 1 * F0 51 1) sp (k + 1) p (F 67) (F 68) = pmL (F0 52) (F0 53) (F0 54) (F0 57) (F0 66) (F0 51 0 * F0 51 0) (F0 51 1 * F0 51 1) sp k (p + 1) (F 67) (F 68) from (by simp only [pmL]; rw [if_neg (Int32.not_lt.mpr c68), if_neg (fun z => c94 z.2)])]
          refine R2.forget (ls2 := [some (.ref 48), some (.int sp), some (.int (nI (p + 1))), none, none]) ⟨rfl, ⟨rfl, ⟨rfl, trivial⟩⟩⟩ ?_
          exact ih (p + 1) F (by omega) hs
        · refine R2.B (ls2 := [some (.ref 48), some (.int sp), some (.int (nI p)), some (.int (nI t)), some (.int 1)]) (st2 := [.int 1, .int (nI t), .ref 67]) b_X11_brokes_97_111 rfl (fun hd => ?_)
          refine R2.if_eq 148 hd (by decide) (fun c111 => absurd c111 (by decide)) (fun c111 => ?_)
          refine R2.B (ls2 := [some (.ref 48), some (.int sp), some (.int (nI p)), some (.int (nI t)), some (.int 1)]) (st2 := [.int (nI p), .ref 52, .int (nI t), .ref 67]) b_X11_brokes_114_119 rfl (fun hd => ?_)
          refine R2.iald p rfl hd rfl (fun _ => rfl) (by decide) (by omega) ?_
          refine R2.top (show (F 52 p : Int32) = F0 52 p from (by rw [hs 52 (by decide) (by decide)])) ?_
          refine R2.B (ls2 := [some (.ref 48), some (.int sp), some (.int (nI p)), some (.int (nI t)), some (.int 1)]) (st2 := [.int 1, .int (F0 52 p), .int (nI t), .ref 67]) b_X11_brokes_120_121 rfl (fun hd => ?_)
          refine R2.icmp_ne 148 hd (by decide) (fun c121 => ?_) (fun c121 => ?_)
          · refine R2.B (ls2 := [some (.ref 48), some (.int sp), some (.int (nI p)), some (.int (nI t)), some (.int 1)]) (st2 := [.int (nI t), .ref 67, .int (nI t), .ref 67]) b_X11_brokes_148_153 rfl (fun hd => ?_)
            refine R2.iald t rfl hd rfl (fun _ => rfl) (by decide) (by omega) ?_
            refine R2.B (ls2 := [some (.ref 48), some (.int sp), some (.int (nI p)), some (.int (nI t)), some (.int 1)]) (st2 := [.int (F 67 t), .int (nI t), .ref 67]) b_X11_brokes_154_154 rfl (fun hd => ?_)
            refine R2.iast t rfl hd (by decide) rfl (fun _ => rfl) (by decide) (by omega) ?_
            refine R2.B (ls2 := [some (.ref 48), some (.int sp), some (.int (nI p)), some (.int (nI t)), some (.int 1)]) (st2 := [.int 1, .int (nI t), .ref 68]) b_X11_brokes_155_162 rfl (fun hd => ?_)
            refine R2.if_eq 198 hd (by decide) (fun c162 => absurd c162 (by decide)) (fun c162 => ?_)
            refine R2.B (ls2 := [some (.ref 48), some (.int sp), some (.int (nI p)), some (.int (nI t)), some (.int 1)]) (st2 := [.int (nI p), .ref 52, .int (nI t), .ref 68]) b_X11_brokes_165_170 rfl (fun hd => ?_)
            refine R2.iald p rfl hd rfl (fun _ => rfl) (by decide) (by omega) ?_
            refine R2.top (show (F 52 p : Int32) = F0 52 p from (by rw [hs 52 (by decide) (by decide)])) ?_
            refine R2.B (ls2 := [some (.ref 48), some (.int sp), some (.int (nI p)), some (.int (nI t)), some (.int 1)]) (st2 := [.int (F0 52 p), .int (nI t), .ref 68]) b_X11_brokes_171_171 rfl (fun hd => ?_)
            refine R2.if_ne 198 hd (by decide) (fun c171 => ?_) (fun c171 => ?_)
            · refine R2.B (ls2 := [some (.ref 48), some (.int sp), some (.int (nI p)), some (.int (nI t)), some (.int 1)]) (st2 := [.int (nI t), .ref 68, .int (nI t), .ref 68]) b_X11_brokes_198_203 rfl (fun hd => ?_)
              refine R2.iald t rfl hd rfl (fun _ => rfl) (by decide) (by omega) ?_
              refine R2.B (ls2 := [some (.ref 48), some (.int sp), some (.int (nI p)), some (.int (nI t)), some (.int 1)]) (st2 := [.int (F 68 t), .int (nI t), .ref 68]) b_X11_brokes_204_204 rfl (fun hd => ?_)
              refine R2.iast t rfl hd (by decide) rfl (fun _ => rfl) (by decide) (by omega) ?_
              refine R2.B (ls2 := [some (.ref 48), some (.int sp), some (.int ((nI p) + 1)), some (.int (nI t)), some (.int 1)]) (st2 := []) b_X11_brokes_205_30 rfl (fun hd => ?_)
              rw [show ((nI p) + 1 : Int32) = nI (p + 1) from nI_add p 1]
              refine R2.eqF (F2 := askM F (F0 52 p) t (F0 54 p)) (by unfold askM; rw [if_neg (by clear hd; grind)]; rw [if_neg (by clear hd; grind)]) ?_
              rw [show pmL (F0 52) (F0 53) (F0 54) (F0 57) (F0 66) (F0 51 0 * F0 51 0) (F0 51 1 * F0 51 1) sp (k + 1) p (F 67) (F 68) = pmL (F0 52) (F0 53) (F0 54) (F0 57) (F0 66) (F0 51 0 * F0 51 0) (F0 51 1 * F0 51 1) sp k (p + 1) (askM F (F0 52 p) t (F0 54 p) 67) (askM F (F0 52 p) t (F0 54 p) 68) from (by simp only [pmL]; rw [if_neg (Int32.not_lt.mpr c68), if_pos ⟨nc84, c94⟩, askM_67, askM_68, et, nI_clamp (by omega)])]
              refine R2.forget (ls2 := [some (.ref 48), some (.int sp), some (.int (nI (p + 1))), none, none]) ⟨rfl, ⟨rfl, ⟨rfl, trivial⟩⟩⟩ ?_
              exact ih (p + 1) _ (by omega) (fun a h1 h2 => (askM_row h1 h2).trans (hs a h1 h2))
            · refine R2.B (ls2 := [some (.ref 48), some (.int sp), some (.int (nI p)), some (.int (nI t)), some (.int 1)]) (st2 := [.int (nI p), .ref 54, .int (nI t), .ref 68]) b_X11_brokes_174_179 rfl (fun hd => ?_)
              refine R2.iald p rfl hd rfl (fun _ => rfl) (by decide) (by omega) ?_
              refine R2.top (show (F 54 p : Int32) = F0 54 p from (by rw [hs 54 (by decide) (by decide)])) ?_
              refine R2.B (ls2 := [some (.ref 48), some (.int sp), some (.int (nI p)), some (.int (nI t)), some (.int 1)]) (st2 := [.int (nI t), .ref 68, .int (F0 54 p), .int (nI t), .ref 68]) b_X11_brokes_180_185 rfl (fun hd => ?_)
              refine R2.iald t rfl hd rfl (fun _ => rfl) (by decide) (by omega) ?_
              refine R2.B (ls2 := [some (.ref 48), some (.int sp), some (.int (nI p)), some (.int (nI t)), some (.int 1)]) (st2 := [.int (F 68 t), .int (F0 54 p), .int (nI t), .ref 68]) b_X11_brokes_186_186 rfl (fun hd => ?_)
              refine R2.icmp_ge 198 hd (by decide) (fun c186 => ?_) (fun c186 => ?_)
              · refine R2.B (ls2 := [some (.ref 48), some (.int sp), some (.int (nI p)), some (.int (nI t)), some (.int 1)]) (st2 := [.int (nI t), .ref 68, .int (nI t), .ref 68]) b_X11_brokes_198_203 rfl (fun hd => ?_)
                refine R2.iald t rfl hd rfl (fun _ => rfl) (by decide) (by omega) ?_
                refine R2.B (ls2 := [some (.ref 48), some (.int sp), some (.int (nI p)), some (.int (nI t)), some (.int 1)]) (st2 := [.int (F 68 t), .int (nI t), .ref 68]) b_X11_brokes_204_204 rfl (fun hd => ?_)
                refine R2.iast t rfl hd (by decide) rfl (fun _ => rfl) (by decide) (by omega) ?_
                refine R2.B (ls2 := [some (.ref 48), some (.int sp), some (.int ((nI p) + 1)), some (.int (nI t)), some (.int 1)]) (st2 := []) b_X11_brokes_205_30 rfl (fun hd => ?_)
                rw [show ((nI p) + 1 : Int32) = nI (p + 1) from nI_add p 1]
                refine R2.eqF (F2 := askM F (F0 52 p) t (F0 54 p)) (by unfold askM; rw [if_neg (by clear hd; grind)]; rw [if_neg (by clear hd; grind)]) ?_
                rw [show pmL (F0 52) (F0 53) (F0 54) (F0 57) (F0 66) (F0 51 0 * F0 51 0) (F0 51 1 * F0 51 1) sp (k + 1) p (F 67) (F 68) = pmL (F0 52) (F0 53) (F0 54) (F0 57) (F0 66) (F0 51 0 * F0 51 0) (F0 51 1 * F0 51 1) sp k (p + 1) (askM F (F0 52 p) t (F0 54 p) 67) (askM F (F0 52 p) t (F0 54 p) 68) from (by simp only [pmL]; rw [if_neg (Int32.not_lt.mpr c68), if_pos ⟨nc84, c94⟩, askM_67, askM_68, et, nI_clamp (by omega)])]
                refine R2.forget (ls2 := [some (.ref 48), some (.int sp), some (.int (nI (p + 1))), none, none]) ⟨rfl, ⟨rfl, ⟨rfl, trivial⟩⟩⟩ ?_
                exact ih (p + 1) _ (by omega) (fun a h1 h2 => (askM_row h1 h2).trans (hs a h1 h2))
              · refine R2.B (ls2 := [some (.ref 48), some (.int sp), some (.int (nI p)), some (.int (nI t)), some (.int 1)]) (st2 := [.int (nI p), .ref 54, .int (nI t), .ref 68]) b_X11_brokes_189_194 rfl (fun hd => ?_)
                refine R2.iald p rfl hd rfl (fun _ => rfl) (by decide) (by omega) ?_
                refine R2.top (show (F 54 p : Int32) = F0 54 p from (by rw [hs 54 (by decide) (by decide)])) ?_
                refine R2.B (ls2 := [some (.ref 48), some (.int sp), some (.int (nI p)), some (.int (nI t)), some (.int 1)]) (st2 := [.int (F0 54 p), .int (nI t), .ref 68]) b_X11_brokes_195_204 rfl (fun hd => ?_)
                refine R2.iast t rfl hd (by decide) rfl (fun _ => rfl) (by decide) (by omega) ?_
                refine R2.B (ls2 := [some (.ref 48), some (.int sp), some (.int ((nI p) + 1)), some (.int (nI t)), some (.int 1)]) (st2 := []) b_X11_brokes_205_30 rfl (fun hd => ?_)
                rw [show ((nI p) + 1 : Int32) = nI (p + 1) from nI_add p 1]
                refine R2.eqF (F2 := askM F (F0 52 p) t (F0 54 p)) (by unfold askM; rw [if_neg (by clear hd; grind)]; rw [if_pos ⟨c171, c186⟩]) ?_
                rw [show pmL (F0 52) (F0 53) (F0 54) (F0 57) (F0 66) (F0 51 0 * F0 51 0) (F0 51 1 * F0 51 1) sp (k + 1) p (F 67) (F 68) = pmL (F0 52) (F0 53) (F0 54) (F0 57) (F0 66) (F0 51 0 * F0 51 0) (F0 51 1 * F0 51 1) sp k (p + 1) (askM F (F0 52 p) t (F0 54 p) 67) (askM F (F0 52 p) t (F0 54 p) 68) from (by simp only [pmL]; rw [if_neg (Int32.not_lt.mpr c68), if_pos ⟨nc84, c94⟩, askM_67, askM_68, et, nI_clamp (by omega)])]
                refine R2.forget (ls2 := [some (.ref 48), some (.int sp), some (.int (nI (p + 1))), none, none]) ⟨rfl, ⟨rfl, ⟨rfl, trivial⟩⟩⟩ ?_
                exact ih (p + 1) _ (by omega) (fun a h1 h2 => (askM_row h1 h2).trans (hs a h1 h2))
          · refine R2.B (ls2 := [some (.ref 48), some (.int sp), some (.int (nI p)), some (.int (nI t)), some (.int 1)]) (st2 := [.int (nI p), .ref 54, .int (nI t), .ref 67]) b_X11_brokes_124_129 rfl (fun hd => ?_)
            refine R2.iald p rfl hd rfl (fun _ => rfl) (by decide) (by omega) ?_
            refine R2.top (show (F 54 p : Int32) = F0 54 p from (by rw [hs 54 (by decide) (by decide)])) ?_
            refine R2.B (ls2 := [some (.ref 48), some (.int sp), some (.int (nI p)), some (.int (nI t)), some (.int 1)]) (st2 := [.int (nI t), .ref 67, .int (F0 54 p), .int (nI t), .ref 67]) b_X11_brokes_130_135 rfl (fun hd => ?_)
            refine R2.iald t rfl hd rfl (fun _ => rfl) (by decide) (by omega) ?_
            refine R2.B (ls2 := [some (.ref 48), some (.int sp), some (.int (nI p)), some (.int (nI t)), some (.int 1)]) (st2 := [.int (F 67 t), .int (F0 54 p), .int (nI t), .ref 67]) b_X11_brokes_136_136 rfl (fun hd => ?_)
            refine R2.icmp_le 148 hd (by decide) (fun c136 => ?_) (fun c136 => ?_)
            · refine R2.B (ls2 := [some (.ref 48), some (.int sp), some (.int (nI p)), some (.int (nI t)), some (.int 1)]) (st2 := [.int (nI t), .ref 67, .int (nI t), .ref 67]) b_X11_brokes_148_153 rfl (fun hd => ?_)
              refine R2.iald t rfl hd rfl (fun _ => rfl) (by decide) (by omega) ?_
              refine R2.B (ls2 := [some (.ref 48), some (.int sp), some (.int (nI p)), some (.int (nI t)), some (.int 1)]) (st2 := [.int (F 67 t), .int (nI t), .ref 67]) b_X11_brokes_154_154 rfl (fun hd => ?_)
              refine R2.iast t rfl hd (by decide) rfl (fun _ => rfl) (by decide) (by omega) ?_
              refine R2.B (ls2 := [some (.ref 48), some (.int sp), some (.int (nI p)), some (.int (nI t)), some (.int 1)]) (st2 := [.int 1, .int (nI t), .ref 68]) b_X11_brokes_155_162 rfl (fun hd => ?_)
              refine R2.if_eq 198 hd (by decide) (fun c162 => absurd c162 (by decide)) (fun c162 => ?_)
              refine R2.B (ls2 := [some (.ref 48), some (.int sp), some (.int (nI p)), some (.int (nI t)), some (.int 1)]) (st2 := [.int (nI p), .ref 52, .int (nI t), .ref 68]) b_X11_brokes_165_170 rfl (fun hd => ?_)
              refine R2.iald p rfl hd rfl (fun _ => rfl) (by decide) (by omega) ?_
              refine R2.top (show (F 52 p : Int32) = F0 52 p from (by rw [hs 52 (by decide) (by decide)])) ?_
              refine R2.B (ls2 := [some (.ref 48), some (.int sp), some (.int (nI p)), some (.int (nI t)), some (.int 1)]) (st2 := [.int (F0 52 p), .int (nI t), .ref 68]) b_X11_brokes_171_171 rfl (fun hd => ?_)
              refine R2.if_ne 198 hd (by decide) (fun c171 => ?_) (fun c171 => ?_)
              · refine R2.B (ls2 := [some (.ref 48), some (.int sp), some (.int (nI p)), some (.int (nI t)), some (.int 1)]) (st2 := [.int (nI t), .ref 68, .int (nI t), .ref 68]) b_X11_brokes_198_203 rfl (fun hd => ?_)
                refine R2.iald t rfl hd rfl (fun _ => rfl) (by decide) (by omega) ?_
                refine R2.B (ls2 := [some (.ref 48), some (.int sp), some (.int (nI p)), some (.int (nI t)), some (.int 1)]) (st2 := [.int (F 68 t), .int (nI t), .ref 68]) b_X11_brokes_204_204 rfl (fun hd => ?_)
                refine R2.iast t rfl hd (by decide) rfl (fun _ => rfl) (by decide) (by omega) ?_
                refine R2.B (ls2 := [some (.ref 48), some (.int sp), some (.int ((nI p) + 1)), some (.int (nI t)), some (.int 1)]) (st2 := []) b_X11_brokes_205_30 rfl (fun hd => ?_)
                rw [show ((nI p) + 1 : Int32) = nI (p + 1) from nI_add p 1]
                refine R2.eqF (F2 := askM F (F0 52 p) t (F0 54 p)) (by unfold askM; rw [if_neg (by clear hd; grind)]; rw [if_neg (by clear hd; grind)]) ?_
                rw [show pmL (F0 52) (F0 53) (F0 54) (F0 57) (F0 66) (F0 51 0 * F0 51 0) (F0 51 1 * F0 51 1) sp (k + 1) p (F 67) (F 68) = pmL (F0 52) (F0 53) (F0 54) (F0 57) (F0 66) (F0 51 0 * F0 51 0) (F0 51 1 * F0 51 1) sp k (p + 1) (askM F (F0 52 p) t (F0 54 p) 67) (askM F (F0 52 p) t (F0 54 p) 68) from (by simp only [pmL]; rw [if_neg (Int32.not_lt.mpr c68), if_pos ⟨nc84, c94⟩, askM_67, askM_68, et, nI_clamp (by omega)])]
                refine R2.forget (ls2 := [some (.ref 48), some (.int sp), some (.int (nI (p + 1))), none, none]) ⟨rfl, ⟨rfl, ⟨rfl, trivial⟩⟩⟩ ?_
                exact ih (p + 1) _ (by omega) (fun a h1 h2 => (askM_row h1 h2).trans (hs a h1 h2))
              · refine R2.B (ls2 := [some (.ref 48), some (.int sp), some (.int (nI p)), some (.int (nI t)), some (.int 1)]) (st2 := [.int (nI p), .ref 54, .int (nI t), .ref 68]) b_X11_brokes_174_179 rfl (fun hd => ?_)
                refine R2.iald p rfl hd rfl (fun _ => rfl) (by decide) (by omega) ?_
                refine R2.top (show (F 54 p : Int32) = F0 54 p from (by rw [hs 54 (by decide) (by decide)])) ?_
                refine R2.B (ls2 := [some (.ref 48), some (.int sp), some (.int (nI p)), some (.int (nI t)), some (.int 1)]) (st2 := [.int (nI t), .ref 68, .int (F0 54 p), .int (nI t), .ref 68]) b_X11_brokes_180_185 rfl (fun hd => ?_)
                refine R2.iald t rfl hd rfl (fun _ => rfl) (by decide) (by omega) ?_
                refine R2.B (ls2 := [some (.ref 48), some (.int sp), some (.int (nI p)), some (.int (nI t)), some (.int 1)]) (st2 := [.int (F 68 t), .int (F0 54 p), .int (nI t), .ref 68]) b_X11_brokes_186_186 rfl (fun hd => ?_)
                refine R2.icmp_ge 198 hd (by decide) (fun c186 => ?_) (fun c186 => ?_)
                · refine R2.B (ls2 := [some (.ref 48), some (.int sp), some (.int (nI p)), some (.int (nI t)), some (.int 1)]) (st2 := [.int (nI t), .ref 68, .int (nI t), .ref 68]) b_X11_brokes_198_203 rfl (fun hd => ?_)
                  refine R2.iald t rfl hd rfl (fun _ => rfl) (by decide) (by omega) ?_
                  refine R2.B (ls2 := [some (.ref 48), some (.int sp), some (.int (nI p)), some (.int (nI t)), some (.int 1)]) (st2 := [.int (F 68 t), .int (nI t), .ref 68]) b_X11_brokes_204_204 rfl (fun hd => ?_)
                  refine R2.iast t rfl hd (by decide) rfl (fun _ => rfl) (by decide) (by omega) ?_
                  refine R2.B (ls2 := [some (.ref 48), some (.int sp), some (.int ((nI p) + 1)), some (.int (nI t)), some (.int 1)]) (st2 := []) b_X11_brokes_205_30 rfl (fun hd => ?_)
                  rw [show ((nI p) + 1 : Int32) = nI (p + 1) from nI_add p 1]
                  refine R2.eqF (F2 := askM F (F0 52 p) t (F0 54 p)) (by unfold askM; rw [if_neg (by clear hd; grind)]; rw [if_neg (by clear hd; grind)]) ?_
                  rw [show pmL (F0 52) (F0 53) (F0 54) (F0 57) (F0 66) (F0 51 0 * F0 51 0) (F0 51 1 * F0 51 1) sp (k + 1) p (F 67) (F 68) = pmL (F0 52) (F0 53) (F0 54) (F0 57) (F0 66) (F0 51 0 * F0 51 0) (F0 51 1 * F0 51 1) sp k (p + 1) (askM F (F0 52 p) t (F0 54 p) 67) (askM F (F0 52 p) t (F0 54 p) 68) from (by simp only [pmL]; rw [if_neg (Int32.not_lt.mpr c68), if_pos ⟨nc84, c94⟩, askM_67, askM_68, et, nI_clamp (by omega)])]
                  refine R2.forget (ls2 := [some (.ref 48), some (.int sp), some (.int (nI (p + 1))), none, none]) ⟨rfl, ⟨rfl, ⟨rfl, trivial⟩⟩⟩ ?_
                  exact ih (p + 1) _ (by omega) (fun a h1 h2 => (askM_row h1 h2).trans (hs a h1 h2))
                · refine R2.B (ls2 := [some (.ref 48), some (.int sp), some (.int (nI p)), some (.int (nI t)), some (.int 1)]) (st2 := [.int (nI p), .ref 54, .int (nI t), .ref 68]) b_X11_brokes_189_194 rfl (fun hd => ?_)
                  refine R2.iald p rfl hd rfl (fun _ => rfl) (by decide) (by omega) ?_
                  refine R2.top (show (F 54 p : Int32) = F0 54 p from (by rw [hs 54 (by decide) (by decide)])) ?_
                  refine R2.B (ls2 := [some (.ref 48), some (.int sp), some (.int (nI p)), some (.int (nI t)), some (.int 1)]) (st2 := [.int (F0 54 p), .int (nI t), .ref 68]) b_X11_brokes_195_204 rfl (fun hd => ?_)
                  refine R2.iast t rfl hd (by decide) rfl (fun _ => rfl) (by decide) (by omega) ?_
                  refine R2.B (ls2 := [some (.ref 48), some (.int sp), some (.int ((nI p) + 1)), some (.int (nI t)), some (.int 1)]) (st2 := []) b_X11_brokes_205_30 rfl (fun hd => ?_)
                  rw [show ((nI p) + 1 : Int32) = nI (p + 1) from nI_add p 1]
                  refine R2.eqF (F2 := askM F (F0 52 p) t (F0 54 p)) (by unfold askM; rw [if_neg (by clear hd; grind)]; rw [if_pos ⟨c171, c186⟩]) ?_
                  rw [show pmL (F0 52) (F0 53) (F0 54) (F0 57) (F0 66) (F0 51 0 * F0 51 0) (F0 51 1 * F0 51 1) sp (k + 1) p (F 67) (F 68) = pmL (F0 52) (F0 53) (F0 54) (F0 57) (F0 66) (F0 51 0 * F0 51 0) (F0 51 1 * F0 51 1) sp k (p + 1) (askM F (F0 52 p) t (F0 54 p) 67) (askM F (F0 52 p) t (F0 54 p) 68) from (by simp only [pmL]; rw [if_neg (Int32.not_lt.mpr c68), if_pos ⟨nc84, c94⟩, askM_67, askM_68, et, nI_clamp (by omega)])]
                  refine R2.forget (ls2 := [some (.ref 48), some (.int sp), some (.int (nI (p + 1))), none, none]) ⟨rfl, ⟨rfl, ⟨rfl, trivial⟩⟩⟩ ?_
                  exact ih (p + 1) _ (by omega) (fun a h1 h2 => (askM_row h1 h2).trans (hs a h1 h2))
            · refine R2.B (ls2 := [some (.ref 48), some (.int sp), some (.int (nI p)), some (.int (nI t)), some (.int 1)]) (st2 := [.int (nI p), .ref 54, .int (nI t), .ref 67]) b_X11_brokes_139_144 rfl (fun hd => ?_)
              refine R2.iald p rfl hd rfl (fun _ => rfl) (by decide) (by omega) ?_
              refine R2.top (show (F 54 p : Int32) = F0 54 p from (by rw [hs 54 (by decide) (by decide)])) ?_
              refine R2.B (ls2 := [some (.ref 48), some (.int sp), some (.int (nI p)), some (.int (nI t)), some (.int 1)]) (st2 := [.int (F0 54 p), .int (nI t), .ref 67]) b_X11_brokes_145_154 rfl (fun hd => ?_)
              refine R2.iast t rfl hd (by decide) rfl (fun _ => rfl) (by decide) (by omega) ?_
              refine R2.B (ls2 := [some (.ref 48), some (.int sp), some (.int (nI p)), some (.int (nI t)), some (.int 1)]) (st2 := [.int 1, .int (nI t), .ref 68]) b_X11_brokes_155_162 rfl (fun hd => ?_)
              refine R2.if_eq 198 hd (by decide) (fun c162 => absurd c162 (by decide)) (fun c162 => ?_)
              refine R2.B (ls2 := [some (.ref 48), some (.int sp), some (.int (nI p)), some (.int (nI t)), some (.int 1)]) (st2 := [.int (nI p), .ref 52, .int (nI t), .ref 68]) b_X11_brokes_165_170 rfl (fun hd => ?_)
              refine R2.iald p rfl hd rfl (fun _ => rfl) (by decide) (by omega) ?_
              refine R2.top (show (F 52 p : Int32) = F0 52 p from (by rw [hs 52 (by decide) (by decide)])) ?_
              refine R2.B (ls2 := [some (.ref 48), some (.int sp), some (.int (nI p)), some (.int (nI t)), some (.int 1)]) (st2 := [.int (F0 52 p), .int (nI t), .ref 68]) b_X11_brokes_171_171 rfl (fun hd => ?_)
              refine R2.if_ne 198 hd (by decide) (fun c171 => ?_) (fun c171 => ?_)
              · refine R2.B (ls2 := [some (.ref 48), some (.int sp), some (.int (nI p)), some (.int (nI t)), some (.int 1)]) (st2 := [.int (nI t), .ref 68, .int (nI t), .ref 68]) b_X11_brokes_198_203 rfl (fun hd => ?_)
                refine R2.iald t rfl hd rfl (fun _ => rfl) (by decide) (by omega) ?_
                refine R2.B (ls2 := [some (.ref 48), some (.int sp), some (.int (nI p)), some (.int (nI t)), some (.int 1)]) (st2 := [.int (F 68 t), .int (nI t), .ref 68]) b_X11_brokes_204_204 rfl (fun hd => ?_)
                refine R2.iast t rfl hd (by decide) rfl (fun _ => rfl) (by decide) (by omega) ?_
                refine R2.B (ls2 := [some (.ref 48), some (.int sp), some (.int ((nI p) + 1)), some (.int (nI t)), some (.int 1)]) (st2 := []) b_X11_brokes_205_30 rfl (fun hd => ?_)
                rw [show ((nI p) + 1 : Int32) = nI (p + 1) from nI_add p 1]
                refine R2.eqF (F2 := askM F (F0 52 p) t (F0 54 p)) (by unfold askM; rw [if_pos ⟨c121, c136⟩]; rw [if_neg (by clear hd; grind)]) ?_
                rw [show pmL (F0 52) (F0 53) (F0 54) (F0 57) (F0 66) (F0 51 0 * F0 51 0) (F0 51 1 * F0 51 1) sp (k + 1) p (F 67) (F 68) = pmL (F0 52) (F0 53) (F0 54) (F0 57) (F0 66) (F0 51 0 * F0 51 0) (F0 51 1 * F0 51 1) sp k (p + 1) (askM F (F0 52 p) t (F0 54 p) 67) (askM F (F0 52 p) t (F0 54 p) 68) from (by simp only [pmL]; rw [if_neg (Int32.not_lt.mpr c68), if_pos ⟨nc84, c94⟩, askM_67, askM_68, et, nI_clamp (by omega)])]
                refine R2.forget (ls2 := [some (.ref 48), some (.int sp), some (.int (nI (p + 1))), none, none]) ⟨rfl, ⟨rfl, ⟨rfl, trivial⟩⟩⟩ ?_
                exact ih (p + 1) _ (by omega) (fun a h1 h2 => (askM_row h1 h2).trans (hs a h1 h2))
              · refine R2.B (ls2 := [some (.ref 48), some (.int sp), some (.int (nI p)), some (.int (nI t)), some (.int 1)]) (st2 := [.int (nI p), .ref 54, .int (nI t), .ref 68]) b_X11_brokes_174_179 rfl (fun hd => ?_)
                refine R2.iald p rfl hd rfl (fun _ => rfl) (by decide) (by omega) ?_
                refine R2.top (show (F 54 p : Int32) = F0 54 p from (by rw [hs 54 (by decide) (by decide)])) ?_
                refine R2.B (ls2 := [some (.ref 48), some (.int sp), some (.int (nI p)), some (.int (nI t)), some (.int 1)]) (st2 := [.int (nI t), .ref 68, .int (F0 54 p), .int (nI t), .ref 68]) b_X11_brokes_180_185 rfl (fun hd => ?_)
                refine R2.iald t rfl hd rfl (fun _ => rfl) (by decide) (by omega) ?_
                refine R2.B (ls2 := [some (.ref 48), some (.int sp), some (.int (nI p)), some (.int (nI t)), some (.int 1)]) (st2 := [.int (F 68 t), .int (F0 54 p), .int (nI t), .ref 68]) b_X11_brokes_186_186 rfl (fun hd => ?_)
                refine R2.icmp_ge 198 hd (by decide) (fun c186 => ?_) (fun c186 => ?_)
                · refine R2.B (ls2 := [some (.ref 48), some (.int sp), some (.int (nI p)), some (.int (nI t)), some (.int 1)]) (st2 := [.int (nI t), .ref 68, .int (nI t), .ref 68]) b_X11_brokes_198_203 rfl (fun hd => ?_)
                  refine R2.iald t rfl hd rfl (fun _ => rfl) (by decide) (by omega) ?_
                  refine R2.B (ls2 := [some (.ref 48), some (.int sp), some (.int (nI p)), some (.int (nI t)), some (.int 1)]) (st2 := [.int (F 68 t), .int (nI t), .ref 68]) b_X11_brokes_204_204 rfl (fun hd => ?_)
                  refine R2.iast t rfl hd (by decide) rfl (fun _ => rfl) (by decide) (by omega) ?_
                  refine R2.B (ls2 := [some (.ref 48), some (.int sp), some (.int ((nI p) + 1)), some (.int (nI t)), some (.int 1)]) (st2 := []) b_X11_brokes_205_30 rfl (fun hd => ?_)
                  rw [show ((nI p) + 1 : Int32) = nI (p + 1) from nI_add p 1]
                  refine R2.eqF (F2 := askM F (F0 52 p) t (F0 54 p)) (by unfold askM; rw [if_pos ⟨c121, c136⟩]; rw [if_neg (by clear hd; grind)]) ?_
                  rw [show pmL (F0 52) (F0 53) (F0 54) (F0 57) (F0 66) (F0 51 0 * F0 51 0) (F0 51 1 * F0 51 1) sp (k + 1) p (F 67) (F 68) = pmL (F0 52) (F0 53) (F0 54) (F0 57) (F0 66) (F0 51 0 * F0 51 0) (F0 51 1 * F0 51 1) sp k (p + 1) (askM F (F0 52 p) t (F0 54 p) 67) (askM F (F0 52 p) t (F0 54 p) 68) from (by simp only [pmL]; rw [if_neg (Int32.not_lt.mpr c68), if_pos ⟨nc84, c94⟩, askM_67, askM_68, et, nI_clamp (by omega)])]
                  refine R2.forget (ls2 := [some (.ref 48), some (.int sp), some (.int (nI (p + 1))), none, none]) ⟨rfl, ⟨rfl, ⟨rfl, trivial⟩⟩⟩ ?_
                  exact ih (p + 1) _ (by omega) (fun a h1 h2 => (askM_row h1 h2).trans (hs a h1 h2))
                · refine R2.B (ls2 := [some (.ref 48), some (.int sp), some (.int (nI p)), some (.int (nI t)), some (.int 1)]) (st2 := [.int (nI p), .ref 54, .int (nI t), .ref 68]) b_X11_brokes_189_194 rfl (fun hd => ?_)
                  refine R2.iald p rfl hd rfl (fun _ => rfl) (by decide) (by omega) ?_
                  refine R2.top (show (F 54 p : Int32) = F0 54 p from (by rw [hs 54 (by decide) (by decide)])) ?_
                  refine R2.B (ls2 := [some (.ref 48), some (.int sp), some (.int (nI p)), some (.int (nI t)), some (.int 1)]) (st2 := [.int (F0 54 p), .int (nI t), .ref 68]) b_X11_brokes_195_204 rfl (fun hd => ?_)
                  refine R2.iast t rfl hd (by decide) rfl (fun _ => rfl) (by decide) (by omega) ?_
                  refine R2.B (ls2 := [some (.ref 48), some (.int sp), some (.int ((nI p) + 1)), some (.int (nI t)), some (.int 1)]) (st2 := []) b_X11_brokes_205_30 rfl (fun hd => ?_)
                  rw [show ((nI p) + 1 : Int32) = nI (p + 1) from nI_add p 1]
                  refine R2.eqF (F2 := askM F (F0 52 p) t (F0 54 p)) (by unfold askM; rw [if_pos ⟨c121, c136⟩]; rw [if_pos ⟨c171, c186⟩]) ?_
                  rw [show pmL (F0 52) (F0 53) (F0 54) (F0 57) (F0 66) (F0 51 0 * F0 51 0) (F0 51 1 * F0 51 1) sp (k + 1) p (F 67) (F 68) = pmL (F0 52) (F0 53) (F0 54) (F0 57) (F0 66) (F0 51 0 * F0 51 0) (F0 51 1 * F0 51 1) sp k (p + 1) (askM F (F0 52 p) t (F0 54 p) 67) (askM F (F0 52 p) t (F0 54 p) 68) from (by simp only [pmL]; rw [if_neg (Int32.not_lt.mpr c68), if_pos ⟨nc84, c94⟩, askM_67, askM_68, et, nI_clamp (by omega)])]
                  refine R2.forget (ls2 := [some (.ref 48), some (.int sp), some (.int (nI (p + 1))), none, none]) ⟨rfl, ⟨rfl, ⟨rfl, trivial⟩⟩⟩ ?_
                  exact ih (p + 1) _ (by omega) (fun a h1 h2 => (askM_row h1 h2).trans (hs a h1 h2))
    · refine R2.B (ls2 := [some (.ref 48), some (.int sp), some (.int (nI p)), some (.int (nI t)), none]) (st2 := [.int 0]) b_X11_brokes_71_72 rfl (fun hd => ?_)
      exact R2.ret (r := some (.int 0)) hd trivial rfl ⟨(congrArg (fun z => some (Value.int z)) (by simp only [pmL]; rw [if_pos (Int32.not_le.mp c68)])), hs⟩
theorem b_X11_brokes_0_2 : bl2 mX11_brokes 0 [(.iconst 0, 1, 0, 0, .int 0), (.istore_n 2, 1, 2, 0, .null)] 2 (.iload_n 2) 1 = true := by decide +kernel
theorem b_X11_brokes_28_30 : bl2 mX11_brokes 28 [(.iconst 0, 1, 0, 0, .int 0), (.istore_n 2, 1, 2, 0, .null)] 30 (.iload_n 2) 1 = true := by decide +kernel
set_option maxRecDepth 20000 in
set_option maxHeartbeats 1000000 in
theorem me_brokes (E : EE) (L : Nat) (F : FF) (n : Nat) (hn : F 48 3 = nI n) (hn10 : n ≤ 10) (hth : ThM F n) (sp : Int32) : Ev2 E L 3 mX11_brokes [.ref 48, .int sp] F (fun r' F' => r' = some (.int (mPf F n sp)) ∧ ∀ a, a ≠ 67 → a ≠ 68 → F' a = F a) := by
  refine Ev2.of okX11_brokes.2.2.1 (Nat.le_of_ble_eq_true rfl) ?_
  show R2 E L mX11_brokes 3 0 [some (.ref 48), some (.int sp), none, none, none] [] F _
  refine R2.B (ls2 := [some (.ref 48), some (.int sp), some (.int 0), none, none]) (st2 := []) b_X11_brokes_0_2 rfl (fun hd => ?_)
  refine ml_bi E L sp _ 4 0 F (by omega) ?_
  refine R2.B (ls2 := [some (.ref 48), some (.int sp), some (.int 0), none, none]) (st2 := []) b_X11_brokes_28_30 rfl (fun hd => ?_)
  refine (ml_bk E L F n hn hn10 hth sp n 0 (bi4 4 0 F) (by omega) (fun a h1 h2 => bi4_row h1 h2 4 0 F)).post2 (fun r1 F1 h => ⟨?_, h.2⟩)
  rw [h.1]
  unfold mPf
  rw [show bi4 4 0 F 67 = (fun j => if j < 4 then -1 else F 67 j) from (by funext j; rw [(bi4_at 4 0 F j).1]; by_cases h4 : j < 4 <;> simp [h4]), show bi4 4 0 F 68 = (fun j => if j < 4 then 100 else F 68 j) from (by funext j; rw [(bi4_at 4 0 F j).2]; by_cases h4 : j < 4 <;> simp [h4])]
theorem pmL_c {K T P X al : Nat → Int32} {due clr sp : Int32} : ∀ (k p : Nat) (D D' C C' : Nat → Int32), (∀ q, q < p + k → ∃ t : Nat, t < 4 ∧ T q = nI t) → (∀ j, j < 4 → D j = D' j) → (∀ j, j < 4 → C j = C' j) → pmL K T P X al due clr sp k p D C = pmL K T P X al due clr sp k p D' C'
  | 0, p, D, D', C, C', _, h1, h2 => by
    simp only [pmL, mrM, sumI, gMM]
    rw [h1 0 (by decide), h1 1 (by decide), h1 2 (by decide), h1 3 (by decide), h2 0 (by decide), h2 1 (by decide), h2 2 (by decide), h2 3 (by decide)]
  | k + 1, p, D, D', C, C', ht, h1, h2 => by
    obtain ⟨t, ht4, et⟩ := ht p (by omega)
    simp only [pmL]
    rw [pmL_c k (p + 1) D D' C C' (fun q hq => ht q (by omega)) h1 h2, et, nI_clamp (show t < 2 ^ 31 by omega)]
    rw [pmL_c k (p + 1) (asD D (K p) t (P p)) (asD D' (K p) t (P p)) (asC C (K p) t (P p)) (asC C' (K p) t (P p)) (fun q hq => ht q (by omega)) (fun j hj => ?_) (fun j hj => ?_)]
    · unfold asD; rw [h1 t ht4]; split
      · unfold up1; by_cases e : j = t
        · simp [e]
        · simp [e, h1 j hj]
      · exact h1 j hj
    · unfold asC; rw [h2 t ht4]; split
      · unfold up1; by_cases e : j = t
        · simp [e]
        · simp [e, h2 j hj]
      · exact h2 j hj
def m4D : Nat → Int32 := fun _ => -1
def m4C : Nat → Int32 := fun _ => 100
def mPg (F : FF) (n : Nat) (al : Nat → Int32) (sp : Int32) : Int32 := pmL (F 52) (F 53) (F 54) (F 57) al (F 51 0 * F 51 0) (F 51 1 * F 51 1) sp n 0 m4D m4C
theorem mPf_eq {F : FF} {n : Nat} (h : ThM F n) (sp : Int32) : mPf F n sp = mPg F n (F 66) sp := by
  unfold mPf mPg
  exact pmL_c n 0 _ _ _ _ (fun q hq => h q (by omega)) (fun j hj => by simp [hj, m4D]) (fun j hj => by simp [hj, m4C])
def coL (n : Nat) : Nat → Nat → FF → FF
  | 0, _, F => F
  | k + 1, p, F => coL n k (p + 1) (up2 F 66 p (if fnr (F 57) p p (-1) (F 51 1 * F 51 1) n 0 = -1 then 1 else 0))
theorem coL_row {n x : Nat} (h : x ≠ 66) : ∀ (k p : Nat) (F : FF), coL n k p F x = F x
  | 0, _, _ => rfl
  | k + 1, p, F => by rw [coL, coL_row h k, up2_row h]
theorem b_X11_brokerOf_6_11 : bl2 mX11_brokerOf 6 [(.iload_n 2, 1, 2, 0, .null), (.aload_n 0, 1, 0, 0, .null), (.getfield 101, 3, 11, 3, .null)] 11 (.if_icmp .ge 31) 3 = true := by decide +kernel
theorem b_X11_brokerOf_42_42 : bl2 mX11_brokerOf 42 [] 42 (.iconst (-1)) 1 = true := by decide +kernel
theorem b_X11_brokerOf_14_23 : bl2 mX11_brokerOf 14 [(.aload_n 0, 1, 0, 0, .null), (.getfield 61, 3, 11, 23, .null), (.iload_n 2, 1, 2, 0, .null), (.aload_n 0, 1, 0, 0, .null), (.iload_n 2, 1, 2, 0, .null), (.iload_n 2, 1, 2, 0, .null), (.iconst (-1), 1, 0, 0, .int (-1))] 23 (.invokevirtual 162) 3 = true := by decide +kernel
theorem b_X11_brokerOf_26_27 : bl2 mX11_brokerOf 26 [(.iconst (-1), 1, 0, 0, .int (-1))] 27 (.if_icmp .ne 7) 3 = true := by decide +kernel
theorem b_X11_brokerOf_34_35 : bl2 mX11_brokerOf 34 [(.iconst 0, 1, 0, 0, .int 0)] 35 (.iastore) 1 = true := by decide +kernel
theorem b_X11_brokerOf_36_6 : bl2 mX11_brokerOf 36 [(.iinc 2 1, 3, 2, 0, .int 1), (.goto (-33), 3, 6, 0, .null)] 6 (.iload_n 2) 1 = true := by decide +kernel
theorem b_X11_brokerOf_30_35 : bl2 mX11_brokerOf 30 [(.iconst 1, 1, 0, 0, .int 1), (.goto 4, 3, 35, 0, .null)] 35 (.iastore) 1 = true := by decide +kernel
set_option maxRecDepth 20000 in
set_option maxHeartbeats 2000000 in
theorem ml_co (E : EE) (L : Nat) (n : Nat) (hn10 : n ≤ 10) (wh : Int32) (Q : Q2) : ∀ (k : Nat) (p : Nat) (F : FF), p + k = n → F 48 3 = nI n → R2 E L mX11_brokerOf 6 42 [some (.ref 48), some (.int wh), none, none, none, none] [] (coL n k p F) Q → R2 E L mX11_brokerOf 6 6 [some (.ref 48), some (.int wh), some (.int (nI p)), none, none, none] [] F Q := by
  intro k
  induction k with
  | zero =>
    intro p F hi hn ex
    refine R2.B (ls2 := [some (.ref 48), some (.int wh), some (.int (nI p)), none, none, none]) (st2 := [.int (F 48 3), .int (nI p)]) b_X11_brokerOf_6_11 rfl (fun hd => ?_)
    rw [show (F 48 3 : Int32) = nI n from hn]
    refine R2.icmp_ge 42 hd (by decide) (fun c11 => ?_) (fun c11 => absurd (nI_le (by omega) (by omega)) c11)
    refine R2.B (ls2 := [some (.ref 48), some (.int wh), some (.int (nI p)), none, none, none]) (st2 := []) b_X11_brokerOf_42_42 rfl (fun hd => ?_)
    refine R2.forget (ls2 := [some (.ref 48), some (.int wh), none, none, none, none]) ⟨rfl, ⟨rfl, trivial⟩⟩ ?_
    exact ex
  | succ k ih =>
    intro p F hi hn ex
    refine R2.B (ls2 := [some (.ref 48), some (.int wh), some (.int (nI p)), none, none, none]) (st2 := [.int (F 48 3), .int (nI p)]) b_X11_brokerOf_6_11 rfl (fun hd => ?_)
    rw [show (F 48 3 : Int32) = nI n from hn]
    refine R2.icmp_ge 42 hd (by decide) (fun c11 => absurd c11 (nI_ge (by omega) (by omega))) (fun c11 => ?_)
    refine R2.B (ls2 := [some (.ref 48), some (.int wh), some (.int (nI p)), none, none, none]) (st2 := [.int (-1), .int (nI p), .int (nI p), .ref 48, .int (nI p), .ref 66]) b_X11_brokerOf_14_23 rfl (fun hd => ?_)
    refine R2.callV3 (M2 := mX11_nearer) (As := [.int (nI p), .int (nI p), .int (-1)]) (rest := [.int (nI p), .ref 66]) hd lk_11_162 okX11_nearer (by decide) rfl (me_nearer E L F n hn hn10 p p (-1) (by omega) (by omega)) (by decide) rfl rfl (Nat.le_of_ble_eq_true rfl) ?_
    refine R2.B (ls2 := [some (.ref 48), some (.int wh), some (.int (nI p)), none, none, none]) (st2 := [.int (-1), .int (fnr (F 57) p p (-1) (F 51 1 * F 51 1) n 0), .int (nI p), .ref 66]) b_X11_brokerOf_26_27 rfl (fun hd => ?_)
    refine R2.icmp_ne 34 hd (by decide) (fun c27 => ?_) (fun c27 => ?_)
    · refine R2.B (ls2 := [some (.ref 48), some (.int wh), some (.int (nI p)), none, none, none]) (st2 := [.int 0, .int (nI p), .ref 66]) b_X11_brokerOf_34_35 rfl (fun hd => ?_)
      refine R2.iast p rfl hd (by decide) rfl (fun _ => rfl) (by decide) (by omega) ?_
      refine R2.B (ls2 := [some (.ref 48), some (.int wh), some (.int ((nI p) + 1)), none, none, none]) (st2 := []) b_X11_brokerOf_36_6 rfl (fun hd => ?_)
      rw [show ((nI p) + 1 : Int32) = nI (p + 1) from nI_add p 1]
      have e : coL n (k + 1) p F = coL n k (p + 1) (up2 F 66 p 0) := by
        rw [coL]; rw [if_neg c27]
      rw [e] at ex
      exact ih (p + 1) _ (by omega) hn ex
    · refine R2.B (ls2 := [some (.ref 48), some (.int wh), some (.int (nI p)), none, none, none]) (st2 := [.int 1, .int (nI p), .ref 66]) b_X11_brokerOf_30_35 rfl (fun hd => ?_)
      refine R2.iast p rfl hd (by decide) rfl (fun _ => rfl) (by decide) (by omega) ?_
      refine R2.B (ls2 := [some (.ref 48), some (.int wh), some (.int ((nI p) + 1)), none, none, none]) (st2 := []) b_X11_brokerOf_36_6 rfl (fun hd => ?_)
      rw [show ((nI p) + 1 : Int32) = nI (p + 1) from nI_add p 1]
      have e : coL n (k + 1) p F = coL n k (p + 1) (up2 F 66 p 1) := by
        rw [coL]; rw [if_pos c27]
      rw [e] at ex
      exact ih (p + 1) _ (by omega) hn ex
theorem b_X11_brokerOf_49_54 : bl2 mX11_brokerOf 49 [(.iload 4, 2, 4, 0, .null), (.sipush 1024, 3, 0, 0, .int 1024)] 54 (.if_icmp .ge 43) 3 = true := by decide +kernel
theorem b_X11_brokerOf_97_98 : bl2 mX11_brokerOf 97 [(.iload_n 1, 1, 1, 0, .null)] 98 (.ifCond .ne 7) 3 = true := by decide +kernel
theorem b_X11_brokerOf_105_106 : bl2 mX11_brokerOf 105 [(.iload_n 3, 1, 3, 0, .null)] 106 (.ireturn) 1 = true := by decide +kernel
theorem b_X11_brokerOf_101_106 : bl2 mX11_brokerOf 101 [(.iload_n 2, 1, 2, 0, .null), (.goto 4, 3, 106, 0, .null)] 106 (.ireturn) 1 = true := by decide +kernel
theorem b_X11_brokerOf_57_60 : bl2 mX11_brokerOf 57 [(.aload_n 0, 1, 0, 0, .null), (.iload 4, 2, 4, 0, .null)] 60 (.invokevirtual 238) 3 = true := by decide +kernel
theorem b_X11_brokerOf_63_68 : bl2 mX11_brokerOf 63 [(.istore 5, 2, 5, 0, .null), (.iload 5, 2, 5, 0, .null), (.iload_n 3, 1, 3, 0, .null)] 68 (.if_icmp .le 8) 3 = true := by decide +kernel
theorem b_X11_brokerOf_76_81 : bl2 mX11_brokerOf 76 [(.iload_n 2, 1, 2, 0, .null), (.istore_n 2, 1, 2, 0, .null), (.iload 5, 2, 5, 0, .null), (.iload_n 3, 1, 3, 0, .null)] 81 (.if_icmp .le 8) 3 = true := by decide +kernel
theorem b_X11_brokerOf_89_49 : bl2 mX11_brokerOf 89 [(.iload_n 3, 1, 3, 0, .null), (.istore_n 3, 1, 3, 0, .null), (.iinc 4 1, 3, 4, 0, .int 1), (.goto (-45), 3, 49, 0, .null)] 49 (.iload 4) 2 = true := by decide +kernel
theorem b_X11_brokerOf_84_49 : bl2 mX11_brokerOf 84 [(.iload 5, 2, 5, 0, .null), (.goto 4, 3, 90, 0, .null), (.istore_n 3, 1, 3, 0, .null), (.iinc 4 1, 3, 4, 0, .int 1), (.goto (-45), 3, 49, 0, .null)] 49 (.iload 4) 2 = true := by decide +kernel
theorem b_X11_brokerOf_71_81 : bl2 mX11_brokerOf 71 [(.iload 4, 2, 4, 0, .null), (.goto 4, 3, 77, 0, .null), (.istore_n 2, 1, 2, 0, .null), (.iload 5, 2, 5, 0, .null), (.iload_n 3, 1, 3, 0, .null)] 81 (.if_icmp .le 8) 3 = true := by decide +kernel
set_option maxRecDepth 20000 in
set_option maxHeartbeats 2000000 in
theorem ml_br (E : EE) (L : Nat) (F0 : FF) (n : Nat) (hn : F0 48 3 = nI n) (hn10 : n ≤ 10) (hth : ThM F0 n) (wh : Int32) : ∀ (k : Nat) (w : Nat) (best most : Int32) (F : FF), w + k = 1024 → (∀ a, a ≠ 67 → a ≠ 68 → F a = F0 a) → R2 E L mX11_brokerOf 6 49 [some (.ref 48), some (.int wh), some (.int best), some (.int most), some (.int (nI w)), none] [] F (fun r' F' => r' = some (.int (if wh = 0 then (brL (fun w => mPg F0 n (F0 66) (nI w)) k w best most).1 else (brL (fun w => mPg F0 n (F0 66) (nI w)) k w best most).2)) ∧ ∀ a, a ≠ 67 → a ≠ 68 → F' a = F0 a) := by
  intro k
  induction k with
  | zero =>
    intro w best most F hi hs
    refine R2.B (ls2 := [some (.ref 48), some (.int wh), some (.int best), some (.int most), some (.int (nI w)), none]) (st2 := [.int 1024, .int (nI w)]) b_X11_brokerOf_49_54 rfl (fun hd => ?_)
    refine R2.icmp_ge 97 hd (by decide) (fun c54 => ?_) (fun c54 => absurd (nI_le (a := 1024) (by omega) (by omega)) c54)
    refine R2.B (ls2 := [some (.ref 48), some (.int wh), some (.int best), some (.int most), some (.int (nI w)), none]) (st2 := [.int wh]) b_X11_brokerOf_97_98 rfl (fun hd => ?_)
    refine R2.if_ne 105 hd (by decide) (fun c98 => ?_) (fun c98 => ?_)
    · refine R2.B (ls2 := [some (.ref 48), some (.int wh), some (.int best), some (.int most), some (.int (nI w)), none]) (st2 := [.int most]) b_X11_brokerOf_105_106 rfl (fun hd => ?_)
      exact R2.ret (r := some (.int most)) hd trivial rfl ⟨(congrArg (fun z => some (Value.int z)) (by clear hd; simp only [brL]; grind)), hs⟩
    · refine R2.B (ls2 := [some (.ref 48), some (.int wh), some (.int best), some (.int most), some (.int (nI w)), none]) (st2 := [.int best]) b_X11_brokerOf_101_106 rfl (fun hd => ?_)
      exact R2.ret (r := some (.int best)) hd trivial rfl ⟨(congrArg (fun z => some (Value.int z)) (by clear hd; simp only [brL]; grind)), hs⟩
  | succ k ih =>
    intro w best most F hi hs
    refine R2.B (ls2 := [some (.ref 48), some (.int wh), some (.int best), some (.int most), some (.int (nI w)), none]) (st2 := [.int 1024, .int (nI w)]) b_X11_brokerOf_49_54 rfl (fun hd => ?_)
    refine R2.icmp_ge 97 hd (by decide) (fun c54 => absurd c54 (nI_ge (b := 1024) (by omega) (by omega))) (fun c54 => ?_)
    refine R2.B (ls2 := [some (.ref 48), some (.int wh), some (.int best), some (.int most), some (.int (nI w)), none]) (st2 := [.int (nI w), .ref 48]) b_X11_brokerOf_57_60 rfl (fun hd => ?_)
    refine R2.callV (M2 := mX11_brokes) (As := [.int (nI w)]) (rest := []) hd lk_11_238 okX11_brokes (by decide) rfl (me_brokes E L F n ((congrFun (hs 48 (by decide) (by decide)) 3).trans hn) hn10 (by unfold ThM; rw [hs 53 (by decide) (by decide)]; exact hth) (nI w)) (by decide) rfl rfl (Nat.le_of_ble_eq_true rfl) (fun r1 F1 h1 => ?_)
    obtain ⟨h1, h2⟩ := h1
    subst h1
    have hs1 : ∀ a, a ≠ 67 → a ≠ 68 → F1 a = F0 a := fun a g1 g2 => (h2 a g1 g2).trans (hs a g1 g2)
    refine R2.top (show (mPf F n (nI w) : Int32) = mPg F0 n (F0 66) (nI w) from (by rw [mPf_eq (by unfold ThM; rw [hs 53 (by decide) (by decide)]; exact hth)]; unfold mPg; rw [hs 52 (by decide) (by decide), hs 53 (by decide) (by decide), hs 54 (by decide) (by decide), hs 57 (by decide) (by decide), hs 66 (by decide) (by decide), hs 51 (by decide) (by decide)])) ?_
    refine R2.B (ls2 := [some (.ref 48), some (.int wh), some (.int best), some (.int most), some (.int (nI w)), some (.int (mPg F0 n (F0 66) (nI w)))]) (st2 := [.int most, .int (mPg F0 n (F0 66) (nI w))]) b_X11_brokerOf_63_68 rfl (fun hd => ?_)
    refine R2.icmp_le 76 hd (by decide) (fun c68 => ?_) (fun c68 => ?_)
    · refine R2.B (ls2 := [some (.ref 48), some (.int wh), some (.int best), some (.int most), some (.int (nI w)), some (.int (mPg F0 n (F0 66) (nI w)))]) (st2 := [.int most, .int (mPg F0 n (F0 66) (nI w))]) b_X11_brokerOf_76_81 rfl (fun hd => ?_)
      refine R2.icmp_le 89 hd (by decide) (fun c81 => ?_) (fun c81 => ?_)
      · refine R2.B (ls2 := [some (.ref 48), some (.int wh), some (.int best), some (.int most), some (.int ((nI w) + 1)), some (.int (mPg F0 n (F0 66) (nI w)))]) (st2 := []) b_X11_brokerOf_89_49 rfl (fun hd => ?_)
        rw [show ((nI w) + 1 : Int32) = nI (w + 1) from nI_add w 1]
        have e : brL (fun w => mPg F0 n (F0 66) (nI w)) (k + 1) w best most = brL (fun w => mPg F0 n (F0 66) (nI w)) k (w + 1) best most := by
          simp only [brL]; rw [if_neg (Int32.not_lt.mpr c68)]
        rw [e]
        refine R2.forget (ls2 := [some (.ref 48), some (.int wh), some (.int best), some (.int most), some (.int (nI (w + 1))), none]) ⟨rfl, ⟨rfl, ⟨rfl, ⟨rfl, ⟨rfl, trivial⟩⟩⟩⟩⟩ ?_
        exact ih (w + 1) _ _ F1 (by omega) hs1
      · refine R2.B (ls2 := [some (.ref 48), some (.int wh), some (.int best), some (.int (mPg F0 n (F0 66) (nI w))), some (.int ((nI w) + 1)), some (.int (mPg F0 n (F0 66) (nI w)))]) (st2 := []) b_X11_brokerOf_84_49 rfl (fun hd => ?_)
        rw [show ((nI w) + 1 : Int32) = nI (w + 1) from nI_add w 1]
        exact absurd c68 c81
    · refine R2.B (ls2 := [some (.ref 48), some (.int wh), some (.int (nI w)), some (.int most), some (.int (nI w)), some (.int (mPg F0 n (F0 66) (nI w)))]) (st2 := [.int most, .int (mPg F0 n (F0 66) (nI w))]) b_X11_brokerOf_71_81 rfl (fun hd => ?_)
      refine R2.icmp_le 89 hd (by decide) (fun c81 => ?_) (fun c81 => ?_)
      · refine R2.B (ls2 := [some (.ref 48), some (.int wh), some (.int (nI w)), some (.int most), some (.int ((nI w) + 1)), some (.int (mPg F0 n (F0 66) (nI w)))]) (st2 := []) b_X11_brokerOf_89_49 rfl (fun hd => ?_)
        rw [show ((nI w) + 1 : Int32) = nI (w + 1) from nI_add w 1]
        exact absurd c81 c68
      · refine R2.B (ls2 := [some (.ref 48), some (.int wh), some (.int (nI w)), some (.int (mPg F0 n (F0 66) (nI w))), some (.int ((nI w) + 1)), some (.int (mPg F0 n (F0 66) (nI w)))]) (st2 := []) b_X11_brokerOf_84_49 rfl (fun hd => ?_)
        rw [show ((nI w) + 1 : Int32) = nI (w + 1) from nI_add w 1]
        have e : brL (fun w => mPg F0 n (F0 66) (nI w)) (k + 1) w best most = brL (fun w => mPg F0 n (F0 66) (nI w)) k (w + 1) (nI w) (mPg F0 n (F0 66) (nI w)) := by
          simp only [brL]; rw [if_pos (Int32.not_le.mp c68)]
        rw [e]
        refine R2.forget (ls2 := [some (.ref 48), some (.int wh), some (.int (nI w)), some (.int (mPg F0 n (F0 66) (nI w))), some (.int (nI (w + 1))), none]) ⟨rfl, ⟨rfl, ⟨rfl, ⟨rfl, ⟨rfl, trivial⟩⟩⟩⟩⟩ ?_
        exact ih (w + 1) _ _ F1 (by omega) hs1
theorem b_X11_brokerOf_0_1 : bl2 mX11_brokerOf 0 [(.aload_n 0, 1, 0, 0, .null)] 1 (.invokevirtual 140) 3 = true := by decide +kernel
theorem b_X11_brokerOf_4_6 : bl2 mX11_brokerOf 4 [(.iconst 0, 1, 0, 0, .int 0), (.istore_n 2, 1, 2, 0, .null)] 6 (.iload_n 2) 1 = true := by decide +kernel
theorem b_X11_brokerOf_42_49 : bl2 mX11_brokerOf 42 [(.iconst (-1), 1, 0, 0, .int (-1)), (.istore_n 2, 1, 2, 0, .null), (.iconst 0, 1, 0, 0, .int 0), (.istore_n 3, 1, 3, 0, .null), (.iconst 0, 1, 0, 0, .int 0), (.istore 4, 2, 4, 0, .null)] 49 (.iload 4) 2 = true := by decide +kernel
set_option maxRecDepth 20000 in
set_option maxHeartbeats 1000000 in
theorem me_brokerOf (E : EE) (L : Nat) (F : FF) (l n : Nat) (hm : MR F l n) (hth : ThM F n) (wh : Int32) : Ev2 E L 6 mX11_brokerOf [.ref 48, .int wh] F (fun r' F' => r' = some (.int (if wh = 0 then (brL (fun w => mPg (coL n n 0 (ly F n)) n ((coL n n 0 (ly F n)) 66) (nI w)) 1024 0 (-1) 0).1 else (brL (fun w => mPg (coL n n 0 (ly F n)) n ((coL n n 0 (ly F n)) 66) (nI w)) 1024 0 (-1) 0).2)) ∧ ∀ a, a ≠ 67 → a ≠ 68 → F' a = (coL n n 0 (ly F n)) a) := by
  refine Ev2.of okX11_brokerOf.2.2.1 (Nat.le_of_ble_eq_true rfl) ?_
  show R2 E L mX11_brokerOf 6 0 [some (.ref 48), some (.int wh), none, none, none, none] [] F _
  refine R2.B (ls2 := [some (.ref 48), some (.int wh), none, none, none, none]) (st2 := [.ref 48]) b_X11_brokerOf_0_1 rfl (fun hd => ?_)
  refine R2.callV3 (M2 := mX11_lays) (As := []) (rest := []) hd lk_11_140 okX11_lays (by decide) rfl (me_lays E L F l n hm) (by decide) rfl rfl (Nat.le_of_ble_eq_true rfl) ?_
  refine R2.B (ls2 := [some (.ref 48), some (.int wh), some (.int 0), none, none, none]) (st2 := []) b_X11_brokerOf_4_6 rfl (fun hd => ?_)
  refine ml_co E L n hm.2.2.1 wh _ n 0 (ly F n) (by omega) ((congrFun (ly_row (by decide)) 3).trans hm.2.2.2.1) ?_
  refine R2.B (ls2 := [some (.ref 48), some (.int wh), some (.int (-1)), some (.int 0), some (.int 0), none]) (st2 := []) b_X11_brokerOf_42_49 rfl (fun hd => ?_)
  exact ml_br E L (coL n n 0 (ly F n)) n ((congrFun (coL_row (by decide) n 0 (ly F n)) 3).trans ((congrFun (ly_row (by decide)) 3).trans hm.2.2.2.1)) hm.2.2.1 (by unfold ThM; rw [coL_row (by decide) n 0 (ly F n), ly_row (by decide)]; exact hth) wh 1024 0 (-1) 0 (coL n n 0 (ly F n)) (by omega) (fun _ _ _ => rfl)
