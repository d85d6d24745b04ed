/-! The world behind the two constructors: its shapes, its references, its numbers F. Printed by wip/whole/gen/gen_r2.py. -/
abbrev FF : Type := Nat → Nat → Int32
def SH (L : Nat) : List Shp := [.inr (.int, L), .inr (.int, 8), .inr (.int, 8), .inr (.int, 3), .inr (.int, 3), .inl 10, .inl 7, .inr (.int, 90), .inl 7, .inr (.int, 60), .inl 0, .inr (.int, 10), .inr (.int, 10), .inr (.int, 10), .inr (.int, 10), .inr (.int, 10), .inl 2, .inr (.int, 3), .inl 1, .inr (.boolean, 20), .inr (.int, 20), .inr (.int, 20), .inl 8, .inr (.int, 10), .inr (.boolean, 10), .inl 3, .inr (.boolean, 100), .inr (.int, 10), .inr (.int, 10), .inl 9, .inr (.int, 10), .inr (.int, 1024), .inr (.int, 1024), .inl 4, .inr (.int, 8), .inl 6, .inr (.boolean, 10), .inr (.int, 4), .inr (.int, 4), .inr (.object RX5, 4), .inl 5, .inr (.int, 60), .inl 5, .inr (.int, 60), .inl 5, .inr (.int, 60), .inl 5, .inr (.int, 60), .inl 11, .inr (.int, 2), .inr (.int, 180), .inr (.int, 3), .inr (.int, 11), .inr (.int, 11), .inr (.int, 11), .inr (.int, 11), .inr (.int, 11), .inr (.int, 11), .inr (.int, 32), .inr (.int, 32), .inr (.int, 32), .inr (.int, 1024), .inr (.int, 11), .inr (.int, 1024), .inr (.int, 1024), .inr (.int, 8), .inr (.int, 11), .inr (.int, 4), .inr (.int, 4), .inr (.boolean, 4), .inr (.int, 4), .inr (.int, 4), .inr (.int, 240), .inr (.int, 60)]
def rl : List (Option Nat) → Nat → Option Nat
  | [], _ => none
  | x :: _, 0 => x
  | _ :: t, n + 1 => rl t n
def nthR : List (Nat → Option Nat) → Nat → Nat → Option Nat
  | [], _ => fun _ => none
  | x :: _, 0 => x
  | _ :: t, n + 1 => nthR t n
def rowsL : List (Nat → Option Nat) := [fun _ => none, fun _ => none, fun _ => none, fun _ => none, fun _ => none, rl [some 6, some 8, some 10, some 16, some 18, some 22, some 25, some 29, some 33, some 35, some 39, none], rl [some 7, none], fun _ => none, rl [some 9, none], fun _ => none, rl [some 11, some 12, some 13, some 14, some 15, none, none], fun _ => none, fun _ => none, fun _ => none, fun _ => none, fun _ => none, rl [some 10, some 17], fun _ => none, rl [some 19, some 20, some 21, none, none], fun _ => none, fun _ => none, fun _ => none, rl [some 16, some 23, some 24, none, none, none], fun _ => none, fun _ => none, rl [some 16, some 26, some 27, some 28, none, none], fun _ => none, fun _ => none, fun _ => none, rl [some 16, some 30, some 31, some 32, none], fun _ => none, fun _ => none, fun _ => none, rl [some 34, none], fun _ => none, rl [some 16, some 36, some 37, some 38, none, none], fun _ => none, fun _ => none, fun _ => none, fun j => some (40 + 2 * j), rl [some 41, none, none, none], fun _ => none, rl [some 43, none, none, none], fun _ => none, rl [some 45, none, none, none], fun _ => none, rl [some 47, none, none, none], fun _ => none, rl [some 49, some 50, some 51, none, some 52, some 53, some 54, some 55, some 56, some 57, none, some 58, some 59, some 60, some 61, some 62, none, none, none, some 63, some 64, none, some 65, some 66, some 67, some 68, some 69, some 70, some 71, some 72, some 73, none], fun _ => none, fun _ => none, fun _ => none, fun _ => none, fun _ => none, fun _ => none, fun _ => none, fun _ => none, fun _ => none, fun _ => none, fun _ => none, fun _ => none, fun _ => none, fun _ => none, fun _ => none, fun _ => none, fun _ => none, fun _ => none, fun _ => none, fun _ => none, fun _ => none, fun _ => none, fun _ => none, fun _ => none, fun _ => none]
def gl (F : FF) : GG := fun k j => match nthR rowsL k j with
  | some r => .ref r
  | none => .int (F k j)
theorem gl_int {F : FF} {k j : Nat} (h : nthR rowsL k j = none) : gl F k j = .int (F k j) := by unfold gl; rw [h]
theorem gl_ref {F : FF} {k j r : Nat} (h : nthR rowsL k j = some r) : gl F k j = .ref r := by unfold gl; rw [h]
theorem gl_up {F : FF} {k j : Nat} {x : Int32} (h : nthR rowsL k j = none) : up2 (gl F) k j (.int x) = gl (up2 F k j x) := by
  funext a b
  by_cases ha : a = k
  · subst ha
    by_cases hb : b = j
    · subst hb
      rw [gl_int h]
      simp [up2]
    · simp only [up2, if_pos, if_neg hb, gl]
  · simp only [up2, if_neg ha, gl]
abbrev Q2 : Type := Option Value → FF → Prop
def Lq (L : Nat) (Q : Q2) : QQ := fun r sh G => ∃ F : FF, sh = SH L ∧ G = gl F ∧ Q r F
def R2 (E : EE) (L : Nat) (M : MTy) (d pc : Nat) (ls : List (Option Value)) (st : List Value) (F : FF) (Q : Q2) : Prop := Rn E M d 0 0 0 0 pc ls st (SH L) (gl F) (Lq L Q)
def Ev2 (E : EE) (L d : Nat) (M : MTy) (vs : List Value) (F : FF) (Q : Q2) : Prop := Ev E d M vs (SH L) (gl F) 0 0 (Lq L Q)
/-- the method answers r and leaves F1 -/
def Ev3 (E : EE) (L d : Nat) (M : MTy) (vs : List Value) (F : FF) (r : Option Value) (F1 : FF) : Prop := Ev2 E L d M vs F (fun r' F' => r' = r ∧ F' = F1)
section R2S
variable {E : EE} {L : Nat} {M : MTy} {d pc : Nat} {ls : List (Option Value)} {st : List Value} {F : FF} {Q : Q2}
theorem Ev2.of {vs : List Value} (hM : OkM M) (hv : vsz vs ≤ M.2.2.2.1) (hR : R2 E L M d 0 (entL vs M.2.2.2.1) [] F Q) : Ev2 E L d M vs F Q := Ev.of hM hv hR
theorem Ev3.of {vs : List Value} {r : Option Value} {F1 : FF} (hM : OkM M) (hv : vsz vs ≤ M.2.2.2.1) (hR : R2 E L M d 0 (entL vs M.2.2.2.1) [] F (fun r' F' => r' = r ∧ F' = F1)) : Ev3 E L d M vs F r F1 := Ev.of hM hv hR
theorem Ev3.eq {vs : List Value} {r r2 : Option Value} {F1 F2 : FF} (h : Ev3 E L d M vs F r F1) (e1 : r = r2) (e2 : F1 = F2) : Ev3 E L d M vs F r2 F2 := by rw [← e1, ← e2]; exact h
theorem R2.B {is : List SI} {pc2 n : Nat} {ins : Instr} {ls2 : List (Option Value)} {st2 : List Value} (hb : bl2 M pc is pc2 ins n = true) (hr : srun (SH L) is (pc, ls, st, gl F) = some (pc2, ls2, st2, gl F)) (k : decode M.2.2.1 pc2 = .ok (ins, n) → R2 E L M d pc2 ls2 st2 F Q) : R2 E L M d pc ls st F Q := Rn.B hb hr k
theorem R2.if_eq {x : Int32} {off : Int} (tgt : Nat) (hdec : decode M.2.2.1 pc = .ok (.ifCond .eq off, 3)) (ht : (pc : Int) + off = (tgt : Int)) (kt : x = 0 → R2 E L M d tgt ls st F Q) (kf : ¬ x = 0 → R2 E L M d (pc + 3) ls st F Q) : R2 E L M d pc ls (.int x :: st) F Q := Rn.if_eq tgt hdec ht kt kf
theorem R2.icmp_eq {x y : Int32} {off : Int} (tgt : Nat) (hdec : decode M.2.2.1 pc = .ok (.if_icmp .eq off, 3)) (ht : (pc : Int) + off = (tgt : Int)) (kt : x = y → R2 E L M d tgt ls st F Q) (kf : ¬ x = y → R2 E L M d (pc + 3) ls st F Q) : R2 E L M d pc ls (.int y :: .int x :: st) F Q := Rn.icmp_eq tgt hdec ht kt kf
theorem R2.if_ne {x : Int32} {off : Int} (tgt : Nat) (hdec : decode M.2.2.1 pc = .ok (.ifCond .ne off, 3)) (ht : (pc : Int) + off = (tgt : Int)) (kt : ¬ x = 0 → R2 E L M d tgt ls st F Q) (kf : x = 0 → R2 E L M d (pc + 3) ls st F Q) : R2 E L M d pc ls (.int x :: st) F Q := Rn.if_ne tgt hdec ht kt kf
theorem R2.icmp_ne {x y : Int32} {off : Int} (tgt : Nat) (hdec : decode M.2.2.1 pc = .ok (.if_icmp .ne off, 3)) (ht : (pc : Int) + off = (tgt : Int)) (kt : ¬ x = y → R2 E L M d tgt ls st F Q) (kf : x = y → R2 E L M d (pc + 3) ls st F Q) : R2 E L M d pc ls (.int y :: .int x :: st) F Q := Rn.icmp_ne tgt hdec ht kt kf
theorem R2.if_lt {x : Int32} {off : Int} (tgt : Nat) (hdec : decode M.2.2.1 pc = .ok (.ifCond .lt off, 3)) (ht : (pc : Int) + off = (tgt : Int)) (kt : x < 0 → R2 E L M d tgt ls st F Q) (kf : ¬ x < 0 → R2 E L M d (pc + 3) ls st F Q) : R2 E L M d pc ls (.int x :: st) F Q := Rn.if_lt tgt hdec ht kt kf
theorem R2.icmp_lt {x y : Int32} {off : Int} (tgt : Nat) (hdec : decode M.2.2.1 pc = .ok (.if_icmp .lt off, 3)) (ht : (pc : Int) + off = (tgt : Int)) (kt : x < y → R2 E L M d tgt ls st F Q) (kf : ¬ x < y → R2 E L M d (pc + 3) ls st F Q) : R2 E L M d pc ls (.int y :: .int x :: st) F Q := Rn.icmp_lt tgt hdec ht kt kf
theorem R2.if_ge {x : Int32} {off : Int} (tgt : Nat) (hdec : decode M.2.2.1 pc = .ok (.ifCond .ge off, 3)) (ht : (pc : Int) + off = (tgt : Int)) (kt : 0 ≤ x → R2 E L M d tgt ls st F Q) (kf : ¬ 0 ≤ x → R2 E L M d (pc + 3) ls st F Q) : R2 E L M d pc ls (.int x :: st) F Q := Rn.if_ge tgt hdec ht kt kf
theorem R2.icmp_ge {x y : Int32} {off : Int} (tgt : Nat) (hdec : decode M.2.2.1 pc = .ok (.if_icmp .ge off, 3)) (ht : (pc : Int) + off = (tgt : Int)) (kt : y ≤ x → R2 E L M d tgt ls st F Q) (kf : ¬ y ≤ x → R2 E L M d (pc + 3) ls st F Q) : R2 E L M d pc ls (.int y :: .int x :: st) F Q := Rn.icmp_ge tgt hdec ht kt kf
theorem R2.if_gt {x : Int32} {off : Int} (tgt : Nat) (hdec : decode M.2.2.1 pc = .ok (.ifCond .gt off, 3)) (ht : (pc : Int) + off = (tgt : Int)) (kt : 0 < x → R2 E L M d tgt ls st F Q) (kf : ¬ 0 < x → R2 E L M d (pc + 3) ls st F Q) : R2 E L M d pc ls (.int x :: st) F Q := Rn.if_gt tgt hdec ht kt kf
theorem R2.icmp_gt {x y : Int32} {off : Int} (tgt : Nat) (hdec : decode M.2.2.1 pc = .ok (.if_icmp .gt off, 3)) (ht : (pc : Int) + off = (tgt : Int)) (kt : y < x → R2 E L M d tgt ls st F Q) (kf : ¬ y < x → R2 E L M d (pc + 3) ls st F Q) : R2 E L M d pc ls (.int y :: .int x :: st) F Q := Rn.icmp_gt tgt hdec ht kt kf
theorem R2.if_le {x : Int32} {off : Int} (tgt : Nat) (hdec : decode M.2.2.1 pc = .ok (.ifCond .le off, 3)) (ht : (pc : Int) + off = (tgt : Int)) (kt : x ≤ 0 → R2 E L M d tgt ls st F Q) (kf : ¬ x ≤ 0 → R2 E L M d (pc + 3) ls st F Q) : R2 E L M d pc ls (.int x :: st) F Q := Rn.if_le tgt hdec ht kt kf
theorem R2.icmp_le {x y : Int32} {off : Int} (tgt : Nat) (hdec : decode M.2.2.1 pc = .ok (.if_icmp .le off, 3)) (ht : (pc : Int) + off = (tgt : Int)) (kt : x ≤ y → R2 E L M d tgt ls st F Q) (kf : ¬ x ≤ y → R2 E L M d (pc + 3) ls st F Q) : R2 E L M d pc ls (.int y :: .int x :: st) F Q := Rn.icmp_le tgt hdec ht kt kf
theorem R2.idiv {x y : Int32} (hdec : decode M.2.2.1 pc = .ok (.idiv, 1)) (hne : ¬ y = 0) (kk : R2 E L M d (pc + 1) ls (.int (x / y) :: st) F Q) : R2 E L M d pc ls (.int y :: .int x :: st) F Q := Rn.idiv hdec hne kk
theorem R2.irem {x y : Int32} (hdec : decode M.2.2.1 pc = .ok (.irem, 1)) (hne : ¬ y = 0) (kk : R2 E L M d (pc + 1) ls (.int (x - x / y * y) :: st) F Q) : R2 E L M d pc ls (.int y :: .int x :: st) F Q := Rn.irem hdec hne kk
theorem R2.tblIn {x : Int32} {dflt lo hi off : Int} {offs : Array Int} {len : Nat} (tgt : Nat) (hdec : decode M.2.2.1 pc = .ok (.tableswitch dflt lo hi offs, len)) (h1 : ¬ x.toInt < lo) (h2 : ¬ hi < x.toInt) (ho : offs[(x.toInt - lo).toNat]? = some off) (ht : (pc : Int) + off = (tgt : Int)) (kk : R2 E L M d tgt ls st F Q) : R2 E L M d pc ls (.int x :: st) F Q := Rn.tblIn tgt hdec h1 h2 ho ht kk
theorem R2.tblOut {x : Int32} {dflt lo hi : Int} {offs : Array Int} {len : Nat} (tgt : Nat) (hdec : decode M.2.2.1 pc = .ok (.tableswitch dflt lo hi offs, len)) (h1 : x.toInt < lo ∨ hi < x.toInt) (ht : (pc : Int) + dflt = (tgt : Int)) (kk : R2 E L M d tgt ls st F Q) : R2 E L M d pc ls (.int x :: st) F Q := Rn.tblOut tgt hdec h1 ht kk
theorem R2.iald {k n : Nat} {x : Int32} (j : Nat) (hx : x = nI j) (hdec : decode M.2.2.1 pc = .ok (.iaload, 1)) (ho : shg (SH L) k = some (.inr (.int, n))) (hr : ∀ q : Nat, nthR rowsL k q = none) (hn : n < 2147483648) (hj : j < n) (kk : R2 E L M d (pc + 1) ls (.int (F k j) :: st) F Q) : R2 E L M d pc ls (.int x :: .ref k :: st) F Q := by
  subst hx
  exact Rn.iald j hdec ho hn hj (by rw [gl_int (hr j)]; exact kk)
theorem R2.zald {k n : Nat} {x : Int32} (j : Nat) (hx : x = nI j) (hdec : decode M.2.2.1 pc = .ok (.baload, 1)) (ho : shg (SH L) k = some (.inr (.boolean, n))) (hr : ∀ q : Nat, nthR rowsL k q = none) (hn : n < 2147483648) (hj : j < n) (kk : R2 E L M d (pc + 1) ls (.int (F k j) :: st) F Q) : R2 E L M d pc ls (.int x :: .ref k :: st) F Q := by
  subst hx
  exact Rn.zald j hdec ho hn hj (by rw [gl_int (hr j)]; exact kk)
theorem R2.aald {k n k2 : Nat} {x : Int32} (j : Nat) (hx : x = nI j) (hdec : decode M.2.2.1 pc = .ok (.aaload, 1)) (ho : shg (SH L) k = some (.inr (.object RX5, n))) (hn : n < 2147483648) (hj : j < n) (hr : nthR rowsL k j = some k2) (kk : R2 E L M d (pc + 1) ls (.ref k2 :: st) F Q) : R2 E L M d pc ls (.int x :: .ref k :: st) F Q := by
  subst hx
  exact Rn.aald j hdec ho hn hj (by rw [gl_ref hr]; exact kk)
theorem R2.iast {k n : Nat} {x y : Int32} (j : Nat) (hx : x = nI j) (hdec : decode M.2.2.1 pc = .ok (.iastore, 1)) (h5 : 5 ≤ k) (ho : shg (SH L) k = some (.inr (.int, n))) (hr : ∀ q : Nat, nthR rowsL k q = none) (hn : n < 2147483648) (hj : j < n) (kk : R2 E L M d (pc + 1) ls st (up2 F k j y) Q) : R2 E L M d pc ls (.int y :: .int x :: .ref k :: st) F Q := by
  subst hx
  exact Rn.iast j hdec h5 ho hn hj (by rw [gl_up (hr j)]; exact kk)
theorem R2.zast {k n : Nat} {x y : Int32} (j : Nat) (hx : x = nI j) (hdec : decode M.2.2.1 pc = .ok (.bastore, 1)) (h5 : 5 ≤ k) (ho : shg (SH L) k = some (.inr (.boolean, n))) (hr : ∀ q : Nat, nthR rowsL k q = none) (hn : n < 2147483648) (hj : j < n) (hy : y = 0 ∨ y = 1) (kk : R2 E L M d (pc + 1) ls st (up2 F k j y) Q) : R2 E L M d pc ls (.int y :: .int x :: .ref k :: st) F Q := by
  subst hx
  exact Rn.zast j hdec h5 ho hn hj hy (by rw [gl_up (hr j)]; exact kk)
theorem R2.putf {a b k idx : Nat} {x : Int32} (hdec : decode M.2.2.1 pc = .ok (.putfield idx, 3)) (hf : (M.1, idx, a, b) ∈ FL) (hfin : (match vwCl[a]? with | some r => (r.2.1 b).2.2.2 == false | none => false) = true) (ho : isObj (SH L) k a = true) (hp : putOk (ftyp a b) (.int x) = true) (hr : ∀ _ : Nat, nthR rowsL k b = none) (kk : R2 E L M d (pc + 3) ls st (up2 F k b x) Q) : R2 E L M d pc ls (.int x :: .ref k :: st) F Q := by
  have hnf : narrow (ftyp a b) (rv E (.int x)) = rv E (.int x) ∧ fits (ftyp a b) (rv E (.int x)) = true := by
    unfold putOk at hp
    split at hp
    · rename_i x0 e1 e2
      rw [e1]
      exact ⟨rfl, rfl⟩
    · rename_i x0 x1 e1 e2
      rw [e1]
      have e3 := Value.int.inj e2
      subst e3
      rcases (show x = 0 ∨ x = 1 by simpa using hp) with rfl | rfl
      · exact ⟨rfl, rfl⟩
      · exact ⟨rfl, rfl⟩
    · cases hp
  refine Rn.putf hdec hf (fun r hr => ?_) ho hnf.1 hnf.2 (by rw [gl_up (hr 0)]; exact kk)
  rw [hr] at hfin
  simpa using hfin
theorem R2.mmax {x y : Int32} {idx : Nat} (hdec : decode M.2.2.1 pc = .ok (.invokestatic idx, 3)) (hl : Cond.methodLink (Rcls M.1) idx Lib.Math.max.name ∈ lw_good) (hd : 1 ≤ d) (hst : (st.map fun v => v.category).sum ≤ 8) (kk : R2 E L M d (pc + 3) ls (.int (if x < y then y else x) :: st) F Q) : R2 E L M d pc ls (.int y :: .int x :: st) F Q := Rn.mmax hdec hl hd hst (Nat.le_refl _) (Nat.le_refl _) kk
theorem R2.mmin {x y : Int32} {idx : Nat} (hdec : decode M.2.2.1 pc = .ok (.invokestatic idx, 3)) (hl : Cond.methodLink (Rcls M.1) idx Lib.Math.min.name ∈ lw_good) (hd : 1 ≤ d) (hst : (st.map fun v => v.category).sum ≤ 8) (kk : R2 E L M d (pc + 3) ls (.int (if y < x then y else x) :: st) F Q) : R2 E L M d pc ls (.int y :: .int x :: st) F Q := Rn.mmin hdec hl hd hst (Nat.le_refl _) (Nat.le_refl _) kk
def cpyF (F : FF) (ks kd sp dp n : Nat) : FF := fun a j => if a = kd then (if dp ≤ j ∧ j < dp + n then F ks (sp + (j - dp)) else F kd j) else F a j
theorem gl_cpy {F : FF} {ks kd sp dp n : Nat} (h1 : ∀ q, nthR rowsL ks q = none) (h2 : ∀ q, nthR rowsL kd q = none) : cpy2 (gl F) ks kd sp dp n = gl (cpyF F ks kd sp dp n) := by
  funext a j
  by_cases ha : a = kd
  · subst ha
    by_cases hj : dp ≤ j ∧ j < dp + n
    · simp only [cpy2, if_pos, hj, and_self]
      rw [gl_int (h1 _), gl_int (h2 _)]
      simp [cpyF, hj]
    · simp only [cpy2, if_pos, if_neg hj]
      rw [gl_int (h2 _), gl_int (h2 _)]
      simp only [cpyF, if_pos, if_neg hj]
  · simp only [cpy2, if_neg ha, gl, cpyF]
theorem R2.acopy {ks kd n0 n1 sp dp n idx : Nat} {xs xd xn : Int32} (hs : xs = nI sp) (hdp : xd = nI dp) (hn : xn = nI n) (hdec : decode M.2.2.1 pc = .ok (.invokestatic idx, 3)) (hl : Cond.methodLink (Rcls M.1) idx arraycopyName ∈ lw_good) (h5 : 5 ≤ kd) (h5s : 5 ≤ ks) (ho0 : shg (SH L) ks = some (.inr (.int, n0))) (ho1 : shg (SH L) kd = some (.inr (.int, n1))) (h1 : ∀ q, nthR rowsL ks q = none) (h2 : ∀ q, nthR rowsL kd q = none) (hn0 : n0 < 2147483648) (hn1 : n1 < 2147483648) (hs0 : sp + n ≤ n0) (hs1 : dp + n ≤ n1) (hd : 2 ≤ d) (hrest : (st.map fun v => v.category).sum ≤ 8)
    (kk : R2 E L M d (pc + 3) ls st (cpyF F ks kd sp dp n) Q) : R2 E L M d pc ls (.int xn :: .int xd :: .ref kd :: .int xs :: .ref ks :: st) F Q := by
  subst hs; subst hdp; subst hn
  exact Rn.acopy hdec hl h5 h5s ho0 ho1 hn0 hn1 hs0 hs1 (fun j => ⟨_, gl_int (h1 j)⟩) hd hrest (by rw [gl_cpy h1 h2]; exact kk)
theorem R2.callS {M2 : MTy} {As rest : List Value} {idx d2 : Nat} {Qc : Q2} (hdec : decode M.2.2.1 pc = .ok (.invokestatic idx, 3)) (hl : Lnk M.1 idx M2) (ok : OkS M2) (hml : M2.2.2.2.1 ≤ 21) (ev : Ev2 E L d2 M2 As F Qc) (hd : d2 < d) (hn : As.length = npar M2) (hst : st = As.reverse ++ rest) (hrest : (rest.map fun v => v.category).sum ≤ 8)
    (kk : ∀ r F1, Qc r F1 → R2 E L M d (pc + 3) ls (r.toList ++ rest) F1 Q) : R2 E L M d pc ls st F Q := by
  refine Rn.callS hdec hl ok hml ev hd hn hst hrest (Nat.le_refl _) (Nat.le_refl _) ?_
  rintro r sh' G' ⟨F1, rfl, rfl, hq⟩
  exact kk r F1 hq
theorem R2.callV {M2 : MTy} {As rest : List Value} {idx d2 k : Nat} {Qc : Q2} (hdec : decode M.2.2.1 pc = .ok (.invokevirtual idx, 3)) (hl : Lnk M.1 idx M2) (ok : OkI M2) (hml : M2.2.2.2.1 ≤ 21) (hk : isObj (SH L) k M2.1 = true) (ev : Ev2 E L d2 M2 (.ref k :: As) F Qc) (hd : d2 < d) (hn : As.length = npar M2) (hst : st = As.reverse ++ .ref k :: rest) (hrest : (rest.map fun v => v.category).sum ≤ 8)
    (kk : ∀ r F1, Qc r F1 → R2 E L M d (pc + 3) ls (r.toList ++ rest) F1 Q) : R2 E L M d pc ls st F Q := by
  refine Rn.callV hdec hl ok hml hk ev hd hn hst hrest (Nat.le_refl _) (Nat.le_refl _) ?_
  rintro r sh' G' ⟨F1, rfl, rfl, hq⟩
  exact kk r F1 hq
theorem R2.callS3 {M2 : MTy} {As rest : List Value} {idx d2 : Nat} {r : Option Value} {F1 : FF} (hdec : decode M.2.2.1 pc = .ok (.invokestatic idx, 3)) (hl : Lnk M.1 idx M2) (ok : OkS M2) (hml : M2.2.2.2.1 ≤ 21) (ev : Ev3 E L d2 M2 As F r F1) (hd : d2 < d) (hn : As.length = npar M2) (hst : st = As.reverse ++ rest) (hrest : (rest.map fun v => v.category).sum ≤ 8)
    (kk : R2 E L M d (pc + 3) ls (r.toList ++ rest) F1 Q) : R2 E L M d pc ls st F Q := by
  refine R2.callS hdec hl ok hml ev hd hn hst hrest ?_
  rintro r' F' ⟨rfl, rfl⟩
  exact kk
theorem R2.callV3 {M2 : MTy} {As rest : List Value} {idx d2 k : Nat} {r : Option Value} {F1 : FF} (hdec : decode M.2.2.1 pc = .ok (.invokevirtual idx, 3)) (hl : Lnk M.1 idx M2) (ok : OkI M2) (hml : M2.2.2.2.1 ≤ 21) (hk : isObj (SH L) k M2.1 = true) (ev : Ev3 E L d2 M2 (.ref k :: As) F r F1) (hd : d2 < d) (hn : As.length = npar M2) (hst : st = As.reverse ++ .ref k :: rest) (hrest : (rest.map fun v => v.category).sum ≤ 8)
    (kk : R2 E L M d (pc + 3) ls (r.toList ++ rest) F1 Q) : R2 E L M d pc ls st F Q := by
  refine R2.callV hdec hl ok hml hk ev hd hn hst hrest ?_
  rintro r' F' ⟨rfl, rfl⟩
  exact kk
theorem R2.ret {r : Option Value} {ins : Instr} (hdec : decode M.2.2.1 pc = .ok (ins, 1)) (hr : retOf M.2.2.2.2 ins r) (hst : st = r.toList) (hq : Q r F) : R2 E L M d pc ls st F Q := Rn.ret hdec hr hst (Nat.le_refl _) (Nat.le_refl _) ⟨F, rfl, rfl, hq⟩
theorem R2.ret3 {r r0 : Option Value} {F1 : FF} {ins : Instr} (hdec : decode M.2.2.1 pc = .ok (ins, 1)) (hr : retOf M.2.2.2.2 ins r) (hst : st = r.toList) (e : r = r0) (e2 : F = F1) : R2 E L M d pc ls st F (fun r' F' => r' = r0 ∧ F' = F1) := R2.ret hdec hr hst ⟨e, e2⟩
def subL : List (Option Value) → List (Option Value) → Prop
  | [], _ => True
  | none :: a, _ :: b => subL a b
  | some v :: a, x :: b => x = some v ∧ subL a b
  | _ :: _, [] => False
theorem subL_get : ∀ {a b : List (Option Value)}, subL a b → ∀ j v, lget a j = some v → lget b j = some v
  | [], _, _, j, v, h => by simp [lget] at h
  | none :: a, x :: b, hs, 0, v, h => by simp [lget] at h
  | none :: a, x :: b, hs, j + 1, v, h => subL_get (a := a) (b := b) hs j v h
  | some w :: a, x :: b, hs, 0, v, h => by
    have h1 : some w = some v := h
    rw [← h1]
    exact hs.1
  | some w :: a, x :: b, hs, j + 1, v, h => subL_get (a := a) (b := b) hs.2 j v h
theorem R2.forget {ls2 : List (Option Value)} (hs : subL ls2 ls) (k : R2 E L M d pc ls2 st F Q) : R2 E L M d pc ls st F Q := by
  intro p e R s m args below meth c Qw C H locs la hH hS hL
  refine k p e R s m args below meth c Qw C H locs la hH hS ?_
  refine lvr.sub (l := lst E 0 ls) hL (fun j v h => ?_)
  exact (lst_mem E ls 0 _).mpr ⟨j, v, subL_get hs j v h, by rw [Nat.zero_add]⟩
theorem R2.top {x y : Int32} (e : x = y) (k : R2 E L M d pc ls (.int y :: st) F Q) : R2 E L M d pc ls (.int x :: st) F Q := by rw [e]; exact k
theorem R2.eqF {F2 : FF} (e : F = F2) (k : R2 E L M d pc ls st F2 Q) : R2 E L M d pc ls st F Q := by rw [e]; exact k
theorem Ev2.post {vs : List Value} {Qc : Q2} (h : Ev2 E L d M vs F Q) (hq : ∀ r F, Q r F → Qc r F) : Ev2 E L d M vs F Qc := by
  intro p e hA hB hC s m args below hf hS hP hX
  obtain ⟨k, o, h1, h2, h3, ⟨⟨⟨r, sh, G, e1, ⟨F', e2, e3, h4⟩, h5⟩, h6⟩, h7⟩⟩ := h p e hA hB hC s m args below hf hS hP hX
  exact ⟨k, o, h1, h2, h3, ⟨⟨⟨r, sh, G, e1, ⟨F', e2, e3, hq r F' h4⟩, h5⟩, h6⟩, h7⟩⟩
end R2S
