/-! The judgement: from this place in a method, the machine comes to the method's end with Q. -/
theorem entL_sub (E : EE) : ∀ (vs : List Value) (n i : Nat) (j : Nat) (v : Value), lget (entL vs n) j = some v → (i + j, rv E v) ∈ lv_args i (vs.map (rv E))
  | [], n, i, j, v, h => by
    exfalso
    simp only [entL] at h
    induction n generalizing j with
    | zero => simp [lget] at h
    | succ n ih =>
      rw [List.replicate_succ] at h
      cases j with
      | zero => simp [lget] at h
      | succ j => exact ih j h
  | w :: t, n, i, j, v, h => by
    simp only [List.map_cons, lv_args, rv_cat]
    simp only [entL] at h
    by_cases hc : w.category = 2
    · rw [if_pos hc] at h ⊢
      cases j with
      | zero => simp only [lget] at h; cases h; exact List.mem_cons_self
      | succ j =>
        cases j with
        | zero => simp [lget] at h
        | succ j =>
          have := entL_sub E t (n - 2) (i + 2) j v h
          exact List.mem_cons_of_mem _ (by rw [show i + (j + 1 + 1) = i + 2 + j by omega]; exact this)
    · rw [if_neg hc] at h ⊢
      cases j with
      | zero => simp only [lget] at h; cases h; exact List.mem_cons_self
      | succ j =>
        have := entL_sub E t (n - 1) (i + 1) j v h
        exact List.mem_cons_of_mem _ (by rw [show i + (j + 1) = i + 1 + j by omega]; exact this)
def vsz : List Value → Nat
  | [] => 0
  | v :: t => (if v.category = 2 then 2 else 1) + vsz t
theorem vsz_eq (E : EE) : ∀ vs : List Value, (lg_sl (vs.map (rv E))).length = vsz vs
  | [] => rfl
  | v :: t => by
    have ih := vsz_eq E t
    simp only [lg_sl, List.map_cons, List.flatMap_cons, List.length_append, vsz, rv_cat] at ih ⊢
    rw [ih]
    by_cases hc : v.category = 2 <;> simp [hc]
theorem lvr_entry (E : EE) (vs : List Value) {n : Nat} (h : vsz vs ≤ n) : lvr E n (entL vs n) ((lg_sl (vs.map (rv E)) ++ List.replicate (n - (lg_sl (vs.map (rv E))).length) Slot.unset).toArray) := by
  refine lvr.sub (lv_entry (vs.map (rv E)) (n := n) (by rw [vsz_eq]; exact h)) (fun j v hv => ?_)
  have := entL_sub E vs n 0 j v hv
  rwa [Nat.zero_add] at this
abbrev QQ : Type := Option Value → List Shp → GG → Prop
/-- the instruction that returns r from a method of this result -/
def retOf : Option FieldType → Instr → Option Value → Prop
  | some .int, .ireturn, some (.int _) => True
  | some .boolean, .ireturn, some (.int x) => x = 0 ∨ x = 1
  | some .long, .lreturn, some (.long _) => True
  | some (.object _), .areturn, some (.ref _) => True
  | none, .return_, none => True
  | _, _, _ => False
/-- the context of a method's walk -/
def CT (E : EE) (M : MTy) (d MC MS : Nat) (Q : QQ) (p : Program) (e : Env) (R : Room) (s : State) (m : MethodId) (args : Array Value) (below : List Frame) (meth : Method) (c : Code) (Qw : State → Prop) : Prop :=
  (p.tables.exec = Jvm.exec ∧ c.code = M.2.2.1 ∧ c.maxLocals = M.2.2.2.1 ∧ s.vm.findClass (Rcls M.1) = some m.cls) ∧
  (∀ w ∈ WM M, w.before args s = true) ∧ Env2 E s ∧ E.2.2.1 ≤ s.heap.size ∧ (d ≤ R.frames ∧ 40 * d ≤ R.locals ∧ MC ≤ R.cells ∧ MS ≤ R.slots) ∧ meth.name = M.2.1.name ∧
  (∀ (r : Option Value) (sh : List Shp) (G : GG) (H : Heap) (locs : List Loc) (pc : Nat) (la : Array Slot) (ins : Instr), Q r sh G → HR E sh G s H → va_S (fr E) s.heap H locs → retOf M.2.2.2.2 ins r → decode M.2.2.1 pc = .ok (ins, 1) →
    W p E.1 e R s m args below meth c H locs MC MS Qw (F0 m pc la (r.toList.map (rv E))))
def Rn (E : EE) (M : MTy) (d MC MS cs sl pc : Nat) (ls : List (Option Value)) (st : List Value) (sh : List Shp) (G : GG) (Q : QQ) : Prop :=
  ∀ p e R s m args below meth c Qw, CT E M d MC MS Q p e R s m args below meth c Qw → ∀ H locs la, HR E sh G s H → va_S (fr E) s.heap H locs → lvr E M.2.2.2.1 ls la →
    W p E.1 e R s m args below meth c H locs cs sl Qw (F0 m pc la (st.map (rv E)))
def rmE (d mc ms : Nat) : Room := { frames := d, cells := mc, slots := ms, locals := 40 * d }
def PcE (E : EE) (vs : List Value) (sh : List Shp) (G : GG) : Array Value → State → Prop := fun a U => a = (vs.map (rv E)).toArray ∧ Env2 E U ∧ HR E sh G U U.heap
def QcE (E : EE) (Q : QQ) : Array Value → State → Outcome → State → Prop := fun _ st oc t => (∃ (r : Option Value) (sh : List Shp) (G : GG), oc = .returned (r.map (rv E)) ∧ Q r sh G ∧ HR E sh G t t.heap) ∧ va_F (fr E) st t
def Ev (E : EE) (d : Nat) (M : MTy) (vs : List Value) (sh : List Shp) (G : GG) (mc ms : Nat) (Q : QQ) : Prop := Met E.1 M.2.1 (WM M) (rmE d mc ms) (PcE E vs sh G) (QcE E Q) mc ms (fr E)
def OkM (M : MTy) : Prop := Cond.code M.2.1 M.2.2.1 M.2.2.2.1 M.2.2.2.2 ∈ lw_good ∧ Cond.initialized M.2.1.cls ∈ lw_good ∧ M.2.1.cls = Rcls M.1 ∧ plainName M.2.1.cls = true ∧ (M.2.1.cls ≠ "java/lang/invoke/MethodHandle" ∧ M.2.1.cls ≠ "java/lang/invoke/VarHandle")
theorem HR.lo {E : EE} {sh : List Shp} {G : GG} {U : State} {H : Heap} (h : HR E sh G U H) : E.2.2.1 ≤ H.size := by rw [h.1.2]; exact Nat.le_add_right _ _
set_option maxHeartbeats 1000000 in
theorem Ev.of {E : EE} {d : Nat} {M : MTy} {vs : List Value} {sh : List Shp} {G : GG} {mc ms : Nat} {Q : QQ} (hM : OkM M) (hv : vsz vs ≤ M.2.2.2.1) (hR : Rn E M d mc ms 0 0 0 (entL vs M.2.2.2.1) [] sh G Q) : Ev E d M vs sh G mc ms Q := by
  refine Met.ofW (cc := M.2.2.1) (maxL := M.2.2.2.1) (ret := M.2.2.2.2) hM.2.2.2.1 rfl ?_
  intro p e s m args below meth c s₁ B hml hp
  obtain ⟨rfl, hE, hH⟩ := hp
  have hx := B.exec
  have hb := B.bytes
  have hr := B.returns
  have hts := atoms_spec (ws := WM M) B.pre
  have hown : s.vm.findClass M.2.1.cls = some m.cls := findClass_of_methodNamed B.named
  have hlocks := B.notSynchronized
  have hin : meth.name = M.2.1.name := (name_of_methodNamed B.named B.method).1
  rw [lg_entry_eq]
  refine hR p e _ s m _ below meth c (MQ below (QcE E Q) ((vs.map (rv E)).toArray) s mc ms (fr E)) ⟨⟨hx, hb, hml, by rw [← hM.2.2.1]; exact hown⟩, hts, hE, hH.lo, ⟨Nat.le_refl _, Nat.le_refl _, Nat.le_refl _, Nat.le_refl _⟩, hin, ?_⟩ s.heap [] _ hH va_S.rf (lvr_entry E vs hv)
  intro r sh' G' H locs pc la ins hq hH' hS hret hdec
  have fin : ∀ (o : Option Value), o = r.map (rv E) → ∀ t : State, t.heap = H → s.WarmedH t.vm → QcE E Q ((vs.map (rv E)).toArray) s (.returned o) t := by
    intro o ho t ht hW
    refine ⟨⟨r, sh', G', by rw [ho], hq, ?_⟩, hS.F ht⟩
    rw [ht]
    exact hH'.moved hW.alike
  cases r with
  | none =>
    cases hrt : M.2.2.2.2 with
    | none =>
      rw [hrt] at hret hr
      cases ins <;> first | (simp [retOf] at hret; done) | exact W.vret hx hb hr (fin none rfl) hS.2.2 hdec
    | some ty => rw [hrt] at hret; cases ty <;> cases ins <;> simp [retOf] at hret
  | some v =>
    cases hrt : M.2.2.2.2 with
    | none => rw [hrt] at hret; cases ins <;> simp [retOf] at hret
    | some ty =>
      rw [hrt] at hret hr
      cases ty with
      | int =>
        cases v <;> cases ins <;> first | (simp [retOf] at hret; done) | exact W.iret hx hb hr (fin _ rfl) hS.2.2 hdec
      | boolean =>
        cases v with
        | int x =>
          cases ins <;> first | (simp [retOf] at hret; done) | skip
          refine W.zret hx hb hr ?_ (fin _ rfl) hS.2.2 hdec
          rcases (show x = 0 ∨ x = 1 from hret) with rfl | rfl <;> rfl
        | _ => cases ins <;> simp [retOf] at hret
      | long =>
        cases v <;> cases ins <;> first | (simp [retOf] at hret; done) | exact W.lret hx hb hr (fin _ rfl) hS.2.2 hdec
      | object n =>
        cases v <;> cases ins <;> first | (simp [retOf] at hret; done) | exact W.aret hx hb hr (Or.inl ⟨_, rfl⟩) (Or.inr ⟨_, rfl⟩) (fin _ rfl) hS.2.2 hdec
      | _ => cases v <;> cases ins <;> simp [retOf] at hret
section RET
variable {E : EE} {M : MTy} {d MC MS cs sl pc : Nat} {ls : List (Option Value)} {st : List Value} {sh : List Shp} {G : GG} {Q : QQ}
theorem Rn.ret {r : Option Value} {ins : Instr} (hdec : decode M.2.2.1 pc = .ok (ins, 1)) (hr : retOf M.2.2.2.2 ins r) (hst : st = r.toList) (hc : cs ≤ MC) (hs : sl ≤ MS) (hq : Q r sh G) : Rn E M d MC MS cs sl pc ls st sh G Q := by
  intro p e R s m args below meth c Qw C H locs la hH hS hL
  subst hst
  exact W.widen hc hs (C.2.2.2.2.2.2 r sh G H locs pc la ins hq hH hS hr hdec)
theorem Rn.post {Q2 : QQ} (h : Rn E M d MC MS cs sl pc ls st sh G Q2) (hq : ∀ r sh G, Q2 r sh G → Q r sh G) : Rn E M d MC MS cs sl pc ls st sh G Q := by
  intro p e R s m args below meth c Qw C H locs la hH hS hL
  exact h p e R s m args below meth c Qw ⟨C.1, C.2.1, C.2.2.1, C.2.2.2.1, C.2.2.2.2.1, C.2.2.2.2.2.1, fun r sh G H locs pc la ins q1 => C.2.2.2.2.2.2 r sh G H locs pc la ins (hq r sh G q1)⟩ H locs la hH hS hL
end RET
