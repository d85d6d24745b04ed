/-! THE CLAIM OUT OF ONE WALK OF THE LAW'S BODY. Your part is whole_start (and what it stands on); all else here is the same for every law, but numbers. -/
def R_law : String := "ElevenPacesLaw"
def lw_P (b : Addr) (xs : List Int32) (args : Array Value) (s : State) : Prop := args = #[.ref b] ∧ s.IntsAt b xs ∧ xs.length ≤ 3072 ∧ (Jvm.Cond.and given_1 narrow_1).before args s = true
def lw_Q (_ : Array Value) (s : State) (o : Outcome) (t : State) : Prop := o = .returned (some (.int 1)) ∧ Framed s o t [] 600000 7302250
def lw_Z (below : List Frame) (a : Array Value) (s : State) : State → Prop := fun t => ∃ o, t.status = .running ∧ Ended t below o ∧ lw_Q a s o t
/-- the law's own end, with 1 on the stack, nothing written that was there before, its room as the claim has it -/
theorem lw_ret {p : Program} {l : Launch} {e : Env} {s : State} {m : MethodId} {below : List Frame} {meth : Method} {c : Code} {b : Nat} (hx : p.tables.exec = Jvm.exec) (hb : c.code = code) (hr : meth.sig.returnType = ret) (hlocks : meth.locks = false) {pc : Nat} {H : Heap} {ls : Array Slot} (hdg : decode code pc = .ok (.ireturn, 1)) : W p l e room_1 s m #[Value.ref b] below meth c H [] 600000 7302250 (lw_Z below #[Value.ref b] s) (F0 m pc ls [.int 1]) := by
  intro T hT X
  obtain ⟨fs, hret, hrun, hended, hW, hframe⟩ := X.leave (v := some (.int 1)) (hlocks := hlocks) (fun h => by rw [hr] at h; cases h)
  have hmeth' : T.vm.method? m = some meth := X.method'
  refine ⟨T.setFrames fs, ?_, .returned (some (.int 1)), hrun, hended, rfl, ⟨_, rfl⟩, hW, hframe⟩
  jvm_step X.here [X.here.top, hx, hb, hdg, hmeth', hr, ret, narrow_b1]
  (try refine ⟨rfl, ?_⟩); (try refine ⟨rfl, ?_⟩)
  first | (intro acts; rw [hret _ acts rfl rfl rfl]) | rw [hret _ _ rfl rfl rfl]
  exact Steps.refl _
/-- what holds at the law's entry: the machine, the code, the tables' words (any of lw_tbl by 'hts w (by decide +kernel)'), the script of L ints xs at the cell b, what the Statement gives of the start (any of its parts by flat_of_before) -/
def lw_At (p : Program) (s : State) (m : MethodId) (meth : Method) (c : Code) (b L : Nat) (xs : Nat → Int32) : Prop :=
  p.tables.exec = Jvm.exec ∧ c.code = code ∧ meth.sig.returnType = ret ∧ c.maxLocals = 4 ∧ s.vm.findClass R_law = some m.cls ∧ (∀ w ∈ lw_tbl, w.before #[Value.ref b] s = true) ∧ va_X b L xs s s.heap ∧ b < s.heap.size ∧ meth.locks = false ∧ (Jvm.Cond.and given_1 narrow_1).before #[Value.ref b] s = true ∧ (Jvm.Cond.code x code maxLocals ret).before #[Value.ref b] s = true ∧ meth.name = x.name
/-! The start: what the given words say of the tables; the world's first five places. By hand. -/
theorem start_tab {args : Array Value} {s : State} {A : Nat → Prop} (nm : String) (N : Nat) (v : Nat → Int32) (hN : N < 2 ^ 31) (hgv : (Jvm.Cond.and given_1 narrow_1).before args s = true)
    (h1 : Cond.arrayOf (.static "ElevenPaces" nm "[I") .int ∈ flatC (Jvm.Cond.and given_1 narrow_1)) (h2 : Cond.eq (.length (.static "ElevenPaces" nm "[I")) (.int (Int32.ofNat N)) ∈ flatC (Jvm.Cond.and given_1 narrow_1))
    (h3 : ∀ j : Nat, j < N → Cond.eq (.elem (.static "ElevenPaces" nm "[I") (.int (Int32.ofNat j))) (.int (v j)) ∈ flatC (Jvm.Cond.and given_1 narrow_1))
    (hl : (Cond.laysStatic "ElevenPaces" nm "[I").before args s = true) (hini : (Cond.initialized "ElevenPaces").before args s = true) (hA : ∀ a : Nat, a < s.heap.size → ¬ A a) :
    ∃ t : Nat, va_Z "ElevenPaces" nm "[I" (.ref t) A s s.heap ∧ va_T .int t N (fun j => .int (v j)) A s s.heap := by
  have hs := flat_of_before _ hgv
  obtain ⟨t, e1, e2⟩ := va_Tof hN (hs _ h1) (va_eqt (hs _ h2)) (fun j hj => va_eqt (hs _ (h3 j hj))) hA
  exact ⟨t, va_Zof hl hini e1 hA, e2⟩
def leT : Nat → Int32 := fun j => if j = 0 then 1 else 0
def moT : Nat → Int32 := fun j => if j = 2 then 40 else 90
def S00 (xs : Nat → Int32) : FF := fun k => if k = 0 then xs else if k = 1 then exT else if k = 2 then syT else if k = 3 then leT else moT
theorem S00_cst (xs : Nat → Int32) : CST (S00 xs) := ⟨fun _ _ => rfl, fun _ _ => rfl, ⟨rfl, rfl, rfl⟩, ⟨rfl, rfl, rfl⟩⟩
theorem known_all {s : State} {args : Array Value} (hgood : ∀ w ∈ lw_good, w.before args s = true) (z : Nat) : ∃ (dC : Nat → ClassId) (dI : Nat → Nat → Nat), ∀ (k : Nat) (r : vw_C), vwCl[k]? = some r → u_Kn s r.1 r.2.1 r.2.2 (dC k) (dI k) := by
  have h1 : ∀ k : Nat, ∃ q : ClassId × (Nat → Nat), ∀ r : vw_C, vwCl[k]? = some r → u_Kn s r.1 r.2.1 r.2.2 q.1 q.2 := by
    intro k
    cases h : vwCl[k]? with
    | none => exact ⟨(z, fun _ => 0), fun r hr => by cases hr⟩
    | some r =>
      obtain ⟨cC, iS, q⟩ := u_known hgood (lays_ok k r h) (hgood _ (inst_ok k r h).1)
      exact ⟨(cC, iS), fun r' hr => by cases hr; exact q⟩
  exact ⟨fun k => (Classical.choose (h1 k)).1, fun k => (Classical.choose (h1 k)).2, fun k r hr => Classical.choose_spec (h1 k) r hr⟩
/-- addresses and array classes of the first places -/
def adr (b t1 t2 t3 t4 : Nat) : Nat → Nat := fun k => if k = 0 then b else if k = 1 then t1 else if k = 2 then t2 else if k = 3 then t3 else t4
def acl (cI cZ cO : ClassId) : FieldType → ClassId
  | .int => cI
  | .boolean => cZ
  | _ => cO
theorem start_env {s : State} {args : Array Value} (l : Launch) (b t1 t2 t3 t4 : Nat) (hts : ∀ w ∈ lw_tbl, w.before args s = true) : ∃ E : EE, E.1 = l ∧ E.2.2.1 = s.heap.size ∧ E.2.2.2.1 = adr b t1 t2 t3 t4 ∧ Env2 E s := by
  have hgood : ∀ w ∈ lw_good, w.before args s = true := fun w hw => hts w (lw_good_in hw).1
  obtain ⟨dC, dI, hK⟩ := known_all hgood 0
  obtain ⟨cI, kI, pI, i1, i2, i3⟩ := Cond.arrayClass_spec (hgood _ arc_int)
  obtain ⟨cZ, kZ, pZ, z1, z2, z3⟩ := Cond.arrayClass_spec (hgood _ arc_boolean)
  have hov : (Cond.arrayOver (.object RX5)).before args s = true := hts _ (by decide +kernel)
  obtain ⟨pO, cO, kO, o1, -, o2, o3, o4⟩ := Cond.arrayOver_spec hov
  refine ⟨(l, (dC, dI), s.heap.size, adr b t1 t2 t3 t4, acl cI cZ cO), rfl, rfl, rfl, ⟨hK, fun k q hq => ?_⟩, fun w hw => ?_, va_AO.of hov⟩
  · match k, hq with
    | 0, hq => cases hq; exact ⟨fun n z => ⟨fun k h => (by cases h), kI, i2, pI, i3⟩, i1⟩
    | 1, hq => cases hq; exact ⟨fun n z => ⟨fun k h => (by cases h), kZ, z2, pZ, z3⟩, z1⟩
    | 2, hq => cases hq; exact ⟨fun n z => ⟨fun k h => (by cases h), kO, o2, pO, o3⟩, kO, pO, o2, o3, o1, o4⟩
    | k + 3, hq => simp [tysE] at hq
  · have h0 := hts w (List.mem_filter.mp hw).1
    have hn := (List.mem_filter.mp hw).2
    cases w <;> first | (simp [isNestW] at hn; done) | exact va_Nw.of rfl h0
set_option maxHeartbeats 4000000 in
set_option maxRecDepth 100000 in
theorem whole_start {p : Program} {e : Env} {s : State} {m : MethodId} {below : List Frame} {meth : Method} {c : Code} (l : Launch) (hflags : l.flags = flags0) {b L : Nat} {xs : Nat → Int32} (hL : L ≤ 3072) (C0 : lw_At p s m meth c b L xs) : W p l e room_1 s m #[Value.ref b] below meth c s.heap [] 0 0 (lw_Z below #[Value.ref b] s) (entryFrame m ([Value.ref b] : List Value).toArray 4) := by
  obtain ⟨hx, hb, hr, hml, hown, hts, hX, hbl, hlocks, hgv, hcode, hname⟩ := id C0
  have hgood : ∀ w ∈ lw_good, w.before #[Value.ref b] s = true := fun w hw => hts w (lw_good_in hw).1
  have hini : (Cond.initialized "ElevenPaces").before #[Value.ref b] s = true := hts _ (by decide +kernel)
  have hA : ∀ a : Nat, a < s.heap.size → ¬ (fun q : Nat => s.heap.size ≤ q) a := fun a h => Nat.not_le.mpr h
  obtain ⟨t1, z1, v1⟩ := start_tab (A := fun q : Nat => s.heap.size ≤ q) "EAST" 8 exT (by decide) hgv (by decide +kernel) (by decide +kernel) (by decide +kernel) (hts _ (by decide +kernel)) hini hA
  obtain ⟨t2, z2, v2⟩ := start_tab (A := fun q : Nat => s.heap.size ≤ q) "SOUTH" 8 syT (by decide) hgv (by decide +kernel) (by decide +kernel) (by decide +kernel) (hts _ (by decide +kernel)) hini hA
  obtain ⟨t3, z3, v3⟩ := start_tab (A := fun q : Nat => s.heap.size ≤ q) "LEAST_SETTING" 3 leT (by decide) hgv (by decide +kernel) (by decide +kernel) (by decide +kernel) (hts _ (by decide +kernel)) hini hA
  obtain ⟨t4, z4, v4⟩ := start_tab (A := fun q : Nat => s.heap.size ≤ q) "MOST_SETTING" 3 moT (by decide) hgv (by decide +kernel) (by decide +kernel) (by decide +kernel) (hts _ (by decide +kernel)) hini hA
  obtain ⟨E, e1, e2, e3, hEnv⟩ := start_env (s := s) l b t1 t2 t3 t4 hts
  have hfr : fr E = fun q : Nat => s.heap.size ≤ q := by unfold fr; rw [e2]
  have a0 : ad E 0 = b := by unfold ad; rw [e3]; rfl
  have a1 : ad E 1 = t1 := by unfold ad; rw [e3]; rfl
  have a2 : ad E 2 = t2 := by unfold ad; rw [e3]; rfl
  have a3 : ad E 3 = t3 := by unfold ad; rw [e3]; rfl
  have a4 : ad E 4 = t4 := by unfold ad; rw [e3]; rfl
  have hH : HR E (tk L 5) (gl (F00 (S00 xs))) s s.heap := by
    refine ⟨⟨Nat.le_of_ble_eq_true rfl, by rw [e2]; rfl⟩, fun k y hk hy => ?_, fun k hk => ?_, fun k h1 h2 => ?_⟩
    · have h9 := (List.getElem?_eq_some_iff.mp hy).1
      have h8 : (tk L 5).length = 5 := rfl
      omega
    · rcases (by omega : k = 0 ∨ k = 1 ∨ k = 2 ∨ k = 3 ∨ k = 4) with rfl | rfl | rfl | rfl | rfl
      · obtain ⟨scr, c1, c2, c3, c4, c5⟩ := hX
        refine ⟨L, rfl, ?_⟩
        rw [a0, hfr]
        exact ⟨scr, c1, c2, c3, Nat.le_of_eq c4.symm, by rw [c4], c5, hA b hbl⟩
      · refine ⟨8, rfl, ?_⟩
        rw [a1, hfr]
        exact v1
      · refine ⟨8, rfl, ?_⟩
        rw [a2, hfr]
        exact v2
      · refine ⟨3, rfl, ?_⟩
        rw [a3, hfr]
        exact v3
      · refine ⟨3, rfl, ?_⟩
        rw [a4, hfr]
        exact v4
    · rcases (by omega : k = 1 ∨ k = 2 ∨ k = 3 ∨ k = 4) with rfl | rfl | rfl | rfl
      · rw [a1, hfr]; exact z1
      · rw [a2, hfr]; exact z2
      · rw [a3, hfr]; exact z3
      · rw [a4, hfr]; exact z4
  have hl := lvr_entry E [.ref 0] (n := 4) (Nat.le_of_ble_eq_true rfl)
  rw [show List.map (rv E) [.ref 0] = [.ref b] from by show [Value.ref (ad E 0)] = _; rw [a0]] at hl
  rw [lg_entry_eq]
  subst e1
  refine law_go E L (S00 xs) (fun r' _ => r' = some (.int 1)) hL (S00_cst xs) (fun _ => rfl) p e room_1 s m _ below meth c _ ⟨⟨hx, hb, hml, hown⟩, ?_, hEnv, Nat.le_of_eq e2, ⟨by decide, by decide, by decide, by decide⟩, hname, ?_⟩ s.heap [] _ hH va_S.rf hl
  · intro w hw
    rcases List.mem_cons.mp hw with h | h
    · rw [h]; exact hcode
    · exact hgood w h
  · rintro r sh G H locs pc la ins ⟨F, h1, h2, h3⟩ hH1 hS1 hret hdec
    subst h3
    cases ins <;> first | (simp [retOf] at hret; done) | skip
    refine va_forget (fun q hq => ?_) (W.widen (k := 600000) (n := 7302250) (by decide) (by decide) (lw_ret hx hb hr hlocks hdec))
    have h7 := hS1.2.2 q hq
    rw [hfr] at h7
    exact h7
-- ===== YOUR PART ENDS =====
set_option maxHeartbeats 4000000 in
theorem lw_walk (l : Launch) (hflags : l.flags = flags0) (b : Addr) (xs : List Int32) : MetFree l x (headSpec (Jvm.Cond.code x code maxLocals ret :: tables_1) room_1) (lw_P b xs) (fun _ _ _ _ _ => True) lw_Q := by
  refine MetFree.of_bodyS (code := code) (maxLocals := maxLocals) (ret := ret) (by decide) ?_ ?_
  · intro args s m h hn
    obtain ⟨meth, c, h1, h2, h3, h4, h5, h6, -, -⟩ := Cond.code_spec hn (atoms_spec (ws := Jvm.Cond.code x code maxLocals ret :: tables_1) h _ List.mem_cons_self)
    exact ⟨meth, c, h1, h2, h3, h4, h5, h6⟩
  · intro p e s m args below meth c s₁ B hml0 hP _
    obtain ⟨rfl, hx, hbd, hgv⟩ := hP
    obtain ⟨scr, harrAt, hlist, hof, hsmall⟩ := hx
    obtain ⟨hcb, hkn, -, -⟩ := State.arrayAt?_spec harrAt
    have hown : s.vm.findClass R_law = some m.cls := findClass_of_methodNamed B.named
    have hts0 : ∀ c ∈ (Jvm.Cond.code x code maxLocals ret :: tables_1), c.before #[Value.ref b] s = true := atoms_spec (ws := Jvm.Cond.code x code maxLocals ret :: tables_1) B.pre
    have hts : ∀ w ∈ lw_tbl, w.before #[Value.ref b] s = true := k2_hts_sels lw_privs (fun w hw => hts0 w (List.mem_cons_of_mem _ hw)) lw_privs_ok
    have hml : c.maxLocals = 4 := B.maxLocals_eq (hts0 _ List.mem_cons_self)
    have X₀ : Stand p l e room_1 s m #[Value.ref b] below meth c s₁ [] 0 0 := Stand.of_body B
    have hh0 : s₁.heap = s.heap := by rw [B.state]; rfl
    have hsz : scr.slots.size = xs.length := by rw [← Array.length_toList, hlist, List.length_map]
    have hval : ∀ j : Nat, j < xs.length → scr.slots[j]? = some (.int (xs.getD j 0)) := fun j hj => by
      rw [← Array.getElem?_toList, hlist]
      simp [hj]
    have hbl : b < s.heap.size := (Array.getElem?_eq_some_iff.mp hcb).1
    have hX : va_X b xs.length (fun j => xs.getD j 0) s s.heap := ⟨scr, hcb, hof, hkn, hsz, hval⟩
    have K : W p l e room_1 s m #[Value.ref b] below meth c s₁.heap [] 0 0 (lw_Z below #[Value.ref b] s) (entryFrame m ([Value.ref b] : List Value).toArray 4) := by
      rw [hh0]
      exact whole_start l hflags hbd ⟨B.exec, B.bytes, B.returns, hml, hown, hts, hX, hbl, B.notSynchronized, hgv, hts0 _ List.mem_cons_self, (name_of_methodNamed B.named B.method).1⟩
    obtain ⟨t, a1, o, b1, b2, b3⟩ := K s₁ rfl X₀
    exact ⟨t, o, a1, b1, b2, b3⟩
theorem lw_pre_spec {args : Array Value} {s : State} (h : (Jvm.Cond.and given_1 narrow_1).before args s = true) (hr : rest_1_c.before args s = true) : ∃ (b : Addr) (xs : List Int32), lw_P b xs args s := by
  have hs := flat_of_before _ h
  have hq := flat_of_before _ hr
  have hc : (Cond.count 1).before args s = true := hs _ (by decide +kernel)
  have harr : (Cond.arrayOf (.arg 0) .int).before args s = true := hs _ (by decide +kernel)
  have hle : (Cond.le (.length (.arg 0)) (.int 3072)).before args s = true := hs _ (by decide +kernel)
  have hlen : (Cond.isInt (.length (.arg 0))).before args s = true := hq _ (by decide +kernel)
  have hall : (Cond.all (.arg 0) (.isInt (.elem (.arg 0) (.index 0)))).before args s = true := hq _ (by decide +kernel)
  obtain ⟨b, xs, hb, hx⟩ := State.ints_of_pre rfl harr hlen hall
  have hsm : xs.length < 2 ^ 31 := hx.choose_spec.2.2.2
  have hev : (Term.length (.arg 0)).eval args s none [] s = some (.int xs.length.toInt32) := hx.length_eval hb
  have hv := Cond.le_ints hev (show (Term.int 3072).eval args s none [] s = some (.int 3072) from rfl)
  have hd : xs.length.toInt32 ≤ 3072 := by
    simpa [Cond.before, Cond.holds, hv] using hle
  have hN : xs.length ≤ 3072 := (Int32.ofNat_le_ofNat hsm (by decide)).mp (show Int32.ofNat xs.length ≤ Int32.ofNat 3072 from hd)
  exact ⟨b, xs, Cond.one_arg hc (show args[0]? = some (.ref b) from hb), hx, hN, h⟩
theorem lw_comes (l : Launch) (hflags : l.flags = flags0) : Comes l x (Jvm.Cond.code x code maxLocals ret :: tables_1) room_1 (fun tb e args s => Calls_1 tb e args s ∧ rest_1 tb e args s ∧ Pre_1 tb e args s)
    (fun _ _ args s o t => lw_Q args s o t) := by
  intro p e ha hc hk s m args below hf hfit hheap happ hpre
  obtain ⟨b, xs, hP⟩ := lw_pre_spec hpre.2.2 hpre.2.1
  obtain ⟨k, o, h1, h2, h3, hQ⟩ := lw_walk l hflags b xs p e ha hc hk s m args below hf ((Spec.applies_iff_loose hf).mp happ).1 hP trivial
  exact ⟨k, o, h1, h2, h3, hQ⟩
theorem lw_frame {s t : State} {o : Outcome} {args : Array Value} (h : Framed s o t [] 600000 7302250) :
    Framed s o t (fieldLocs frame_1_writes args s ++ arrayLocs frame_1_arrays args s ++ staticLocs frame_1_statics s) 600000 7302250 := h
theorem lw_limb (L : Cond) (hL : ∀ (args : Array Value) (s t : State), L.after args s (.returned (some (.int 1))) t = true) :
    ArmFor flags0 classFile x code maxLocals ret World_1 tables_1 room_1 Calls_1 rest_1 Pre_1
      (fun tb e a s o t => postC L tb e a s o t ∧ Framed s o t (fieldLocs frame_1_writes a s ++ arrayLocs frame_1_arrays a s ++ staticLocs frame_1_statics s) 600000 7302250) := by
  intro l hflags _ _ p e ha hc hk s m args below hf hfit hheap happ hpre
  obtain ⟨k, o, h1, h2, h3, rfl, hF⟩ := lw_comes l hflags p e ha hc hk s m args below hf hfit hheap happ hpre
  exact ⟨k, _, h1, h2, h3, hL args s _, lw_frame hF⟩
theorem i_vc : Claimed_1_1 ∧ Claimed_1_2 := ⟨lw_limb limb_1_1 (fun args s t => by simp [limb_1_1, Cond.after, Cond.holds, Cond.value]), lw_limb limb_1_2 (fun args s t => Cond.after_iff.mpr (by
  first | (rw [show limb_1_2 = Cond.eq .result (.int 1) from rfl, Cond.eq_ints (x := 1) (y := 1) rfl rfl]; simp; done) | (simp [limb_1_2, Cond.value, Term.eval]; done)))⟩
