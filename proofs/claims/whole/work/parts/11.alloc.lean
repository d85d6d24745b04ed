section ALLOC
variable {E : EE} {M : MTy} {d MC MS cs sl pc : Nat} {ls : List (Option Value)} {st : List Value} {sh : List Shp} {G : GG} {Q : QQ}
def gset (G : GG) (k : Nat) (f : Nat → Value) : GG := fun a => if a = k then f else G a
theorem ad_len {E : EE} {sh : List Shp} {G : GG} {U : State} {H : Heap} (h : HR E sh G U H) : ad E sh.length = H.size := by rw [ad_hi E h.1.1, h.1.2]
theorem rv_dflt (E : EE) (ty : FieldType) : rv E (defaultValue ty) = defaultValue ty := by cases ty <;> rfl
theorem Rn.new {ci idx N : Nat} (hdec : decode M.2.2.1 pc = .ok (.new idx, 3)) (hk : (M.1, idx, ci) ∈ CK) (hN : ∀ r, vwCl[ci]? = some r → r.2.2 = N) (hc : cs + 1 ≤ MC) (hs : sl + N ≤ MS)
    (kk : Rn E M d MC MS (cs + 1) (sl + N) (pc + 3) ls (.ref sh.length :: st) (sh ++ [.inl ci]) (gset G sh.length (fun j => defaultValue (ftyp ci j))) Q) : Rn E M d MC MS cs sl pc ls st sh G Q := by
  intro p e R s m args below meth c Qw C H locs la hH hS hL
  obtain ⟨f1, f2, f3, f4⟩ := C.2.2.2.2.1
  obtain ⟨r, hr, hl⟩ := CK_ok _ hk
  have hKn := C.2.2.1.1.1 ci _ hr
  obtain ⟨i1, i2⟩ := inst_ok ci _ hr
  have hts : ∀ w ∈ lw_good, w.before args s = true := fun w hw => C.word hw
  have hNr := hN _ hr
  subst hNr
  refine W.newcK C.1.1 C.1.2.1 C.1.2.2.2 (C.word hl) (C.word i1) (C.word i2) rfl hdec (by omega) (by omega) hKn.2.1 rfl fun H1 kC hkC e1 z1 o1 => ?_
  have hH1 : HR E (sh ++ [.inl ci]) (gset G sh.length (fun j => defaultValue (ftyp ci j))) s H1 := by
    refine hH.push z1 o1 (fun a ha => by simp [gset, ha]) ⟨_, hr, ?_⟩
    rw [ad_len hH]
    have hb := u_born (ftyp ci) hts (lays_ok ci _ hr) hKn hkC e1 (ftyp_ok ci _ hr).1
    obtain ⟨cell, b1, b2, b3, b4⟩ := hb
    refine ⟨cell, b1, b2, b3, fun k hk => ?_⟩
    rw [b4 k hk]
    simp only [gset, if_pos]
    rw [rv_dflt]
  have := kk p e R s m args below meth c Qw C H1 locs la hH1 ⟨Nat.le_trans hS.1 (by omega), fun x h1 h2 => (o1 x (Nat.lt_of_lt_of_le h1 hS.1)).trans (hS.2.1 x h1 h2), hS.2.2⟩ hL
  rw [← ad_len hH]
  exact this
theorem Rn.newa {atype : ArrayType} {ty : FieldType} {n : Int32} {N : Nat} (hdec : decode M.2.2.1 pc = .ok (.newarray atype, 2)) (hty : newarray.typeOf atype = ty) (hty2 : ty = .int ∨ ty = .boolean) (hn : n = nI N) (hN : N ≤ 4096) (hc : cs + 1 ≤ MC) (hs : sl + N ≤ MS)
    (kk : Rn E M d MC MS (cs + 1) (sl + N) (pc + 2) ls (.ref sh.length :: st) (sh ++ [.inr (ty, N)]) (gset G sh.length (fun _ => .int 0)) Q) : Rn E M d MC MS cs sl pc ls (.int n :: st) sh G Q := by
  intro p e R s m args below meth c Qw C H locs la hH hS hL
  obtain ⟨f1, f2, f3, f4⟩ := C.2.2.2.2.1
  subst hn
  have hK := C.2.2.1.1
  have hw : Cond.arrayClass (newarray.typeOf atype) ∈ lw_good := by rw [hty]; rcases hty2 with rfl | rfl; exact arc_int; exact arc_boolean
  have hcl : (nI N).toNatClampNeg = N := nI_clamp (by omega)
  have hbytes : N * componentBytes (newarray.typeOf atype) ≤ 536870912 := by
    rw [hty]
    have : componentBytes ty ≤ 4 := by rcases hty2 with rfl | rfl <;> decide
    have := Nat.mul_le_mul hN this
    omega
  refine va_newaK C.1.1 C.1.2.1 (C.word hw) rfl hdec rfl (nI_pos (by omega)) hcl hbytes (by omega) (by omega) rfl fun H1 cA e1 z1 o1 hAr hNm => ?_
  have hcA : cA = E.2.2.2.2 ty := by
    rw [hty] at hNm
    rcases hty2 with rfl | rfl
    · exact Option.some.inj (hNm.symm.trans (hK.2 0 _ rfl).2)
    · exact Option.some.inj (hNm.symm.trans (hK.2 1 _ rfl).2)
  have hH1 : HR E (sh ++ [.inr (ty, N)]) (gset G sh.length (fun _ => .int 0)) s H1 := by
    refine hH.push z1 o1 (fun a ha => by simp [gset, ha]) ?_
    show H1[ad E sh.length]? = some (arrV (E.2.2.2.2 ty) N _)
    rw [ad_len hH, e1, hcA, hty]
    congr 2
    funext j
    simp only [gset, if_pos]
    rcases hty2 with rfl | rfl <;> rfl
  have := kk p e R s m args below meth c Qw C H1 locs la hH1 ⟨Nat.le_trans hS.1 (by omega), fun x h1 h2 => (o1 x (Nat.lt_of_lt_of_le h1 hS.1)).trans (hS.2.1 x h1 h2), hS.2.2⟩ hL
  rw [← ad_len hH]
  exact this
theorem Rn.anew {idx N : Nat} {n : Int32} (hdec : decode M.2.2.1 pc = .ok (.anewarray idx, 3)) (hk : (M.1, idx, 5) ∈ CK) (hn : n = nI N) (hN : N ≤ 4096) (hc : cs + 1 ≤ MC) (hs : sl + N ≤ MS)
    (kk : Rn E M d MC MS (cs + 1) (sl + N) (pc + 3) ls (.ref sh.length :: st) (sh ++ [.inr (.object RX5, N)]) (gset G sh.length (fun _ => .null)) Q) : Rn E M d MC MS cs sl pc ls (.int n :: st) sh G Q := by
  intro p e R s m args below meth c Qw C H locs la hH hS hL
  obtain ⟨f1, f2, f3, f4⟩ := C.2.2.2.2.1
  subst hn
  have hK := C.2.2.1.1
  obtain ⟨r, hr, hl⟩ := CK_ok _ hk
  cases hr
  have hcl : (nI N).toNatClampNeg = N := nI_clamp (by omega)
  refine W.anew (C := RX5) C.1.1 C.1.2.1 C.1.2.2.2 (C.word hl) (va_AO.use C.2.2.1.2.2) rfl hdec rfl (nI_pos (by omega)) (by rw [hcl]; omega) (by omega) (by rw [hcl]; omega) fun cA kA comp g1 g2 g3 g4 => ?_
  rw [hcl]
  generalize hH1 : H.push ({ cls := cA, slots := Array.replicate N .null, vm := .none } : Cell) = H1
  have z1 : H1.size = H.size + 1 := by rw [← hH1, Array.size_push]
  have e1 : H1[H.size]? = some (arrV cA N (fun _ => .null)) := by rw [← hH1, Array.getElem?_push_size, ← arrV_new]
  have o1 : ∀ q : Nat, q < H.size → H1[q]? = H[q]? := fun q hq => by rw [← hH1, Array.getElem?_push, if_neg (Nat.ne_of_lt hq)]
  have hcA : cA = E.2.2.2.2 (.object RX5) := by
    obtain ⟨kA', comp', k1, k2, k3, k4⟩ := (hK.2 2 _ rfl).2
    exact Option.some.inj (g1.symm.trans k4)
  have hH2 : HR E (sh ++ [.inr (.object RX5, N)]) (gset G sh.length (fun _ => .null)) s H1 := by
    refine hH.push z1 o1 (fun a ha => by simp [gset, ha]) ?_
    show H1[ad E sh.length]? = some (arrV (E.2.2.2.2 (.object RX5)) N _)
    rw [ad_len hH, e1, hcA]
    congr 2
    funext j
    simp only [gset, if_pos]
    rfl
  have := kk p e R s m args below meth c Qw C H1 locs la hH2 ⟨Nat.le_trans hS.1 (by omega), fun x h1 h2 => (o1 x (Nat.lt_of_lt_of_le h1 hS.1)).trans (hS.2.1 x h1 h2), hS.2.2⟩ hL
  rw [← ad_len hH]
  exact this
/-- a final field, in the constructor of its own class -/
theorem Rn.putF {a b k q idx : Nat} (hdec : decode M.2.2.1 pc = .ok (.putfield idx, 3)) (hf : (M.1, idx, a, b) ∈ FL) (hfin : ∀ r, vwCl[a]? = some r → (r.2.1 b).2.2.2 = true ∧ (r.2.1 b).1 = Rcls M.1) (hl1 : ∀ r, vwCl[a]? = some r → Cond.fieldLink (Rcls M.1) idx (r.2.1 b).1 (r.2.1 b).2.1 (r.2.1 b).2.2.1 ∈ lw_good) (hin : M.2.1.name = "<init>") (ho : isObj sh k a = true) (hty : (∃ n, ftyp a b = .object n) ∨ ∃ t, ftyp a b = .array t) (kk : Rn E M d MC MS cs sl (pc + 3) ls st sh (up2 G k b (.ref q)) Q) : Rn E M d MC MS cs sl pc ls (.ref q :: .ref k :: st) sh G Q := by
  intro p e R s m args below meth c Qw C H locs la hH hS hL
  obtain ⟨h5, hk0, r0, h1, cell, q1, q2, q3, q4⟩ := hH.obj ho
  obtain ⟨r, hr, hb, hlk⟩ := FL_ok _ hf
  cases h1.symm.trans hr
  have hap := apart_ok C hr
  obtain ⟨hSl, hfc, kC, hkC, hkind⟩ := C.2.2.1.1.1 a _ hr
  obtain ⟨cf, kf, fi, f, hi, hsl⟩ := hSl b hb
  have hts : ∀ w ∈ lw_good, w.before args s = true := fun w hw => C.word hw
  have hlay := hts _ (lays_ok a _ hr _ (u_in_lay hb))
  unfold u_lay at hlay
  rw [if_pos (hfin _ hr).1] at hlay
  have hst := (u_facts hfc hkC (u_lays hts (lays_ok a _ hr) hb) hi).1
  have hcf : m.cls = cf := by
    obtain ⟨_, _, c', _, _, _, -, -, hf', -, -, -, hown2, -⟩ := Cond.laysFinal_spec hlay
    have e1 : c' = cf := by have := hi.symm.trans hf'; simp at this; exact this.1.symm
    rw [(hfin _ hr).2] at hown2
    rw [← e1]; exact Option.some.inj (C.1.2.2.2.symm.trans hown2)
  have hnf : narrow (ftyp a b) (.ref (ad E q)) = .ref (ad E q) ∧ fits (ftyp a b) (.ref (ad E q)) = true := by
    rcases hty with ⟨n, e⟩ | ⟨n, e⟩ <;> rw [e] <;> exact ⟨rfl, rfl⟩
  have h6 := u_fits hfc hkC hkind (Or.inr hlay) hi ((ftyp_ok a _ hr).1 b hb) hnf.1 hnf.2
  refine W.putFinK C.1.1 C.1.2.1 C.1.2.2.2 (C.word (hl1 _ hr)) hi hst hcf (by rw [C.2.2.2.2.2.1]; exact hin) (by rw [q2]; exact h6) q1 q3 (by rw [hsl]; exact k2_hasslot (q4 b hb)) rfl rfl hdec fun H' e1 e2 e3 => ?_
  rw [hsl] at e1 ⊢
  refine kk p e R s m args below meth c Qw C H' _ la ?_ (hS.put e2 e3 (fr_ad h5)) hL
  refine hH.put h5 e2 e3 (fun x hx => ?_) (fun x hx => ?_)
  · funext j; simp [up2, hx]
  · cases hx.symm.trans hk0
    refine ⟨_, hr, _, e1, q2, q3, fun j hj => ?_⟩
    refine Eq.trans (t_set q4 hap hb (rv E (.ref q)) j hj) ?_
    by_cases hjb : j = b
    · subst hjb; simp [up2, updV, rv]
    · simp [up2, updV, hjb]
def cpy2 (G : GG) (ks kd sp dp n : Nat) : GG := fun a j => if a = kd then (if dp ≤ j ∧ j < dp + n then G ks (sp + (j - dp)) else G kd j) else G a j
/-- System.arraycopy between int arrays of ours -/
theorem Rn.acopy {ks kd n0 n1 sp dp n idx : Nat} (hdec : decode M.2.2.1 pc = .ok (.invokestatic idx, 3)) (hl : Cond.methodLink (Rcls M.1) idx arraycopyName ∈ lw_good) (h5 : 5 ≤ kd) (h5s : 5 ≤ ks) (ho0 : shg sh ks = some (.inr (.int, n0))) (ho1 : shg sh kd = some (.inr (.int, n1))) (hn0 : n0 < 2147483648) (hn1 : n1 < 2147483648) (hs0 : sp + n ≤ n0) (hs1 : dp + n ≤ n1) (hi : ∀ j, ∃ x, G ks j = .int x) (hd : 2 ≤ d) (hrest : (st.map fun v => v.category).sum ≤ 8)
    (kk : Rn E M d MC MS cs sl (pc + 3) ls st sh (cpy2 G ks kd sp dp n) Q) : Rn E M d MC MS cs sl pc ls (.int (nI n) :: .int (nI dp) :: .ref kd :: .int (nI sp) :: .ref ks :: st) sh G Q := by
  intro p e R s m args below meth c Qw C H locs la hH hS hL
  obtain ⟨f1, f2, f3, f4⟩ := C.2.2.2.2.1
  rw [shg_eq] at ho0 ho1
  have hK := C.2.2.1.1
  have hc0 := hH.2.1 ks _ h5s ho0
  have hc1 := hH.2.1 kd _ h5 ho1
  have hA := (hK.2 0 _ rfl).1
  obtain ⟨-, k0, hk0, cm0, hkk0⟩ := hA n0 (fun j => rv E (G ks j))
  obtain ⟨-, k1, hk1, cm1, hkk1⟩ := hA n1 (fun j => rv E (G kd j))
  have t1 : (nI sp).toNatClampNeg = sp := nI_clamp (by omega)
  have t2 : (nI dp).toNatClampNeg = dp := nI_clamp (by omega)
  have t3 : (nI n).toNatClampNeg = n := nI_clamp (by omega)
  have i1 : (nI sp).toInt = sp := nI_toInt (by omega)
  have i2 : (nI dp).toInt = dp := nI_toInt (by omega)
  have i3 : (nI n).toInt = n := nI_toInt (by omega)
  intro T hT X
  obtain ⟨vm', X', step⟩ := X.arraycopy C.1.1 C.1.2.2.2 (C.word hl) (C.word ac_nat.1) (C.word ac_nat.2.1) (C.word ac_nat.2.2) (src := ad E ks) (dst := ad E kd) (cs := arrV (E.2.2.2.2 .int) n0 (fun j => rv E (G ks j))) (cd := arrV (E.2.2.2.2 .int) n1 (fun j => rv E (G kd j))) (srcPos := nI sp) (destPos := nI dp) (n := nI n) (by rw [hT]; exact hc0) (by rw [hT]; exact hc1)
    (fun _ h => by cases h) (fun _ h => by cases h) (fun h => by cases h) (fun h => by cases h) hk0 hk1 hkk0 hkk1 (by simp [refKind]) (nI_pos (by omega)) (nI_pos (by omega)) (nI_pos (by omega))
    (by rw [i1, i3, arrV_size]; omega)
    (by rw [i2, i3, arrV_size]; omega)
    (fun vm₁ _ i hi2 => by
      rw [t3] at hi2
      obtain ⟨x, hx⟩ := hi (sp + i)
      have e : (arrV (E.2.2.2.2 .int) n0 (fun j => rv E (G ks j))).slots.getD ((nI sp).toNatClampNeg + i) .null = .int x := by
        rw [t1, Array.getD_eq_getD_getElem?, arrV_read _ _ (by omega), hx]
        rfl
      refine ⟨?_, ?_⟩
      · rw [e]
        rfl
      · rw [e]
        exact trivial)
    (g := F0 m pc la (.int (nI n) :: .int (nI dp) :: .ref (ad E kd) :: .int (nI sp) :: .ref (ad E ks) :: st.map (rv E))) rfl (by rw [C.1.2.2.1]; exact hL.1) (rest := st.map (rv E)) rfl (by rw [C.1.2.1]; exact hdec) (by omega) (by rw [cat_map]; show 2 * 0 + _ + _ ≤ _; have : nativeFrameWords "java/lang/System" "arraycopy" 5 ≤ 40 := (by decide); omega)
  have e1 : copied (arrV (E.2.2.2.2 .int) n0 (fun j => rv E (G ks j))) (arrV (E.2.2.2.2 .int) n1 (fun j => rv E (G kd j))) (nI sp) (nI dp) (nI n) = arrV (E.2.2.2.2 .int) n1 (fun j => rv E (cpy2 G ks kd sp dp n kd j)) := by
    have h := va_copied (rv E) (E.2.2.2.2 .int) (E.2.2.2.2 .int) (n1 := n1) (dp := dp) (G ks) (G kd) hs0
    show (arrV _ _ _).storeRun (nI dp).toNatClampNeg ((arrV _ _ _).stretch (nI sp).toNatClampNeg (nI n).toNatClampNeg) = _
    rw [t1, t2, t3, h]
    congr 1
    funext j
    simp only [va_cpy, cpy2, if_pos]
  rw [e1] at X' step
  have hlt : ad E kd < H.size := (Array.getElem?_eq_some_iff.mp hc1).1
  generalize hcell : arrV (E.2.2.2.2 .int) n1 (fun j => rv E (cpy2 G ks kd sp dp n kd j)) = cellN at X' step
  have hheap : ((T.setVm vm').setCell (ad E kd) cellN).heap = H.setIfInBounds (ad E kd) cellN := by rw [← hT]; rfl
  have oq : ∀ q : Nat, q ≠ ad E kd → (H.setIfInBounds (ad E kd) cellN)[q]? = H[q]? := fun q hq => by simp [Array.getElem?_setIfInBounds, Ne.symm hq]
  have hat : (H.setIfInBounds (ad E kd) cellN)[ad E kd]? = some cellN := by simp [Array.getElem?_setIfInBounds, hlt]
  have hH1 : HR E sh (cpy2 G ks kd sp dp n) s (H.setIfInBounds (ad E kd) cellN) := by
    refine hH.put h5 (by simp) oq (fun a ha => ?_) (fun x hx => ?_)
    · funext j; simp [cpy2, ha]
    · cases hx.symm.trans ho1
      show _ = some (arrV _ _ _)
      rw [hat, ← hcell]
  obtain ⟨t, a1, b1⟩ := kk p e R s m args below meth c Qw C _ _ la hH1 ⟨by simp; exact hS.1, fun q g1 g2 => by
      rw [oq q (fun e => g2 (by rw [e]; exact fr_ad h5))]
      exact hS.2.1 q g1 g2, fun q hq => by
      rcases List.mem_append.mp hq with h | h
      · exact hS.2.2 q h
      · obtain ⟨z, -, hz⟩ := List.mem_map.mp h
        rw [← hz]
        exact fr_ad h5⟩ hL _ hheap X'
  exact ⟨t, step t a1, b1⟩
end ALLOC
