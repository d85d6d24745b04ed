section ONE
variable {E : EE} {M : MTy} {d MC MS cs sl pc : Nat} {ls : List (Option Value)} {st : List Value} {sh : List Shp} {G : GG} {Q : QQ}
theorem CT.word {p e R s m args below meth c Qw} (C : CT E M d MC MS Q p e R s m args below meth c Qw) {w : Cond} (h : w ∈ lw_good) : w.before args s = true := C.2.1 w (List.mem_cons_of_mem _ h)
theorem CT.nest {p e R s m args below meth c Qw} (C : CT E M d MC MS Q p e R s m args below meth c Qw) {w : Cond} (h : w ∈ lw_nest) : w.before args s = true := va_Nw.use (by
  have hn := (List.mem_filter.mp h).2
  cases w <;> first | (simp [isNestW] at hn; done) | rfl) (C.2.2.1.2.1 w h)
theorem HR.obj {E : EE} {sh : List Shp} {G : GG} {U : State} {H : Heap} {k a : Nat} (h : HR E sh G U H) (ho : isObj sh k a = true) : 5 ≤ k ∧ sh[k]? = some (.inl a) ∧ cellR E k (.inl a) (G k) H := by
  unfold isObj at ho
  rw [shg_eq] at ho
  split at ho
  · rename_i c hc
    have e : c = a := by simpa using ho
    subst e
    have h5 : 5 ≤ k := by
      rcases Nat.lt_or_ge k 5 with q | q
      · obtain ⟨n, h1, -⟩ := h.2.2.1 k q
        rw [h1] at hc
        cases hc
      · exact q
    exact ⟨h5, hc, h.2.1 k _ h5 hc⟩
  · cases ho
theorem HR.arr {E : EE} {sh : List Shp} {G : GG} {U : State} {H : Heap} {k n : Nat} {ty : FieldType} (hK : va_K E.2.1 vwCl (tysE E) U) (hty : ty = .int ∨ ty = .boolean ∨ ty = .object RX5) (h : HR E sh G U H) (ho : sh[k]? = some (.inr (ty, n))) :
    ∃ cell : Cell, H[ad E k]? = some cell ∧ U.isArrayOf cell ty ∧ cell.vm ≠ .unknown ∧ n ≤ cell.slots.size ∧ cell.slots.size.toInt32 = Int32.ofNat n ∧ ∀ j : Nat, j < n → cell.slots[j]? = some (rv E (G k j)) := by
  rcases Nat.lt_or_ge k 5 with q | q
  · obtain ⟨n', h1, cell, a1, a2, a3, a4, a5, a6, -⟩ := h.2.2.1 k q
    rw [h1] at ho
    cases ho
    exact ⟨cell, a1, a2, a3, a4, a5, a6⟩
  · have hc := h.2.1 k _ q ho
    have hA : ArrOfT U (E.2.2.2.2 ty) ty := by
      rcases hty with rfl | rfl | rfl
      · exact (hK.2 0 _ rfl).1
      · exact (hK.2 1 _ rfl).1
      · exact (hK.2 2 _ rfl).1
    refine ⟨arrV (E.2.2.2.2 ty) n (fun j => rv E (G k j)), hc, hA n _, (fun z => by cases z), ?_, ?_, fun j hj => arrV_read _ _ hj⟩
    · rw [arrV_size]; exact Nat.le_refl _
    · rw [arrV_size]
set_option maxHeartbeats 2000000 in
theorem Rn.getf {a b k idx : Nat} (hdec : decode M.2.2.1 pc = .ok (.getfield idx, 3)) (hf : (M.1, idx, a, b) ∈ FL) (ho : isObj sh k a = true) (kk : Rn E M d MC MS cs sl (pc + 3) ls (G k b :: st) sh G Q) : Rn E M d MC MS cs sl pc ls (.ref k :: st) sh G Q := by
  intro p e R s m args below meth c Qw C H locs la hH hS hL
  obtain ⟨h5, hk0, r0, h1, cell, q1, q2, q3, q4⟩ := hH.obj ho
  obtain ⟨r, hr, hb, hlk⟩ := FL_ok _ hf
  cases h1.symm.trans hr
  obtain ⟨hSl, hfc, kC, hkC, hkind⟩ := C.2.2.1.1.1 a _ hr
  obtain ⟨cf, kf, fi, f, hi, hsl⟩ := hSl b hb
  have hst := (u_facts hfc hkC (u_lays (fun w hw => C.word hw) (lays_ok a _ hr) hb) hi).1
  have kk' := kk p e R s m args below meth c Qw C H locs la hH hS hL
  rcases hlk with hl | ⟨host, hl⟩
  · exact W.getf C.1.1 C.1.2.1 C.1.2.2.2 (C.word hl) hi hst q1 (by rw [q3]; exact fun h => by cases h) (v := rv E (G k b)) (by rw [hsl, q4 b hb]) rfl rfl hdec kk'
  · exact va_Wgetf C.1.1 C.1.2.1 C.1.2.2.2 (C.nest hl) hi hst q1 (by rw [q3]; exact fun h => by cases h) (v := rv E (G k b)) (by rw [hsl, q4 b hb]) rfl rfl hdec kk'
theorem apart_ok {p e R s m args below meth c Qw} (C : CT E M d MC MS Q p e R s m args below meth c Qw) {a : Nat} {r : vw_C} (hr : vwCl[a]? = some r) : ∀ x y, x < r.2.2 → y < r.2.2 → x ≠ y → E.2.1.2 a x ≠ E.2.1.2 a y :=
  va_apart (s := s) (args := args) (own := "") (Ts := lw_good) (fun w hw => C.word hw) (lays_ok a _ hr) (ftyp a) (ftyp_ok a _ hr).1 (ftyp_ok a _ hr).2 C.2.2.1.1 hr
set_option maxHeartbeats 2000000 in
/-- a field that is not final: a value that it can hold -/
theorem Rn.putf {a b k idx : Nat} {v : Value} (hdec : decode M.2.2.1 pc = .ok (.putfield idx, 3)) (hf : (M.1, idx, a, b) ∈ FL) (hfin : ∀ r, vwCl[a]? = some r → (r.2.1 b).2.2.2 = false) (ho : isObj sh k a = true) (hn : narrow (ftyp a b) (rv E v) = rv E v) (hfit : fits (ftyp a b) (rv E v) = true) (kk : Rn E M d MC MS cs sl (pc + 3) ls st sh (up2 G k b v) Q) : Rn E M d MC MS cs sl pc ls (v :: .ref k :: st) sh G Q := by
  intro p e R s m args below meth c Qw C H locs la hH hS hL
  obtain ⟨h5, hk0, r0, h1, cell, q1, q2, q3, q4⟩ := hH.obj ho
  obtain ⟨r, hr, hb, hlk⟩ := FL_ok _ hf
  cases h1.symm.trans hr
  have hap := apart_ok C hr
  obtain ⟨hSl, hfc, kC, hkC, hkind⟩ := C.2.2.1.1.1 a _ hr
  obtain ⟨cf, kf, fi, f, hi, hsl⟩ := hSl b hb
  have hts : ∀ w ∈ lw_good, w.before args s = true := fun w hw => C.word hw
  have hlay := hts _ (lays_ok a _ hr _ (u_in_lay hb))
  unfold u_lay at hlay
  rw [if_neg (by rw [hfin _ hr]; decide)] at hlay
  have hst := (u_facts hfc hkC (u_lays hts (lays_ok a _ hr) hb) hi).1
  have h6 := u_store hfc hkC hkind hlay hi ((ftyp_ok a _ hr).1 b hb) hn hfit
  have fin : ∀ H' : Heap, H'[ad E k]? = some (cell.setSlot f.slot (rv E v)) → H'.size = H.size → (∀ q, q ≠ ad E k → H'[q]? = H[q]?) → W p E.1 e R s m args below meth c H' (locs ++ [⟨ad E k, f.slot⟩]) cs sl Qw (F0 m (pc + 3) la (st.map (rv E))) := by
    intro H' e1 e2 e3
    rw [hsl] at e1 ⊢
    refine kk p e R s m args below meth c Qw C H' _ la ?_ (hS.put e2 e3 (by rw [ad_hi E h5]; exact Nat.le_add_right _ _)) hL
    refine hH.put h5 e2 e3 (fun x hx => ?_) (fun x hx => ?_)
    · funext j; simp [up2, hx]
    · cases hx.symm.trans hk0
      refine ⟨_, hr, _, e1, q2, q3, fun j hj => ?_⟩
      have := t_set q4 hap hb (rv E v) j hj
      rw [this]
      by_cases hjb : j = b
      · subst hjb; simp [up2, updV]
      · simp [up2, updV, hjb]
  rcases hlk with hl | ⟨host, hl⟩
  · exact W.putK C.1.1 C.1.2.1 (f := f) ⟨C.1.2.2.2, C.word hl, ⟨_, _, _, hi⟩, hst⟩ (by rw [q2]; exact h6) q1 q3 (by rw [hsl]; exact k2_hasslot (q4 b hb)) rfl rfl hdec fin
  · exact va_WputK C.1.1 C.1.2.1 (f := f) C.1.2.2.2 (C.nest hl) hi hst (by rw [q2]; exact h6) q1 q3 (by rw [hsl]; exact k2_hasslot (q4 b hb)) rfl rfl hdec fin
theorem Rn.alen {k n : Nat} {ty : FieldType} (hdec : decode M.2.2.1 pc = .ok (.arraylength, 1)) (hty : ty = .int ∨ ty = .boolean ∨ ty = .object RX5) (ho : sh[k]? = some (.inr (ty, n))) (kk : Rn E M d MC MS cs sl (pc + 1) ls (.int (Int32.ofNat n) :: st) sh G Q) : Rn E M d MC MS cs sl pc ls (.ref k :: st) sh G Q := by
  intro p e R s m args below meth c Qw C H locs la hH hS hL
  obtain ⟨cell, a1, a2, a3, a4, a5, a6⟩ := hH.arr C.2.2.1.1 hty ho
  exact W.alen (n := Int32.ofNat n) C.1.1 C.1.2.1 a1 a2 a5 rfl rfl hdec (kk p e R s m args below meth c Qw C H locs la hH hS hL)
theorem Rn.gets {k idx : Nat} (hdec : decode M.2.2.1 pc = .ok (.getstatic idx, 3)) (hk : (M.1, idx, k) ∈ SK) (kk : Rn E M d MC MS cs sl (pc + 3) ls (.ref k :: st) sh G Q) : Rn E M d MC MS cs sl pc ls st sh G Q := by
  intro p e R s m args below meth c Qw C H locs la hH hS hL
  obtain ⟨h1, h2, hl⟩ := SK_ok _ hk
  obtain ⟨cf, kf, fi, f, a, cell, z1, z2, z3, z4, z5, z6, z7, z8⟩ := hH.2.2.2 k h1 h2
  exact W.gets C.1.1 C.1.2.1 C.1.2.2.2 (C.word hl) z1 z2 z3 z4 z5 (fun e => by rw [e] at z6; cases z6) z7 rfl hdec (kk p e R s m args below meth c Qw C H locs la hH hS hL)
theorem Rn.ld {v : Value} {i : Nat} {ins : Instr} {n : Nat} (hl : lget ls i = some v)
    (row : ∀ {p : Program} {l : Launch} {e : Env} {R : Room} {s : State} {m : MethodId} {args : Array Value} {below : List Frame} {meth : Method} {c : Code} {H : Heap} {locs : List Loc} {cells slots : Nat} {Qw : State → Prop} {la : Array Slot} {rest : List Value}, p.tables.exec = Jvm.exec → c.code = M.2.2.1 → la[i]? = some (.val (rv E v)) → W p l e R s m args below meth c H locs cells slots Qw (F0 m (pc + n) la (rv E v :: rest)) → W p l e R s m args below meth c H locs cells slots Qw (F0 m pc la rest))
    (kk : Rn E M d MC MS cs sl (pc + n) ls (v :: st) sh G Q) : Rn E M d MC MS cs sl pc ls st sh G Q := by
  intro p e R s m args below meth c Qw C H locs la hH hS hL
  exact row C.1.1 C.1.2.1 (hL.at hl) (kk p e R s m args below meth c Qw C H locs la hH hS hL)
theorem Rn.st1 {v : Value} {i n : Nat} 
    (row : ∀ {p : Program} {l : Launch} {e : Env} {R : Room} {s : State} {m : MethodId} {args : Array Value} {below : List Frame} {meth : Method} {c : Code} {H : Heap} {locs : List Loc} {cells slots : Nat} {Qw : State → Prop} {la : Array Slot} {rest : List Value}, p.tables.exec = Jvm.exec → c.code = M.2.2.1 → lv_has la M.2.2.2.1 (lst E 0 ls) → (∀ la' : Array Slot, lv_has la' M.2.2.2.1 ((i, rv E v) :: (lst E 0 ls).filter (fun q => !(q.1 == i) && !(q.1 + 1 == i && q.2.category == 2))) → W p l e R s m args below meth c H locs cells slots Qw (F0 m (pc + n) la' rest)) → W p l e R s m args below meth c H locs cells slots Qw (F0 m pc la (rv E v :: rest)))
    (kk : Rn E M d MC MS cs sl (pc + n) (set1 ls i v) st sh G Q) : Rn E M d MC MS cs sl pc ls (v :: st) sh G Q := by
  intro p e R s m args below meth c Qw C H locs la hH hS hL
  exact row C.1.1 C.1.2.1 hL (fun la' hl' => kk p e R s m args below meth c Qw C H locs la' hH hS (lvr.sub hl' set1_sub))
theorem Rn.st2 {v : Value} {i n : Nat} 
    (row : ∀ {p : Program} {l : Launch} {e : Env} {R : Room} {s : State} {m : MethodId} {args : Array Value} {below : List Frame} {meth : Method} {c : Code} {H : Heap} {locs : List Loc} {cells slots : Nat} {Qw : State → Prop} {la : Array Slot} {rest : List Value}, p.tables.exec = Jvm.exec → c.code = M.2.2.1 → lv_has la M.2.2.2.1 (lst E 0 ls) → (∀ la' : Array Slot, lv_has la' M.2.2.2.1 ((i, rv E v) :: (lst E 0 ls).filter (fun q => !(q.1 == i) && (!(q.1 == i + 1) && !(q.1 + 1 == i && q.2.category == 2)))) → W p l e R s m args below meth c H locs cells slots Qw (F0 m (pc + n) la' rest)) → W p l e R s m args below meth c H locs cells slots Qw (F0 m pc la (rv E v :: rest)))
    (kk : Rn E M d MC MS cs sl (pc + n) (set2 ls i v) st sh G Q) : Rn E M d MC MS cs sl pc ls (v :: st) sh G Q := by
  intro p e R s m args below meth c Qw C H locs la hH hS hL
  exact row C.1.1 C.1.2.1 hL (fun la' hl' => kk p e R s m args below meth c Qw C H locs la' hH hS (lvr.sub hl' set2_sub))
end ONE
