section FORK
variable {E : EE} {M : MTy} {d MC MS cs sl pc : Nat} {ls : List (Option Value)} {st : List Value} {sh : List Shp} {G : GG} {Q : QQ}
theorem Rn.if_eq {x : Int32} {off : Int} (tgt : Nat) (hdec : decode M.2.2.1 pc = .ok (.ifCond .eq off, 3)) (ht : (pc : Int) + off = (tgt : Int)) (kt : x = 0 → Rn E M d MC MS cs sl tgt ls st sh G Q) (kf : ¬ x = 0 → Rn E M d MC MS cs sl (pc + 3) ls st sh G Q) : Rn E M d MC MS cs sl pc ls (.int x :: st) sh G Q := by
  intro p e R s m args below meth c Qw C H locs la hH hS hL
  exact lv_if_eq C.1.1 C.1.2.1 hdec ht (fun h => kt h p e R s m args below meth c Qw C H locs la hH hS hL) (fun h => kf h p e R s m args below meth c Qw C H locs la hH hS hL)
theorem Rn.icmp_eq {x y : Int32} {off : Int} (tgt : Nat) (hdec : decode M.2.2.1 pc = .ok (.if_icmp .eq off, 3)) (ht : (pc : Int) + off = (tgt : Int)) (kt : x = y → Rn E M d MC MS cs sl tgt ls st sh G Q) (kf : ¬ x = y → Rn E M d MC MS cs sl (pc + 3) ls st sh G Q) : Rn E M d MC MS cs sl pc ls (.int y :: .int x :: st) sh G Q := by
  intro p e R s m args below meth c Qw C H locs la hH hS hL
  exact lv_icmp_eq C.1.1 C.1.2.1 hdec ht (fun h => kt h p e R s m args below meth c Qw C H locs la hH hS hL) (fun h => kf h p e R s m args below meth c Qw C H locs la hH hS hL)
theorem Rn.if_ne {x : Int32} {off : Int} (tgt : Nat) (hdec : decode M.2.2.1 pc = .ok (.ifCond .ne off, 3)) (ht : (pc : Int) + off = (tgt : Int)) (kt : ¬ x = 0 → Rn E M d MC MS cs sl tgt ls st sh G Q) (kf : x = 0 → Rn E M d MC MS cs sl (pc + 3) ls st sh G Q) : Rn E M d MC MS cs sl pc ls (.int x :: st) sh G Q := by
  intro p e R s m args below meth c Qw C H locs la hH hS hL
  exact lv_if_ne C.1.1 C.1.2.1 hdec ht (fun h => kt h p e R s m args below meth c Qw C H locs la hH hS hL) (fun h => kf h p e R s m args below meth c Qw C H locs la hH hS hL)
theorem Rn.icmp_ne {x y : Int32} {off : Int} (tgt : Nat) (hdec : decode M.2.2.1 pc = .ok (.if_icmp .ne off, 3)) (ht : (pc : Int) + off = (tgt : Int)) (kt : ¬ x = y → Rn E M d MC MS cs sl tgt ls st sh G Q) (kf : x = y → Rn E M d MC MS cs sl (pc + 3) ls st sh G Q) : Rn E M d MC MS cs sl pc ls (.int y :: .int x :: st) sh G Q := by
  intro p e R s m args below meth c Qw C H locs la hH hS hL
  exact lv_icmp_ne C.1.1 C.1.2.1 hdec ht (fun h => kt h p e R s m args below meth c Qw C H locs la hH hS hL) (fun h => kf h p e R s m args below meth c Qw C H locs la hH hS hL)
theorem Rn.if_lt {x : Int32} {off : Int} (tgt : Nat) (hdec : decode M.2.2.1 pc = .ok (.ifCond .lt off, 3)) (ht : (pc : Int) + off = (tgt : Int)) (kt : x < 0 → Rn E M d MC MS cs sl tgt ls st sh G Q) (kf : ¬ x < 0 → Rn E M d MC MS cs sl (pc + 3) ls st sh G Q) : Rn E M d MC MS cs sl pc ls (.int x :: st) sh G Q := by
  intro p e R s m args below meth c Qw C H locs la hH hS hL
  exact lv_if_lt C.1.1 C.1.2.1 hdec ht (fun h => kt h p e R s m args below meth c Qw C H locs la hH hS hL) (fun h => kf h p e R s m args below meth c Qw C H locs la hH hS hL)
theorem Rn.icmp_lt {x y : Int32} {off : Int} (tgt : Nat) (hdec : decode M.2.2.1 pc = .ok (.if_icmp .lt off, 3)) (ht : (pc : Int) + off = (tgt : Int)) (kt : x < y → Rn E M d MC MS cs sl tgt ls st sh G Q) (kf : ¬ x < y → Rn E M d MC MS cs sl (pc + 3) ls st sh G Q) : Rn E M d MC MS cs sl pc ls (.int y :: .int x :: st) sh G Q := by
  intro p e R s m args below meth c Qw C H locs la hH hS hL
  exact lv_icmp_lt C.1.1 C.1.2.1 hdec ht (fun h => kt h p e R s m args below meth c Qw C H locs la hH hS hL) (fun h => kf h p e R s m args below meth c Qw C H locs la hH hS hL)
theorem Rn.if_ge {x : Int32} {off : Int} (tgt : Nat) (hdec : decode M.2.2.1 pc = .ok (.ifCond .ge off, 3)) (ht : (pc : Int) + off = (tgt : Int)) (kt : 0 ≤ x → Rn E M d MC MS cs sl tgt ls st sh G Q) (kf : ¬ 0 ≤ x → Rn E M d MC MS cs sl (pc + 3) ls st sh G Q) : Rn E M d MC MS cs sl pc ls (.int x :: st) sh G Q := by
  intro p e R s m args below meth c Qw C H locs la hH hS hL
  exact lv_if_ge C.1.1 C.1.2.1 hdec ht (fun h => kt h p e R s m args below meth c Qw C H locs la hH hS hL) (fun h => kf h p e R s m args below meth c Qw C H locs la hH hS hL)
theorem Rn.icmp_ge {x y : Int32} {off : Int} (tgt : Nat) (hdec : decode M.2.2.1 pc = .ok (.if_icmp .ge off, 3)) (ht : (pc : Int) + off = (tgt : Int)) (kt : y ≤ x → Rn E M d MC MS cs sl tgt ls st sh G Q) (kf : ¬ y ≤ x → Rn E M d MC MS cs sl (pc + 3) ls st sh G Q) : Rn E M d MC MS cs sl pc ls (.int y :: .int x :: st) sh G Q := by
  intro p e R s m args below meth c Qw C H locs la hH hS hL
  exact lv_icmp_ge C.1.1 C.1.2.1 hdec ht (fun h => kt h p e R s m args below meth c Qw C H locs la hH hS hL) (fun h => kf h p e R s m args below meth c Qw C H locs la hH hS hL)
theorem Rn.if_gt {x : Int32} {off : Int} (tgt : Nat) (hdec : decode M.2.2.1 pc = .ok (.ifCond .gt off, 3)) (ht : (pc : Int) + off = (tgt : Int)) (kt : 0 < x → Rn E M d MC MS cs sl tgt ls st sh G Q) (kf : ¬ 0 < x → Rn E M d MC MS cs sl (pc + 3) ls st sh G Q) : Rn E M d MC MS cs sl pc ls (.int x :: st) sh G Q := by
  intro p e R s m args below meth c Qw C H locs la hH hS hL
  exact lv_if_gt C.1.1 C.1.2.1 hdec ht (fun h => kt h p e R s m args below meth c Qw C H locs la hH hS hL) (fun h => kf h p e R s m args below meth c Qw C H locs la hH hS hL)
theorem Rn.icmp_gt {x y : Int32} {off : Int} (tgt : Nat) (hdec : decode M.2.2.1 pc = .ok (.if_icmp .gt off, 3)) (ht : (pc : Int) + off = (tgt : Int)) (kt : y < x → Rn E M d MC MS cs sl tgt ls st sh G Q) (kf : ¬ y < x → Rn E M d MC MS cs sl (pc + 3) ls st sh G Q) : Rn E M d MC MS cs sl pc ls (.int y :: .int x :: st) sh G Q := by
  intro p e R s m args below meth c Qw C H locs la hH hS hL
  exact lv_icmp_gt C.1.1 C.1.2.1 hdec ht (fun h => kt h p e R s m args below meth c Qw C H locs la hH hS hL) (fun h => kf h p e R s m args below meth c Qw C H locs la hH hS hL)
theorem Rn.if_le {x : Int32} {off : Int} (tgt : Nat) (hdec : decode M.2.2.1 pc = .ok (.ifCond .le off, 3)) (ht : (pc : Int) + off = (tgt : Int)) (kt : x ≤ 0 → Rn E M d MC MS cs sl tgt ls st sh G Q) (kf : ¬ x ≤ 0 → Rn E M d MC MS cs sl (pc + 3) ls st sh G Q) : Rn E M d MC MS cs sl pc ls (.int x :: st) sh G Q := by
  intro p e R s m args below meth c Qw C H locs la hH hS hL
  exact lv_if_le C.1.1 C.1.2.1 hdec ht (fun h => kt h p e R s m args below meth c Qw C H locs la hH hS hL) (fun h => kf h p e R s m args below meth c Qw C H locs la hH hS hL)
theorem Rn.icmp_le {x y : Int32} {off : Int} (tgt : Nat) (hdec : decode M.2.2.1 pc = .ok (.if_icmp .le off, 3)) (ht : (pc : Int) + off = (tgt : Int)) (kt : x ≤ y → Rn E M d MC MS cs sl tgt ls st sh G Q) (kf : ¬ x ≤ y → Rn E M d MC MS cs sl (pc + 3) ls st sh G Q) : Rn E M d MC MS cs sl pc ls (.int y :: .int x :: st) sh G Q := by
  intro p e R s m args below meth c Qw C H locs la hH hS hL
  exact lv_icmp_le C.1.1 C.1.2.1 hdec ht (fun h => kt h p e R s m args below meth c Qw C H locs la hH hS hL) (fun h => kf h p e R s m args below meth c Qw C H locs la hH hS hL)
theorem Rn.idiv {x y : Int32} (hdec : decode M.2.2.1 pc = .ok (.idiv, 1)) (hne : ¬ y = 0) (kk : Rn E M d MC MS cs sl (pc + 1) ls (.int (x / y) :: st) sh G Q) : Rn E M d MC MS cs sl pc ls (.int y :: .int x :: st) sh G Q := by
  intro p e R s m args below meth c Qw C H locs la hH hS hL
  exact lv_idiv C.1.1 C.1.2.1 hdec hne (kk p e R s m args below meth c Qw C H locs la hH hS hL)
theorem Rn.irem {x y : Int32} (hdec : decode M.2.2.1 pc = .ok (.irem, 1)) (hne : ¬ y = 0) (kk : Rn E M d MC MS cs sl (pc + 1) ls (.int (x - x / y * y) :: st) sh G Q) : Rn E M d MC MS cs sl pc ls (.int y :: .int x :: st) sh G Q := by
  intro p e R s m args below meth c Qw C H locs la hH hS hL
  exact lv_irem C.1.1 C.1.2.1 hdec hne (kk p e R s m args below meth c Qw C H locs la hH hS hL)
theorem Rn.tblIn {x : Int32} {dflt lo hi off : Int} {offs : Array Int} {len : Nat} (tgt : Nat) (hdec : decode M.2.2.1 pc = .ok (.tableswitch dflt lo hi offs, len)) (h1 : ¬ x.toInt < lo) (h2 : ¬ hi < x.toInt) (ho : offs[(x.toInt - lo).toNat]? = some off) (ht : (pc : Int) + off = (tgt : Int)) (kk : Rn E M d MC MS cs sl tgt ls st sh G Q) : Rn E M d MC MS cs sl pc ls (.int x :: st) sh G Q := by
  intro p e R s m args below meth c Qw C H locs la hH hS hL
  exact lv_tableIn C.1.1 C.1.2.1 hdec h1 h2 ho ht (kk p e R s m args below meth c Qw C H locs la hH hS hL)
theorem Rn.tblOut {x : Int32} {dflt lo hi : Int} {offs : Array Int} {len : Nat} (tgt : Nat) (hdec : decode M.2.2.1 pc = .ok (.tableswitch dflt lo hi offs, len)) (h1 : x.toInt < lo ∨ hi < x.toInt) (ht : (pc : Int) + dflt = (tgt : Int)) (kk : Rn E M d MC MS cs sl tgt ls st sh G Q) : Rn E M d MC MS cs sl pc ls (.int x :: st) sh G Q := by
  intro p e R s m args below meth c Qw C H locs la hH hS hL
  exact lv_tableOut C.1.1 C.1.2.1 hdec h1 ht (kk p e R s m args below meth c Qw C H locs la hH hS hL)
theorem Rn.iald {k n : Nat} (j : Nat) (hdec : decode M.2.2.1 pc = .ok (.iaload, 1)) (ho : shg sh k = some (.inr (.int, n))) (hn : n < 2147483648) (hj : j < n) (kk : Rn E M d MC MS cs sl (pc + 1) ls (G k j :: st) sh G Q) : Rn E M d MC MS cs sl pc ls (.int (nI j) :: .ref k :: st) sh G Q := by
  intro p e R s m args below meth c Qw C H locs la hH hS hL
  rw [shg_eq] at ho
  obtain ⟨cell, a1, a2, a3, a4, a5, a6⟩ := hH.arr C.2.2.1.1 (by simp) ho
  have hc : (nI j).toNatClampNeg = j := nI_clamp (Nat.lt_trans hj hn)
  refine W.iald C.1.1 C.1.2.1 a1 a2 a3 ?_ (v := rv E (G k j)) (by rw [hc]; exact a6 j hj) rfl rfl hdec (kk p e R s m args below meth c Qw C H locs la hH hS hL)
  rw [hc]
  rintro (h | h)
  · exact nI_pos (Nat.lt_trans hj hn) h
  · omega
theorem Rn.zald {k n : Nat} (j : Nat) (hdec : decode M.2.2.1 pc = .ok (.baload, 1)) (ho : shg sh k = some (.inr (.boolean, n))) (hn : n < 2147483648) (hj : j < n) (kk : Rn E M d MC MS cs sl (pc + 1) ls (G k j :: st) sh G Q) : Rn E M d MC MS cs sl pc ls (.int (nI j) :: .ref k :: st) sh G Q := by
  intro p e R s m args below meth c Qw C H locs la hH hS hL
  rw [shg_eq] at ho
  obtain ⟨cell, a1, a2, a3, a4, a5, a6⟩ := hH.arr C.2.2.1.1 (by simp) ho
  have hc : (nI j).toNatClampNeg = j := nI_clamp (Nat.lt_trans hj hn)
  refine W.zald C.1.1 C.1.2.1 a1 a2 a3 ?_ (v := rv E (G k j)) (by rw [hc]; exact a6 j hj) rfl rfl hdec (kk p e R s m args below meth c Qw C H locs la hH hS hL)
  rw [hc]
  rintro (h | h)
  · exact nI_pos (Nat.lt_trans hj hn) h
  · omega
theorem Rn.aald {k n : Nat} (j : Nat) (hdec : decode M.2.2.1 pc = .ok (.aaload, 1)) (ho : shg sh k = some (.inr (.object RX5, n))) (hn : n < 2147483648) (hj : j < n) (kk : Rn E M d MC MS cs sl (pc + 1) ls (G k j :: st) sh G Q) : Rn E M d MC MS cs sl pc ls (.int (nI j) :: .ref k :: st) sh G Q := by
  intro p e R s m args below meth c Qw C H locs la hH hS hL
  rw [shg_eq] at ho
  obtain ⟨cell, a1, a2, a3, a4, a5, a6⟩ := hH.arr C.2.2.1.1 (by simp) ho
  have hc : (nI j).toNatClampNeg = j := nI_clamp (Nat.lt_trans hj hn)
  refine W.aald C.1.1 C.1.2.1 a1 a2 rfl a3 ?_ (v := rv E (G k j)) (by rw [hc]; exact a6 j hj) rfl rfl hdec (kk p e R s m args below meth c Qw C H locs la hH hS hL)
  rw [hc]
  rintro (h | h)
  · exact nI_pos (Nat.lt_trans hj hn) h
  · omega
/-- a cell of ours is an array: one place written -/
theorem HR.ast {E : EE} {sh : List Shp} {G : GG} {U : State} {H H1 : Heap} {k n j : Nat} {ty : FieldType} {v : Value} (h : HR E sh G U H) (h5 : 5 ≤ k) (ho : sh[k]? = some (.inr (ty, n))) (e : H1[ad E k]? = some ((arrV (E.2.2.2.2 ty) n (fun j => rv E (G k j))).setSlot j (rv E v))) (z : H1.size = H.size) (oq : ∀ q, q ≠ ad E k → H1[q]? = H[q]?) : HR E sh (up2 G k j v) U H1 := by
  refine h.put h5 z oq (fun a ha => ?_) (fun x hx => ?_)
  · funext j; simp [up2, ha]
  · cases hx.symm.trans ho
    show H1[ad E k]? = some (arrV _ _ _)
    rw [e, arrV_store]
    congr 2
    funext q
    by_cases hq : q = j
    · subst hq; simp [up2, updV]
    · simp [up2, updV, hq]
theorem fr_ad {E : EE} {k : Nat} (h5 : 5 ≤ k) : fr E (ad E k) := by rw [ad_hi E h5]; exact Nat.le_add_right _ _
theorem Rn.iast {k n : Nat} {x : Int32} (j : Nat) (hdec : decode M.2.2.1 pc = .ok (.iastore, 1)) (h5 : 5 ≤ k) (ho : shg sh k = some (.inr (.int, n))) (hn : n < 2147483648) (hj : j < n) (kk : Rn E M d MC MS cs sl (pc + 1) ls st sh (up2 G k j (.int x)) Q) : Rn E M d MC MS cs sl pc ls (.int x :: .int (nI j) :: .ref k :: st) sh G Q := by
  intro p e R s m args below meth c Qw C H locs la hH hS hL
  rw [shg_eq] at ho
  have hc : (nI j).toNatClampNeg = j := nI_clamp (Nat.lt_trans hj hn)
  refine W.iast C.1.1 C.1.2.1 (hH.2.1 k _ h5 ho) ((C.2.2.1.1.2 0 _ rfl).1 _ _) (fun z => by cases z) ?_ rfl rfl hdec fun H1 e1 z oq => ?_
  · rw [hc, arrV_size]
    rintro (h | h)
    · exact nI_pos (Nat.lt_trans hj hn) h
    · omega
  · rw [hc] at e1 ⊢
    exact kk p e R s m args below meth c Qw C H1 _ la (hH.ast (v := .int x) h5 ho e1 z oq) (hS.put z oq (fr_ad h5)) hL
theorem Rn.zast {k n : Nat} {x : Int32} (j : Nat) (hdec : decode M.2.2.1 pc = .ok (.bastore, 1)) (h5 : 5 ≤ k) (ho : shg sh k = some (.inr (.boolean, n))) (hn : n < 2147483648) (hj : j < n) (hx : x = 0 ∨ x = 1) (kk : Rn E M d MC MS cs sl (pc + 1) ls st sh (up2 G k j (.int x)) Q) : Rn E M d MC MS cs sl pc ls (.int x :: .int (nI j) :: .ref k :: st) sh G Q := by
  intro p e R s m args below meth c Qw C H locs la hH hS hL
  rw [shg_eq] at ho
  have hc : (nI j).toNatClampNeg = j := nI_clamp (Nat.lt_trans hj hn)
  refine W.zast C.1.1 C.1.2.1 (hH.2.1 k _ h5 ho) ((C.2.2.1.1.2 1 _ rfl).1 _ _) (fun z => by cases z) ?_ rfl rfl hdec fun H1 e1 z oq => ?_
  · rw [hc, arrV_size]
    rintro (h | h)
    · exact nI_pos (Nat.lt_trans hj hn) h
    · omega
  · rw [hc] at e1 ⊢
    have hnx : narrow .boolean (.int x) = .int x := by rcases hx with rfl | rfl <;> rfl
    rw [hnx] at e1
    exact kk p e R s m args below meth c Qw C H1 _ la (hH.ast (v := .int x) h5 ho e1 z oq) (hS.put z oq (fr_ad h5)) hL
theorem Rn.aast {k n q : Nat} (j : Nat) (hdec : decode M.2.2.1 pc = .ok (.aastore, 1)) (h5 : 5 ≤ k) (ho : shg sh k = some (.inr (.object RX5, n))) (hq : isObj sh q 5 = true) (hn : n < 2147483648) (hj : j < n) (kk : Rn E M d MC MS cs sl (pc + 1) ls st sh (up2 G k j (.ref q)) Q) : Rn E M d MC MS cs sl pc ls (.ref q :: .int (nI j) :: .ref k :: st) sh G Q := by
  intro p e R s m args below meth c Qw C H locs la hH hS hL
  rw [shg_eq] at ho
  have hc : (nI j).toNatClampNeg = j := nI_clamp (Nat.lt_trans hj hn)
  obtain ⟨q5, hk0, r0, h1, cellV, g1, g2, g3, -⟩ := hH.obj hq
  cases h1
  have hK := C.2.2.1.1
  have hcls := (hK.1 5 _ rfl).2
  obtain ⟨kA, comp, k1, k2, k3, -⟩ := (hK.2 2 _ rfl).2
  have hcomp : comp = E.2.1.1 5 := Option.some.inj (k3.symm.trans hcls.1)
  subst hcomp
  obtain ⟨kC, hkC, -⟩ := hcls.2
  refine W.aast C.1.1 C.1.2.1 (hH.2.1 k _ h5 ho) (fun q h => by cases h) (fun h => by cases h) k1 k2 rfl hkC ?_ g1 (fun q h => by rw [g3] at h; cases h) (by rw [g2]; exact hkC) (by rw [g2]; exact va_assign hcls) rfl rfl hdec fun H1 e1 z oq => ?_
  · rw [hc, arrV_size]
    exact ⟨nI_pos (Nat.lt_trans hj hn), hj⟩
  · rw [hc] at e1 ⊢
    exact kk p e R s m args below meth c Qw C H1 _ la (hH.ast (v := .ref q) h5 ho e1 z oq) (hS.put z oq (fr_ad h5)) hL
theorem Rn.mmax {x y : Int32} {idx : Nat} (hdec : decode M.2.2.1 pc = .ok (.invokestatic idx, 3)) (hl : Cond.methodLink (Rcls M.1) idx Lib.Math.max.name ∈ lw_good) (hd : 1 ≤ d) (hst : (st.map fun v => v.category).sum ≤ 8) (hc : cs ≤ MC) (hs : sl ≤ MS) (kk : Rn E M d MC MS cs sl (pc + 3) ls (.int (if x < y then y else x) :: st) sh G Q) : Rn E M d MC MS cs sl pc ls (.int y :: .int x :: st) sh G Q := by
  intro p e R s m args below meth c Qw C H locs la hH hS hL
  obtain ⟨f1, f2, f3, f4⟩ := C.2.2.2.2.1
  have e1 : ((st.map (rv E)).map fun v => v.category) = (st.map fun v => v.category) := by rw [List.map_map]; exact List.map_congr_left (fun v _ => rv_cat E v)
  exact va_mmax C.1.1 C.1.2.1 (by rw [C.1.2.2.1, hL.1]) C.1.2.2.2 (C.word hl) (C.word ma_max.1) (C.word ma_max.2.1) (C.word ma_max.2.2) (by omega) (by rw [e1]; omega) (by omega) (by omega) hdec (kk p e R s m args below meth c Qw C H locs la hH hS hL)
theorem Rn.mmin {x y : Int32} {idx : Nat} (hdec : decode M.2.2.1 pc = .ok (.invokestatic idx, 3)) (hl : Cond.methodLink (Rcls M.1) idx Lib.Math.min.name ∈ lw_good) (hd : 1 ≤ d) (hst : (st.map fun v => v.category).sum ≤ 8) (hc : cs ≤ MC) (hs : sl ≤ MS) (kk : Rn E M d MC MS cs sl (pc + 3) ls (.int (if y < x then y else x) :: st) sh G Q) : Rn E M d MC MS cs sl pc ls (.int y :: .int x :: st) sh G Q := by
  intro p e R s m args below meth c Qw C H locs la hH hS hL
  obtain ⟨f1, f2, f3, f4⟩ := C.2.2.2.2.1
  have e1 : ((st.map (rv E)).map fun v => v.category) = (st.map fun v => v.category) := by rw [List.map_map]; exact List.map_congr_left (fun v _ => rv_cat E v)
  exact va_mmin C.1.1 C.1.2.1 (by rw [C.1.2.2.1, hL.1]) C.1.2.2.2 (C.word hl) (C.word ma_min.1) (C.word ma_min.2.1) (C.word ma_min.2.2) (by omega) (by rw [e1]; omega) (by omega) (by omega) hdec (kk p e R s m args below meth c Qw C H locs la hH hS hL)
/-- a stretch, and the instruction behind it -/
def bl2 (M : MTy) (pc : Nat) (is : List SI) (pc2 : Nat) (ins : Instr) (n : Nat) : Bool := blk M.1 M.2.2.2.1 M.2.2.1 pc is && decIs M.2.2.1 pc2 ins n
theorem Rn.B {is : List SI} {pc2 n : Nat} {ins : Instr} {ls2 : List (Option Value)} {st2 : List Value} {G2 : GG} (hb : bl2 M pc is pc2 ins n = true) (hr : srun sh is (pc, ls, st, G) = some (pc2, ls2, st2, G2)) (k : decode M.2.2.1 pc2 = .ok (ins, n) → Rn E M d MC MS cs sl pc2 ls2 st2 sh G2 Q) : Rn E M d MC MS cs sl pc ls st sh G Q := by
  have hb2 := (Bool.and_eq_true _ _).mp hb
  exact Rn.go hb2.1 hr (k (of_decide_eq_true hb2.2))
end FORK
