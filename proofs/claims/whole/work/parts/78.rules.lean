/-! The constructors: rules over the first places of the world, by hand. -/
def tk (L n : Nat) : List Shp := (SH L).take n
def upf (f : Nat → Value) (b : Nat) (v : Value) : Nat → Value := fun j => if j = b then v else f j
def dfl (ci : Nat) : Nat → Value := fun j => defaultValue (ftyp ci j)
def wid : Shp → Nat
  | .inl ci => match vwCl[ci]? with
    | some r => r.2.2
    | none => 0
  | .inr a => a.2
theorem cellR.cong {E : EE} {k : Nat} {x : Shp} {g g' : Nat → Value} {H : Heap} (h : cellR E k x g H) (hj : ∀ j, j < wid x → g' j = g j) : cellR E k x g' H := by
  cases x with
  | inl ci =>
    obtain ⟨r, h1, cell, h2, h3, h4, h5⟩ := h
    refine ⟨r, h1, cell, h2, h3, h4, fun q hq => ?_⟩
    rw [h5 q hq]
    show some (rv E (g q)) = some (rv E (g' q))
    rw [hj q (by simp only [wid, h1]; exact hq)]
  | inr a =>
    refine Eq.trans (show H[ad E k]? = some (arrV (E.2.2.2.2 a.1) a.2 (fun j => rv E (g j))) from h) ?_
    have e : Array.ofFn (n := a.2) (fun j => rv E (g j.val)) = Array.ofFn (n := a.2) (fun j => rv E (g' j.val)) := by
      congr 1
      funext j
      rw [hj j.val j.isLt]
    show some (arrV _ _ _) = some (arrV _ _ _)
    unfold arrV
    rw [e]
theorem gset_ne {G : GG} {k a : Nat} {f : Nat → Value} (h : a ≠ k) : gset G k f a = G a := by unfold gset; rw [if_neg h]
theorem gset_eq {G : GG} {k : Nat} {f : Nat → Value} : gset G k f k = f := by unfold gset; rw [if_pos rfl]
theorem gset_up {G : GG} {k b : Nat} {f : Nat → Value} {v : Value} : up2 (gset G k f) k b v = gset G k (upf f b v) := by
  funext a j
  by_cases ha : a = k
  · subst ha
    rw [gset_eq]
    unfold up2 upf
    rw [if_pos rfl, gset_eq]
  · rw [gset_ne ha]
    unfold up2
    rw [if_neg ha, gset_ne ha]
theorem gset_up2 {G : GG} {k k2 b : Nat} {f g : Nat → Value} {v : Value} (hk : k2 ≠ k) : up2 (gset (gset G k2 g) k f) k2 b v = gset (gset G k2 (upf g b v)) k f := by
  funext a j
  by_cases ha : a = k2
  · subst ha
    rw [gset_ne hk, gset_eq]
    unfold up2 upf
    rw [if_pos rfl, gset_ne hk, gset_eq]
  · unfold up2
    rw [if_neg ha]
    by_cases hb : a = k
    · subst hb; rw [gset_eq, gset_eq]
    · rw [gset_ne hb, gset_ne hb, gset_ne ha, gset_ne ha]
theorem gset_swap {G : GG} {k k2 : Nat} {f g : Nat → Value} (hk : k2 ≠ k) : gset (gset G k f) k2 g = gset (gset G k2 g) k f := by
  funext a
  by_cases ha : a = k2
  · subst ha; rw [gset_eq, gset_ne hk, gset_eq]
  · rw [gset_ne ha]
    by_cases hb : a = k
    · subst hb; rw [gset_eq, gset_eq]
    · rw [gset_ne hb, gset_ne hb, gset_ne ha]
theorem gset_same {G : GG} {k : Nat} {f : Nat → Value} (h : G k = f) : gset G k f = G := by
  funext a
  by_cases ha : a = k
  · subst ha; rw [gset_eq, h]
  · rw [gset_ne ha]
section CTOR
variable {E : EE} {L : Nat} {M : MTy} {d MC MS cs sl pc n : Nat} {ls : List (Option Value)} {st : List Value} {sh : List Shp} {G : GG} {Q : QQ}
theorem Rn.cell {G2 : GG} {x : Shp} (k : Nat) (h5 : 5 ≤ k) (hx : shg sh k = some x) (hr : ∀ a, a ≠ k → G2 a = G a) (hj : ∀ j, j < wid x → G2 k j = G k j) (kk : Rn E M d MC MS cs sl pc ls st sh G2 Q) : Rn E M d MC MS cs sl pc ls st sh G Q := by
  intro p e R s m args below meth c Qw C H locs la hH hS hL
  refine kk p e R s m args below meth c Qw C H locs la ?_ hS hL
  obtain ⟨h1, h2, h3, h4⟩ := hH
  rw [shg_eq] at hx
  refine ⟨h1, fun a y ha hy => ?_, fun a ha => ?_, h4⟩
  · by_cases e : a = k
    · subst e
      cases hx.symm.trans hy
      exact (h2 a x ha hx).cong hj
    · rw [hr a e]; exact h2 a y ha hy
  · rw [hr a (by omega)]; exact h3 a ha
theorem Rn.newT {ci idx N : Nat} (n : Nat) (hdec : decode M.2.2.1 pc = .ok (.new idx, 3)) (hk : (M.1, idx, ci) ∈ CK) (hN : ∀ r, vwCl[ci]? = some r → r.2.2 = N) (hl : (tk L n).length = n) (hx : tk L n ++ [.inl ci] = tk L (n + 1)) (hc : cs + 1 ≤ MC) (hs : sl + N ≤ MS)
    (kk : Rn E M d MC MS (cs + 1) (sl + N) (pc + 3) ls (.ref n :: st) (tk L (n + 1)) (gset G n (dfl ci)) Q) : Rn E M d MC MS cs sl pc ls st (tk L n) G Q := by
  refine Rn.new hdec hk hN hc hs ?_
  rw [hl, hx]
  exact kk
theorem Rn.newz {atype : ArrayType} {ty : FieldType} {x : Int32} {N : Nat} (n : Nat) (hdec : decode M.2.2.1 pc = .ok (.newarray atype, 2)) (hty : newarray.typeOf atype = ty) (hty2 : ty = .int ∨ ty = .boolean) (hn : x = nI N) (hN : N ≤ 4096) (hl : (tk L n).length = n) (hx : tk L n ++ [.inr (ty, N)] = tk L (n + 1)) (hc : cs + 1 ≤ MC) (hs : sl + N ≤ MS) (hz : G n = fun _ => .int 0)
    (kk : Rn E M d MC MS (cs + 1) (sl + N) (pc + 2) ls (.ref n :: st) (tk L (n + 1)) G Q) : Rn E M d MC MS cs sl pc ls (.int x :: st) (tk L n) G Q := by
  refine Rn.newa hdec hty hty2 hn hN hc hs ?_
  rw [hl, hx, gset_same hz]
  exact kk
theorem Rn.newI {atype : ArrayType} {ty : FieldType} {x : Int32} {N k : Nat} {f : Nat → Value} (n : Nat) (hdec : decode M.2.2.1 pc = .ok (.newarray atype, 2)) (hty : newarray.typeOf atype = ty) (hty2 : ty = .int ∨ ty = .boolean) (hn : x = nI N) (hN : N ≤ 4096) (hl : (tk L n).length = n) (hx : tk L n ++ [.inr (ty, N)] = tk L (n + 1)) (hc : cs + 1 ≤ MC) (hs : sl + N ≤ MS) (hk : n ≠ k)
    (kk : Rn E M d MC MS (cs + 1) (sl + N) (pc + 2) ls (.ref n :: st) (tk L (n + 1)) (gset (gset G n (fun _ => .int 0)) k f) Q) : Rn E M d MC MS cs sl pc ls (.int x :: st) (tk L n) (gset G k f) Q := by
  refine Rn.newa hdec hty hty2 hn hN hc hs ?_
  rw [hl, hx, gset_swap hk]
  exact kk
theorem Rn.anewI {idx N k : Nat} {x : Int32} {f : Nat → Value} (n : Nat) (hdec : decode M.2.2.1 pc = .ok (.anewarray idx, 3)) (hc5 : (M.1, idx, 5) ∈ CK) (hn : x = nI N) (hN : N ≤ 4096) (hl : (tk L n).length = n) (hx : tk L n ++ [.inr (.object RX5, N)] = tk L (n + 1)) (hc : cs + 1 ≤ MC) (hs : sl + N ≤ MS) (hk : n ≠ k)
    (kk : Rn E M d MC MS (cs + 1) (sl + N) (pc + 3) ls (.ref n :: st) (tk L (n + 1)) (gset (gset G n (fun _ => .null)) k f) Q) : Rn E M d MC MS cs sl pc ls (.int x :: st) (tk L n) (gset G k f) Q := by
  refine Rn.anew hdec hc5 hn hN hc hs ?_
  rw [hl, hx, gset_swap hk]
  exact kk
theorem Rn.putFT {a b k q idx : Nat} {f : Nat → Value} (hdec : decode M.2.2.1 pc = .ok (.putfield idx, 3)) (hf : (M.1, idx, a, b) ∈ FL) (hfin : ∀ r, vwCl[a]? = some r → (r.2.1 b).2.2.2 = true ∧ (r.2.1 b).1 = Rcls M.1) (hl1 : ∀ r, vwCl[a]? = some r → Cond.fieldLink (Rcls M.1) idx (r.2.1 b).1 (r.2.1 b).2.1 (r.2.1 b).2.2.1 ∈ lw_good) (hin : M.2.1.name = "<init>") (ho : isObj sh k a = true) (hty : (∃ n, ftyp a b = .object n) ∨ ∃ t, ftyp a b = .array t) (kk : Rn E M d MC MS cs sl (pc + 3) ls st sh (gset G k (upf f b (.ref q))) Q) : Rn E M d MC MS cs sl pc ls (.ref q :: .ref k :: st) sh (gset G k f) Q := by
  refine Rn.putF hdec hf hfin hl1 hin ho hty ?_
  rw [gset_up]
  exact kk
theorem Rn.putfT {a b k idx : Nat} {v : Value} {f : Nat → Value} (hdec : decode M.2.2.1 pc = .ok (.putfield idx, 3)) (hf : (M.1, idx, a, b) ∈ FL) (hfin : ∀ r, vwCl[a]? = some r → (r.2.1 b).2.2.2 = false) (ho : isObj sh k a = true) (hn : narrow (ftyp a b) (rv E v) = rv E v) (hfit : fits (ftyp a b) (rv E v) = true) (kk : Rn E M d MC MS cs sl (pc + 3) ls st sh (gset G k (upf f b v)) Q) : Rn E M d MC MS cs sl pc ls (v :: .ref k :: st) sh (gset G k f) Q := by
  refine Rn.putf hdec hf hfin ho hn hfit ?_
  rw [gset_up]
  exact kk
theorem Rn.iastI {k k2 n : Nat} {x y : Int32} {f g : Nat → Value} (j : Nat) (hy : y = nI j) (hdec : decode M.2.2.1 pc = .ok (.iastore, 1)) (h5 : 5 ≤ k2) (ho : shg sh k2 = some (.inr (.int, n))) (hn : n < 2147483648) (hj : j < n) (hk : k2 ≠ k) (kk : Rn E M d MC MS cs sl (pc + 1) ls st sh (gset (gset G k2 (upf g j (.int x))) k f) Q) : Rn E M d MC MS cs sl pc ls (.int x :: .int y :: .ref k2 :: st) sh (gset (gset G k2 g) k f) Q := by
  subst hy
  refine Rn.iast j hdec h5 ho hn hj ?_
  rw [gset_up2 hk]
  exact kk
theorem Rn.aastI {k k2 n q : Nat} {y : Int32} {f g : Nat → Value} (j : Nat) (hy : y = nI j) (hdec : decode M.2.2.1 pc = .ok (.aastore, 1)) (h5 : 5 ≤ k2) (ho : shg sh k2 = some (.inr (.object RX5, n))) (hq : isObj sh q 5 = true) (hn : n < 2147483648) (hj : j < n) (hk : k2 ≠ k) (kk : Rn E M d MC MS cs sl (pc + 1) ls st sh (gset (gset G k2 (upf g j (.ref q))) k f) Q) : Rn E M d MC MS cs sl pc ls (.ref q :: .int y :: .ref k2 :: st) sh (gset (gset G k2 g) k f) Q := by
  subst hy
  refine Rn.aast j hdec h5 ho hq hn hj ?_
  rw [gset_up2 hk]
  exact kk
end CTOR
/-! the first contents -/
def st3 : Nat → Int32 := fun j => if j = 0 then 22 else if j = 1 then 18 else if j = 2 then 2 else 0
def on1 (b : Nat) (x : Int32) : Nat → Int32 := fun j => if j = b then x else 0
def ivF (k : Nat) : Nat → Int32 := if k = 17 then st3 else if k = 51 then st3 else if k = 10 then on1 6 (-1) else if k = 18 then on1 4 (-1) else if k = 22 then on1 3 (-1) else if k = 35 then on1 4 (-1) else if k = 40 then on1 1 1 else if k = 42 then on1 1 1 else if k = 44 then on1 1 1 else if k = 46 then on1 1 1 else fun _ => 0
def F00 (S : FF) : FF := fun k => if k < 5 then S k else ivF k
/-- what a constructor leaves: the first k1 places, and G as it was given -/
def QC (L k1 : Nat) (G : GG) : QQ := fun r sh' G' => r = none ∧ sh' = tk L k1 ∧ G' = G
