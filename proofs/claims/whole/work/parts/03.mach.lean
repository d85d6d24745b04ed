/-! The abstract machine: values, places, shapes; what relates them to the model's heap. -/
def lw_good : List Cond := lw_tbl.filter goodWord
def isNestW : Cond → Bool
  | .fieldLinkNest .. => true
  | .methodLinkNest .. => true
  | _ => false
def lw_nest : List Cond := lw_tbl.filter isNestW
theorem lw_good_in {w : Cond} (h : w ∈ lw_good) : w ∈ lw_tbl ∧ goodWord w = true := List.mem_filter.mp h
/-- class number, name, bytes, locals, result -/
abbrev MTy : Type := Nat × MethodName × ByteArray × Nat × Option FieldType
def WM (M : MTy) : List Cond := .code M.2.1 M.2.2.1 M.2.2.2.1 M.2.2.2.2 :: lw_good
abbrev EE : Type := Launch × va_G × Nat × (Nat → Nat) × (FieldType → ClassId)
abbrev Shp : Type := Nat ⊕ (FieldType × Nat)
abbrev GG : Type := Nat → Nat → Value
def ad (E : EE) (k : Nat) : Nat := if k < 5 then E.2.2.2.1 k else E.2.2.1 + (k - 5)
def rv (E : EE) : Value → Value
  | .ref k => .ref (ad E k)
  | v => v
theorem rv_cat (E : EE) (v : Value) : (rv E v).category = v.category := by cases v <;> rfl
theorem ad_hi (E : EE) {k : Nat} (h : 5 ≤ k) : ad E k = E.2.2.1 + (k - 5) := by unfold ad; rw [if_neg (by omega)]
theorem ad_inj (E : EE) {k j : Nat} (h : 5 ≤ k) (h2 : 5 ≤ j) (e : ad E k = ad E j) : k = j := by rw [ad_hi E h, ad_hi E h2] at e; omega
def fr (E : EE) : Nat → Prop := fun q => E.2.2.1 ≤ q
def tysE (E : EE) : List (ClassId × FieldType) := [(E.2.2.2.2 .int, .int), (E.2.2.2.2 .boolean, .boolean), (E.2.2.2.2 (.object RX5), .object RX5)]
def Env2 (E : EE) (U : State) : Prop := va_K E.2.1 vwCl (tysE E) U ∧ (∀ w ∈ lw_nest, va_Nw w U) ∧ va_AO RX5 U
def Rcls (n : Nat) : String := [RX0, RX1, RX2, RX3, RX4, RX5, RX6, RX7, RX8, RX9, RX10, RX11, RL, RJ9, RJ10, RJ7].getD n ""
def stn (k : Nat) : String := ["", "EAST", "SOUTH", "LEAST_SETTING", "MOST_SETTING"].getD k ""
def cellR (E : EE) (k : Nat) (x : Shp) (g : Nat → Value) (H : Heap) : Prop := match x with
  | .inl ci => ∃ r : vw_C, vwCl[ci]? = some r ∧ t_OB (ad E k) (E.2.1.1 ci) r.2.2 (E.2.1.2 ci) H (fun j => rv E (g j))
  | .inr a => H[ad E k]? = some (arrV (E.2.2.2.2 a.1) a.2 (fun j => rv E (g j)))
def HR (E : EE) (sh : List Shp) (G : GG) (U : State) (H : Heap) : Prop :=
  (5 ≤ sh.length ∧ H.size = E.2.2.1 + (sh.length - 5)) ∧
  (∀ (k : Nat) (x : Shp), 5 ≤ k → sh[k]? = some x → cellR E k x (G k) H) ∧
  (∀ k : Nat, k < 5 → ∃ n : Nat, sh[k]? = some (.inr (.int, n)) ∧ va_T .int (ad E k) n (fun j => rv E (G k j)) (fr E) U H) ∧
  (∀ k : Nat, 1 ≤ k → k < 5 → va_Z RX10 (stn k) "[I" (.ref (ad E k)) (fr E) U H)
theorem cellR.kept {E : EE} {k : Nat} {x : Shp} {g : Nat → Value} {H H1 : Heap} (h : cellR E k x g H) (hq : H1[ad E k]? = H[ad E k]?) : cellR E k x g H1 := by
  cases x with
  | inl ci =>
    obtain ⟨r, h1, h2⟩ := h
    exact ⟨r, h1, h2.kept hq⟩
  | inr a => exact hq.trans h
theorem cellR.lt {E : EE} {k : Nat} {x : Shp} {g : Nat → Value} {H : Heap} (h : cellR E k x g H) : ad E k < H.size := by
  cases x with
  | inl ci =>
    obtain ⟨r, h1, cell, h2, -⟩ := h
    exact (Array.getElem?_eq_some_iff.mp h2).1
  | inr a => exact (Array.getElem?_eq_some_iff.mp h).1
theorem HR.moved {E : EE} {sh : List Shp} {G : GG} {u U : State} {H : Heap} (hvm : u.vm.Alike U.vm) (h : HR E sh G u H) : HR E sh G U H := by
  obtain ⟨h1, h2, h3, h4⟩ := h
  refine ⟨h1, h2, fun k hk => ?_, fun k h5 h6 => (h4 k h5 h6).moved hvm⟩
  obtain ⟨n, a, b⟩ := h3 k hk
  exact ⟨n, a, b.moved hvm⟩
theorem Env2.warm {E : EE} {s U : State} (hW : s.WarmedH U.vm) (h : Env2 E s) : Env2 E U := by
  refine ⟨h.1.moved hW.alike, fun w hw => ?_, va_AO.moved hW.alike h.2.2⟩
  have h0 := h.2.1 w hw
  have hn := (List.mem_filter.mp hw).2
  cases w <;> first | (simp [isNestW] at hn; done) | exact va_Nw.warmF hW h0 | exact va_Nw.warmM hW h0
theorem Env2.same {E : EE} {s U : State} (hv : s.vm = U.vm) (h : Env2 E s) : Env2 E U := by
  have ha : s.vm.Alike U.vm := by rw [← hv]; exact Vm.Alike.refl _
  refine ⟨h.1.moved ha, fun w hw => ?_, va_AO.moved ha h.2.2⟩
  have h0 := h.2.1 w hw
  have hn := (List.mem_filter.mp hw).2
  cases w <;> first | (simp [isNestW] at hn; done) | exact va_Nw.same rfl hv h0
def up2 {α : Type} (G : Nat → Nat → α) (k j : Nat) (v : α) : Nat → Nat → α := fun a b => if a = k then (if b = j then v else G a b) else G a b
/-- one cell written anew, at a place of ours -/
theorem HR.put {E : EE} {sh : List Shp} {G G' : GG} {U : State} {H H1 : Heap} {k : Nat} (h : HR E sh G U H) (hk : 5 ≤ k) (hz : H1.size = H.size) (oq : ∀ q : Nat, q ≠ ad E k → H1[q]? = H[q]?)
    (hG : ∀ a, a ≠ k → G' a = G a) (hc : ∀ x, sh[k]? = some x → cellR E k x (G' k) H1) : HR E sh G' U H1 := by
  obtain ⟨h1, h2, h3, h4⟩ := h
  have hout : ∀ a : Nat, a < H.size → ¬ fr E a → H1[a]? = H[a]? := fun a _ hn => oq a (fun e => hn (by rw [e, ad_hi E hk]; exact Nat.le_add_right _ _))
  refine ⟨⟨h1.1, by rw [hz]; exact h1.2⟩, fun a x ha hx => ?_, fun a ha => ?_, fun a h5 h6 => (h4 a h5 h6).kept hout⟩
  · by_cases e : a = k
    · subst e
      exact hc x hx
    · rw [hG a e]
      exact (h2 a x ha hx).kept (oq _ (fun z => e (ad_inj E ha hk z)))
  · obtain ⟨n, a1, b1⟩ := h3 a ha
    refine ⟨n, a1, ?_⟩
    rw [hG a (by omega)]
    exact b1.kept hout
/-- one cell more -/
theorem HR.push {E : EE} {sh : List Shp} {G G' : GG} {U : State} {H H1 : Heap} {x : Shp} (h : HR E sh G U H) (hz : H1.size = H.size + 1) (oq : ∀ q : Nat, q < H.size → H1[q]? = H[q]?)
    (hG : ∀ a, a ≠ sh.length → G' a = G a) (hc : cellR E sh.length x (G' sh.length) H1) : HR E (sh ++ [x]) G' U H1 := by
  obtain ⟨h1, h2, h3, h4⟩ := h
  have hout : ∀ a : Nat, a < H.size → ¬ fr E a → H1[a]? = H[a]? := fun a ha _ => oq a ha
  refine ⟨⟨by simp; omega, by rw [hz, h1.2]; simp; omega⟩, fun a y ha hy => ?_, fun a ha => ?_, fun a h5 h6 => (h4 a h5 h6).kept hout⟩
  · by_cases e : a < sh.length
    · rw [List.getElem?_append_left e] at hy
      rw [hG a (by omega)]
      have hc2 := h2 a y ha hy
      exact hc2.kept (oq _ hc2.lt)
    · rw [List.getElem?_append_right (by omega)] at hy
      have hz2 : a - sh.length < 1 := (List.getElem?_eq_some_iff.mp hy).1
      have e2 : a = sh.length := by omega
      subst e2
      rw [Nat.sub_self] at hy
      cases hy
      exact hc
  · obtain ⟨n, a1, b1⟩ := h3 a ha
    have hl : a < sh.length := (List.getElem?_eq_some_iff.mp a1).1
    refine ⟨n, by rw [List.getElem?_append_left hl]; exact a1, ?_⟩
    rw [hG a (by omega)]
    exact b1.kept hout
/-! locals -/
def lget : List (Option Value) → Nat → Option Value
  | [], _ => none
  | o :: _, 0 => o
  | _ :: t, n + 1 => lget t n
def lset : List (Option Value) → Nat → Option Value → List (Option Value)
  | [], _, _ => []
  | _ :: t, 0, v => v :: t
  | h :: t, n + 1, v => h :: lset t n v
def kill2 (ls : List (Option Value)) (i : Nat) : List (Option Value) := match i with
  | 0 => ls
  | j + 1 => match lget ls j with
    | some v => if v.category = 2 then lset ls j none else ls
    | none => ls
def set1 (ls : List (Option Value)) (i : Nat) (v : Value) : List (Option Value) := lset (kill2 ls i) i (some v)
def set2 (ls : List (Option Value)) (i : Nat) (v : Value) : List (Option Value) := lset (lset (kill2 ls i) i (some v)) (i + 1) none
theorem lget_lset : ∀ (ls : List (Option Value)) (i j : Nat) (o : Option Value) (v : Value), lget (lset ls i o) j = some v → (j = i ∧ o = some v) ∨ (j ≠ i ∧ lget ls j = some v)
  | [], i, j, o, v, h => by simp [lset, lget] at h
  | a :: t, 0, 0, o, v, h => Or.inl ⟨rfl, h⟩
  | a :: t, 0, j + 1, o, v, h => Or.inr ⟨by omega, h⟩
  | a :: t, i + 1, 0, o, v, h => Or.inr ⟨by omega, h⟩
  | a :: t, i + 1, j + 1, o, v, h => by
    rcases lget_lset t i j o v h with ⟨h1, h2⟩ | ⟨h1, h2⟩
    · exact Or.inl ⟨by omega, h2⟩
    · exact Or.inr ⟨by omega, h2⟩
def lst (E : EE) : Nat → List (Option Value) → List (Nat × Value)
  | _, [] => []
  | i, none :: t => lst E (i + 1) t
  | i, some v :: t => (i, rv E v) :: lst E (i + 1) t
theorem lst_mem (E : EE) : ∀ (ls : List (Option Value)) (i : Nat) (q : Nat × Value), q ∈ lst E i ls ↔ ∃ j v, lget ls j = some v ∧ q = (i + j, rv E v)
  | [], i, q => by simp [lst, lget]
  | none :: t, i, q => by
    rw [show lst E i (none :: t) = lst E (i + 1) t from rfl, lst_mem E t (i + 1) q]
    constructor
    · rintro ⟨j, v, h1, h2⟩
      exact ⟨j + 1, v, h1, by rw [h2]; congr 1; omega⟩
    · rintro ⟨j, v, h1, h2⟩
      cases j with
      | zero => simp [lget] at h1
      | succ j => exact ⟨j, v, h1, by rw [h2]; congr 1; omega⟩
  | some w :: t, i, q => by
    rw [show lst E i (some w :: t) = (i, rv E w) :: lst E (i + 1) t from rfl, List.mem_cons, lst_mem E t (i + 1) q]
    constructor
    · rintro (h | ⟨j, v, h1, h2⟩)
      · exact ⟨0, w, rfl, h⟩
      · exact ⟨j + 1, v, h1, by rw [h2]; congr 1; omega⟩
    · rintro ⟨j, v, h1, h2⟩
      cases j with
      | zero => simp [lget] at h1; subst h1; exact Or.inl h2
      | succ j => exact Or.inr ⟨j, v, h1, by rw [h2]; congr 1; omega⟩
def lvr (E : EE) (n : Nat) (ls : List (Option Value)) (la : Array Slot) : Prop := lv_has la n (lst E 0 ls)
theorem lvr.at {E : EE} {n : Nat} {ls : List (Option Value)} {la : Array Slot} (h : lvr E n ls la) {i : Nat} {v : Value} (hv : lget ls i = some v) : la[i]? = some (.val (rv E v)) :=
  h.2.2 (i, rv E v) ((lst_mem E ls 0 _).mpr ⟨i, v, hv, by rw [Nat.zero_add]⟩)
theorem lvr.sub {E : EE} {n : Nat} {ls : List (Option Value)} {la : Array Slot} {l : List (Nat × Value)} (h : lv_has la n l) (hs : ∀ j v, lget ls j = some v → (j, rv E v) ∈ l) : lvr E n ls la := by
  refine ⟨h.1, h.2.1, fun q hq => ?_⟩
  obtain ⟨j, v, h1, rfl⟩ := (lst_mem E ls 0 q).mp hq
  rw [Nat.zero_add]
  exact h.2.2 _ (hs j v h1)
theorem kill2_get {ls : List (Option Value)} {i j : Nat} {v : Value} (h : lget (kill2 ls i) j = some v) : lget ls j = some v ∧ ¬ (j + 1 = i ∧ v.category = 2) := by
  unfold kill2 at h
  cases i with
  | zero => exact ⟨h, by omega⟩
  | succ k =>
    simp only at h
    split at h
    · rename_i w hw
      split at h
      · rename_i hc
        rcases lget_lset _ _ _ _ _ h with ⟨h1, h2⟩ | ⟨h1, h2⟩
        · cases h2
        · exact ⟨h2, by omega⟩
      · rename_i hc
        refine ⟨h, ?_⟩
        rintro ⟨e, e2⟩
        have : j = k := by omega
        subst this
        rw [hw] at h
        cases h
        exact hc e2
    · rename_i hw
      refine ⟨h, ?_⟩
      rintro ⟨e, e2⟩
      have : j = k := by omega
      subst this
      rw [hw] at h
      cases h
theorem set1_sub {E : EE} {ls : List (Option Value)} {i : Nat} {v : Value} : ∀ j w, lget (set1 ls i v) j = some w → (j, rv E w) ∈ ((i, rv E v) :: (lst E 0 ls).filter (fun q => !(q.1 == i) && !(q.1 + 1 == i && q.2.category == 2))) := by
  intro j w h
  rcases lget_lset _ _ _ _ _ h with ⟨h1, h2⟩ | ⟨h1, h2⟩
  · cases h2; subst h1; exact List.mem_cons_self
  · obtain ⟨h3, h4⟩ := kill2_get h2
    refine List.mem_cons_of_mem _ (List.mem_filter.mpr ⟨(lst_mem E ls 0 _).mpr ⟨j, w, h3, by rw [Nat.zero_add]⟩, ?_⟩)
    simp only [Bool.and_eq_true, Bool.not_eq_true', beq_eq_false_iff_ne, ne_eq, Bool.and_eq_false_iff, rv_cat]
    exact ⟨h1, by by_cases e : j + 1 = i; exact Or.inr (fun z => h4 ⟨e, z⟩); exact Or.inl e⟩
theorem set2_sub {E : EE} {ls : List (Option Value)} {i : Nat} {v : Value} : ∀ j w, lget (set2 ls i v) j = some w → (j, rv E w) ∈ ((i, rv E v) :: (lst E 0 ls).filter (fun q => !(q.1 == i) && (!(q.1 == i + 1) && !(q.1 + 1 == i && q.2.category == 2)))) := by
  intro j w h
  rcases lget_lset _ _ _ _ _ h with ⟨h1, h2⟩ | ⟨h0, h⟩
  · cases h2
  rcases lget_lset _ _ _ _ _ h with ⟨h1, h2⟩ | ⟨h1, h2⟩
  · cases h2; subst h1; exact List.mem_cons_self
  · obtain ⟨h3, h4⟩ := kill2_get h2
    refine List.mem_cons_of_mem _ (List.mem_filter.mpr ⟨(lst_mem E ls 0 _).mpr ⟨j, w, h3, by rw [Nat.zero_add]⟩, ?_⟩)
    simp only [Bool.and_eq_true, Bool.not_eq_true', beq_eq_false_iff_ne, ne_eq, Bool.and_eq_false_iff, rv_cat]
    exact ⟨h1, h0, by by_cases e : j + 1 = i; exact Or.inr (fun z => h4 ⟨e, z⟩); exact Or.inl e⟩
/-- locals at the entry -/
def entL : List Value → Nat → List (Option Value)
  | [], n => List.replicate n none
  | v :: t, n => if v.category = 2 then some v :: none :: entL t (n - 2) else some v :: entL t (n - 1)
