/-! The digest: what each of its answers is, by hand. -/
theorem cBP_c {F G : FF} {n : Nat} {due : Int32} (e11 : G 11 = F 11) (e12 : G 12 = F 12) (e13 : G 13 = F 13) (e15 : G 15 = F 15) (e17 : G 17 = F 17) : cBP G n due = cBP F n due := by
  have e : gBP G (G 15) n due = gBP F (F 15) n due := by
    funext a b; unfold gBP; rw [cvd_c e11 e12 e13 e15 e17]
  unfold cBP; rw [e]
theorem cHN_c {F G : FF} {n p : Nat} {wo : Int32} (e11 : G 11 = F 11) (e12 : G 12 = F 12) (e13 : G 13 = F 13) (e15 : G 15 = F 15) (e17 : G 17 = F 17) : cHN G n p wo = cHN F n p wo := by
  have e : gHN G n p wo = gHN F n p wo := by
    funext a b; unfold gHN hndC; rw [cvd_c (due := G 17 0) (w := nI p) e11 e12 e13 e15 e17, cvd_c (due := G 17 0) (w := -1) e11 e12 e13 e15 e17, e11, e13, e17]
  unfold cHN; rw [e]
theorem cBD_c {F G : FF} {n f t : Nat} (e11 : G 11 = F 11) (e12 : G 12 = F 12) (e13 : G 13 = F 13) (e15 : G 15 = F 15) (e17 : G 17 = F 17) : cBD G n f t = cBD F n f t := by
  have e : (fun j => sumO (gBP G (G 15) n (nI j)) n n 0 0) = (fun j => sumO (gBP F (F 15) n (nI j)) n n 0 0) := funext (fun j => cBP_c e11 e12 e13 e15 e17)
  have e0 : sumO (gBP G (G 15) n (nI f)) n n 0 0 = sumO (gBP F (F 15) n (nI f)) n n 0 0 := cBP_c e11 e12 e13 e15 e17
  unfold cBD; rw [e, e0]
/-- the class's rows that count, as they were at the start -/
def KC (F G : FF) : Prop := ∀ a, a < 48 → imp a → G a = F a
def DI (F G : FF) (l0 l1 n m : Nat) : Prop := IV G l0 l1 n m ∧ KC F G
theorem KC.up {F G G' : FF} (h : KC F G) (hr : ∀ a, a < 48 → G' a = G a) : KC F G' := fun a h1 h2 => (hr a h1).trans (h a h1 h2)
theorem DI.ppr {F G : FF} {l0 l1 n m : Nat} (h : DI F G l0 l1 n m) : PPr n F G := by
  have hp := h.1.ppr
  have k : ∀ a, a < 48 ∧ imp a → G a = F a := fun a z => h.2 a z.1 z.2
  unfold PPr at hp ⊢
  rw [k 11 (by unfold imp; omega), k 12 (by unfold imp; omega), k 13 (by unfold imp; omega), k 15 (by unfold imp; omega), k 17 (by unfold imp; omega)] at hp
  exact hp
theorem PPr.ofF {n : Nat} {F F' G : FF} (h : PPr n F G) (e11 : F' 11 = F 11) (e12 : F' 12 = F 12) (e13 : F' 13 = F 13) (e15 : F' 15 = F 15) (e17 : F' 17 = F 17) : PPr n F' G := by
  unfold PPr; rw [e11, e12, e13, e15, e17]; exact h
theorem q3 {E : EE} {L d : Nat} {M : MTy} {as : List Value} {F G G' : FF} {l0 l1 n m : Nat} {v x : Int32} (h : Ev3 E L d M as G (some (.int v)) G') (e : v = x) (hI : DI F G' l0 l1 n m) : Ev2 E L d M as G (fun r' G'' => r' = some (.int x) ∧ DI F G'' l0 l1 n m) :=
  Ev2.post h (fun _ _ q => ⟨by rw [q.1, e], by rw [q.2]; exact hI⟩)
section QQ
variable (E : EE) (L : Nat) {F G : FF} {l0 l1 n m : Nat}
theorem DI.kly (h : DI F G l0 l1 n m) (k : Nat) : DI F (ly G k) l0 l1 n m := ⟨h.1.ly k, h.2.up (fun a ha => ly_row (by omega))⟩
theorem DI.klo (h : DI F G l0 l1 n m) (k : Nat) : DI F (loF G k) l0 l1 n m := ⟨h.1.lo k, h.2.up (fun a ha => loF_row (by omega) (by omega) (by omega))⟩
theorem DI.kfd (h : DI F G l0 l1 n m) (l k : Nat) : DI F (fds G l k).2 l0 l1 n m := ⟨h.1.fds l k, h.2.up (fun a ha => fds_row (by omega) (by omega) (by omega) (by omega))⟩
theorem DI.kmj (h : DI F G l0 l1 n m) (k s : Nat) : DI F (mjF G k s) l0 l1 n m := ⟨h.1.mj k s, h.2.up (fun a ha => mjF_row (by omega) (by omega))⟩
theorem DI.klf (h : DI F G l0 l1 n m) (k a b s : Nat) : DI F (lfF G k a b s) l0 l1 n m := ⟨h.1.lf k a b s, h.2.up (fun x hx => lfF_row (by omega) (by omega) (by omega))⟩
theorem DI.row (h : DI F G l0 l1 n m) {a : Nat} (ha : a < 48) (hi : imp a) : G a = F a := h.2 a ha hi
theorem DI.fi (h : DI F G l0 l1 n m) : FI F l1 n := by
  obtain ⟨-, -, -, -, hfi, -⟩ := h.1
  exact hfi.of (h.row (a := 9) (by omega) (by unfold imp; omega)).symm (h.row (a := 18) (by omega) (by unfold imp; omega)).symm (h.row (a := 19) (by omega) (by unfold imp; omega)).symm (h.row (a := 20) (by omega) (by unfold imp; omega)).symm (h.row (a := 21) (by omega) (by unfold imp; omega)).symm
theorem DI.tat1 (h : DI F G l0 l1 n m) : ∀ j, tat l1 (B1 G) j = tat l1 (F 9) j := fun j => by
  rw [h.1.tat1 j, h.row (a := 9) (by omega) (by unfold imp; omega)]
def cnV (F : FF) (w : Nat) : Int32 := match w with
  | 0 => F 10 5
  | 1 => F 6 1
  | 2 => F 8 1
  | 3 => F 18 3
  | 4 => F 33 1
  | 5 => F 17 0
  | 6 => F 17 1
  | _ => F 17 2
theorem q_count (h : DI F G l0 l1 n m) (w : Nat) (hw : w < 8) : Ev2 E L 8 mX11_count [.ref 48, .int (nI w)] G (fun r' G' => r' = some (.int (cnV F w)) ∧ DI F G' l0 l1 n m) := by
  obtain ⟨hc, ht, ⟨hm, hf⟩, hp, hfi, hst, hps, hfd, hsh⟩ := h.1
  have k : ∀ a, a < 48 ∧ imp a → G a = F a := fun a z => h.2 a z.1 z.2
  rcases (by omega : w = 0 ∨ w = 1 ∨ w = 2 ∨ w = 3 ∨ w = 4 ∨ w = 5 ∨ w = 6 ∨ w = 7) with z | z | z | z | z | z | z | z <;> subst z
  · exact q3 (y_count0 E L G l0 n hm) (by rw [← hp.1.2.1, k 10 (by unfold imp; omega)]; rfl) h
  · exact q3 (y_count1 E L G) (by rw [hm.1, ← ht.1.1, k 6 (by unfold imp; omega)]; rfl) h
  · exact q3 (y_count2 E L G) (by rw [ht.2.2.1, ← ht.2.1, k 8 (by unfold imp; omega)]; rfl) h
  · obtain ⟨s, f1, f2, f3, f4, f5⟩ := fair_s (G := G) ht.2.2.2.1 hp.1.1 h.fi h.tat1
    exact q3 (y_count3 E L G l0 n hm l1 ht.2.2.2.1 ht.2.2.1) (by rw [f3]; rfl) (h.kfd l1 n)
  · exact q3 (y_count4 E L G) (by rw [hps.2.2.1, ← hps.2.1, k 33 (by unfold imp; omega)]; rfl) h
  · exact q3 (y_count5 E L G) (by rw [hst 0 (by omega), k 17 (by unfold imp; omega)]; rfl) h
  · exact q3 (y_count6 E L G) (by rw [hst 1 (by omega), k 17 (by unfold imp; omega)]; rfl) h
  · exact q3 (y_count7 E L G) (by rw [hst 2 (by omega), k 17 (by unfold imp; omega)]; rfl) h
theorem q_fault0 (h : DI F G l0 l1 n m) : Ev2 E L 6 mX11_faultOf [.ref 48, .int 0] G (fun r' G' => r' = some (.int (F 10 6)) ∧ DI F G' l0 l1 n m) := by
  obtain ⟨hc, ht, ⟨hm, hf⟩, -⟩ := h.1
  exact q3 (me_faultOf0 E L G l0 n hm) (by rw [← hf, h.row (a := 10) (by omega) (by unfold imp; omega)]) h
theorem q_fault1 (h : DI F G l0 l1 n m) : Ev2 E L 6 mX11_faultOf [.ref 48, .int 1] G (fun r' G' => r' = some (.int (F 18 4)) ∧ DI F G' l0 l1 n m) := by
  obtain ⟨hc, ht, ⟨hm, hf⟩, hp, -⟩ := h.1
  exact q3 (me_faultOf1 E L G l0 n hm l1 ht.2.2.2.1 ht.2.2.1) (h.fi G h.tat1).1.symm (h.kfd l1 n)
def peV (F : FF) (a w : Nat) : Int32 := match w with
  | 0 => F 11 a
  | 1 => F 12 a
  | 2 => F 13 a
  | 3 => rem32 (F 15 a)
  | _ => F 15 a / 32
theorem q_person (h : DI F G l0 l1 n m) (a : Nat) (ha : a < n) (w : Nat) (hw : w < 5) : Ev2 E L 1 mX11_personOf [.ref 48, .int (nI a), .int (nI w)] G (fun r' G' => r' = some (.int (peV F a w)) ∧ DI F G' l0 l1 n m) := by
  have hn := h.1.2.2.2.1.1.1
  obtain ⟨⟨q1, q2, q3', q4, q5⟩, -⟩ := h.1.at ha
  have k : ∀ a, a < 48 ∧ imp a → G a = F a := fun a z => h.2 a z.1 z.2
  rcases (by omega : w = 0 ∨ w = 1 ∨ w = 2 ∨ w = 3 ∨ w = 4) with z | z | z | z | z <;> subst z
  · exact q3 (me_personOf0 E L G a (by omega)) (by rw [q1, k 11 (by unfold imp; omega)]; rfl) h
  · exact q3 (me_personOf1 E L G a (by omega)) (by rw [q2, k 12 (by unfold imp; omega)]; rfl) h
  · exact q3 (me_personOf2 E L G a (by omega)) (by rw [q3', k 13 (by unfold imp; omega)]; rfl) h
  · exact q3 (me_personOf3 E L G a (by omega)) (by rw [q5, k 15 (by unfold imp; omega)]; rfl) h
  · exact q3 (me_personOf4 E L G a (by omega)) (by rw [q5, k 15 (by unfold imp; omega)]; rfl) h
theorem q_once (h : DI F G l0 l1 n m) (a : Nat) (ha : a < n) : Ev2 E L 7 mX11_onceOf [.ref 48, .int (nI a)] G (fun r' G' => r' = some (.int (solF F n 28 a)) ∧ DI F G' l0 l1 n m) := by
  have hn := h.1.2.2.2.1.1.1
  exact q3 (me_onceOf E L G l0 n h.1.2.2.1.1 a (by omega)) ((once_eq hn h.ppr).2.2 a ha).symm (h.klo n)
theorem q_onceN (h : DI F G l0 l1 n m) : Ev2 E L 7 mX11_onceOf [.ref 48, .int (-1)] G (fun r' G' => r' = some (.int (solF F n 25 4)) ∧ DI F G' l0 l1 n m) :=
  q3 (me_onceAll E L G l0 n h.1.2.2.1.1) (once_eq h.1.2.2.2.1.1.1 h.ppr).1.symm (h.klo n)
theorem q_worth (h : DI F G l0 l1 n m) : Ev2 E L 7 mX11_worthNow [.ref 48] G (fun r' G' => r' = some (.int (solF F n 25 5)) ∧ DI F G' l0 l1 n m) :=
  q3 (me_worthNow E L G l0 n h.1.2.2.1.1) (once_eq h.1.2.2.2.1.1.1 h.ppr).2.1.symm (h.klo n)
theorem q_hinders0 (h : DI F G l0 l1 n m) (a : Nat) (ha : a < n) : Ev2 E L 6 mX11_hindersOf [.ref 48, .int (nI a), .int 0] G (fun r' G' => r' = some (.int (cHN F n a 0)) ∧ DI F G' l0 l1 n m) :=
  q3 (me_hindersOf E L G l0 n h.1.2.2.1.1 a ha 0) (by rw [if_pos rfl, a_hind0 h.ppr]) (h.kly n)
theorem q_hinders1 (h : DI F G l0 l1 n m) (a : Nat) (ha : a < n) : Ev2 E L 6 mX11_hindersOf [.ref 48, .int (nI a), .int 1] G (fun r' G' => r' = some (.int (cHN F n a 1)) ∧ DI F G' l0 l1 n m) :=
  q3 (me_hindersOf E L G l0 n h.1.2.2.1.1 a ha 1) (by rw [if_neg (by decide), a_hind1 h.ppr]) (h.kly n)
theorem q_pairs (h : DI F G l0 l1 n m) : Ev2 E L 6 mX11_pairsNow [.ref 48] G (fun r' G' => r' = some (.int (cBP F n (F 17 0))) ∧ DI F G' l0 l1 n m) :=
  q3 (me_pairsNow E L G l0 n h.1.2.2.1.1) (by rw [a_pairs h.ppr, h.ppr.2.2 0 (by omega)]) (h.kly n)
/-- the trial, of one fair -/
theorem q_fair (h : DI F G l0 l1 n m) {s : Nat} (hF : FairOK F n s) : MFair (fds G l1 n).2 n s ∧ FRow F (fds G l1 n).2 s := by
  obtain ⟨hc, ht, ⟨hm, hf⟩, hp, -⟩ := h.1
  obtain ⟨s', f1, f2, f3, f4, f5⟩ := fair_s (G := G) ht.2.2.2.1 hp.1.1 h.fi h.tat1
  have a1 := f1.2.1
  have a2 := hF.2.1
  have es : s' = s := (nI_eq (by omega) (by omega)).mp (f1.1.symm.trans hF.1)
  subst es; exact ⟨f2, f5⟩
def jdV (J : FF) (w : Nat) : Int32 := match w with
  | 0 => J 22 3
  | 1 => J 22 4
  | _ => J 22 5
theorem q_ends (h : DI F G l0 l1 n m) {s : Nat} (hF : FairOK F n s) (a : Nat) (ha : a < n) : Ev2 E L 7 mX11_endsOf [.ref 48, .int (nI a)] G (fun r' G' => r' = some (.int (jgF (solF F n) n s 23 a)) ∧ DI F G' l0 l1 n m) := by
  obtain ⟨hc, ht, ⟨hm, hf⟩, hp, -⟩ := h.1
  have hn := hp.1.1
  obtain ⟨g1, g2⟩ := q_fair h hF
  have r : ∀ x, x ≠ 25 → x ≠ 26 → x ≠ 27 → x ≠ 28 → solF F n x = F x := fun x h1 h2 h3 h4 => solF_row h1 h2 h3 h4
  have hj := a_jud (F := solF F n) (G := G) (l1 := l1) (s := s) hn (h.ppr.ofF (r 11 (by decide) (by decide) (by decide) (by decide)) (r 12 (by decide) (by decide) (by decide) (by decide)) (r 13 (by decide) (by decide) (by decide) (by decide)) (r 15 (by decide) (by decide) (by decide) (by decide)) (r 17 (by decide) (by decide) (by decide) (by decide))) (hF.of (r 18 (by decide) (by decide) (by decide) (by decide)) (r 19 (by decide) (by decide) (by decide) (by decide)) (r 20 (by decide) (by decide) (by decide) (by decide)) (r 21 (by decide) (by decide) (by decide) (by decide))) (by unfold FRow; rw [r 19 (by decide) (by decide) (by decide) (by decide), r 20 (by decide) (by decide) (by decide) (by decide), r 21 (by decide) (by decide) (by decide) (by decide)]; exact g2)
  exact q3 (me_endsOf E L G l0 n hm l1 ht.2.2.2.1 ht.2.2.1 s g1 a (by omega)) (hj.2 a ha) ((h.kfd l1 n).kmj n s)
theorem q_judged (h : DI F G l0 l1 n m) {s : Nat} (hF : FairOK F n s) (w : Nat) (hw : w < 3) : Ev2 E L 7 mX11_judgedOf [.ref 48, .int (nI w)] G (fun r' G' => r' = some (.int (jdV (jgF (solF F n) n s) w)) ∧ DI F G' l0 l1 n m) := by
  obtain ⟨hc, ht, ⟨hm, hf⟩, hp, -⟩ := h.1
  have hn := hp.1.1
  obtain ⟨g1, g2⟩ := q_fair h hF
  have r : ∀ x, x ≠ 25 → x ≠ 26 → x ≠ 27 → x ≠ 28 → solF F n x = F x := fun x h1 h2 h3 h4 => solF_row h1 h2 h3 h4
  obtain ⟨⟨j1, j2, j3⟩, -⟩ := a_jud (F := solF F n) (G := G) (l1 := l1) (s := s) hn (h.ppr.ofF (r 11 (by decide) (by decide) (by decide) (by decide)) (r 12 (by decide) (by decide) (by decide) (by decide)) (r 13 (by decide) (by decide) (by decide) (by decide)) (r 15 (by decide) (by decide) (by decide) (by decide)) (r 17 (by decide) (by decide) (by decide) (by decide))) (hF.of (r 18 (by decide) (by decide) (by decide) (by decide)) (r 19 (by decide) (by decide) (by decide) (by decide)) (r 20 (by decide) (by decide) (by decide) (by decide)) (r 21 (by decide) (by decide) (by decide) (by decide))) (by unfold FRow; rw [r 19 (by decide) (by decide) (by decide) (by decide), r 20 (by decide) (by decide) (by decide) (by decide), r 21 (by decide) (by decide) (by decide) (by decide)]; exact g2)
  have y := fun x => me_judgedOf E L G l0 n hm l1 ht.2.2.2.1 ht.2.2.1 s g1 x
  rcases (by omega : w = 0 ∨ w = 1 ∨ w = 2) with z | z | z <;> subst z
  · exact q3 (y 0) (by rw [if_pos rfl, j1]; rfl) ((h.kfd l1 n).kmj n s)
  · exact q3 (y 1) (by rw [if_neg (by decide), if_pos rfl, j2]; rfl) ((h.kfd l1 n).kmj n s)
  · exact q3 (y 2) (by rw [if_neg (by decide), if_neg (by decide), j3]; rfl) ((h.kfd l1 n).kmj n s)
theorem DI.ps (h : DI F G l0 l1 n m) : m ≤ 8 ∧ G 48 21 = nI m ∧ (∀ j, j < m → G 65 j = F 34 j) ∧ G 51 0 = F 17 0 := by
  obtain ⟨hc, ht, ⟨hm, hf⟩, hp, hfi, hst, hps, hfd, hsh⟩ := h.1
  exact ⟨hps.1, hps.2.2.1, fun j hj => by rw [hps.2.2.2 j hj, h.row (a := 34) (by omega) (by unfold imp; omega)], h.ppr.2.2 0 (by omega)⟩
theorem q_sees (h : DI F G l0 l1 n m) : Ev2 E L 3 mX11_seesNow [.ref 48] G (fun r' G' => r' = some (.int (sumO (gPA (F 34) (F 17 0 * F 17 0)) m m 0 0)) ∧ DI F G' l0 l1 n m) :=
  q3 (me_seesNow E L G m h.ps.2.1 h.ps.1) (a_sees h.ps.2.2.1 h.ps.2.2.2) h
def bsV (F : FF) (m : Nat) : Nat := bdL (fun w => seenS (F 34) m (nI w) (F 17 0 * F 17 0)) 1024 0 0 0
theorem q_more0 (h : DI F G l0 l1 n m) : Ev2 E L 3 mX11_moreOf [.ref 48, .int 0] G (fun r' G' => r' = some (.int (nI (bsV F m))) ∧ DI F G' l0 l1 n m) :=
  q3 (me_moreOf E L G m h.ps.2.1 h.ps.1 0) (by rw [if_pos rfl, a_more h.ps.1 h.ps.2.2.1 h.ps.2.2.2]; rfl) h
theorem q_more1 (h : DI F G l0 l1 n m) : Ev2 E L 3 mX11_moreOf [.ref 48, .int 1] G (fun r' G' => r' = some (.int (seenS (F 34) m (nI (bsV F m)) (F 17 0 * F 17 0))) ∧ DI F G' l0 l1 n m) :=
  q3 (me_moreOf E L G m h.ps.2.1 h.ps.1 1) (by rw [if_neg (by decide), a_more h.ps.1 h.ps.2.2.1 h.ps.2.2.2]; rfl) h
def brV (J : FF) (n : Nat) : Int32 × Int32 := brL (fun w => cPf J n (alL n n 0 J 36) (nI w)) 1024 0 (-1) 0
theorem q_broker (h : DI F G l0 l1 n m) {J : FF} (hJ : PPr n J G) (wh : Int32) : Ev2 E L 6 mX11_brokerOf [.ref 48, .int wh] G (fun r' G' => r' = some (.int (if wh = 0 then (brV J n).1 else (brV J n).2)) ∧ DI F G' l0 l1 n m) := by
  have hth : ThM G n := fun p hp => by
    obtain ⟨t, t1, t2⟩ := (h.1.2.2.2.1.2 p hp).2.1
    exact ⟨t, t1, (h.1.at hp).1.2.1.trans t2⟩
  refine Ev2.post (me_brokerOf E L G l0 n h.1.2.2.1.1 hth wh) (fun r' G' q => ⟨?_, ?_, ?_⟩)
  · rw [q.1, a_broker hJ]; rfl
  · exact h.1.row (fun a ha => by rw [q.2 a (by unfold imp at ha; omega) (by unfold imp at ha; omega), coL_row (by unfold imp at ha; omega), ly_row (by unfold imp at ha; omega)])
  · exact h.2.up (fun a ha => by rw [q.2 a (by omega) (by omega), coL_row (by omega), ly_row (by omega)])
theorem q_other (h : DI F G l0 l1 n m) (wh : Int32) : Ev2 E L 6 mX11_otherOf [.ref 48, .int 10, .int 30, .int wh] G (fun r' G' => r' = some (.int (if wh = 0 then nI (cBD F n 10 30) else cBP F n (nI (cBD F n 10 30)))) ∧ DI F G' l0 l1 n m) :=
  q3 (me_otherOf E L G l0 n h.1.2.2.1.1 10 30 (by omega) (by omega) wh) (by rw [a_other h.1.2.2.2.1.1.1 h.ppr (by omega)]) (h.kly n)
end QQ
