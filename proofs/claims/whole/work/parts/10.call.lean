section CALL
variable {E : EE} {M : MTy} {d MC MS cs sl pc : Nat} {ls : List (Option Value)} {st : List Value} {sh : List Shp} {G : GG} {Q : QQ}
theorem cat_map (E : EE) (l : List Value) : ((l.map (rv E)).map fun v => v.category) = (l.map fun v => v.category) := by rw [List.map_map]; exact List.map_congr_left (fun v _ => rv_cat E v)
theorem PcE.blind (E : EE) (vs : List Value) (sh : List Shp) (G : GG) : FrameBlind (PcE E vs sh G) := by
  intro a U g mk h
  exact ⟨h.1, Env2.same (s := U) (U := U.calling g mk a) rfl h.2.1, h.2.2.moved (u := U) (U := U.calling g mk a) (Vm.Alike.refl U.vm)⟩
theorem PcE.of {E : EE} {vs : List Value} {sh : List Shp} {G : GG} {s U : State} {H : Heap} (hE : Env2 E s) (hH : HR E sh G s H) (hU : U.heap = H) (hW : s.WarmedH U.vm) : PcE E vs sh G (vs.map (rv E)).toArray U :=
  ⟨rfl, hE.warm hW, by rw [hU]; exact hH.moved hW.alike⟩
theorem good_WM (M M2 : MTy) (h : Cond.code M2.2.1 M2.2.2.1 M2.2.2.2.1 M2.2.2.2.2 ∈ lw_good) : GoodIn (WM M) (WM M2) := by
  intro w hw
  rcases List.mem_cons.mp hw with rfl | hw
  · exact ⟨List.mem_cons_of_mem _ h, good_of_word (lw_good_in h).2⟩
  · exact ⟨List.mem_cons_of_mem _ hw, good_of_word (lw_good_in hw).2⟩
/-- behind a call -/
theorem Rn.behind {Q2 : QQ} {mc ms : Nat} {rest : List Value} {a : Array Value} {free : Addr → Prop} {st0 : List Value} {p : Program} {e : Env} {R : Room} {s : State} {m : MethodId} {args : Array Value} {below : List Frame} {meth : Method} {c : Code} {Qw : State → Prop} {H : Heap} {locs : List Loc} {la : Array Slot}
    (C : CT E M d MC MS Q p e R s m args below meth c Qw) (hS : va_S (fr E) s.heap H locs) (hL : lvr E M.2.2.2.1 ls la) (hH0 : HR E sh G s H)
    (hr : va_Run p E.1 e R s m args below meth c H locs cs sl mc ms (F0 m pc la st0) (rest.map (rv E)) (QcE E Q2 a) (fr E))
    (kk : ∀ r sh' G', Q2 r sh' G' → Rn E M d MC MS (cs + mc) (sl + ms) (pc + 3) ls (r.toList ++ rest) sh' G' Q) : W p E.1 e R s m args below meth c H locs cs sl Qw (F0 m pc la st0) := by
  intro T hT X
  obtain ⟨v, st₀, t, T', L, h0, X', hL2, e1, e2, ⟨⟨r, sh', G', hv, hq, hb⟩, hz, hk⟩, stp⟩ := hr T hT X
  cases hv
  rw [h0] at hz hk
  have hal : s.vm.Alike t.vm := by rw [← e2]; exact X'.warmed.alike
  have hH1 : HR E sh' G' s T'.heap := by rw [e1]; exact hb.moved hal.symm
  have hS1 : va_S (fr E) s.heap T'.heap (locs ++ L) := by
    refine ⟨Nat.le_trans hS.1 (by rw [e1]; exact hz), fun q h1 h2 => ?_, fun q hq' => ?_⟩
    · rw [e1, hk q (Nat.lt_of_lt_of_le h1 hS.1) h2]
      exact hS.2.1 q h1 h2
    · rcases List.mem_append.mp hq' with h | h
      · exact hS.2.2 q h
      · exact hL2 q h
  have kk' := kk r sh' G' hq p e R s m args below meth c Qw C T'.heap (locs ++ L) la hH1 hS1 hL
  obtain ⟨t2, a1, b1⟩ := kk' T' rfl X'
  refine ⟨t2, stp t2 ?_, b1⟩
  have e3 : (r.map (rv E)).toList ++ rest.map (rv E) = (r.toList ++ rest).map (rv E) := by cases r <;> rfl
  rw [e3]
  exact a1
theorem Rn.callS {M2 : MTy} {As rest : List Value} {idx d2 mc ms : Nat} {Q2 : QQ} (hdec : decode M.2.2.1 pc = .ok (.invokestatic idx, 3)) (hl : Lnk M.1 idx M2) (ok : OkS M2) (hml : M2.2.2.2.1 ≤ 21) (ev : Ev E d2 M2 As sh G mc ms Q2) (hd : d2 < d) (hn : As.length = npar M2) (hst : st = As.reverse ++ rest) (hrest : (rest.map fun v => v.category).sum ≤ 8) (hc : cs + mc ≤ MC) (hs : sl + ms ≤ MS)
    (kk : ∀ r sh' G', Q2 r sh' G' → Rn E M d MC MS (cs + mc) (sl + ms) (pc + 3) ls (r.toList ++ rest) sh' G' Q) : Rn E M d MC MS cs sl pc ls st sh G Q := by
  intro p e R s m args below meth c Qw C H locs la hH hS hL
  obtain ⟨f1, f2, f3, f4⟩ := C.2.2.2.2.1
  obtain ⟨o1, ⟨o2, o3, o4, o5, o6⟩, o7⟩ := ok
  have hR : (rmE d2 mc ms).frames + 1 ≤ R.frames ∧ 8 + (M2.2.2.2.1 + 11) + (rmE d2 mc ms).locals ≤ R.locals := ⟨by show d2 + 1 ≤ _; omega, by show 8 + (_ + 11) + 40 * d2 ≤ _; omega⟩
  have hp : PreS s H (PcE E As sh G) (As.map (rv E)) := ⟨PcE.blind E As sh G, fun U hU hW => PcE.of C.2.2.1 hH hU hW⟩
  have hst2 : st.map (rv E) = (As.map (rv E)).reverse ++ rest.map (rv E) := by rw [hst, List.map_append, List.map_reverse]
  refine Rn.behind (rest := rest) (a := (As.map (rv E)).toArray) (free := fr E) C hS hL hH ?_ kk
  have S : CallFix p m c M.2.2.1 M.2.2.2.1 s args (WM M) (Rcls M.1) := ⟨C.1.1, C.1.2.1, C.1.2.2.1, C.1.2.2.2, C.2.1⟩
  rcases hl with hl | ⟨host, hl⟩
  · exact va_runS S ev ⟨callB_of (npar M2) C.2.1 (good_WM M M2 o2) rfl rfl rfl (C.word o3) (C.word hl) ⟨o6.1, o6.2, o7⟩ hR, C.word o1⟩ hp rfl (by rw [List.length_map]; exact hn) hL.1 hst2 (lv_room (by rw [cat_map]; exact hrest)) hdec ⟨by omega, by omega⟩
  · exact va_runSN S ev ⟨va_cnB (host := host) (npar M2) C.2.1 (good_WM M M2 o2) rfl rfl rfl (C.2.2.1.2.1 _ hl) (C.word o3) ⟨o6.1, o6.2, o7⟩ hR, C.word o1, trivial⟩ hp rfl (by rw [List.length_map]; exact hn) hL.1 hst2 (lv_room (by rw [cat_map]; exact hrest)) hdec ⟨by omega, by omega⟩
theorem Rn.callV {M2 : MTy} {As rest : List Value} {idx d2 mc ms k : Nat} {Q2 : QQ} (hdec : decode M.2.2.1 pc = .ok (.invokevirtual idx, 3)) (hl : Lnk M.1 idx M2) (ok : OkI M2) (hml : M2.2.2.2.1 ≤ 21) (hk : isObj sh k M2.1 = true) (ev : Ev E d2 M2 (.ref k :: As) sh G mc ms Q2) (hd : d2 < d) (hn : As.length = npar M2) (hst : st = As.reverse ++ .ref k :: rest) (hrest : (rest.map fun v => v.category).sum ≤ 8) (hc : cs + mc ≤ MC) (hs : sl + ms ≤ MS)
    (kk : ∀ r sh' G', Q2 r sh' G' → Rn E M d MC MS (cs + mc) (sl + ms) (pc + 3) ls (r.toList ++ rest) sh' G' Q) : Rn E M d MC MS cs sl pc ls st sh G Q := by
  intro p e R s m args below meth c Qw C H locs la hH hS hL
  obtain ⟨f1, f2, f3, f4⟩ := C.2.2.2.2.1
  obtain ⟨o1, o0, ⟨o2, o3, o4, o5, o6⟩, o7⟩ := ok
  have hR : (rmE d2 mc ms).frames + 1 ≤ R.frames ∧ 8 + (M2.2.2.2.1 + 11) + (rmE d2 mc ms).locals ≤ R.locals := ⟨by show d2 + 1 ≤ _; omega, by show 8 + (_ + 11) + 40 * d2 ≤ _; omega⟩
  have hcell : ∃ cellB : Cell, H[ad E k]? = some cellB ∧ cellB.vm.isStatics = false ∧ s.vm.findClass M2.2.1.cls = some cellB.cls := by
    obtain ⟨h5, hk0, r0, h1, cell, q1, q2, q3, q4⟩ := hH.obj hk
    refine ⟨cell, q1, by rw [q3]; rfl, ?_⟩
    have hcl := (C.2.2.1.1.1 _ _ h1).2.1
    rw [q2, o4]
    have : Rcls M2.1 = r0.1 := by
      have hlt : M2.1 < 12 := (List.getElem?_eq_some_iff.mp h1).1
      match hm : M2.1, hlt with
      | 0, _ => rw [hm] at h1; cases h1; rfl
      | 1, _ => rw [hm] at h1; cases h1; rfl
      | 2, _ => rw [hm] at h1; cases h1; rfl
      | 3, _ => rw [hm] at h1; cases h1; rfl
      | 4, _ => rw [hm] at h1; cases h1; rfl
      | 5, _ => rw [hm] at h1; cases h1; rfl
      | 6, _ => rw [hm] at h1; cases h1; rfl
      | 7, _ => rw [hm] at h1; cases h1; rfl
      | 8, _ => rw [hm] at h1; cases h1; rfl
      | 9, _ => rw [hm] at h1; cases h1; rfl
      | 10, _ => rw [hm] at h1; cases h1; rfl
      | 11, _ => rw [hm] at h1; cases h1; rfl
    rw [this]
    exact hcl
  have hp : PreV s H M2.2.1.cls (ad E k) (PcE E (.ref k :: As) sh G) (As.map (rv E)) := ⟨PcE.blind E _ sh G, hcell, fun U hU hW => PcE.of C.2.2.1 hH hU hW⟩
  have hst2 : st.map (rv E) = (As.map (rv E)).reverse ++ .ref (ad E k) :: rest.map (rv E) := by rw [hst, List.map_append, List.map_reverse]; rfl
  refine Rn.behind (rest := rest) (a := (Value.ref (ad E k) :: As.map (rv E)).toArray) (free := fr E) C hS hL hH ?_ kk
  have S : CallFix p m c M.2.2.1 M.2.2.2.1 s args (WM M) (Rcls M.1) := ⟨C.1.1, C.1.2.1, C.1.2.2.1, C.1.2.2.2, C.2.1⟩
  rcases hl with hl | ⟨host, hl⟩
  · exact va_runV S ev ⟨callB_of (npar M2) C.2.1 (good_WM M M2 o2) rfl rfl rfl (C.word o3) (C.word hl) ⟨o6.1, o6.2, o7⟩ hR, C.word o1, C.word o0⟩ hp rfl (by rw [List.length_map]; exact hn) hL.1 hst2 (lv_room (by rw [cat_map]; exact hrest)) hdec ⟨by omega, by omega⟩
  · exact va_runVN S ev ⟨va_cnB (host := host) (npar M2) C.2.1 (good_WM M M2 o2) rfl rfl rfl (C.2.2.1.2.1 _ hl) (C.word o3) ⟨o6.1, o6.2, o7⟩ hR, C.word o1, C.word o0⟩ hp rfl (by rw [List.length_map]; exact hn) hL.1 hst2 (lv_room (by rw [cat_map]; exact hrest)) hdec ⟨by omega, by omega⟩
theorem Rn.callI {M2 : MTy} {As rest : List Value} {idx d2 mc ms k : Nat} {Q2 : QQ} (hdec : decode M.2.2.1 pc = .ok (.invokespecial idx, 3)) (hl : Lnk M.1 idx M2) (ok : OkC M2) (hret : M2.2.2.2.2 = none) (hml : M2.2.2.2.1 ≤ 21) (ev : Ev E d2 M2 (.ref k :: As) sh G mc ms Q2) (hd : d2 < d) (hn : As.length = npar M2) (hst : st = As.reverse ++ .ref k :: rest) (hrest : (rest.map fun v => v.category).sum ≤ 8) (hc : cs + mc ≤ MC) (hs : sl + ms ≤ MS)
    (kk : ∀ r sh' G', Q2 r sh' G' → Rn E M d MC MS (cs + mc) (sl + ms) (pc + 3) ls (r.toList ++ rest) sh' G' Q) : Rn E M d MC MS cs sl pc ls st sh G Q := by
  intro p e R s m args below meth c Qw C H locs la hH hS hL
  obtain ⟨f1, f2, f3, f4⟩ := C.2.2.2.2.1
  obtain ⟨c2, y2, b2, l2, rt⟩ := M2
  cases hret
  obtain ⟨o1, o0, ⟨o2, o3, o4, o5, o6⟩, o7⟩ := ok
  have hR : (rmE d2 mc ms).frames + 1 ≤ R.frames ∧ 8 + (l2 + 11) + (rmE d2 mc ms).locals ≤ R.locals := ⟨by show d2 + 1 ≤ _; omega, by show 8 + (_ + 11) + 40 * d2 ≤ _; simp only at hml; omega⟩
  have hp : PreS s H (PcE E (.ref k :: As) sh G) (.ref (ad E k) :: As.map (rv E)) := ⟨PcE.blind E _ sh G, fun U hU hW => PcE.of C.2.2.1 hH hU hW⟩
  have hst2 : st.map (rv E) = (As.map (rv E)).reverse ++ .ref (ad E k) :: rest.map (rv E) := by rw [hst, List.map_append, List.map_reverse]; rfl
  refine Rn.behind (rest := rest) (a := (Value.ref (ad E k) :: As.map (rv E)).toArray) (free := fr E) C hS hL hH ?_ kk
  have S : CallFix p m c M.2.2.1 M.2.2.2.1 s args (WM M) (Rcls M.1) := ⟨C.1.1, C.1.2.1, C.1.2.2.1, C.1.2.2.2, C.2.1⟩
  rcases hl with hl | ⟨host, hl⟩
  · exact va_runI S ev ⟨callB_of (npar (c2, y2, b2, l2, none)) C.2.1 (good_WM M (c2, y2, b2, l2, none) o2) rfl rfl rfl (C.word o3) (C.word hl) ⟨o6.1, o6.2, o7⟩ hR, o0, C.word o1⟩ hp rfl (by rw [List.length_map]; exact hn) hL.1 hst2 (lv_room (by rw [cat_map]; exact hrest)) hdec ⟨by omega, by omega⟩
  · exact va_runIN S ev ⟨va_cnB (host := host) (npar (c2, y2, b2, l2, none)) C.2.1 (good_WM M (c2, y2, b2, l2, none) o2) rfl rfl rfl (C.2.2.1.2.1 _ hl) (C.word o3) ⟨o6.1, o6.2, o7⟩ hR, o0, C.word o1⟩ hp rfl (by rw [List.length_map]; exact hn) hL.1 hst2 (lv_room (by rw [cat_map]; exact hrest)) hdec ⟨by omega, by omega⟩
theorem Rn.objI {k idx : Nat} (hdec : decode M.2.2.1 pc = .ok (.invokespecial idx, 3)) (hl : Cond.methodLink (Rcls M.1) idx objectInit ∈ lw_good) (hd : 1 ≤ d) (hrest : (st.map fun v => v.category).sum ≤ 8) (kk : Rn E M d MC MS cs sl (pc + 3) ls st sh G Q) : Rn E M d MC MS cs sl pc ls (.ref k :: st) sh G Q := by
  intro p e R s m args below meth c Qw C H locs la hH hS hL
  obtain ⟨f1, f2, f3, f4⟩ := C.2.2.2.2.1
  refine W.objInit C.1.1 C.1.2.1 C.1.2.2.2 (C.word hl) (C.word oi_inst) (C.word oi_code) rfl (by rw [C.1.2.2.1]; exact hL.1) rfl hdec (by omega) ?_ (kk p e R s m args below meth c Qw C H locs la hH hS hL)
  rw [cat_map]
  show 2 * 0 + _ + 12 ≤ _
  omega
end CALL
