section GO
variable {E : EE} {M : MTy} {d MC MS cs sl pc : Nat} {ls : List (Option Value)} {st : List Value} {sh : List Shp} {G : GG} {Q : QQ}
set_option maxHeartbeats 4000000 in
theorem Rn.one {i : SI} {s' : SS} (hd : decIs M.2.2.1 pc i.1 i.2.1 = true) (ha : auxOk M.1 M.2.2.2.1 pc i = true) (hs : sstep sh i (pc, ls, st, G) = some s') :
    (Rn E M d MC MS cs sl s'.1 s'.2.1 s'.2.2.1 sh s'.2.2.2 Q → Rn E M d MC MS cs sl pc ls st sh G Q) ∧ s'.1 = (match i.1 with | .goto _ => i.2.2.1 | _ => pc + i.2.1) := by
  obtain ⟨ins, n, a, b, v⟩ := i
  have hdec : decode M.2.2.1 pc = .ok (ins, n) := of_decide_eq_true hd
  cases ins with
  | iconst z =>
    simp only [auxOk, Bool.and_eq_true, beq_iff_eq] at ha
    obtain ⟨rfl, rfl⟩ := ha
    simp only [sstep, Option.some.injEq] at hs
    subst hs
    refine ⟨fun kk => ?_, rfl⟩
    intro p e R s m args below meth c Qw C H locs la hH hS hL
    exact lv_iconst C.1.1 C.1.2.1 hdec rfl (kk p e R s m args below meth c Qw C H locs la hH hS hL)
  | bipush z =>
    simp only [auxOk, Bool.and_eq_true, beq_iff_eq] at ha
    obtain ⟨rfl, rfl⟩ := ha
    simp only [sstep, Option.some.injEq] at hs
    subst hs
    refine ⟨fun kk => ?_, rfl⟩
    intro p e R s m args below meth c Qw C H locs la hH hS hL
    exact lv_bipush C.1.1 C.1.2.1 hdec rfl (kk p e R s m args below meth c Qw C H locs la hH hS hL)
  | sipush z =>
    simp only [auxOk, Bool.and_eq_true, beq_iff_eq] at ha
    obtain ⟨rfl, rfl⟩ := ha
    simp only [sstep, Option.some.injEq] at hs
    subst hs
    refine ⟨fun kk => ?_, rfl⟩
    intro p e R s m args below meth c Qw C H locs la hH hS hL
    exact lv_sipush C.1.1 C.1.2.1 hdec rfl (kk p e R s m args below meth c Qw C H locs la hH hS hL)
  | ldc z =>
    simp only [auxOk, Bool.and_eq_true, beq_iff_eq] at ha
    obtain ⟨⟨h1, rfl⟩, h2⟩ := ha
    simp only [sstep, Option.some.injEq] at hs
    subst hs
    refine ⟨fun kk => ?_, rfl⟩
    rcases CI_ok _ (mem_of_contains h1) with ⟨x, e1, hw⟩ | ⟨x, e1, hw⟩
    · simp only at e1
      subst e1
      first
        | (exfalso; simp at h2; done)
        | (intro p e R s m args below meth c Qw C H locs la hH hS hL; exact lv_ldc C.1.1 C.1.2.1 C.1.2.2.2 (C.word hw) hdec (kk p e R s m args below meth c Qw C H locs la hH hS hL))
    · simp only at e1
      subst e1
      first
        | (exfalso; simp at h2; done)
        | (intro p e R s m args below meth c Qw C H locs la hH hS hL; exact lv_ldc C.1.1 C.1.2.1 C.1.2.2.2 (C.word hw) hdec (kk p e R s m args below meth c Qw C H locs la hH hS hL))
  | ldc_w z =>
    simp only [auxOk, Bool.and_eq_true, beq_iff_eq] at ha
    obtain ⟨⟨h1, rfl⟩, h2⟩ := ha
    simp only [sstep, Option.some.injEq] at hs
    subst hs
    refine ⟨fun kk => ?_, rfl⟩
    rcases CI_ok _ (mem_of_contains h1) with ⟨x, e1, hw⟩ | ⟨x, e1, hw⟩
    · simp only at e1
      subst e1
      first
        | (exfalso; simp at h2; done)
        | (intro p e R s m args below meth c Qw C H locs la hH hS hL; exact lv_ldcw C.1.1 C.1.2.1 C.1.2.2.2 (C.word hw) hdec (kk p e R s m args below meth c Qw C H locs la hH hS hL))
    · simp only at e1
      subst e1
      first
        | (exfalso; simp at h2; done)
        | (intro p e R s m args below meth c Qw C H locs la hH hS hL; exact lv_ldcw C.1.1 C.1.2.1 C.1.2.2.2 (C.word hw) hdec (kk p e R s m args below meth c Qw C H locs la hH hS hL))
  | ldc2_w z =>
    simp only [auxOk, Bool.and_eq_true, beq_iff_eq] at ha
    obtain ⟨⟨h1, rfl⟩, h2⟩ := ha
    simp only [sstep, Option.some.injEq] at hs
    subst hs
    refine ⟨fun kk => ?_, rfl⟩
    rcases CI_ok _ (mem_of_contains h1) with ⟨x, e1, hw⟩ | ⟨x, e1, hw⟩
    · simp only at e1
      subst e1
      first
        | (exfalso; simp at h2; done)
        | (intro p e R s m args below meth c Qw C H locs la hH hS hL; exact lv_ldc2 C.1.1 C.1.2.1 C.1.2.2.2 (C.word hw) hdec (kk p e R s m args below meth c Qw C H locs la hH hS hL))
    · simp only at e1
      subst e1
      first
        | (exfalso; simp at h2; done)
        | (intro p e R s m args below meth c Qw C H locs la hH hS hL; exact lv_ldc2 C.1.1 C.1.2.1 C.1.2.2.2 (C.word hw) hdec (kk p e R s m args below meth c Qw C H locs la hH hS hL))
  | getstatic z =>
    simp only [auxOk, Bool.and_eq_true, beq_iff_eq] at ha
    obtain ⟨h1, rfl⟩ := ha
    simp only [sstep, Option.some.injEq] at hs
    subst hs
    exact ⟨fun kk => Rn.gets hdec (mem_of_contains h1) kk, rfl⟩
  | iload z =>
    simp only [auxOk, Bool.and_eq_true, beq_iff_eq] at ha
    obtain ⟨rfl, rfl⟩ := ha
    simp only [sstep] at hs
    split at hs
    · rename_i x hx
      cases hs
      refine ⟨fun kk => ?_, rfl⟩
      intro p e R s m args below meth c Qw C H locs la hH hS hL
      exact lv_iload C.1.1 C.1.2.1 hdec (hL.at hx) (kk p e R s m args below meth c Qw C H locs la hH hS hL)
    · cases hs
  | iload_n z =>
    simp only [auxOk, Bool.and_eq_true, beq_iff_eq] at ha
    obtain ⟨rfl, rfl⟩ := ha
    simp only [sstep] at hs
    split at hs
    · rename_i x hx
      cases hs
      refine ⟨fun kk => ?_, rfl⟩
      intro p e R s m args below meth c Qw C H locs la hH hS hL
      exact lv_iload_n C.1.1 C.1.2.1 hdec rfl (hL.at hx) (kk p e R s m args below meth c Qw C H locs la hH hS hL)
    · cases hs
  | aload z =>
    simp only [auxOk, Bool.and_eq_true, beq_iff_eq] at ha
    obtain ⟨rfl, rfl⟩ := ha
    simp only [sstep] at hs
    split at hs
    · rename_i x hx
      cases hs
      refine ⟨fun kk => ?_, rfl⟩
      intro p e R s m args below meth c Qw C H locs la hH hS hL
      exact lv_aload C.1.1 C.1.2.1 hdec (hL.at hx) (kk p e R s m args below meth c Qw C H locs la hH hS hL)
    · cases hs
  | aload_n z =>
    simp only [auxOk, Bool.and_eq_true, beq_iff_eq] at ha
    obtain ⟨rfl, rfl⟩ := ha
    simp only [sstep] at hs
    split at hs
    · rename_i x hx
      cases hs
      refine ⟨fun kk => ?_, rfl⟩
      intro p e R s m args below meth c Qw C H locs la hH hS hL
      exact lv_aload_n C.1.1 C.1.2.1 hdec rfl (hL.at hx) (kk p e R s m args below meth c Qw C H locs la hH hS hL)
    · cases hs
  | lload z =>
    simp only [auxOk, Bool.and_eq_true, beq_iff_eq] at ha
    obtain ⟨rfl, rfl⟩ := ha
    simp only [sstep] at hs
    split at hs
    · rename_i x hx
      cases hs
      refine ⟨fun kk => ?_, rfl⟩
      intro p e R s m args below meth c Qw C H locs la hH hS hL
      exact lv_lload C.1.1 C.1.2.1 hdec (hL.at hx) (kk p e R s m args below meth c Qw C H locs la hH hS hL)
    · cases hs
  | lload_n z =>
    simp only [auxOk, Bool.and_eq_true, beq_iff_eq] at ha
    obtain ⟨rfl, rfl⟩ := ha
    simp only [sstep] at hs
    split at hs
    · rename_i x hx
      cases hs
      refine ⟨fun kk => ?_, rfl⟩
      intro p e R s m args below meth c Qw C H locs la hH hS hL
      exact lv_lload_n C.1.1 C.1.2.1 hdec rfl (hL.at hx) (kk p e R s m args below meth c Qw C H locs la hH hS hL)
    · cases hs
  | istore z =>
    simp only [auxOk, Bool.and_eq_true, beq_iff_eq, decide_eq_true_eq] at ha
    obtain ⟨⟨rfl, rfl⟩, hn⟩ := ha
    simp only [sstep] at hs
    split at hs
    · rename_i x r
      cases hs
      refine ⟨fun kk => ?_, rfl⟩
      intro p e R s m args below meth c Qw C H locs la hH hS hL
      exact lv_istore C.1.1 C.1.2.1 hdec hL hn rfl (fun la' hl' => kk p e R s m args below meth c Qw C H locs la' hH hS (lvr.sub hl' set1_sub))
    · cases hs
  | istore_n z =>
    simp only [auxOk, Bool.and_eq_true, beq_iff_eq, decide_eq_true_eq] at ha
    obtain ⟨⟨rfl, rfl⟩, hn⟩ := ha
    simp only [sstep] at hs
    split at hs
    · rename_i x r
      cases hs
      refine ⟨fun kk => ?_, rfl⟩
      intro p e R s m args below meth c Qw C H locs la hH hS hL
      exact lv_istore_n C.1.1 C.1.2.1 hdec rfl hL hn rfl (fun la' hl' => kk p e R s m args below meth c Qw C H locs la' hH hS (lvr.sub hl' set1_sub))
    · cases hs
  | astore z =>
    simp only [auxOk, Bool.and_eq_true, beq_iff_eq, decide_eq_true_eq] at ha
    obtain ⟨⟨rfl, rfl⟩, hn⟩ := ha
    simp only [sstep] at hs
    split at hs
    · rename_i x r
      cases hs
      refine ⟨fun kk => ?_, rfl⟩
      intro p e R s m args below meth c Qw C H locs la hH hS hL
      exact lv_astore C.1.1 C.1.2.1 hdec hL hn rfl (fun la' hl' => kk p e R s m args below meth c Qw C H locs la' hH hS (lvr.sub hl' set1_sub))
    · cases hs
  | astore_n z =>
    simp only [auxOk, Bool.and_eq_true, beq_iff_eq, decide_eq_true_eq] at ha
    obtain ⟨⟨rfl, rfl⟩, hn⟩ := ha
    simp only [sstep] at hs
    split at hs
    · rename_i x r
      cases hs
      refine ⟨fun kk => ?_, rfl⟩
      intro p e R s m args below meth c Qw C H locs la hH hS hL
      exact lv_astore_n C.1.1 C.1.2.1 hdec rfl hL hn rfl (fun la' hl' => kk p e R s m args below meth c Qw C H locs la' hH hS (lvr.sub hl' set1_sub))
    · cases hs
  | lstore z =>
    simp only [auxOk, Bool.and_eq_true, beq_iff_eq, decide_eq_true_eq] at ha
    obtain ⟨⟨rfl, rfl⟩, hn⟩ := ha
    simp only [sstep] at hs
    split at hs
    · rename_i x r
      cases hs
      refine ⟨fun kk => ?_, rfl⟩
      intro p e R s m args below meth c Qw C H locs la hH hS hL
      exact lv_lstore C.1.1 C.1.2.1 hdec hL hn rfl (fun la' hl' => kk p e R s m args below meth c Qw C H locs la' hH hS (lvr.sub hl' set2_sub))
    · cases hs
  | lstore_n z =>
    simp only [auxOk, Bool.and_eq_true, beq_iff_eq, decide_eq_true_eq] at ha
    obtain ⟨⟨rfl, rfl⟩, hn⟩ := ha
    simp only [sstep] at hs
    split at hs
    · rename_i x r
      cases hs
      refine ⟨fun kk => ?_, rfl⟩
      intro p e R s m args below meth c Qw C H locs la hH hS hL
      exact lv_lstore_n C.1.1 C.1.2.1 hdec rfl hL hn rfl (fun la' hl' => kk p e R s m args below meth c Qw C H locs la' hH hS (lvr.sub hl' set2_sub))
    · cases hs
  | iinc z z2 =>
    simp only [auxOk, Bool.and_eq_true, beq_iff_eq, decide_eq_true_eq] at ha
    obtain ⟨⟨⟨rfl, rfl⟩, rfl⟩, hn⟩ := ha
    simp only [sstep] at hs
    split at hs
    · rename_i x n2 hx he
      cases he
      cases hs
      refine ⟨fun kk => ?_, rfl⟩
      intro p e R s m args below meth c Qw C H locs la hH hS hL
      obtain ⟨q, hq⟩ := List.getElem?_of_mem ((lst_mem E ls 0 (z, .int x)).mpr ⟨z, _, hx, by rw [Nat.zero_add]; rfl⟩)
      exact lv_iinc C.1.1 C.1.2.1 hdec hL hq rfl hn rfl (fun la' hl' => kk p e R s m args below meth c Qw C H locs la' hH hS (lvr.sub hl' set1_sub))
    · cases hs
  | iadd =>
    simp only [auxOk, beq_iff_eq] at ha
    subst ha
    simp only [sstep] at hs
    split at hs
    · rename_i y x r
      cases hs
      refine ⟨fun kk => ?_, rfl⟩
      intro p e R s m args below meth c Qw C H locs la hH hS hL
      exact lv_iadd C.1.1 C.1.2.1 hdec (kk p e R s m args below meth c Qw C H locs la hH hS hL)
    · cases hs
  | isub =>
    simp only [auxOk, beq_iff_eq] at ha
    subst ha
    simp only [sstep] at hs
    split at hs
    · rename_i y x r
      cases hs
      refine ⟨fun kk => ?_, rfl⟩
      intro p e R s m args below meth c Qw C H locs la hH hS hL
      exact lv_isub C.1.1 C.1.2.1 hdec (kk p e R s m args below meth c Qw C H locs la hH hS hL)
    · cases hs
  | imul =>
    simp only [auxOk, beq_iff_eq] at ha
    subst ha
    simp only [sstep] at hs
    split at hs
    · rename_i y x r
      cases hs
      refine ⟨fun kk => ?_, rfl⟩
      intro p e R s m args below meth c Qw C H locs la hH hS hL
      exact lv_imul C.1.1 C.1.2.1 hdec (kk p e R s m args below meth c Qw C H locs la hH hS hL)
    · cases hs
  | iand =>
    simp only [auxOk, beq_iff_eq] at ha
    subst ha
    simp only [sstep] at hs
    split at hs
    · rename_i y x r
      cases hs
      refine ⟨fun kk => ?_, rfl⟩
      intro p e R s m args below meth c Qw C H locs la hH hS hL
      exact lv_iand C.1.1 C.1.2.1 hdec (kk p e R s m args below meth c Qw C H locs la hH hS hL)
    · cases hs
  | ior =>
    simp only [auxOk, beq_iff_eq] at ha
    subst ha
    simp only [sstep] at hs
    split at hs
    · rename_i y x r
      cases hs
      refine ⟨fun kk => ?_, rfl⟩
      intro p e R s m args below meth c Qw C H locs la hH hS hL
      exact lv_ior C.1.1 C.1.2.1 hdec (kk p e R s m args below meth c Qw C H locs la hH hS hL)
    · cases hs
  | ixor =>
    simp only [auxOk, beq_iff_eq] at ha
    subst ha
    simp only [sstep] at hs
    split at hs
    · rename_i y x r
      cases hs
      refine ⟨fun kk => ?_, rfl⟩
      intro p e R s m args below meth c Qw C H locs la hH hS hL
      exact lv_ixor C.1.1 C.1.2.1 hdec (kk p e R s m args below meth c Qw C H locs la hH hS hL)
    · cases hs
  | ishl =>
    simp only [auxOk, beq_iff_eq] at ha
    subst ha
    simp only [sstep] at hs
    split at hs
    · rename_i y x r
      cases hs
      refine ⟨fun kk => ?_, rfl⟩
      intro p e R s m args below meth c Qw C H locs la hH hS hL
      exact lv_ishl C.1.1 C.1.2.1 hdec (kk p e R s m args below meth c Qw C H locs la hH hS hL)
    · cases hs
  | ishr =>
    simp only [auxOk, beq_iff_eq] at ha
    subst ha
    simp only [sstep] at hs
    split at hs
    · rename_i y x r
      cases hs
      refine ⟨fun kk => ?_, rfl⟩
      intro p e R s m args below meth c Qw C H locs la hH hS hL
      exact lv_ishr C.1.1 C.1.2.1 hdec (kk p e R s m args below meth c Qw C H locs la hH hS hL)
    · cases hs
  | ladd =>
    simp only [auxOk, beq_iff_eq] at ha
    subst ha
    simp only [sstep] at hs
    split at hs
    · rename_i y x r
      cases hs
      refine ⟨fun kk => ?_, rfl⟩
      intro p e R s m args below meth c Qw C H locs la hH hS hL
      exact lv_ladd C.1.1 C.1.2.1 hdec (kk p e R s m args below meth c Qw C H locs la hH hS hL)
    · cases hs
  | lmul =>
    simp only [auxOk, beq_iff_eq] at ha
    subst ha
    simp only [sstep] at hs
    split at hs
    · rename_i y x r
      cases hs
      refine ⟨fun kk => ?_, rfl⟩
      intro p e R s m args below meth c Qw C H locs la hH hS hL
      exact lv_lmul C.1.1 C.1.2.1 hdec (kk p e R s m args below meth c Qw C H locs la hH hS hL)
    · cases hs
  | lcmp =>
    simp only [auxOk, beq_iff_eq] at ha
    subst ha
    simp only [sstep] at hs
    split at hs
    · rename_i y x r
      cases hs
      refine ⟨fun kk => ?_, rfl⟩
      intro p e R s m args below meth c Qw C H locs la hH hS hL
      exact W.lcmp C.1.1 C.1.2.1 hdec (kk p e R s m args below meth c Qw C H locs la hH hS hL)
    · cases hs
  | i2l =>
    simp only [auxOk, beq_iff_eq] at ha
    subst ha
    simp only [sstep] at hs
    split at hs
    · rename_i x r
      cases hs
      refine ⟨fun kk => ?_, rfl⟩
      intro p e R s m args below meth c Qw C H locs la hH hS hL
      exact lv_i2l C.1.1 C.1.2.1 hdec rfl (kk p e R s m args below meth c Qw C H locs la hH hS hL)
    · cases hs
  | i2b =>
    simp only [auxOk, beq_iff_eq] at ha
    subst ha
    simp only [sstep] at hs
    split at hs
    · rename_i x r
      cases hs
      refine ⟨fun kk => ?_, rfl⟩
      intro p e R s m args below meth c Qw C H locs la hH hS hL
      exact lv_i2b C.1.1 C.1.2.1 hdec rfl (kk p e R s m args below meth c Qw C H locs la hH hS hL)
    · cases hs
  | i2s =>
    simp only [auxOk, beq_iff_eq] at ha
    subst ha
    simp only [sstep] at hs
    split at hs
    · rename_i x r
      cases hs
      refine ⟨fun kk => ?_, rfl⟩
      intro p e R s m args below meth c Qw C H locs la hH hS hL
      exact lv_i2s C.1.1 C.1.2.1 hdec rfl (kk p e R s m args below meth c Qw C H locs la hH hS hL)
    · cases hs
  | dup =>
    simp only [auxOk, beq_iff_eq] at ha
    subst ha
    simp only [sstep] at hs
    split at hs
    · rename_i w r
      split at hs
      · rename_i hc
        cases hs
        refine ⟨fun kk => ?_, rfl⟩
        intro p e R s m args below meth c Qw C H locs la hH hS hL
        exact lv_dup C.1.1 C.1.2.1 hdec (by rw [rv_cat]; exact hc) (kk p e R s m args below meth c Qw C H locs la hH hS hL)
      · cases hs
    · cases hs
  | dup2 =>
    simp only [auxOk, beq_iff_eq] at ha
    subst ha
    simp only [sstep] at hs
    split at hs
    · rename_i w w2 r
      split at hs
      · rename_i hc
        split at hs
        · rename_i hc2
          cases hs
          refine ⟨fun kk => ?_, rfl⟩
          intro p e R s m args below meth c Qw C H locs la hH hS hL
          exact lv_dup2_11 C.1.1 C.1.2.1 hdec (by rw [rv_cat]; exact hc) (by rw [rv_cat]; exact hc2) (kk p e R s m args below meth c Qw C H locs la hH hS hL)
        · cases hs
      · cases hs
    · cases hs
  | goto off =>
    simp only [auxOk, Bool.and_eq_true, beq_iff_eq] at ha
    obtain ⟨h1, rfl⟩ := ha
    simp only [sstep, Option.some.injEq] at hs
    subst hs
    refine ⟨fun kk => ?_, rfl⟩
    intro p e R s m args below meth c Qw C H locs la hH hS hL
    exact lv_goto C.1.1 C.1.2.1 hdec h1 (kk p e R s m args below meth c Qw C H locs la hH hS hL)
  | getfield z =>
    simp only [auxOk, Bool.and_eq_true, beq_iff_eq] at ha
    obtain ⟨h1, rfl⟩ := ha
    simp only [sstep] at hs
    split at hs
    · rename_i k r
      cases ho : isObj sh k a with
      | false => simp [ho] at hs
      | true =>
        simp only [ho, cond_true, Option.some.injEq] at hs
        subst hs
        exact ⟨fun kk => Rn.getf hdec (mem_of_contains h1) ho kk, rfl⟩
    · cases hs
  | putfield z =>
    simp only [auxOk, Bool.and_eq_true, beq_iff_eq] at ha
    obtain ⟨⟨h1, rfl⟩, h2⟩ := ha
    simp only [sstep] at hs
    split at hs
    · rename_i w k r
      cases ho : isObj sh k a with
      | false => simp [ho] at hs
      | true =>
        cases hp : putOk (ftyp a b) w with
        | false => simp [ho, hp] at hs
        | true =>
          simp only [ho, hp, Bool.and_true, cond_true, Option.some.injEq] at hs
          subst hs
          have hfin : ∀ r, vwCl[a]? = some r → (r.2.1 b).2.2.2 = false := by
            intro r hr
            rw [hr] at h2
            simpa using h2
          have hnf : narrow (ftyp a b) (rv E w) = rv E w ∧ fits (ftyp a b) (rv E w) = true := by
            unfold putOk at hp
            split at hp
            · rename_i x0 e1
              rw [e1]
              exact ⟨rfl, rfl⟩
            · rename_i x0 x1 e1
              rw [e1]
              rcases (show x1 = 0 ∨ x1 = 1 by simpa using hp) with rfl | rfl
              · exact ⟨rfl, rfl⟩
              · exact ⟨rfl, rfl⟩
            · cases hp
          exact ⟨fun kk => Rn.putf hdec (mem_of_contains h1) hfin ho hnf.1 hnf.2 kk, rfl⟩
    · cases hs
  | arraylength =>
    simp only [auxOk, beq_iff_eq] at ha
    subst ha
    simp only [sstep] at hs
    split at hs
    · rename_i k r
      split at hs
      · rename_i n2 hn2
        cases hs
        refine ⟨fun kk => ?_, rfl⟩
        unfold arrLen at hn2
        rw [shg_eq] at hn2
        split at hn2
        · rename_i y hy
          cases hn2
          exact Rn.alen hdec (Or.inl rfl) hy kk
        · cases hn2
      · cases hs
    · cases hs
  | _ => simp [sstep] at hs
theorem Rn.go : ∀ {is : List SI} {pc : Nat} {ls : List (Option Value)} {st : List Value} {G : GG} {s' : SS}, blk M.1 M.2.2.2.1 M.2.2.1 pc is = true → srun sh is (pc, ls, st, G) = some s' → Rn E M d MC MS cs sl s'.1 s'.2.1 s'.2.2.1 sh s'.2.2.2 Q → Rn E M d MC MS cs sl pc ls st sh G Q
  | [], pc, ls, st, G, s', _, h, k => by
    simp only [srun, Option.some.injEq] at h
    subst h
    exact k
  | i :: t, pc, ls, st, G, s', hb, h, k => by
    simp only [blk, Bool.and_eq_true] at hb
    simp only [srun] at h
    split at h
    · rename_i s1 h1
      have key := Rn.one (E := E) (d := d) (MC := MC) (MS := MS) (cs := cs) (sl := sl) (Q := Q) hb.1.1 hb.1.2 h1
      exact key.1 (Rn.go (is := t) (s' := s') (pc := s1.1) (by rw [key.2]; exact hb.2) h k)
    · cases h
end GO
