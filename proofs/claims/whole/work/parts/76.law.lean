/-! The law's loop. Printed by wip/whole/gen/spec29.py. -/
def R3 (E : EE) (L : Nat) (M : MTy) (c0 s0 d pc : Nat) (ls : List (Option Value)) (st : List Value) (F : FF) (Q : Q2) : Prop := Rn E M d c0 s0 c0 s0 pc ls st (SH L) (gl F) (Lq L Q)
section R3S
variable {E : EE} {L : Nat} {M : MTy} {c0 s0 d pc : Nat} {ls : List (Option Value)} {st : List Value} {F : FF} {Q : Q2}
theorem R3.B {is : List SI} {pc2 n : Nat} {ins : Instr} {ls2 : List (Option Value)} {st2 : List Value} (hb : bl2 M pc is pc2 ins n = true) (hr : srun (SH L) is (pc, ls, st, gl F) = some (pc2, ls2, st2, gl F)) (k : decode M.2.2.1 pc2 = .ok (ins, n) → R3 E L M c0 s0 d pc2 ls2 st2 F Q) : R3 E L M c0 s0 d pc ls st F Q := Rn.B hb hr k
theorem R3.if_eq {x : Int32} {off : Int} (tgt : Nat) (hdec : decode M.2.2.1 pc = .ok (.ifCond .eq off, 3)) (ht : (pc : Int) + off = (tgt : Int)) (kt : x = 0 → R3 E L M c0 s0 d tgt ls st F Q) (kf : ¬ x = 0 → R3 E L M c0 s0 d (pc + 3) ls st F Q) : R3 E L M c0 s0 d pc ls (.int x :: st) F Q := Rn.if_eq tgt hdec ht kt kf
theorem R3.icmp_eq {x y : Int32} {off : Int} (tgt : Nat) (hdec : decode M.2.2.1 pc = .ok (.if_icmp .eq off, 3)) (ht : (pc : Int) + off = (tgt : Int)) (kt : x = y → R3 E L M c0 s0 d tgt ls st F Q) (kf : ¬ x = y → R3 E L M c0 s0 d (pc + 3) ls st F Q) : R3 E L M c0 s0 d pc ls (.int y :: .int x :: st) F Q := Rn.icmp_eq tgt hdec ht kt kf
theorem R3.if_ne {x : Int32} {off : Int} (tgt : Nat) (hdec : decode M.2.2.1 pc = .ok (.ifCond .ne off, 3)) (ht : (pc : Int) + off = (tgt : Int)) (kt : ¬ x = 0 → R3 E L M c0 s0 d tgt ls st F Q) (kf : x = 0 → R3 E L M c0 s0 d (pc + 3) ls st F Q) : R3 E L M c0 s0 d pc ls (.int x :: st) F Q := Rn.if_ne tgt hdec ht kt kf
theorem R3.icmp_ne {x y : Int32} {off : Int} (tgt : Nat) (hdec : decode M.2.2.1 pc = .ok (.if_icmp .ne off, 3)) (ht : (pc : Int) + off = (tgt : Int)) (kt : ¬ x = y → R3 E L M c0 s0 d tgt ls st F Q) (kf : x = y → R3 E L M c0 s0 d (pc + 3) ls st F Q) : R3 E L M c0 s0 d pc ls (.int y :: .int x :: st) F Q := Rn.icmp_ne tgt hdec ht kt kf
theorem R3.if_lt {x : Int32} {off : Int} (tgt : Nat) (hdec : decode M.2.2.1 pc = .ok (.ifCond .lt off, 3)) (ht : (pc : Int) + off = (tgt : Int)) (kt : x < 0 → R3 E L M c0 s0 d tgt ls st F Q) (kf : ¬ x < 0 → R3 E L M c0 s0 d (pc + 3) ls st F Q) : R3 E L M c0 s0 d pc ls (.int x :: st) F Q := Rn.if_lt tgt hdec ht kt kf
theorem R3.icmp_lt {x y : Int32} {off : Int} (tgt : Nat) (hdec : decode M.2.2.1 pc = .ok (.if_icmp .lt off, 3)) (ht : (pc : Int) + off = (tgt : Int)) (kt : x < y → R3 E L M c0 s0 d tgt ls st F Q) (kf : ¬ x < y → R3 E L M c0 s0 d (pc + 3) ls st F Q) : R3 E L M c0 s0 d pc ls (.int y :: .int x :: st) F Q := Rn.icmp_lt tgt hdec ht kt kf
theorem R3.if_ge {x : Int32} {off : Int} (tgt : Nat) (hdec : decode M.2.2.1 pc = .ok (.ifCond .ge off, 3)) (ht : (pc : Int) + off = (tgt : Int)) (kt : 0 ≤ x → R3 E L M c0 s0 d tgt ls st F Q) (kf : ¬ 0 ≤ x → R3 E L M c0 s0 d (pc + 3) ls st F Q) : R3 E L M c0 s0 d pc ls (.int x :: st) F Q := Rn.if_ge tgt hdec ht kt kf
theorem R3.icmp_ge {x y : Int32} {off : Int} (tgt : Nat) (hdec : decode M.2.2.1 pc = .ok (.if_icmp .ge off, 3)) (ht : (pc : Int) + off = (tgt : Int)) (kt : y ≤ x → R3 E L M c0 s0 d tgt ls st F Q) (kf : ¬ y ≤ x → R3 E L M c0 s0 d (pc + 3) ls st F Q) : R3 E L M c0 s0 d pc ls (.int y :: .int x :: st) F Q := Rn.icmp_ge tgt hdec ht kt kf
theorem R3.if_gt {x : Int32} {off : Int} (tgt : Nat) (hdec : decode M.2.2.1 pc = .ok (.ifCond .gt off, 3)) (ht : (pc : Int) + off = (tgt : Int)) (kt : 0 < x → R3 E L M c0 s0 d tgt ls st F Q) (kf : ¬ 0 < x → R3 E L M c0 s0 d (pc + 3) ls st F Q) : R3 E L M c0 s0 d pc ls (.int x :: st) F Q := Rn.if_gt tgt hdec ht kt kf
theorem R3.icmp_gt {x y : Int32} {off : Int} (tgt : Nat) (hdec : decode M.2.2.1 pc = .ok (.if_icmp .gt off, 3)) (ht : (pc : Int) + off = (tgt : Int)) (kt : y < x → R3 E L M c0 s0 d tgt ls st F Q) (kf : ¬ y < x → R3 E L M c0 s0 d (pc + 3) ls st F Q) : R3 E L M c0 s0 d pc ls (.int y :: .int x :: st) F Q := Rn.icmp_gt tgt hdec ht kt kf
theorem R3.if_le {x : Int32} {off : Int} (tgt : Nat) (hdec : decode M.2.2.1 pc = .ok (.ifCond .le off, 3)) (ht : (pc : Int) + off = (tgt : Int)) (kt : x ≤ 0 → R3 E L M c0 s0 d tgt ls st F Q) (kf : ¬ x ≤ 0 → R3 E L M c0 s0 d (pc + 3) ls st F Q) : R3 E L M c0 s0 d pc ls (.int x :: st) F Q := Rn.if_le tgt hdec ht kt kf
theorem R3.icmp_le {x y : Int32} {off : Int} (tgt : Nat) (hdec : decode M.2.2.1 pc = .ok (.if_icmp .le off, 3)) (ht : (pc : Int) + off = (tgt : Int)) (kt : x ≤ y → R3 E L M c0 s0 d tgt ls st F Q) (kf : ¬ x ≤ y → R3 E L M c0 s0 d (pc + 3) ls st F Q) : R3 E L M c0 s0 d pc ls (.int y :: .int x :: st) F Q := Rn.icmp_le tgt hdec ht kt kf
theorem R3.tblIn {x : Int32} {dflt lo hi off : Int} {offs : Array Int} {len : Nat} (tgt : Nat) (hdec : decode M.2.2.1 pc = .ok (.tableswitch dflt lo hi offs, len)) (h1 : ¬ x.toInt < lo) (h2 : ¬ hi < x.toInt) (ho : offs[(x.toInt - lo).toNat]? = some off) (ht : (pc : Int) + off = (tgt : Int)) (kk : R3 E L M c0 s0 d tgt ls st F Q) : R3 E L M c0 s0 d pc ls (.int x :: st) F Q := Rn.tblIn tgt hdec h1 h2 ho ht kk
theorem R3.tblOut {x : Int32} {dflt lo hi : Int} {offs : Array Int} {len : Nat} (tgt : Nat) (hdec : decode M.2.2.1 pc = .ok (.tableswitch dflt lo hi offs, len)) (h1 : x.toInt < lo ∨ hi < x.toInt) (ht : (pc : Int) + dflt = (tgt : Int)) (kk : R3 E L M c0 s0 d tgt ls st F Q) : R3 E L M c0 s0 d pc ls (.int x :: st) F Q := Rn.tblOut tgt hdec h1 ht kk
theorem R3.iald {k n : Nat} {x : Int32} (j : Nat) (hx : x = nI j) (hdec : decode M.2.2.1 pc = .ok (.iaload, 1)) (ho : shg (SH L) k = some (.inr (.int, n))) (hr : ∀ q : Nat, nthR rowsL k q = none) (hn : n < 2147483648) (hj : j < n) (kk : R3 E L M c0 s0 d (pc + 1) ls (.int (F k j) :: st) F Q) : R3 E L M c0 s0 d pc ls (.int x :: .ref k :: st) F Q := by
  subst hx
  exact Rn.iald j hdec ho hn hj (by rw [gl_int (hr j)]; exact kk)
theorem R3.callV {M2 : MTy} {As rest : List Value} {idx d2 k : Nat} {Qc : Q2} (hdec : decode M.2.2.1 pc = .ok (.invokevirtual idx, 3)) (hl : Lnk M.1 idx M2) (ok : OkI M2) (hml : M2.2.2.2.1 ≤ 21) (hk : isObj (SH L) k M2.1 = true) (ev : Ev2 E L d2 M2 (.ref k :: As) F Qc) (hd : d2 < d) (hn : As.length = npar M2) (hst : st = As.reverse ++ .ref k :: rest) (hrest : (rest.map fun v => v.category).sum ≤ 8)
    (kk : ∀ r F1, Qc r F1 → R3 E L M c0 s0 d (pc + 3) ls (r.toList ++ rest) F1 Q) : R3 E L M c0 s0 d pc ls st F Q := by
  refine Rn.callV hdec hl ok hml hk ev hd hn hst hrest (Nat.le_refl _) (Nat.le_refl _) ?_
  rintro r sh' G' ⟨F1, rfl, rfl, hq⟩
  exact kk r F1 hq
theorem R3.ret {r : Option Value} {ins : Instr} (hdec : decode M.2.2.1 pc = .ok (ins, 1)) (hr : retOf M.2.2.2.2 ins r) (hst : st = r.toList) (hq : Q r F) : R3 E L M c0 s0 d pc ls st F Q := Rn.ret hdec hr hst (Nat.le_refl _) (Nat.le_refl _) ⟨F, rfl, rfl, hq⟩
theorem R3.forget {ls2 : List (Option Value)} (hs : subL ls2 ls) (k : R3 E L M c0 s0 d pc ls2 st F Q) : R3 E L M c0 s0 d pc ls st F Q := by
  intro p e R s m args below meth c Qw C H locs la hH hS hL
  refine k p e R s m args below meth c Qw C H locs la hH hS ?_
  refine lvr.sub (l := lst E 0 ls) hL (fun j v h => ?_)
  exact (lst_mem E ls 0 _).mpr ⟨j, v, subL_get hs j v h, by rw [Nat.zero_add]⟩
theorem R3.top {x y : Int32} (e : x = y) (k : R3 E L M c0 s0 d pc ls (.int y :: st) F Q) : R3 E L M c0 s0 d pc ls (.int x :: st) F Q := by rw [e]; exact k
end R3S
theorem Ev2.scr {E : EE} {L d : Nat} {M : MTy} {vs : List Value} {F : FF} {Q : Q2} (h : Ev2 E L d M vs F Q) : Ev2 E L d M vs F (fun r F' => Q r F' ∧ ∀ j, j < L → F' 0 j = F 0 j) := by
  intro p e hA hB hC s m args below hf hS hP hX
  obtain ⟨k, o, h1, h2, h3, ⟨⟨⟨r, sh, G, e1, ⟨F', e2, e3, h4⟩, h5⟩, h6⟩, h7⟩⟩ := h p e hA hB hC s m args below hf hS hP hX
  refine ⟨k, o, h1, h2, h3, ⟨⟨⟨r, sh, G, e1, ⟨F', e2, e3, h4, ?_⟩, h5⟩, h6⟩, h7⟩⟩
  intro j hj
  subst e2; subst e3
  obtain ⟨n1, a1, cell1, b1, -, -, -, -, c1, d1⟩ := h5.2.2.1 0 (by decide)
  obtain ⟨n0, a0, cell0, b0, -, -, -, -, c0, d0⟩ := hP.2.2.2.2.1 0 (by decide)
  have en1 : n1 = L := (Prod.mk.inj (Sum.inr.inj (Option.some.inj a1))).2.symm
  have en0 : n0 = L := (Prod.mk.inj (Sum.inr.inj (Option.some.inj a0))).2.symm
  subst en0
  have hb := h6.2 (ad E 0) (Array.getElem?_eq_some_iff.mp b0).1 d0
  rw [b1, b0] at hb
  have ec := Option.some.inj hb
  subst ec
  have q1 := c1 j (by omega)
  have q0 := c0 j (by omega)
  rw [q1] at q0
  exact Value.int.inj (Option.some.inj q0)
theorem b_L_law_180_185 : bl2 mL_law 180 [(.aload_n 1, 1, 1, 0, .null), (.aload_n 0, 1, 0, 0, .null), (.iload_n 3, 1, 3, 0, .null), (.iconst 1, 1, 0, 0, .int 1), (.iadd, 1, 0, 0, .null)] 185 (.iaload) 1 = true := by decide +kernel
theorem b_L_law_186_190 : bl2 mL_law 186 [(.aload_n 0, 1, 0, 0, .null), (.iload_n 3, 1, 3, 0, .null), (.iconst 2, 1, 0, 0, .int 2), (.iadd, 1, 0, 0, .null)] 190 (.iaload) 1 = true := by decide +kernel
theorem b_L_law_191_191 : bl2 mL_law 191 [] 191 (.invokevirtual 13) 3 = true := by decide +kernel
theorem b_L_law_194_199 : bl2 mL_law 194 [(.aload_n 2, 1, 2, 0, .null), (.aload_n 0, 1, 0, 0, .null), (.iload_n 3, 1, 3, 0, .null), (.iconst 1, 1, 0, 0, .int 1), (.iadd, 1, 0, 0, .null)] 199 (.iaload) 1 = true := by decide +kernel
theorem b_L_law_200_204 : bl2 mL_law 200 [(.aload_n 0, 1, 0, 0, .null), (.iload_n 3, 1, 3, 0, .null), (.iconst 2, 1, 0, 0, .int 2), (.iadd, 1, 0, 0, .null)] 204 (.iaload) 1 = true := by decide +kernel
theorem b_L_law_205_205 : bl2 mL_law 205 [] 205 (.invokevirtual 17) 3 = true := by decide +kernel
theorem b_L_law_208_208 : bl2 mL_law 208 [] 208 (.if_icmp .eq 942) 3 = true := by decide +kernel
theorem b_L_law_1150_1150 : bl2 mL_law 1150 [] 1150 (.iinc 3 6) 3 = true := by decide +kernel
theorem b_L_law_213_218 : bl2 mL_law 213 [(.aload_n 1, 1, 1, 0, .null), (.aload_n 0, 1, 0, 0, .null), (.iload_n 3, 1, 3, 0, .null), (.iconst 1, 1, 0, 0, .int 1), (.iadd, 1, 0, 0, .null)] 218 (.iaload) 1 = true := by decide +kernel
theorem b_L_law_219_219 : bl2 mL_law 219 [] 219 (.invokevirtual 18) 3 = true := by decide +kernel
theorem b_L_law_222_227 : bl2 mL_law 222 [(.aload_n 2, 1, 2, 0, .null), (.aload_n 0, 1, 0, 0, .null), (.iload_n 3, 1, 3, 0, .null), (.iconst 1, 1, 0, 0, .int 1), (.iadd, 1, 0, 0, .null)] 227 (.iaload) 1 = true := by decide +kernel
theorem b_L_law_228_228 : bl2 mL_law 228 [] 228 (.invokevirtual 22) 3 = true := by decide +kernel
theorem b_L_law_231_231 : bl2 mL_law 231 [] 231 (.if_icmp .eq 919) 3 = true := by decide +kernel
theorem b_L_law_236_241 : bl2 mL_law 236 [(.aload_n 1, 1, 1, 0, .null), (.aload_n 0, 1, 0, 0, .null), (.iload_n 3, 1, 3, 0, .null), (.iconst 1, 1, 0, 0, .int 1), (.iadd, 1, 0, 0, .null)] 241 (.iaload) 1 = true := by decide +kernel
theorem b_L_law_242_242 : bl2 mL_law 242 [] 242 (.invokevirtual 23) 3 = true := by decide +kernel
theorem b_L_law_245_250 : bl2 mL_law 245 [(.aload_n 2, 1, 2, 0, .null), (.aload_n 0, 1, 0, 0, .null), (.iload_n 3, 1, 3, 0, .null), (.iconst 1, 1, 0, 0, .int 1), (.iadd, 1, 0, 0, .null)] 250 (.iaload) 1 = true := by decide +kernel
theorem b_L_law_251_251 : bl2 mL_law 251 [] 251 (.invokevirtual 26) 3 = true := by decide +kernel
theorem b_L_law_254_254 : bl2 mL_law 254 [] 254 (.if_icmp .eq 896) 3 = true := by decide +kernel
theorem b_L_law_259_264 : bl2 mL_law 259 [(.aload_n 1, 1, 1, 0, .null), (.aload_n 0, 1, 0, 0, .null), (.iload_n 3, 1, 3, 0, .null), (.iconst 1, 1, 0, 0, .int 1), (.iadd, 1, 0, 0, .null)] 264 (.iaload) 1 = true := by decide +kernel
theorem b_L_law_265_269 : bl2 mL_law 265 [(.aload_n 0, 1, 0, 0, .null), (.iload_n 3, 1, 3, 0, .null), (.iconst 2, 1, 0, 0, .int 2), (.iadd, 1, 0, 0, .null)] 269 (.iaload) 1 = true := by decide +kernel
theorem b_L_law_270_270 : bl2 mL_law 270 [] 270 (.invokevirtual 27) 3 = true := by decide +kernel
theorem b_L_law_273_278 : bl2 mL_law 273 [(.aload_n 2, 1, 2, 0, .null), (.aload_n 0, 1, 0, 0, .null), (.iload_n 3, 1, 3, 0, .null), (.iconst 1, 1, 0, 0, .int 1), (.iadd, 1, 0, 0, .null)] 278 (.iaload) 1 = true := by decide +kernel
theorem b_L_law_279_283 : bl2 mL_law 279 [(.aload_n 0, 1, 0, 0, .null), (.iload_n 3, 1, 3, 0, .null), (.iconst 2, 1, 0, 0, .int 2), (.iadd, 1, 0, 0, .null)] 283 (.iaload) 1 = true := by decide +kernel
theorem b_L_law_284_284 : bl2 mL_law 284 [] 284 (.invokevirtual 30) 3 = true := by decide +kernel
theorem b_L_law_287_287 : bl2 mL_law 287 [] 287 (.if_icmp .eq 863) 3 = true := by decide +kernel
theorem b_L_law_292_297 : bl2 mL_law 292 [(.aload_n 1, 1, 1, 0, .null), (.aload_n 0, 1, 0, 0, .null), (.iload_n 3, 1, 3, 0, .null), (.iconst 1, 1, 0, 0, .int 1), (.iadd, 1, 0, 0, .null)] 297 (.iaload) 1 = true := by decide +kernel
theorem b_L_law_298_302 : bl2 mL_law 298 [(.aload_n 0, 1, 0, 0, .null), (.iload_n 3, 1, 3, 0, .null), (.iconst 2, 1, 0, 0, .int 2), (.iadd, 1, 0, 0, .null)] 302 (.iaload) 1 = true := by decide +kernel
theorem b_L_law_303_303 : bl2 mL_law 303 [] 303 (.invokevirtual 31) 3 = true := by decide +kernel
theorem b_L_law_306_311 : bl2 mL_law 306 [(.aload_n 2, 1, 2, 0, .null), (.aload_n 0, 1, 0, 0, .null), (.iload_n 3, 1, 3, 0, .null), (.iconst 1, 1, 0, 0, .int 1), (.iadd, 1, 0, 0, .null)] 311 (.iaload) 1 = true := by decide +kernel
theorem b_L_law_312_316 : bl2 mL_law 312 [(.aload_n 0, 1, 0, 0, .null), (.iload_n 3, 1, 3, 0, .null), (.iconst 2, 1, 0, 0, .int 2), (.iadd, 1, 0, 0, .null)] 316 (.iaload) 1 = true := by decide +kernel
theorem b_L_law_317_317 : bl2 mL_law 317 [] 317 (.invokevirtual 34) 3 = true := by decide +kernel
theorem b_L_law_320_320 : bl2 mL_law 320 [] 320 (.if_icmp .eq 830) 3 = true := by decide +kernel
theorem b_L_law_325_330 : bl2 mL_law 325 [(.aload_n 1, 1, 1, 0, .null), (.aload_n 0, 1, 0, 0, .null), (.iload_n 3, 1, 3, 0, .null), (.iconst 1, 1, 0, 0, .int 1), (.iadd, 1, 0, 0, .null)] 330 (.iaload) 1 = true := by decide +kernel
theorem b_L_law_331_335 : bl2 mL_law 331 [(.aload_n 0, 1, 0, 0, .null), (.iload_n 3, 1, 3, 0, .null), (.iconst 2, 1, 0, 0, .int 2), (.iadd, 1, 0, 0, .null)] 335 (.iaload) 1 = true := by decide +kernel
theorem b_L_law_336_336 : bl2 mL_law 336 [] 336 (.invokevirtual 35) 3 = true := by decide +kernel
theorem b_L_law_339_344 : bl2 mL_law 339 [(.aload_n 2, 1, 2, 0, .null), (.aload_n 0, 1, 0, 0, .null), (.iload_n 3, 1, 3, 0, .null), (.iconst 1, 1, 0, 0, .int 1), (.iadd, 1, 0, 0, .null)] 344 (.iaload) 1 = true := by decide +kernel
theorem b_L_law_345_349 : bl2 mL_law 345 [(.aload_n 0, 1, 0, 0, .null), (.iload_n 3, 1, 3, 0, .null), (.iconst 2, 1, 0, 0, .int 2), (.iadd, 1, 0, 0, .null)] 349 (.iaload) 1 = true := by decide +kernel
theorem b_L_law_350_350 : bl2 mL_law 350 [] 350 (.invokevirtual 38) 3 = true := by decide +kernel
theorem b_L_law_353_353 : bl2 mL_law 353 [] 353 (.if_icmp .eq 797) 3 = true := by decide +kernel
theorem b_L_law_358_363 : bl2 mL_law 358 [(.aload_n 1, 1, 1, 0, .null), (.aload_n 0, 1, 0, 0, .null), (.iload_n 3, 1, 3, 0, .null), (.iconst 1, 1, 0, 0, .int 1), (.iadd, 1, 0, 0, .null)] 363 (.iaload) 1 = true := by decide +kernel
theorem b_L_law_364_368 : bl2 mL_law 364 [(.aload_n 0, 1, 0, 0, .null), (.iload_n 3, 1, 3, 0, .null), (.iconst 2, 1, 0, 0, .int 2), (.iadd, 1, 0, 0, .null)] 368 (.iaload) 1 = true := by decide +kernel
theorem b_L_law_369_369 : bl2 mL_law 369 [] 369 (.invokevirtual 39) 3 = true := by decide +kernel
theorem b_L_law_372_377 : bl2 mL_law 372 [(.aload_n 2, 1, 2, 0, .null), (.aload_n 0, 1, 0, 0, .null), (.iload_n 3, 1, 3, 0, .null), (.iconst 1, 1, 0, 0, .int 1), (.iadd, 1, 0, 0, .null)] 377 (.iaload) 1 = true := by decide +kernel
theorem b_L_law_378_382 : bl2 mL_law 378 [(.aload_n 0, 1, 0, 0, .null), (.iload_n 3, 1, 3, 0, .null), (.iconst 2, 1, 0, 0, .int 2), (.iadd, 1, 0, 0, .null)] 382 (.iaload) 1 = true := by decide +kernel
theorem b_L_law_383_383 : bl2 mL_law 383 [] 383 (.invokevirtual 42) 3 = true := by decide +kernel
theorem b_L_law_386_386 : bl2 mL_law 386 [] 386 (.if_icmp .eq 764) 3 = true := by decide +kernel
theorem b_L_law_391_392 : bl2 mL_law 391 [(.aload_n 1, 1, 1, 0, .null)] 392 (.invokevirtual 43) 3 = true := by decide +kernel
theorem b_L_law_395_396 : bl2 mL_law 395 [(.aload_n 2, 1, 2, 0, .null)] 396 (.invokevirtual 47) 3 = true := by decide +kernel
theorem b_L_law_399_399 : bl2 mL_law 399 [] 399 (.if_icmp .eq 751) 3 = true := by decide +kernel
theorem b_L_law_404_409 : bl2 mL_law 404 [(.aload_n 1, 1, 1, 0, .null), (.aload_n 0, 1, 0, 0, .null), (.iload_n 3, 1, 3, 0, .null), (.iconst 1, 1, 0, 0, .int 1), (.iadd, 1, 0, 0, .null)] 409 (.iaload) 1 = true := by decide +kernel
theorem b_L_law_410_414 : bl2 mL_law 410 [(.aload_n 0, 1, 0, 0, .null), (.iload_n 3, 1, 3, 0, .null), (.iconst 2, 1, 0, 0, .int 2), (.iadd, 1, 0, 0, .null)] 414 (.iaload) 1 = true := by decide +kernel
theorem b_L_law_415_415 : bl2 mL_law 415 [] 415 (.invokevirtual 48) 3 = true := by decide +kernel
theorem b_L_law_418_423 : bl2 mL_law 418 [(.aload_n 2, 1, 2, 0, .null), (.aload_n 0, 1, 0, 0, .null), (.iload_n 3, 1, 3, 0, .null), (.iconst 1, 1, 0, 0, .int 1), (.iadd, 1, 0, 0, .null)] 423 (.iaload) 1 = true := by decide +kernel
theorem b_L_law_424_428 : bl2 mL_law 424 [(.aload_n 0, 1, 0, 0, .null), (.iload_n 3, 1, 3, 0, .null), (.iconst 2, 1, 0, 0, .int 2), (.iadd, 1, 0, 0, .null)] 428 (.iaload) 1 = true := by decide +kernel
theorem b_L_law_429_429 : bl2 mL_law 429 [] 429 (.invokevirtual 51) 3 = true := by decide +kernel
theorem b_L_law_432_432 : bl2 mL_law 432 [] 432 (.if_icmp .eq 718) 3 = true := by decide +kernel
theorem b_L_law_437_442 : bl2 mL_law 437 [(.aload_n 1, 1, 1, 0, .null), (.aload_n 0, 1, 0, 0, .null), (.iload_n 3, 1, 3, 0, .null), (.iconst 1, 1, 0, 0, .int 1), (.iadd, 1, 0, 0, .null)] 442 (.iaload) 1 = true := by decide +kernel
theorem b_L_law_443_447 : bl2 mL_law 443 [(.aload_n 0, 1, 0, 0, .null), (.iload_n 3, 1, 3, 0, .null), (.iconst 2, 1, 0, 0, .int 2), (.iadd, 1, 0, 0, .null)] 447 (.iaload) 1 = true := by decide +kernel
theorem b_L_law_448_452 : bl2 mL_law 448 [(.aload_n 0, 1, 0, 0, .null), (.iload_n 3, 1, 3, 0, .null), (.iconst 3, 1, 0, 0, .int 3), (.iadd, 1, 0, 0, .null)] 452 (.iaload) 1 = true := by decide +kernel
theorem b_L_law_453_453 : bl2 mL_law 453 [] 453 (.invokevirtual 52) 3 = true := by decide +kernel
theorem b_L_law_456_461 : bl2 mL_law 456 [(.aload_n 2, 1, 2, 0, .null), (.aload_n 0, 1, 0, 0, .null), (.iload_n 3, 1, 3, 0, .null), (.iconst 1, 1, 0, 0, .int 1), (.iadd, 1, 0, 0, .null)] 461 (.iaload) 1 = true := by decide +kernel
theorem b_L_law_462_466 : bl2 mL_law 462 [(.aload_n 0, 1, 0, 0, .null), (.iload_n 3, 1, 3, 0, .null), (.iconst 2, 1, 0, 0, .int 2), (.iadd, 1, 0, 0, .null)] 466 (.iaload) 1 = true := by decide +kernel
theorem b_L_law_467_471 : bl2 mL_law 467 [(.aload_n 0, 1, 0, 0, .null), (.iload_n 3, 1, 3, 0, .null), (.iconst 3, 1, 0, 0, .int 3), (.iadd, 1, 0, 0, .null)] 471 (.iaload) 1 = true := by decide +kernel
theorem b_L_law_472_472 : bl2 mL_law 472 [] 472 (.invokevirtual 56) 3 = true := by decide +kernel
theorem b_L_law_475_475 : bl2 mL_law 475 [] 475 (.if_icmp .eq 675) 3 = true := by decide +kernel
theorem b_L_law_480_481 : bl2 mL_law 480 [(.aload_n 1, 1, 1, 0, .null)] 481 (.invokevirtual 57) 3 = true := by decide +kernel
theorem b_L_law_484_485 : bl2 mL_law 484 [(.aload_n 2, 1, 2, 0, .null)] 485 (.invokevirtual 60) 3 = true := by decide +kernel
theorem b_L_law_488_488 : bl2 mL_law 488 [] 488 (.if_icmp .eq 662) 3 = true := by decide +kernel
theorem b_L_law_493_498 : bl2 mL_law 493 [(.aload_n 1, 1, 1, 0, .null), (.aload_n 0, 1, 0, 0, .null), (.iload_n 3, 1, 3, 0, .null), (.iconst 1, 1, 0, 0, .int 1), (.iadd, 1, 0, 0, .null)] 498 (.iaload) 1 = true := by decide +kernel
theorem b_L_law_499_499 : bl2 mL_law 499 [] 499 (.invokevirtual 61) 3 = true := by decide +kernel
theorem b_L_law_502_507 : bl2 mL_law 502 [(.aload_n 2, 1, 2, 0, .null), (.aload_n 0, 1, 0, 0, .null), (.iload_n 3, 1, 3, 0, .null), (.iconst 1, 1, 0, 0, .int 1), (.iadd, 1, 0, 0, .null)] 507 (.iaload) 1 = true := by decide +kernel
theorem b_L_law_508_508 : bl2 mL_law 508 [] 508 (.invokevirtual 64) 3 = true := by decide +kernel
theorem b_L_law_511_511 : bl2 mL_law 511 [] 511 (.if_icmp .eq 639) 3 = true := by decide +kernel
theorem b_L_law_516_517 : bl2 mL_law 516 [(.aload_n 1, 1, 1, 0, .null)] 517 (.invokevirtual 65) 3 = true := by decide +kernel
theorem b_L_law_520_521 : bl2 mL_law 520 [(.aload_n 2, 1, 2, 0, .null)] 521 (.invokevirtual 68) 3 = true := by decide +kernel
theorem b_L_law_524_524 : bl2 mL_law 524 [] 524 (.if_icmp .eq 626) 3 = true := by decide +kernel
theorem b_L_law_529_534 : bl2 mL_law 529 [(.aload_n 1, 1, 1, 0, .null), (.aload_n 0, 1, 0, 0, .null), (.iload_n 3, 1, 3, 0, .null), (.iconst 1, 1, 0, 0, .int 1), (.iadd, 1, 0, 0, .null)] 534 (.iaload) 1 = true := by decide +kernel
theorem b_L_law_535_535 : bl2 mL_law 535 [] 535 (.invokevirtual 69) 3 = true := by decide +kernel
theorem b_L_law_538_543 : bl2 mL_law 538 [(.aload_n 2, 1, 2, 0, .null), (.aload_n 0, 1, 0, 0, .null), (.iload_n 3, 1, 3, 0, .null), (.iconst 1, 1, 0, 0, .int 1), (.iadd, 1, 0, 0, .null)] 543 (.iaload) 1 = true := by decide +kernel
theorem b_L_law_544_544 : bl2 mL_law 544 [] 544 (.invokevirtual 72) 3 = true := by decide +kernel
theorem b_L_law_547_547 : bl2 mL_law 547 [] 547 (.if_icmp .eq 603) 3 = true := by decide +kernel
theorem b_L_law_552_557 : bl2 mL_law 552 [(.aload_n 1, 1, 1, 0, .null), (.aload_n 0, 1, 0, 0, .null), (.iload_n 3, 1, 3, 0, .null), (.iconst 1, 1, 0, 0, .int 1), (.iadd, 1, 0, 0, .null)] 557 (.iaload) 1 = true := by decide +kernel
theorem b_L_law_558_558 : bl2 mL_law 558 [] 558 (.invokevirtual 73) 3 = true := by decide +kernel
theorem b_L_law_561_566 : bl2 mL_law 561 [(.aload_n 2, 1, 2, 0, .null), (.aload_n 0, 1, 0, 0, .null), (.iload_n 3, 1, 3, 0, .null), (.iconst 1, 1, 0, 0, .int 1), (.iadd, 1, 0, 0, .null)] 566 (.iaload) 1 = true := by decide +kernel
theorem b_L_law_567_567 : bl2 mL_law 567 [] 567 (.invokevirtual 76) 3 = true := by decide +kernel
theorem b_L_law_570_570 : bl2 mL_law 570 [] 570 (.if_icmp .eq 580) 3 = true := by decide +kernel
theorem b_L_law_575_580 : bl2 mL_law 575 [(.aload_n 1, 1, 1, 0, .null), (.aload_n 0, 1, 0, 0, .null), (.iload_n 3, 1, 3, 0, .null), (.iconst 1, 1, 0, 0, .int 1), (.iadd, 1, 0, 0, .null)] 580 (.iaload) 1 = true := by decide +kernel
theorem b_L_law_581_585 : bl2 mL_law 581 [(.aload_n 0, 1, 0, 0, .null), (.iload_n 3, 1, 3, 0, .null), (.iconst 2, 1, 0, 0, .int 2), (.iadd, 1, 0, 0, .null)] 585 (.iaload) 1 = true := by decide +kernel
theorem b_L_law_586_586 : bl2 mL_law 586 [] 586 (.invokevirtual 77) 3 = true := by decide +kernel
theorem b_L_law_589_594 : bl2 mL_law 589 [(.aload_n 2, 1, 2, 0, .null), (.aload_n 0, 1, 0, 0, .null), (.iload_n 3, 1, 3, 0, .null), (.iconst 1, 1, 0, 0, .int 1), (.iadd, 1, 0, 0, .null)] 594 (.iaload) 1 = true := by decide +kernel
theorem b_L_law_595_599 : bl2 mL_law 595 [(.aload_n 0, 1, 0, 0, .null), (.iload_n 3, 1, 3, 0, .null), (.iconst 2, 1, 0, 0, .int 2), (.iadd, 1, 0, 0, .null)] 599 (.iaload) 1 = true := by decide +kernel
theorem b_L_law_600_600 : bl2 mL_law 600 [] 600 (.invokevirtual 80) 3 = true := by decide +kernel
theorem b_L_law_603_603 : bl2 mL_law 603 [] 603 (.if_icmp .eq 547) 3 = true := by decide +kernel
theorem b_L_law_608_613 : bl2 mL_law 608 [(.aload_n 1, 1, 1, 0, .null), (.aload_n 0, 1, 0, 0, .null), (.iload_n 3, 1, 3, 0, .null), (.iconst 1, 1, 0, 0, .int 1), (.iadd, 1, 0, 0, .null)] 613 (.iaload) 1 = true := by decide +kernel
theorem b_L_law_614_618 : bl2 mL_law 614 [(.aload_n 0, 1, 0, 0, .null), (.iload_n 3, 1, 3, 0, .null), (.iconst 2, 1, 0, 0, .int 2), (.iadd, 1, 0, 0, .null)] 618 (.iaload) 1 = true := by decide +kernel
theorem b_L_law_619_623 : bl2 mL_law 619 [(.aload_n 0, 1, 0, 0, .null), (.iload_n 3, 1, 3, 0, .null), (.iconst 3, 1, 0, 0, .int 3), (.iadd, 1, 0, 0, .null)] 623 (.iaload) 1 = true := by decide +kernel
theorem b_L_law_624_624 : bl2 mL_law 624 [] 624 (.invokevirtual 81) 3 = true := by decide +kernel
theorem b_L_law_627_632 : bl2 mL_law 627 [(.aload_n 2, 1, 2, 0, .null), (.aload_n 0, 1, 0, 0, .null), (.iload_n 3, 1, 3, 0, .null), (.iconst 1, 1, 0, 0, .int 1), (.iadd, 1, 0, 0, .null)] 632 (.iaload) 1 = true := by decide +kernel
theorem b_L_law_633_637 : bl2 mL_law 633 [(.aload_n 0, 1, 0, 0, .null), (.iload_n 3, 1, 3, 0, .null), (.iconst 2, 1, 0, 0, .int 2), (.iadd, 1, 0, 0, .null)] 637 (.iaload) 1 = true := by decide +kernel
theorem b_L_law_638_642 : bl2 mL_law 638 [(.aload_n 0, 1, 0, 0, .null), (.iload_n 3, 1, 3, 0, .null), (.iconst 3, 1, 0, 0, .int 3), (.iadd, 1, 0, 0, .null)] 642 (.iaload) 1 = true := by decide +kernel
theorem b_L_law_643_643 : bl2 mL_law 643 [] 643 (.invokevirtual 84) 3 = true := by decide +kernel
theorem b_L_law_646_646 : bl2 mL_law 646 [] 646 (.if_icmp .eq 504) 3 = true := by decide +kernel
theorem b_L_law_651_656 : bl2 mL_law 651 [(.aload_n 1, 1, 1, 0, .null), (.aload_n 0, 1, 0, 0, .null), (.iload_n 3, 1, 3, 0, .null), (.iconst 1, 1, 0, 0, .int 1), (.iadd, 1, 0, 0, .null)] 656 (.iaload) 1 = true := by decide +kernel
theorem b_L_law_657_661 : bl2 mL_law 657 [(.aload_n 0, 1, 0, 0, .null), (.iload_n 3, 1, 3, 0, .null), (.iconst 2, 1, 0, 0, .int 2), (.iadd, 1, 0, 0, .null)] 661 (.iaload) 1 = true := by decide +kernel
theorem b_L_law_662_662 : bl2 mL_law 662 [] 662 (.invokevirtual 85) 3 = true := by decide +kernel
theorem b_L_law_665_670 : bl2 mL_law 665 [(.aload_n 2, 1, 2, 0, .null), (.aload_n 0, 1, 0, 0, .null), (.iload_n 3, 1, 3, 0, .null), (.iconst 1, 1, 0, 0, .int 1), (.iadd, 1, 0, 0, .null)] 670 (.iaload) 1 = true := by decide +kernel
theorem b_L_law_671_675 : bl2 mL_law 671 [(.aload_n 0, 1, 0, 0, .null), (.iload_n 3, 1, 3, 0, .null), (.iconst 2, 1, 0, 0, .int 2), (.iadd, 1, 0, 0, .null)] 675 (.iaload) 1 = true := by decide +kernel
theorem b_L_law_676_676 : bl2 mL_law 676 [] 676 (.invokevirtual 88) 3 = true := by decide +kernel
theorem b_L_law_679_679 : bl2 mL_law 679 [] 679 (.if_icmp .eq 471) 3 = true := by decide +kernel
theorem b_L_law_684_689 : bl2 mL_law 684 [(.aload_n 1, 1, 1, 0, .null), (.aload_n 0, 1, 0, 0, .null), (.iload_n 3, 1, 3, 0, .null), (.iconst 1, 1, 0, 0, .int 1), (.iadd, 1, 0, 0, .null)] 689 (.iaload) 1 = true := by decide +kernel
theorem b_L_law_690_690 : bl2 mL_law 690 [] 690 (.invokevirtual 89) 3 = true := by decide +kernel
theorem b_L_law_693_698 : bl2 mL_law 693 [(.aload_n 2, 1, 2, 0, .null), (.aload_n 0, 1, 0, 0, .null), (.iload_n 3, 1, 3, 0, .null), (.iconst 1, 1, 0, 0, .int 1), (.iadd, 1, 0, 0, .null)] 698 (.iaload) 1 = true := by decide +kernel
theorem b_L_law_699_699 : bl2 mL_law 699 [] 699 (.invokevirtual 92) 3 = true := by decide +kernel
theorem b_L_law_702_702 : bl2 mL_law 702 [] 702 (.if_icmp .eq 448) 3 = true := by decide +kernel
theorem b_L_law_707_708 : bl2 mL_law 707 [(.aload_n 1, 1, 1, 0, .null)] 708 (.invokevirtual 93) 3 = true := by decide +kernel
theorem b_L_law_711_712 : bl2 mL_law 711 [(.aload_n 2, 1, 2, 0, .null)] 712 (.invokevirtual 96) 3 = true := by decide +kernel
theorem b_L_law_715_715 : bl2 mL_law 715 [] 715 (.if_icmp .eq 435) 3 = true := by decide +kernel
theorem b_L_law_720_721 : bl2 mL_law 720 [(.aload_n 1, 1, 1, 0, .null)] 721 (.invokevirtual 97) 3 = true := by decide +kernel
theorem b_L_law_724_725 : bl2 mL_law 724 [(.aload_n 2, 1, 2, 0, .null)] 725 (.invokevirtual 100) 3 = true := by decide +kernel
theorem b_L_law_728_728 : bl2 mL_law 728 [] 728 (.if_icmp .eq 422) 3 = true := by decide +kernel
theorem b_L_law_733_738 : bl2 mL_law 733 [(.aload_n 1, 1, 1, 0, .null), (.aload_n 0, 1, 0, 0, .null), (.iload_n 3, 1, 3, 0, .null), (.iconst 1, 1, 0, 0, .int 1), (.iadd, 1, 0, 0, .null)] 738 (.iaload) 1 = true := by decide +kernel
theorem b_L_law_739_739 : bl2 mL_law 739 [] 739 (.invokevirtual 101) 3 = true := by decide +kernel
theorem b_L_law_742_747 : bl2 mL_law 742 [(.aload_n 2, 1, 2, 0, .null), (.aload_n 0, 1, 0, 0, .null), (.iload_n 3, 1, 3, 0, .null), (.iconst 1, 1, 0, 0, .int 1), (.iadd, 1, 0, 0, .null)] 747 (.iaload) 1 = true := by decide +kernel
theorem b_L_law_748_748 : bl2 mL_law 748 [] 748 (.invokevirtual 104) 3 = true := by decide +kernel
theorem b_L_law_751_751 : bl2 mL_law 751 [] 751 (.if_icmp .eq 399) 3 = true := by decide +kernel
theorem b_L_law_756_761 : bl2 mL_law 756 [(.aload_n 1, 1, 1, 0, .null), (.aload_n 0, 1, 0, 0, .null), (.iload_n 3, 1, 3, 0, .null), (.iconst 1, 1, 0, 0, .int 1), (.iadd, 1, 0, 0, .null)] 761 (.iaload) 1 = true := by decide +kernel
theorem b_L_law_762_766 : bl2 mL_law 762 [(.aload_n 0, 1, 0, 0, .null), (.iload_n 3, 1, 3, 0, .null), (.iconst 2, 1, 0, 0, .int 2), (.iadd, 1, 0, 0, .null)] 766 (.iaload) 1 = true := by decide +kernel
theorem b_L_law_767_771 : bl2 mL_law 767 [(.aload_n 0, 1, 0, 0, .null), (.iload_n 3, 1, 3, 0, .null), (.iconst 3, 1, 0, 0, .int 3), (.iadd, 1, 0, 0, .null)] 771 (.iaload) 1 = true := by decide +kernel
theorem b_L_law_772_772 : bl2 mL_law 772 [] 772 (.invokevirtual 105) 3 = true := by decide +kernel
theorem b_L_law_775_780 : bl2 mL_law 775 [(.aload_n 2, 1, 2, 0, .null), (.aload_n 0, 1, 0, 0, .null), (.iload_n 3, 1, 3, 0, .null), (.iconst 1, 1, 0, 0, .int 1), (.iadd, 1, 0, 0, .null)] 780 (.iaload) 1 = true := by decide +kernel
theorem b_L_law_781_785 : bl2 mL_law 781 [(.aload_n 0, 1, 0, 0, .null), (.iload_n 3, 1, 3, 0, .null), (.iconst 2, 1, 0, 0, .int 2), (.iadd, 1, 0, 0, .null)] 785 (.iaload) 1 = true := by decide +kernel
theorem b_L_law_786_790 : bl2 mL_law 786 [(.aload_n 0, 1, 0, 0, .null), (.iload_n 3, 1, 3, 0, .null), (.iconst 3, 1, 0, 0, .int 3), (.iadd, 1, 0, 0, .null)] 790 (.iaload) 1 = true := by decide +kernel
theorem b_L_law_791_791 : bl2 mL_law 791 [] 791 (.invokevirtual 108) 3 = true := by decide +kernel
theorem b_L_law_794_794 : bl2 mL_law 794 [] 794 (.if_icmp .eq 356) 3 = true := by decide +kernel
theorem b_L_law_799_804 : bl2 mL_law 799 [(.aload_n 1, 1, 1, 0, .null), (.aload_n 0, 1, 0, 0, .null), (.iload_n 3, 1, 3, 0, .null), (.iconst 1, 1, 0, 0, .int 1), (.iadd, 1, 0, 0, .null)] 804 (.iaload) 1 = true := by decide +kernel
theorem b_L_law_805_805 : bl2 mL_law 805 [] 805 (.invokevirtual 109) 3 = true := by decide +kernel
theorem b_L_law_808_813 : bl2 mL_law 808 [(.aload_n 2, 1, 2, 0, .null), (.aload_n 0, 1, 0, 0, .null), (.iload_n 3, 1, 3, 0, .null), (.iconst 1, 1, 0, 0, .int 1), (.iadd, 1, 0, 0, .null)] 813 (.iaload) 1 = true := by decide +kernel
theorem b_L_law_814_814 : bl2 mL_law 814 [] 814 (.invokevirtual 112) 3 = true := by decide +kernel
theorem b_L_law_817_817 : bl2 mL_law 817 [] 817 (.if_icmp .eq 333) 3 = true := by decide +kernel
theorem b_L_law_822_827 : bl2 mL_law 822 [(.aload_n 1, 1, 1, 0, .null), (.aload_n 0, 1, 0, 0, .null), (.iload_n 3, 1, 3, 0, .null), (.iconst 1, 1, 0, 0, .int 1), (.iadd, 1, 0, 0, .null)] 827 (.iaload) 1 = true := by decide +kernel
theorem b_L_law_828_832 : bl2 mL_law 828 [(.aload_n 0, 1, 0, 0, .null), (.iload_n 3, 1, 3, 0, .null), (.iconst 2, 1, 0, 0, .int 2), (.iadd, 1, 0, 0, .null)] 832 (.iaload) 1 = true := by decide +kernel
theorem b_L_law_833_837 : bl2 mL_law 833 [(.aload_n 0, 1, 0, 0, .null), (.iload_n 3, 1, 3, 0, .null), (.iconst 3, 1, 0, 0, .int 3), (.iadd, 1, 0, 0, .null)] 837 (.iaload) 1 = true := by decide +kernel
theorem b_L_law_838_838 : bl2 mL_law 838 [] 838 (.invokevirtual 113) 3 = true := by decide +kernel
theorem b_L_law_841_846 : bl2 mL_law 841 [(.aload_n 2, 1, 2, 0, .null), (.aload_n 0, 1, 0, 0, .null), (.iload_n 3, 1, 3, 0, .null), (.iconst 1, 1, 0, 0, .int 1), (.iadd, 1, 0, 0, .null)] 846 (.iaload) 1 = true := by decide +kernel
theorem b_L_law_847_851 : bl2 mL_law 847 [(.aload_n 0, 1, 0, 0, .null), (.iload_n 3, 1, 3, 0, .null), (.iconst 2, 1, 0, 0, .int 2), (.iadd, 1, 0, 0, .null)] 851 (.iaload) 1 = true := by decide +kernel
theorem b_L_law_852_856 : bl2 mL_law 852 [(.aload_n 0, 1, 0, 0, .null), (.iload_n 3, 1, 3, 0, .null), (.iconst 3, 1, 0, 0, .int 3), (.iadd, 1, 0, 0, .null)] 856 (.iaload) 1 = true := by decide +kernel
theorem b_L_law_857_857 : bl2 mL_law 857 [] 857 (.invokevirtual 116) 3 = true := by decide +kernel
theorem b_L_law_860_860 : bl2 mL_law 860 [] 860 (.if_icmp .eq 290) 3 = true := by decide +kernel
theorem b_L_law_865_870 : bl2 mL_law 865 [(.aload_n 1, 1, 1, 0, .null), (.aload_n 0, 1, 0, 0, .null), (.iload_n 3, 1, 3, 0, .null), (.iconst 1, 1, 0, 0, .int 1), (.iadd, 1, 0, 0, .null)] 870 (.iaload) 1 = true := by decide +kernel
theorem b_L_law_871_875 : bl2 mL_law 871 [(.aload_n 0, 1, 0, 0, .null), (.iload_n 3, 1, 3, 0, .null), (.iconst 2, 1, 0, 0, .int 2), (.iadd, 1, 0, 0, .null)] 875 (.iaload) 1 = true := by decide +kernel
theorem b_L_law_876_880 : bl2 mL_law 876 [(.aload_n 0, 1, 0, 0, .null), (.iload_n 3, 1, 3, 0, .null), (.iconst 3, 1, 0, 0, .int 3), (.iadd, 1, 0, 0, .null)] 880 (.iaload) 1 = true := by decide +kernel
theorem b_L_law_881_881 : bl2 mL_law 881 [] 881 (.invokevirtual 117) 3 = true := by decide +kernel
theorem b_L_law_884_889 : bl2 mL_law 884 [(.aload_n 2, 1, 2, 0, .null), (.aload_n 0, 1, 0, 0, .null), (.iload_n 3, 1, 3, 0, .null), (.iconst 1, 1, 0, 0, .int 1), (.iadd, 1, 0, 0, .null)] 889 (.iaload) 1 = true := by decide +kernel
theorem b_L_law_890_894 : bl2 mL_law 890 [(.aload_n 0, 1, 0, 0, .null), (.iload_n 3, 1, 3, 0, .null), (.iconst 2, 1, 0, 0, .int 2), (.iadd, 1, 0, 0, .null)] 894 (.iaload) 1 = true := by decide +kernel
theorem b_L_law_895_899 : bl2 mL_law 895 [(.aload_n 0, 1, 0, 0, .null), (.iload_n 3, 1, 3, 0, .null), (.iconst 3, 1, 0, 0, .int 3), (.iadd, 1, 0, 0, .null)] 899 (.iaload) 1 = true := by decide +kernel
theorem b_L_law_900_900 : bl2 mL_law 900 [] 900 (.invokevirtual 120) 3 = true := by decide +kernel
theorem b_L_law_903_903 : bl2 mL_law 903 [] 903 (.if_icmp .eq 247) 3 = true := by decide +kernel
theorem b_L_law_908_913 : bl2 mL_law 908 [(.aload_n 1, 1, 1, 0, .null), (.aload_n 0, 1, 0, 0, .null), (.iload_n 3, 1, 3, 0, .null), (.iconst 1, 1, 0, 0, .int 1), (.iadd, 1, 0, 0, .null)] 913 (.iaload) 1 = true := by decide +kernel
theorem b_L_law_914_914 : bl2 mL_law 914 [] 914 (.invokevirtual 121) 3 = true := by decide +kernel
theorem b_L_law_917_922 : bl2 mL_law 917 [(.aload_n 2, 1, 2, 0, .null), (.aload_n 0, 1, 0, 0, .null), (.iload_n 3, 1, 3, 0, .null), (.iconst 1, 1, 0, 0, .int 1), (.iadd, 1, 0, 0, .null)] 922 (.iaload) 1 = true := by decide +kernel
theorem b_L_law_923_923 : bl2 mL_law 923 [] 923 (.invokevirtual 124) 3 = true := by decide +kernel
theorem b_L_law_926_926 : bl2 mL_law 926 [] 926 (.if_icmp .eq 224) 3 = true := by decide +kernel
theorem b_L_law_931_936 : bl2 mL_law 931 [(.aload_n 1, 1, 1, 0, .null), (.aload_n 0, 1, 0, 0, .null), (.iload_n 3, 1, 3, 0, .null), (.iconst 1, 1, 0, 0, .int 1), (.iadd, 1, 0, 0, .null)] 936 (.iaload) 1 = true := by decide +kernel
theorem b_L_law_937_941 : bl2 mL_law 937 [(.aload_n 0, 1, 0, 0, .null), (.iload_n 3, 1, 3, 0, .null), (.iconst 2, 1, 0, 0, .int 2), (.iadd, 1, 0, 0, .null)] 941 (.iaload) 1 = true := by decide +kernel
theorem b_L_law_942_946 : bl2 mL_law 942 [(.aload_n 0, 1, 0, 0, .null), (.iload_n 3, 1, 3, 0, .null), (.iconst 3, 1, 0, 0, .int 3), (.iadd, 1, 0, 0, .null)] 946 (.iaload) 1 = true := by decide +kernel
theorem b_L_law_947_951 : bl2 mL_law 947 [(.aload_n 0, 1, 0, 0, .null), (.iload_n 3, 1, 3, 0, .null), (.iconst 4, 1, 0, 0, .int 4), (.iadd, 1, 0, 0, .null)] 951 (.iaload) 1 = true := by decide +kernel
theorem b_L_law_952_952 : bl2 mL_law 952 [] 952 (.invokevirtual 125) 3 = true := by decide +kernel
theorem b_L_law_955_960 : bl2 mL_law 955 [(.aload_n 2, 1, 2, 0, .null), (.aload_n 0, 1, 0, 0, .null), (.iload_n 3, 1, 3, 0, .null), (.iconst 1, 1, 0, 0, .int 1), (.iadd, 1, 0, 0, .null)] 960 (.iaload) 1 = true := by decide +kernel
theorem b_L_law_961_965 : bl2 mL_law 961 [(.aload_n 0, 1, 0, 0, .null), (.iload_n 3, 1, 3, 0, .null), (.iconst 2, 1, 0, 0, .int 2), (.iadd, 1, 0, 0, .null)] 965 (.iaload) 1 = true := by decide +kernel
theorem b_L_law_966_970 : bl2 mL_law 966 [(.aload_n 0, 1, 0, 0, .null), (.iload_n 3, 1, 3, 0, .null), (.iconst 3, 1, 0, 0, .int 3), (.iadd, 1, 0, 0, .null)] 970 (.iaload) 1 = true := by decide +kernel
theorem b_L_law_971_975 : bl2 mL_law 971 [(.aload_n 0, 1, 0, 0, .null), (.iload_n 3, 1, 3, 0, .null), (.iconst 4, 1, 0, 0, .int 4), (.iadd, 1, 0, 0, .null)] 975 (.iaload) 1 = true := by decide +kernel
theorem b_L_law_976_976 : bl2 mL_law 976 [] 976 (.invokevirtual 129) 3 = true := by decide +kernel
theorem b_L_law_979_979 : bl2 mL_law 979 [] 979 (.if_icmp .eq 171) 3 = true := by decide +kernel
theorem b_L_law_984_989 : bl2 mL_law 984 [(.aload_n 1, 1, 1, 0, .null), (.aload_n 0, 1, 0, 0, .null), (.iload_n 3, 1, 3, 0, .null), (.iconst 1, 1, 0, 0, .int 1), (.iadd, 1, 0, 0, .null)] 989 (.iaload) 1 = true := by decide +kernel
theorem b_L_law_990_994 : bl2 mL_law 990 [(.aload_n 0, 1, 0, 0, .null), (.iload_n 3, 1, 3, 0, .null), (.iconst 2, 1, 0, 0, .int 2), (.iadd, 1, 0, 0, .null)] 994 (.iaload) 1 = true := by decide +kernel
theorem b_L_law_995_999 : bl2 mL_law 995 [(.aload_n 0, 1, 0, 0, .null), (.iload_n 3, 1, 3, 0, .null), (.iconst 3, 1, 0, 0, .int 3), (.iadd, 1, 0, 0, .null)] 999 (.iaload) 1 = true := by decide +kernel
theorem b_L_law_1000_1000 : bl2 mL_law 1000 [] 1000 (.invokevirtual 130) 3 = true := by decide +kernel
theorem b_L_law_1003_1008 : bl2 mL_law 1003 [(.aload_n 2, 1, 2, 0, .null), (.aload_n 0, 1, 0, 0, .null), (.iload_n 3, 1, 3, 0, .null), (.iconst 1, 1, 0, 0, .int 1), (.iadd, 1, 0, 0, .null)] 1008 (.iaload) 1 = true := by decide +kernel
theorem b_L_law_1009_1013 : bl2 mL_law 1009 [(.aload_n 0, 1, 0, 0, .null), (.iload_n 3, 1, 3, 0, .null), (.iconst 2, 1, 0, 0, .int 2), (.iadd, 1, 0, 0, .null)] 1013 (.iaload) 1 = true := by decide +kernel
theorem b_L_law_1014_1018 : bl2 mL_law 1014 [(.aload_n 0, 1, 0, 0, .null), (.iload_n 3, 1, 3, 0, .null), (.iconst 3, 1, 0, 0, .int 3), (.iadd, 1, 0, 0, .null)] 1018 (.iaload) 1 = true := by decide +kernel
theorem b_L_law_1019_1019 : bl2 mL_law 1019 [] 1019 (.invokevirtual 133) 3 = true := by decide +kernel
theorem b_L_law_1022_1022 : bl2 mL_law 1022 [] 1022 (.if_icmp .eq 128) 3 = true := by decide +kernel
theorem b_L_law_1027_1032 : bl2 mL_law 1027 [(.aload_n 1, 1, 1, 0, .null), (.aload_n 0, 1, 0, 0, .null), (.iload_n 3, 1, 3, 0, .null), (.iconst 1, 1, 0, 0, .int 1), (.iadd, 1, 0, 0, .null)] 1032 (.iaload) 1 = true := by decide +kernel
theorem b_L_law_1033_1037 : bl2 mL_law 1033 [(.aload_n 0, 1, 0, 0, .null), (.iload_n 3, 1, 3, 0, .null), (.iconst 2, 1, 0, 0, .int 2), (.iadd, 1, 0, 0, .null)] 1037 (.iaload) 1 = true := by decide +kernel
theorem b_L_law_1038_1042 : bl2 mL_law 1038 [(.aload_n 0, 1, 0, 0, .null), (.iload_n 3, 1, 3, 0, .null), (.iconst 3, 1, 0, 0, .int 3), (.iadd, 1, 0, 0, .null)] 1042 (.iaload) 1 = true := by decide +kernel
theorem b_L_law_1043_1047 : bl2 mL_law 1043 [(.aload_n 0, 1, 0, 0, .null), (.iload_n 3, 1, 3, 0, .null), (.iconst 4, 1, 0, 0, .int 4), (.iadd, 1, 0, 0, .null)] 1047 (.iaload) 1 = true := by decide +kernel
theorem b_L_law_1048_1052 : bl2 mL_law 1048 [(.aload_n 0, 1, 0, 0, .null), (.iload_n 3, 1, 3, 0, .null), (.iconst 5, 1, 0, 0, .int 5), (.iadd, 1, 0, 0, .null)] 1052 (.iaload) 1 = true := by decide +kernel
theorem b_L_law_1053_1053 : bl2 mL_law 1053 [] 1053 (.invokevirtual 134) 3 = true := by decide +kernel
theorem b_L_law_1056_1061 : bl2 mL_law 1056 [(.aload_n 2, 1, 2, 0, .null), (.aload_n 0, 1, 0, 0, .null), (.iload_n 3, 1, 3, 0, .null), (.iconst 1, 1, 0, 0, .int 1), (.iadd, 1, 0, 0, .null)] 1061 (.iaload) 1 = true := by decide +kernel
theorem b_L_law_1062_1066 : bl2 mL_law 1062 [(.aload_n 0, 1, 0, 0, .null), (.iload_n 3, 1, 3, 0, .null), (.iconst 2, 1, 0, 0, .int 2), (.iadd, 1, 0, 0, .null)] 1066 (.iaload) 1 = true := by decide +kernel
theorem b_L_law_1067_1071 : bl2 mL_law 1067 [(.aload_n 0, 1, 0, 0, .null), (.iload_n 3, 1, 3, 0, .null), (.iconst 3, 1, 0, 0, .int 3), (.iadd, 1, 0, 0, .null)] 1071 (.iaload) 1 = true := by decide +kernel
theorem b_L_law_1072_1076 : bl2 mL_law 1072 [(.aload_n 0, 1, 0, 0, .null), (.iload_n 3, 1, 3, 0, .null), (.iconst 4, 1, 0, 0, .int 4), (.iadd, 1, 0, 0, .null)] 1076 (.iaload) 1 = true := by decide +kernel
theorem b_L_law_1077_1081 : bl2 mL_law 1077 [(.aload_n 0, 1, 0, 0, .null), (.iload_n 3, 1, 3, 0, .null), (.iconst 5, 1, 0, 0, .int 5), (.iadd, 1, 0, 0, .null)] 1081 (.iaload) 1 = true := by decide +kernel
theorem b_L_law_1082_1082 : bl2 mL_law 1082 [] 1082 (.invokevirtual 138) 3 = true := by decide +kernel
theorem b_L_law_1085_1085 : bl2 mL_law 1085 [] 1085 (.if_icmp .eq 65) 3 = true := by decide +kernel
theorem b_L_law_1090_1095 : bl2 mL_law 1090 [(.aload_n 1, 1, 1, 0, .null), (.aload_n 0, 1, 0, 0, .null), (.iload_n 3, 1, 3, 0, .null), (.iconst 1, 1, 0, 0, .int 1), (.iadd, 1, 0, 0, .null)] 1095 (.iaload) 1 = true := by decide +kernel
theorem b_L_law_1096_1096 : bl2 mL_law 1096 [] 1096 (.invokevirtual 139) 3 = true := by decide +kernel
theorem b_L_law_1099_1104 : bl2 mL_law 1099 [(.aload_n 2, 1, 2, 0, .null), (.aload_n 0, 1, 0, 0, .null), (.iload_n 3, 1, 3, 0, .null), (.iconst 1, 1, 0, 0, .int 1), (.iadd, 1, 0, 0, .null)] 1104 (.iaload) 1 = true := by decide +kernel
theorem b_L_law_1105_1105 : bl2 mL_law 1105 [] 1105 (.invokevirtual 142) 3 = true := by decide +kernel
theorem b_L_law_1108_1108 : bl2 mL_law 1108 [] 1108 (.if_icmp .eq 42) 3 = true := by decide +kernel
theorem b_L_law_1113_1118 : bl2 mL_law 1113 [(.aload_n 1, 1, 1, 0, .null), (.aload_n 0, 1, 0, 0, .null), (.iload_n 3, 1, 3, 0, .null), (.iconst 1, 1, 0, 0, .int 1), (.iadd, 1, 0, 0, .null)] 1118 (.iaload) 1 = true := by decide +kernel
theorem b_L_law_1119_1119 : bl2 mL_law 1119 [] 1119 (.invokevirtual 143) 3 = true := by decide +kernel
theorem b_L_law_1122_1127 : bl2 mL_law 1122 [(.aload_n 2, 1, 2, 0, .null), (.aload_n 0, 1, 0, 0, .null), (.iload_n 3, 1, 3, 0, .null), (.iconst 1, 1, 0, 0, .int 1), (.iadd, 1, 0, 0, .null)] 1127 (.iaload) 1 = true := by decide +kernel
theorem b_L_law_1128_1128 : bl2 mL_law 1128 [] 1128 (.invokevirtual 146) 3 = true := by decide +kernel
theorem b_L_law_1131_1131 : bl2 mL_law 1131 [] 1131 (.if_icmp .eq 19) 3 = true := by decide +kernel
theorem b_L_law_1136_1137 : bl2 mL_law 1136 [(.aload_n 1, 1, 1, 0, .null)] 1137 (.invokevirtual 147) 3 = true := by decide +kernel
theorem b_L_law_1140_1141 : bl2 mL_law 1140 [(.aload_n 2, 1, 2, 0, .null)] 1141 (.invokevirtual 151) 3 = true := by decide +kernel
theorem b_L_law_1144_1145 : bl2 mL_law 1144 [(.lcmp, 1, 0, 0, .null)] 1145 (.ifCond .eq 5) 3 = true := by decide +kernel
set_option maxRecDepth 20000 in
set_option maxHeartbeats 1000000 in
theorem law_type {E : EE} {L : Nat} {c0 s0 : Nat} {F : FF} {Q : Q2} {l0 l1 n m j : Nat} (hI : IV F l0 l1 n m) (hj : j + 6 ≤ L) (hL : L ≤ 3072) (ex : ∀ F1 : FF, INV F1 → R3 E L mL_law c0 s0 20 1150 [some (.ref 0), some (.ref 5), some (.ref 48), some (.int (nI j))] [] F1 Q) : R3 E L mL_law c0 s0 20 180 [some (.ref 0), some (.ref 5), some (.ref 48), some (.int (nI j))] [] F Q := by
  obtain ⟨d1, hd1, hp⟩ := pr_type (E := E) (L := L) hI (F 0 (j + 1)) (F 0 (j + 2))
  refine R3.B (ls2 := [some (.ref 0), some (.ref 5), some (.ref 48), some (.int (nI j))]) (st2 := [.int ((nI j) + 1), .ref 0, .ref 5]) b_L_law_180_185 rfl (fun hd => ?_)
  rw [show ((nI j) + 1 : Int32) = nI (j + 1) from nI_add j 1]
  refine R3.iald (j + 1) rfl hd rfl (fun _ => rfl) (by omega) (by omega) ?_
  refine R3.B (ls2 := [some (.ref 0), some (.ref 5), some (.ref 48), some (.int (nI j))]) (st2 := [.int ((nI j) + 2), .ref 0, .int (F 0 (j + 1)), .ref 5]) b_L_law_186_190 rfl (fun hd => ?_)
  rw [show ((nI j) + 2 : Int32) = nI (j + 2) from nI_add j 2]
  refine R3.iald (j + 2) rfl hd rfl (fun _ => rfl) (by omega) (by omega) ?_
  refine R3.B (ls2 := [some (.ref 0), some (.ref 5), some (.ref 48), some (.int (nI j))]) (st2 := [.int (F 0 (j + 2)), .int (F 0 (j + 1)), .ref 5]) b_L_law_191_191 rfl (fun hd => ?_)
  refine R3.callV (M2 := mX10_type) (As := [.int (F 0 (j + 1)), .int (F 0 (j + 2))]) (rest := []) hd lk_12_13 okX10_type (by decide) rfl (Ev2.scr hp) (by omega) rfl rfl (Nat.le_of_ble_eq_true rfl) (fun r1 F1 h1 => ?_)
  obtain ⟨⟨v, d2, hd2, e1, hq⟩, hsc⟩ := h1
  subst e1
  refine R3.B (ls2 := [some (.ref 0), some (.ref 5), some (.ref 48), some (.int (nI j))]) (st2 := [.int ((nI j) + 1), .ref 0, .ref 48, .int v]) b_L_law_194_199 rfl (fun hd => ?_)
  rw [show ((nI j) + 1 : Int32) = nI (j + 1) from nI_add j 1]
  refine R3.iald (j + 1) rfl hd rfl (fun _ => rfl) (by omega) (by omega) ?_
  refine R3.top (show (F1 0 (j + 1) : Int32) = F 0 (j + 1) from hsc _ (by omega)) ?_
  refine R3.B (ls2 := [some (.ref 0), some (.ref 5), some (.ref 48), some (.int (nI j))]) (st2 := [.int ((nI j) + 2), .ref 0, .int (F 0 (j + 1)), .ref 48, .int v]) b_L_law_200_204 rfl (fun hd => ?_)
  rw [show ((nI j) + 2 : Int32) = nI (j + 2) from nI_add j 2]
  refine R3.iald (j + 2) rfl hd rfl (fun _ => rfl) (by omega) (by omega) ?_
  refine R3.top (show (F1 0 (j + 2) : Int32) = F 0 (j + 2) from hsc _ (by omega)) ?_
  refine R3.B (ls2 := [some (.ref 0), some (.ref 5), some (.ref 48), some (.int (nI j))]) (st2 := [.int (F 0 (j + 2)), .int (F 0 (j + 1)), .ref 48, .int v]) b_L_law_205_205 rfl (fun hd => ?_)
  refine R3.callV (M2 := mX11_type) (As := [.int (F 0 (j + 1)), .int (F 0 (j + 2))]) (rest := [.int v]) hd lk_12_17 okX11_type (by decide) rfl (hq) (by omega) rfl rfl (Nat.le_of_ble_eq_true rfl) (fun r2 F2 h2 => ?_)
  obtain ⟨e2, hI2⟩ := h2
  subst e2
  refine R3.B (ls2 := [some (.ref 0), some (.ref 5), some (.ref 48), some (.int (nI j))]) (st2 := [.int v, .int v]) b_L_law_208_208 rfl (fun hd => ?_)
  refine R3.icmp_eq 1150 hd (by decide) (fun c208 => ?_) (fun c208 => absurd (rfl) c208)
  refine R3.B (ls2 := [some (.ref 0), some (.ref 5), some (.ref 48), some (.int (nI j))]) (st2 := []) b_L_law_1150_1150 rfl (fun hd => ?_)
  exact ex _ hI2
set_option maxRecDepth 20000 in
set_option maxHeartbeats 1000000 in
theorem law_wipe {E : EE} {L : Nat} {c0 s0 : Nat} {F : FF} {Q : Q2} {l0 l1 n m j : Nat} (hI : IV F l0 l1 n m) (hj : j + 6 ≤ L) (hL : L ≤ 3072) (ex : ∀ F1 : FF, INV F1 → R3 E L mL_law c0 s0 20 1150 [some (.ref 0), some (.ref 5), some (.ref 48), some (.int (nI j))] [] F1 Q) : R3 E L mL_law c0 s0 20 213 [some (.ref 0), some (.ref 5), some (.ref 48), some (.int (nI j))] [] F Q := by
  obtain ⟨d1, hd1, hp⟩ := pr_wipe (E := E) (L := L) hI (F 0 (j + 1))
  refine R3.B (ls2 := [some (.ref 0), some (.ref 5), some (.ref 48), some (.int (nI j))]) (st2 := [.int ((nI j) + 1), .ref 0, .ref 5]) b_L_law_213_218 rfl (fun hd => ?_)
  rw [show ((nI j) + 1 : Int32) = nI (j + 1) from nI_add j 1]
  refine R3.iald (j + 1) rfl hd rfl (fun _ => rfl) (by omega) (by omega) ?_
  refine R3.B (ls2 := [some (.ref 0), some (.ref 5), some (.ref 48), some (.int (nI j))]) (st2 := [.int (F 0 (j + 1)), .ref 5]) b_L_law_219_219 rfl (fun hd => ?_)
  refine R3.callV (M2 := mX10_wipe) (As := [.int (F 0 (j + 1))]) (rest := []) hd lk_12_18 okX10_wipe (by decide) rfl (Ev2.scr hp) (by omega) rfl rfl (Nat.le_of_ble_eq_true rfl) (fun r1 F1 h1 => ?_)
  obtain ⟨⟨v, d2, hd2, e1, hq⟩, hsc⟩ := h1
  subst e1
  refine R3.B (ls2 := [some (.ref 0), some (.ref 5), some (.ref 48), some (.int (nI j))]) (st2 := [.int ((nI j) + 1), .ref 0, .ref 48, .int v]) b_L_law_222_227 rfl (fun hd => ?_)
  rw [show ((nI j) + 1 : Int32) = nI (j + 1) from nI_add j 1]
  refine R3.iald (j + 1) rfl hd rfl (fun _ => rfl) (by omega) (by omega) ?_
  refine R3.top (show (F1 0 (j + 1) : Int32) = F 0 (j + 1) from hsc _ (by omega)) ?_
  refine R3.B (ls2 := [some (.ref 0), some (.ref 5), some (.ref 48), some (.int (nI j))]) (st2 := [.int (F 0 (j + 1)), .ref 48, .int v]) b_L_law_228_228 rfl (fun hd => ?_)
  refine R3.callV (M2 := mX11_wipe) (As := [.int (F 0 (j + 1))]) (rest := [.int v]) hd lk_12_22 okX11_wipe (by decide) rfl (hq) (by omega) rfl rfl (Nat.le_of_ble_eq_true rfl) (fun r2 F2 h2 => ?_)
  obtain ⟨e2, hI2⟩ := h2
  subst e2
  refine R3.B (ls2 := [some (.ref 0), some (.ref 5), some (.ref 48), some (.int (nI j))]) (st2 := [.int v, .int v]) b_L_law_231_231 rfl (fun hd => ?_)
  refine R3.icmp_eq 1150 hd (by decide) (fun c231 => ?_) (fun c231 => absurd (rfl) c231)
  refine R3.B (ls2 := [some (.ref 0), some (.ref 5), some (.ref 48), some (.int (nI j))]) (st2 := []) b_L_law_1150_1150 rfl (fun hd => ?_)
  exact ex _ hI2
set_option maxRecDepth 20000 in
set_option maxHeartbeats 1000000 in
theorem law_fault {E : EE} {L : Nat} {c0 s0 : Nat} {F : FF} {Q : Q2} {l0 l1 n m j : Nat} (hI : IV F l0 l1 n m) (hj : j + 6 ≤ L) (hL : L ≤ 3072) (ex : ∀ F1 : FF, INV F1 → R3 E L mL_law c0 s0 20 1150 [some (.ref 0), some (.ref 5), some (.ref 48), some (.int (nI j))] [] F1 Q) : R3 E L mL_law c0 s0 20 236 [some (.ref 0), some (.ref 5), some (.ref 48), some (.int (nI j))] [] F Q := by
  obtain ⟨d1, hd1, hp⟩ := pr_fault (E := E) (L := L) hI (F 0 (j + 1))
  refine R3.B (ls2 := [some (.ref 0), some (.ref 5), some (.ref 48), some (.int (nI j))]) (st2 := [.int ((nI j) + 1), .ref 0, .ref 5]) b_L_law_236_241 rfl (fun hd => ?_)
  rw [show ((nI j) + 1 : Int32) = nI (j + 1) from nI_add j 1]
  refine R3.iald (j + 1) rfl hd rfl (fun _ => rfl) (by omega) (by omega) ?_
  refine R3.B (ls2 := [some (.ref 0), some (.ref 5), some (.ref 48), some (.int (nI j))]) (st2 := [.int (F 0 (j + 1)), .ref 5]) b_L_law_242_242 rfl (fun hd => ?_)
  refine R3.callV (M2 := mX10_fault) (As := [.int (F 0 (j + 1))]) (rest := []) hd lk_12_23 okX10_fault (by decide) rfl (Ev2.scr hp) (by omega) rfl rfl (Nat.le_of_ble_eq_true rfl) (fun r1 F1 h1 => ?_)
  obtain ⟨⟨v, d2, hd2, e1, hq⟩, hsc⟩ := h1
  subst e1
  refine R3.B (ls2 := [some (.ref 0), some (.ref 5), some (.ref 48), some (.int (nI j))]) (st2 := [.int ((nI j) + 1), .ref 0, .ref 48, .int v]) b_L_law_245_250 rfl (fun hd => ?_)
  rw [show ((nI j) + 1 : Int32) = nI (j + 1) from nI_add j 1]
  refine R3.iald (j + 1) rfl hd rfl (fun _ => rfl) (by omega) (by omega) ?_
  refine R3.top (show (F1 0 (j + 1) : Int32) = F 0 (j + 1) from hsc _ (by omega)) ?_
  refine R3.B (ls2 := [some (.ref 0), some (.ref 5), some (.ref 48), some (.int (nI j))]) (st2 := [.int (F 0 (j + 1)), .ref 48, .int v]) b_L_law_251_251 rfl (fun hd => ?_)
  refine R3.callV (M2 := mX11_fault) (As := [.int (F 0 (j + 1))]) (rest := [.int v]) hd lk_12_26 okX11_fault (by decide) rfl (hq) (by omega) rfl rfl (Nat.le_of_ble_eq_true rfl) (fun r2 F2 h2 => ?_)
  obtain ⟨e2, hI2⟩ := h2
  subst e2
  refine R3.B (ls2 := [some (.ref 0), some (.ref 5), some (.ref 48), some (.int (nI j))]) (st2 := [.int v, .int v]) b_L_law_254_254 rfl (fun hd => ?_)
  refine R3.icmp_eq 1150 hd (by decide) (fun c254 => ?_) (fun c254 => absurd (rfl) c254)
  refine R3.B (ls2 := [some (.ref 0), some (.ref 5), some (.ref 48), some (.int (nI j))]) (st2 := []) b_L_law_1150_1150 rfl (fun hd => ?_)
  exact ex _ hI2
set_option maxRecDepth 20000 in
set_option maxHeartbeats 1000000 in
theorem law_set {E : EE} {L : Nat} {c0 s0 : Nat} {F : FF} {Q : Q2} {l0 l1 n m j : Nat} (hI : IV F l0 l1 n m) (hj : j + 6 ≤ L) (hL : L ≤ 3072) (ex : ∀ F1 : FF, INV F1 → R3 E L mL_law c0 s0 20 1150 [some (.ref 0), some (.ref 5), some (.ref 48), some (.int (nI j))] [] F1 Q) : R3 E L mL_law c0 s0 20 259 [some (.ref 0), some (.ref 5), some (.ref 48), some (.int (nI j))] [] F Q := by
  obtain ⟨d1, hd1, hp⟩ := pr_set (E := E) (L := L) hI (F 0 (j + 1)) (F 0 (j + 2))
  refine R3.B (ls2 := [some (.ref 0), some (.ref 5), some (.ref 48), some (.int (nI j))]) (st2 := [.int ((nI j) + 1), .ref 0, .ref 5]) b_L_law_259_264 rfl (fun hd => ?_)
  rw [show ((nI j) + 1 : Int32) = nI (j + 1) from nI_add j 1]
  refine R3.iald (j + 1) rfl hd rfl (fun _ => rfl) (by omega) (by omega) ?_
  refine R3.B (ls2 := [some (.ref 0), some (.ref 5), some (.ref 48), some (.int (nI j))]) (st2 := [.int ((nI j) + 2), .ref 0, .int (F 0 (j + 1)), .ref 5]) b_L_law_265_269 rfl (fun hd => ?_)
  rw [show ((nI j) + 2 : Int32) = nI (j + 2) from nI_add j 2]
  refine R3.iald (j + 2) rfl hd rfl (fun _ => rfl) (by omega) (by omega) ?_
  refine R3.B (ls2 := [some (.ref 0), some (.ref 5), some (.ref 48), some (.int (nI j))]) (st2 := [.int (F 0 (j + 2)), .int (F 0 (j + 1)), .ref 5]) b_L_law_270_270 rfl (fun hd => ?_)
  refine R3.callV (M2 := mX10_set) (As := [.int (F 0 (j + 1)), .int (F 0 (j + 2))]) (rest := []) hd lk_12_27 okX10_set (by decide) rfl (Ev2.scr hp) (by omega) rfl rfl (Nat.le_of_ble_eq_true rfl) (fun r1 F1 h1 => ?_)
  obtain ⟨⟨v, d2, hd2, e1, hq⟩, hsc⟩ := h1
  subst e1
  refine R3.B (ls2 := [some (.ref 0), some (.ref 5), some (.ref 48), some (.int (nI j))]) (st2 := [.int ((nI j) + 1), .ref 0, .ref 48, .int v]) b_L_law_273_278 rfl (fun hd => ?_)
  rw [show ((nI j) + 1 : Int32) = nI (j + 1) from nI_add j 1]
  refine R3.iald (j + 1) rfl hd rfl (fun _ => rfl) (by omega) (by omega) ?_
  refine R3.top (show (F1 0 (j + 1) : Int32) = F 0 (j + 1) from hsc _ (by omega)) ?_
  refine R3.B (ls2 := [some (.ref 0), some (.ref 5), some (.ref 48), some (.int (nI j))]) (st2 := [.int ((nI j) + 2), .ref 0, .int (F 0 (j + 1)), .ref 48, .int v]) b_L_law_279_283 rfl (fun hd => ?_)
  rw [show ((nI j) + 2 : Int32) = nI (j + 2) from nI_add j 2]
  refine R3.iald (j + 2) rfl hd rfl (fun _ => rfl) (by omega) (by omega) ?_
  refine R3.top (show (F1 0 (j + 2) : Int32) = F 0 (j + 2) from hsc _ (by omega)) ?_
  refine R3.B (ls2 := [some (.ref 0), some (.ref 5), some (.ref 48), some (.int (nI j))]) (st2 := [.int (F 0 (j + 2)), .int (F 0 (j + 1)), .ref 48, .int v]) b_L_law_284_284 rfl (fun hd => ?_)
  refine R3.callV (M2 := mX11_set) (As := [.int (F 0 (j + 1)), .int (F 0 (j + 2))]) (rest := [.int v]) hd lk_12_30 okX11_set (by decide) rfl (hq) (by omega) rfl rfl (Nat.le_of_ble_eq_true rfl) (fun r2 F2 h2 => ?_)
  obtain ⟨e2, hI2⟩ := h2
  subst e2
  refine R3.B (ls2 := [some (.ref 0), some (.ref 5), some (.ref 48), some (.int (nI j))]) (st2 := [.int v, .int v]) b_L_law_287_287 rfl (fun hd => ?_)
  refine R3.icmp_eq 1150 hd (by decide) (fun c287 => ?_) (fun c287 => absurd (rfl) c287)
  refine R3.B (ls2 := [some (.ref 0), some (.ref 5), some (.ref 48), some (.int (nI j))]) (st2 := []) b_L_law_1150_1150 rfl (fun hd => ?_)
  exact ex _ hI2
set_option maxRecDepth 20000 in
set_option maxHeartbeats 1000000 in
theorem law_person {E : EE} {L : Nat} {c0 s0 : Nat} {F : FF} {Q : Q2} {l0 l1 n m j : Nat} (hI : IV F l0 l1 n m) (hj : j + 6 ≤ L) (hL : L ≤ 3072) (ex : ∀ F1 : FF, INV F1 → R3 E L mL_law c0 s0 20 1150 [some (.ref 0), some (.ref 5), some (.ref 48), some (.int (nI j))] [] F1 Q) : R3 E L mL_law c0 s0 20 292 [some (.ref 0), some (.ref 5), some (.ref 48), some (.int (nI j))] [] F Q := by
  obtain ⟨d1, hd1, hp⟩ := pr_person (E := E) (L := L) hI (F 0 (j + 1)) (F 0 (j + 2))
  refine R3.B (ls2 := [some (.ref 0), some (.ref 5), some (.ref 48), some (.int (nI j))]) (st2 := [.int ((nI j) + 1), .ref 0, .ref 5]) b_L_law_292_297 rfl (fun hd => ?_)
  rw [show ((nI j) + 1 : Int32) = nI (j + 1) from nI_add j 1]
  refine R3.iald (j + 1) rfl hd rfl (fun _ => rfl) (by omega) (by omega) ?_
  refine R3.B (ls2 := [some (.ref 0), some (.ref 5), some (.ref 48), some (.int (nI j))]) (st2 := [.int ((nI j) + 2), .ref 0, .int (F 0 (j + 1)), .ref 5]) b_L_law_298_302 rfl (fun hd => ?_)
  rw [show ((nI j) + 2 : Int32) = nI (j + 2) from nI_add j 2]
  refine R3.iald (j + 2) rfl hd rfl (fun _ => rfl) (by omega) (by omega) ?_
  refine R3.B (ls2 := [some (.ref 0), some (.ref 5), some (.ref 48), some (.int (nI j))]) (st2 := [.int (F 0 (j + 2)), .int (F 0 (j + 1)), .ref 5]) b_L_law_303_303 rfl (fun hd => ?_)
  refine R3.callV (M2 := mX10_person) (As := [.int (F 0 (j + 1)), .int (F 0 (j + 2))]) (rest := []) hd lk_12_31 okX10_person (by decide) rfl (Ev2.scr hp) (by omega) rfl rfl (Nat.le_of_ble_eq_true rfl) (fun r1 F1 h1 => ?_)
  obtain ⟨⟨v, d2, hd2, e1, hq⟩, hsc⟩ := h1
  subst e1
  refine R3.B (ls2 := [some (.ref 0), some (.ref 5), some (.ref 48), some (.int (nI j))]) (st2 := [.int ((nI j) + 1), .ref 0, .ref 48, .int v]) b_L_law_306_311 rfl (fun hd => ?_)
  rw [show ((nI j) + 1 : Int32) = nI (j + 1) from nI_add j 1]
  refine R3.iald (j + 1) rfl hd rfl (fun _ => rfl) (by omega) (by omega) ?_
  refine R3.top (show (F1 0 (j + 1) : Int32) = F 0 (j + 1) from hsc _ (by omega)) ?_
  refine R3.B (ls2 := [some (.ref 0), some (.ref 5), some (.ref 48), some (.int (nI j))]) (st2 := [.int ((nI j) + 2), .ref 0, .int (F 0 (j + 1)), .ref 48, .int v]) b_L_law_312_316 rfl (fun hd => ?_)
  rw [show ((nI j) + 2 : Int32) = nI (j + 2) from nI_add j 2]
  refine R3.iald (j + 2) rfl hd rfl (fun _ => rfl) (by omega) (by omega) ?_
  refine R3.top (show (F1 0 (j + 2) : Int32) = F 0 (j + 2) from hsc _ (by omega)) ?_
  refine R3.B (ls2 := [some (.ref 0), some (.ref 5), some (.ref 48), some (.int (nI j))]) (st2 := [.int (F 0 (j + 2)), .int (F 0 (j + 1)), .ref 48, .int v]) b_L_law_317_317 rfl (fun hd => ?_)
  refine R3.callV (M2 := mX11_person) (As := [.int (F 0 (j + 1)), .int (F 0 (j + 2))]) (rest := [.int v]) hd lk_12_34 okX11_person (by decide) rfl (hq) (by omega) rfl rfl (Nat.le_of_ble_eq_true rfl) (fun r2 F2 h2 => ?_)
  obtain ⟨e2, hI2⟩ := h2
  subst e2
  refine R3.B (ls2 := [some (.ref 0), some (.ref 5), some (.ref 48), some (.int (nI j))]) (st2 := [.int v, .int v]) b_L_law_320_320 rfl (fun hd => ?_)
  refine R3.icmp_eq 1150 hd (by decide) (fun c320 => ?_) (fun c320 => absurd (rfl) c320)
  refine R3.B (ls2 := [some (.ref 0), some (.ref 5), some (.ref 48), some (.int (nI j))]) (st2 := []) b_L_law_1150_1150 rfl (fun hd => ?_)
  exact ex _ hI2
set_option maxRecDepth 20000 in
set_option maxHeartbeats 1000000 in
theorem law_step {E : EE} {L : Nat} {c0 s0 : Nat} {F : FF} {Q : Q2} {l0 l1 n m j : Nat} (hI : IV F l0 l1 n m) (hj : j + 6 ≤ L) (hL : L ≤ 3072) (ex : ∀ F1 : FF, INV F1 → R3 E L mL_law c0 s0 20 1150 [some (.ref 0), some (.ref 5), some (.ref 48), some (.int (nI j))] [] F1 Q) : R3 E L mL_law c0 s0 20 325 [some (.ref 0), some (.ref 5), some (.ref 48), some (.int (nI j))] [] F Q := by
  obtain ⟨d1, hd1, hp⟩ := pr_step (E := E) (L := L) hI (F 0 (j + 1)) (F 0 (j + 2))
  refine R3.B (ls2 := [some (.ref 0), some (.ref 5), some (.ref 48), some (.int (nI j))]) (st2 := [.int ((nI j) + 1), .ref 0, .ref 5]) b_L_law_325_330 rfl (fun hd => ?_)
  rw [show ((nI j) + 1 : Int32) = nI (j + 1) from nI_add j 1]
  refine R3.iald (j + 1) rfl hd rfl (fun _ => rfl) (by omega) (by omega) ?_
  refine R3.B (ls2 := [some (.ref 0), some (.ref 5), some (.ref 48), some (.int (nI j))]) (st2 := [.int ((nI j) + 2), .ref 0, .int (F 0 (j + 1)), .ref 5]) b_L_law_331_335 rfl (fun hd => ?_)
  rw [show ((nI j) + 2 : Int32) = nI (j + 2) from nI_add j 2]
  refine R3.iald (j + 2) rfl hd rfl (fun _ => rfl) (by omega) (by omega) ?_
  refine R3.B (ls2 := [some (.ref 0), some (.ref 5), some (.ref 48), some (.int (nI j))]) (st2 := [.int (F 0 (j + 2)), .int (F 0 (j + 1)), .ref 5]) b_L_law_336_336 rfl (fun hd => ?_)
  refine R3.callV (M2 := mX10_step) (As := [.int (F 0 (j + 1)), .int (F 0 (j + 2))]) (rest := []) hd lk_12_35 okX10_step (by decide) rfl (Ev2.scr hp) (by omega) rfl rfl (Nat.le_of_ble_eq_true rfl) (fun r1 F1 h1 => ?_)
  obtain ⟨⟨v, d2, hd2, e1, hq⟩, hsc⟩ := h1
  subst e1
  refine R3.B (ls2 := [some (.ref 0), some (.ref 5), some (.ref 48), some (.int (nI j))]) (st2 := [.int ((nI j) + 1), .ref 0, .ref 48, .int v]) b_L_law_339_344 rfl (fun hd => ?_)
  rw [show ((nI j) + 1 : Int32) = nI (j + 1) from nI_add j 1]
  refine R3.iald (j + 1) rfl hd rfl (fun _ => rfl) (by omega) (by omega) ?_
  refine R3.top (show (F1 0 (j + 1) : Int32) = F 0 (j + 1) from hsc _ (by omega)) ?_
  refine R3.B (ls2 := [some (.ref 0), some (.ref 5), some (.ref 48), some (.int (nI j))]) (st2 := [.int ((nI j) + 2), .ref 0, .int (F 0 (j + 1)), .ref 48, .int v]) b_L_law_345_349 rfl (fun hd => ?_)
  rw [show ((nI j) + 2 : Int32) = nI (j + 2) from nI_add j 2]
  refine R3.iald (j + 2) rfl hd rfl (fun _ => rfl) (by omega) (by omega) ?_
  refine R3.top (show (F1 0 (j + 2) : Int32) = F 0 (j + 2) from hsc _ (by omega)) ?_
  refine R3.B (ls2 := [some (.ref 0), some (.ref 5), some (.ref 48), some (.int (nI j))]) (st2 := [.int (F 0 (j + 2)), .int (F 0 (j + 1)), .ref 48, .int v]) b_L_law_350_350 rfl (fun hd => ?_)
  refine R3.callV (M2 := mX11_step) (As := [.int (F 0 (j + 1)), .int (F 0 (j + 2))]) (rest := [.int v]) hd lk_12_38 okX11_step (by decide) rfl (hq) (by omega) rfl rfl (Nat.le_of_ble_eq_true rfl) (fun r2 F2 h2 => ?_)
  obtain ⟨e2, hI2⟩ := h2
  subst e2
  refine R3.B (ls2 := [some (.ref 0), some (.ref 5), some (.ref 48), some (.int (nI j))]) (st2 := [.int v, .int v]) b_L_law_353_353 rfl (fun hd => ?_)
  refine R3.icmp_eq 1150 hd (by decide) (fun c353 => ?_) (fun c353 => absurd (rfl) c353)
  refine R3.B (ls2 := [some (.ref 0), some (.ref 5), some (.ref 48), some (.int (nI j))]) (st2 := []) b_L_law_1150_1150 rfl (fun hd => ?_)
  exact ex _ hI2
set_option maxRecDepth 20000 in
set_option maxHeartbeats 1000000 in
theorem law_read {E : EE} {L : Nat} {c0 s0 : Nat} {F : FF} {Q : Q2} {l0 l1 n m j : Nat} (hI : IV F l0 l1 n m) (hj : j + 6 ≤ L) (hL : L ≤ 3072) (ex : ∀ F1 : FF, INV F1 → R3 E L mL_law c0 s0 20 1150 [some (.ref 0), some (.ref 5), some (.ref 48), some (.int (nI j))] [] F1 Q) : R3 E L mL_law c0 s0 20 358 [some (.ref 0), some (.ref 5), some (.ref 48), some (.int (nI j))] [] F Q := by
  obtain ⟨d1, hd1, hp⟩ := pr_read (E := E) (L := L) hI (F 0 (j + 1)) (F 0 (j + 2))
  refine R3.B (ls2 := [some (.ref 0), some (.ref 5), some (.ref 48), some (.int (nI j))]) (st2 := [.int ((nI j) + 1), .ref 0, .ref 5]) b_L_law_358_363 rfl (fun hd => ?_)
  rw [show ((nI j) + 1 : Int32) = nI (j + 1) from nI_add j 1]
  refine R3.iald (j + 1) rfl hd rfl (fun _ => rfl) (by omega) (by omega) ?_
  refine R3.B (ls2 := [some (.ref 0), some (.ref 5), some (.ref 48), some (.int (nI j))]) (st2 := [.int ((nI j) + 2), .ref 0, .int (F 0 (j + 1)), .ref 5]) b_L_law_364_368 rfl (fun hd => ?_)
  rw [show ((nI j) + 2 : Int32) = nI (j + 2) from nI_add j 2]
  refine R3.iald (j + 2) rfl hd rfl (fun _ => rfl) (by omega) (by omega) ?_
  refine R3.B (ls2 := [some (.ref 0), some (.ref 5), some (.ref 48), some (.int (nI j))]) (st2 := [.int (F 0 (j + 2)), .int (F 0 (j + 1)), .ref 5]) b_L_law_369_369 rfl (fun hd => ?_)
  refine R3.callV (M2 := mX10_read) (As := [.int (F 0 (j + 1)), .int (F 0 (j + 2))]) (rest := []) hd lk_12_39 okX10_read (by decide) rfl (Ev2.scr hp) (by omega) rfl rfl (Nat.le_of_ble_eq_true rfl) (fun r1 F1 h1 => ?_)
  obtain ⟨⟨v, d2, hd2, e1, hq⟩, hsc⟩ := h1
  subst e1
  refine R3.B (ls2 := [some (.ref 0), some (.ref 5), some (.ref 48), some (.int (nI j))]) (st2 := [.int ((nI j) + 1), .ref 0, .ref 48, .int v]) b_L_law_372_377 rfl (fun hd => ?_)
  rw [show ((nI j) + 1 : Int32) = nI (j + 1) from nI_add j 1]
  refine R3.iald (j + 1) rfl hd rfl (fun _ => rfl) (by omega) (by omega) ?_
  refine R3.top (show (F1 0 (j + 1) : Int32) = F 0 (j + 1) from hsc _ (by omega)) ?_
  refine R3.B (ls2 := [some (.ref 0), some (.ref 5), some (.ref 48), some (.int (nI j))]) (st2 := [.int ((nI j) + 2), .ref 0, .int (F 0 (j + 1)), .ref 48, .int v]) b_L_law_378_382 rfl (fun hd => ?_)
  rw [show ((nI j) + 2 : Int32) = nI (j + 2) from nI_add j 2]
  refine R3.iald (j + 2) rfl hd rfl (fun _ => rfl) (by omega) (by omega) ?_
  refine R3.top (show (F1 0 (j + 2) : Int32) = F 0 (j + 2) from hsc _ (by omega)) ?_
  refine R3.B (ls2 := [some (.ref 0), some (.ref 5), some (.ref 48), some (.int (nI j))]) (st2 := [.int (F 0 (j + 2)), .int (F 0 (j + 1)), .ref 48, .int v]) b_L_law_383_383 rfl (fun hd => ?_)
  refine R3.callV (M2 := mX11_read) (As := [.int (F 0 (j + 1)), .int (F 0 (j + 2))]) (rest := [.int v]) hd lk_12_42 okX11_read (by decide) rfl (hq) (by omega) rfl rfl (Nat.le_of_ble_eq_true rfl) (fun r2 F2 h2 => ?_)
  obtain ⟨e2, hI2⟩ := h2
  subst e2
  refine R3.B (ls2 := [some (.ref 0), some (.ref 5), some (.ref 48), some (.int (nI j))]) (st2 := [.int v, .int v]) b_L_law_386_386 rfl (fun hd => ?_)
  refine R3.icmp_eq 1150 hd (by decide) (fun c386 => ?_) (fun c386 => absurd (rfl) c386)
  refine R3.B (ls2 := [some (.ref 0), some (.ref 5), some (.ref 48), some (.int (nI j))]) (st2 := []) b_L_law_1150_1150 rfl (fun hd => ?_)
  exact ex _ hI2
set_option maxRecDepth 20000 in
set_option maxHeartbeats 1000000 in
theorem law_home {E : EE} {L : Nat} {c0 s0 : Nat} {F : FF} {Q : Q2} {l0 l1 n m j : Nat} (hI : IV F l0 l1 n m) (hj : j + 6 ≤ L) (hL : L ≤ 3072) (ex : ∀ F1 : FF, INV F1 → R3 E L mL_law c0 s0 20 1150 [some (.ref 0), some (.ref 5), some (.ref 48), some (.int (nI j))] [] F1 Q) : R3 E L mL_law c0 s0 20 391 [some (.ref 0), some (.ref 5), some (.ref 48), some (.int (nI j))] [] F Q := by
  obtain ⟨d1, hd1, hp⟩ := pr_home (E := E) (L := L) hI 
  refine R3.B (ls2 := [some (.ref 0), some (.ref 5), some (.ref 48), some (.int (nI j))]) (st2 := [.ref 5]) b_L_law_391_392 rfl (fun hd => ?_)
  refine R3.callV (M2 := mX10_home) (As := []) (rest := []) hd lk_12_43 okX10_home (by decide) rfl (Ev2.scr hp) (by omega) rfl rfl (Nat.le_of_ble_eq_true rfl) (fun r1 F1 h1 => ?_)
  obtain ⟨⟨v, d2, hd2, e1, hq⟩, hsc⟩ := h1
  subst e1
  refine R3.B (ls2 := [some (.ref 0), some (.ref 5), some (.ref 48), some (.int (nI j))]) (st2 := [.ref 48, .int v]) b_L_law_395_396 rfl (fun hd => ?_)
  refine R3.callV (M2 := mX11_home) (As := []) (rest := [.int v]) hd lk_12_47 okX11_home (by decide) rfl (hq) (by omega) rfl rfl (Nat.le_of_ble_eq_true rfl) (fun r2 F2 h2 => ?_)
  obtain ⟨e2, hI2⟩ := h2
  subst e2
  refine R3.B (ls2 := [some (.ref 0), some (.ref 5), some (.ref 48), some (.int (nI j))]) (st2 := [.int v, .int v]) b_L_law_399_399 rfl (fun hd => ?_)
  refine R3.icmp_eq 1150 hd (by decide) (fun c399 => ?_) (fun c399 => absurd (rfl) c399)
  refine R3.B (ls2 := [some (.ref 0), some (.ref 5), some (.ref 48), some (.int (nI j))]) (st2 := []) b_L_law_1150_1150 rfl (fun hd => ?_)
  exact ex _ hI2
set_option maxRecDepth 20000 in
set_option maxHeartbeats 1000000 in
theorem law_away {E : EE} {L : Nat} {c0 s0 : Nat} {F : FF} {Q : Q2} {l0 l1 n m j : Nat} (hI : IV F l0 l1 n m) (hj : j + 6 ≤ L) (hL : L ≤ 3072) (ex : ∀ F1 : FF, INV F1 → R3 E L mL_law c0 s0 20 1150 [some (.ref 0), some (.ref 5), some (.ref 48), some (.int (nI j))] [] F1 Q) : R3 E L mL_law c0 s0 20 404 [some (.ref 0), some (.ref 5), some (.ref 48), some (.int (nI j))] [] F Q := by
  obtain ⟨d1, hd1, hp⟩ := pr_away (E := E) (L := L) hI (F 0 (j + 1)) (F 0 (j + 2))
  refine R3.B (ls2 := [some (.ref 0), some (.ref 5), some (.ref 48), some (.int (nI j))]) (st2 := [.int ((nI j) + 1), .ref 0, .ref 5]) b_L_law_404_409 rfl (fun hd => ?_)
  rw [show ((nI j) + 1 : Int32) = nI (j + 1) from nI_add j 1]
  refine R3.iald (j + 1) rfl hd rfl (fun _ => rfl) (by omega) (by omega) ?_
  refine R3.B (ls2 := [some (.ref 0), some (.ref 5), some (.ref 48), some (.int (nI j))]) (st2 := [.int ((nI j) + 2), .ref 0, .int (F 0 (j + 1)), .ref 5]) b_L_law_410_414 rfl (fun hd => ?_)
  rw [show ((nI j) + 2 : Int32) = nI (j + 2) from nI_add j 2]
  refine R3.iald (j + 2) rfl hd rfl (fun _ => rfl) (by omega) (by omega) ?_
  refine R3.B (ls2 := [some (.ref 0), some (.ref 5), some (.ref 48), some (.int (nI j))]) (st2 := [.int (F 0 (j + 2)), .int (F 0 (j + 1)), .ref 5]) b_L_law_415_415 rfl (fun hd => ?_)
  refine R3.callV (M2 := mX10_away) (As := [.int (F 0 (j + 1)), .int (F 0 (j + 2))]) (rest := []) hd lk_12_48 okX10_away (by decide) rfl (Ev2.scr hp) (by omega) rfl rfl (Nat.le_of_ble_eq_true rfl) (fun r1 F1 h1 => ?_)
  obtain ⟨⟨v, d2, hd2, e1, hq⟩, hsc⟩ := h1
  subst e1
  refine R3.B (ls2 := [some (.ref 0), some (.ref 5), some (.ref 48), some (.int (nI j))]) (st2 := [.int ((nI j) + 1), .ref 0, .ref 48, .int v]) b_L_law_418_423 rfl (fun hd => ?_)
  rw [show ((nI j) + 1 : Int32) = nI (j + 1) from nI_add j 1]
  refine R3.iald (j + 1) rfl hd rfl (fun _ => rfl) (by omega) (by omega) ?_
  refine R3.top (show (F1 0 (j + 1) : Int32) = F 0 (j + 1) from hsc _ (by omega)) ?_
  refine R3.B (ls2 := [some (.ref 0), some (.ref 5), some (.ref 48), some (.int (nI j))]) (st2 := [.int ((nI j) + 2), .ref 0, .int (F 0 (j + 1)), .ref 48, .int v]) b_L_law_424_428 rfl (fun hd => ?_)
  rw [show ((nI j) + 2 : Int32) = nI (j + 2) from nI_add j 2]
  refine R3.iald (j + 2) rfl hd rfl (fun _ => rfl) (by omega) (by omega) ?_
  refine R3.top (show (F1 0 (j + 2) : Int32) = F 0 (j + 2) from hsc _ (by omega)) ?_
  refine R3.B (ls2 := [some (.ref 0), some (.ref 5), some (.ref 48), some (.int (nI j))]) (st2 := [.int (F 0 (j + 2)), .int (F 0 (j + 1)), .ref 48, .int v]) b_L_law_429_429 rfl (fun hd => ?_)
  refine R3.callV (M2 := mX11_away) (As := [.int (F 0 (j + 1)), .int (F 0 (j + 2))]) (rest := [.int v]) hd lk_12_51 okX11_away (by decide) rfl (hq) (by omega) rfl rfl (Nat.le_of_ble_eq_true rfl) (fun r2 F2 h2 => ?_)
  obtain ⟨e2, hI2⟩ := h2
  subst e2
  refine R3.B (ls2 := [some (.ref 0), some (.ref 5), some (.ref 48), some (.int (nI j))]) (st2 := [.int v, .int v]) b_L_law_432_432 rfl (fun hd => ?_)
  refine R3.icmp_eq 1150 hd (by decide) (fun c432 => ?_) (fun c432 => absurd (rfl) c432)
  refine R3.B (ls2 := [some (.ref 0), some (.ref 5), some (.ref 48), some (.int (nI j))]) (st2 := []) b_L_law_1150_1150 rfl (fun hd => ?_)
  exact ex _ hI2
set_option maxRecDepth 20000 in
set_option maxHeartbeats 1000000 in
theorem law_binds {E : EE} {L : Nat} {c0 s0 : Nat} {F : FF} {Q : Q2} {l0 l1 n m j : Nat} (hI : IV F l0 l1 n m) (hj : j + 6 ≤ L) (hL : L ≤ 3072) (ex : ∀ F1 : FF, INV F1 → R3 E L mL_law c0 s0 20 1150 [some (.ref 0), some (.ref 5), some (.ref 48), some (.int (nI j))] [] F1 Q) : R3 E L mL_law c0 s0 20 437 [some (.ref 0), some (.ref 5), some (.ref 48), some (.int (nI j))] [] F Q := by
  obtain ⟨d1, hd1, hp⟩ := pr_binds (E := E) (L := L) hI (F 0 (j + 1)) (F 0 (j + 2)) (F 0 (j + 3))
  refine R3.B (ls2 := [some (.ref 0), some (.ref 5), some (.ref 48), some (.int (nI j))]) (st2 := [.int ((nI j) + 1), .ref 0, .ref 5]) b_L_law_437_442 rfl (fun hd => ?_)
  rw [show ((nI j) + 1 : Int32) = nI (j + 1) from nI_add j 1]
  refine R3.iald (j + 1) rfl hd rfl (fun _ => rfl) (by omega) (by omega) ?_
  refine R3.B (ls2 := [some (.ref 0), some (.ref 5), some (.ref 48), some (.int (nI j))]) (st2 := [.int ((nI j) + 2), .ref 0, .int (F 0 (j + 1)), .ref 5]) b_L_law_443_447 rfl (fun hd => ?_)
  rw [show ((nI j) + 2 : Int32) = nI (j + 2) from nI_add j 2]
  refine R3.iald (j + 2) rfl hd rfl (fun _ => rfl) (by omega) (by omega) ?_
  refine R3.B (ls2 := [some (.ref 0), some (.ref 5), some (.ref 48), some (.int (nI j))]) (st2 := [.int ((nI j) + 3), .ref 0, .int (F 0 (j + 2)), .int (F 0 (j + 1)), .ref 5]) b_L_law_448_452 rfl (fun hd => ?_)
  rw [show ((nI j) + 3 : Int32) = nI (j + 3) from nI_add j 3]
  refine R3.iald (j + 3) rfl hd rfl (fun _ => rfl) (by omega) (by omega) ?_
  refine R3.B (ls2 := [some (.ref 0), some (.ref 5), some (.ref 48), some (.int (nI j))]) (st2 := [.int (F 0 (j + 3)), .int (F 0 (j + 2)), .int (F 0 (j + 1)), .ref 5]) b_L_law_453_453 rfl (fun hd => ?_)
  refine R3.callV (M2 := mX10_binds) (As := [.int (F 0 (j + 1)), .int (F 0 (j + 2)), .int (F 0 (j + 3))]) (rest := []) hd lk_12_52 okX10_binds (by decide) rfl (Ev2.scr hp) (by omega) rfl rfl (Nat.le_of_ble_eq_true rfl) (fun r1 F1 h1 => ?_)
  obtain ⟨⟨v, d2, hd2, e1, hq⟩, hsc⟩ := h1
  subst e1
  refine R3.B (ls2 := [some (.ref 0), some (.ref 5), some (.ref 48), some (.int (nI j))]) (st2 := [.int ((nI j) + 1), .ref 0, .ref 48, .int v]) b_L_law_456_461 rfl (fun hd => ?_)
  rw [show ((nI j) + 1 : Int32) = nI (j + 1) from nI_add j 1]
  refine R3.iald (j + 1) rfl hd rfl (fun _ => rfl) (by omega) (by omega) ?_
  refine R3.top (show (F1 0 (j + 1) : Int32) = F 0 (j + 1) from hsc _ (by omega)) ?_
  refine R3.B (ls2 := [some (.ref 0), some (.ref 5), some (.ref 48), some (.int (nI j))]) (st2 := [.int ((nI j) + 2), .ref 0, .int (F 0 (j + 1)), .ref 48, .int v]) b_L_law_462_466 rfl (fun hd => ?_)
  rw [show ((nI j) + 2 : Int32) = nI (j + 2) from nI_add j 2]
  refine R3.iald (j + 2) rfl hd rfl (fun _ => rfl) (by omega) (by omega) ?_
  refine R3.top (show (F1 0 (j + 2) : Int32) = F 0 (j + 2) from hsc _ (by omega)) ?_
  refine R3.B (ls2 := [some (.ref 0), some (.ref 5), some (.ref 48), some (.int (nI j))]) (st2 := [.int ((nI j) + 3), .ref 0, .int (F 0 (j + 2)), .int (F 0 (j + 1)), .ref 48, .int v]) b_L_law_467_471 rfl (fun hd => ?_)
  rw [show ((nI j) + 3 : Int32) = nI (j + 3) from nI_add j 3]
  refine R3.iald (j + 3) rfl hd rfl (fun _ => rfl) (by omega) (by omega) ?_
  refine R3.top (show (F1 0 (j + 3) : Int32) = F 0 (j + 3) from hsc _ (by omega)) ?_
  refine R3.B (ls2 := [some (.ref 0), some (.ref 5), some (.ref 48), some (.int (nI j))]) (st2 := [.int (F 0 (j + 3)), .int (F 0 (j + 2)), .int (F 0 (j + 1)), .ref 48, .int v]) b_L_law_472_472 rfl (fun hd => ?_)
  refine R3.callV (M2 := mX11_binds) (As := [.int (F 0 (j + 1)), .int (F 0 (j + 2)), .int (F 0 (j + 3))]) (rest := [.int v]) hd lk_12_56 okX11_binds (by decide) rfl (hq) (by omega) rfl rfl (Nat.le_of_ble_eq_true rfl) (fun r2 F2 h2 => ?_)
  obtain ⟨e2, hI2⟩ := h2
  subst e2
  refine R3.B (ls2 := [some (.ref 0), some (.ref 5), some (.ref 48), some (.int (nI j))]) (st2 := [.int v, .int v]) b_L_law_475_475 rfl (fun hd => ?_)
  refine R3.icmp_eq 1150 hd (by decide) (fun c475 => ?_) (fun c475 => absurd (rfl) c475)
  refine R3.B (ls2 := [some (.ref 0), some (.ref 5), some (.ref 48), some (.int (nI j))]) (st2 := []) b_L_law_1150_1150 rfl (fun hd => ?_)
  exact ex _ hI2
set_option maxRecDepth 20000 in
set_option maxHeartbeats 1000000 in
theorem law_pairs {E : EE} {L : Nat} {c0 s0 : Nat} {F : FF} {Q : Q2} {l0 l1 n m j : Nat} (hI : IV F l0 l1 n m) (hj : j + 6 ≤ L) (hL : L ≤ 3072) (ex : ∀ F1 : FF, INV F1 → R3 E L mL_law c0 s0 20 1150 [some (.ref 0), some (.ref 5), some (.ref 48), some (.int (nI j))] [] F1 Q) : R3 E L mL_law c0 s0 20 480 [some (.ref 0), some (.ref 5), some (.ref 48), some (.int (nI j))] [] F Q := by
  obtain ⟨d1, hd1, hp⟩ := pr_pairs (E := E) (L := L) hI 
  refine R3.B (ls2 := [some (.ref 0), some (.ref 5), some (.ref 48), some (.int (nI j))]) (st2 := [.ref 5]) b_L_law_480_481 rfl (fun hd => ?_)
  refine R3.callV (M2 := mX10_pairs) (As := []) (rest := []) hd lk_12_57 okX10_pairs (by decide) rfl (Ev2.scr hp) (by omega) rfl rfl (Nat.le_of_ble_eq_true rfl) (fun r1 F1 h1 => ?_)
  obtain ⟨⟨v, d2, hd2, e1, hq⟩, hsc⟩ := h1
  subst e1
  refine R3.B (ls2 := [some (.ref 0), some (.ref 5), some (.ref 48), some (.int (nI j))]) (st2 := [.ref 48, .int v]) b_L_law_484_485 rfl (fun hd => ?_)
  refine R3.callV (M2 := mX11_pairs) (As := []) (rest := [.int v]) hd lk_12_60 okX11_pairs (by decide) rfl (hq) (by omega) rfl rfl (Nat.le_of_ble_eq_true rfl) (fun r2 F2 h2 => ?_)
  obtain ⟨e2, hI2⟩ := h2
  subst e2
  refine R3.B (ls2 := [some (.ref 0), some (.ref 5), some (.ref 48), some (.int (nI j))]) (st2 := [.int v, .int v]) b_L_law_488_488 rfl (fun hd => ?_)
  refine R3.icmp_eq 1150 hd (by decide) (fun c488 => ?_) (fun c488 => absurd (rfl) c488)
  refine R3.B (ls2 := [some (.ref 0), some (.ref 5), some (.ref 48), some (.int (nI j))]) (st2 := []) b_L_law_1150_1150 rfl (fun hd => ?_)
  exact ex _ hI2
set_option maxRecDepth 20000 in
set_option maxHeartbeats 1000000 in
theorem law_once {E : EE} {L : Nat} {c0 s0 : Nat} {F : FF} {Q : Q2} {l0 l1 n m j : Nat} (hI : IV F l0 l1 n m) (hj : j + 6 ≤ L) (hL : L ≤ 3072) (ex : ∀ F1 : FF, INV F1 → R3 E L mL_law c0 s0 20 1150 [some (.ref 0), some (.ref 5), some (.ref 48), some (.int (nI j))] [] F1 Q) : R3 E L mL_law c0 s0 20 493 [some (.ref 0), some (.ref 5), some (.ref 48), some (.int (nI j))] [] F Q := by
  obtain ⟨d1, hd1, hp⟩ := pr_once (E := E) (L := L) hI (F 0 (j + 1))
  refine R3.B (ls2 := [some (.ref 0), some (.ref 5), some (.ref 48), some (.int (nI j))]) (st2 := [.int ((nI j) + 1), .ref 0, .ref 5]) b_L_law_493_498 rfl (fun hd => ?_)
  rw [show ((nI j) + 1 : Int32) = nI (j + 1) from nI_add j 1]
  refine R3.iald (j + 1) rfl hd rfl (fun _ => rfl) (by omega) (by omega) ?_
  refine R3.B (ls2 := [some (.ref 0), some (.ref 5), some (.ref 48), some (.int (nI j))]) (st2 := [.int (F 0 (j + 1)), .ref 5]) b_L_law_499_499 rfl (fun hd => ?_)
  refine R3.callV (M2 := mX10_once) (As := [.int (F 0 (j + 1))]) (rest := []) hd lk_12_61 okX10_once (by decide) rfl (Ev2.scr hp) (by omega) rfl rfl (Nat.le_of_ble_eq_true rfl) (fun r1 F1 h1 => ?_)
  obtain ⟨⟨v, d2, hd2, e1, hq⟩, hsc⟩ := h1
  subst e1
  refine R3.B (ls2 := [some (.ref 0), some (.ref 5), some (.ref 48), some (.int (nI j))]) (st2 := [.int ((nI j) + 1), .ref 0, .ref 48, .int v]) b_L_law_502_507 rfl (fun hd => ?_)
  rw [show ((nI j) + 1 : Int32) = nI (j + 1) from nI_add j 1]
  refine R3.iald (j + 1) rfl hd rfl (fun _ => rfl) (by omega) (by omega) ?_
  refine R3.top (show (F1 0 (j + 1) : Int32) = F 0 (j + 1) from hsc _ (by omega)) ?_
  refine R3.B (ls2 := [some (.ref 0), some (.ref 5), some (.ref 48), some (.int (nI j))]) (st2 := [.int (F 0 (j + 1)), .ref 48, .int v]) b_L_law_508_508 rfl (fun hd => ?_)
  refine R3.callV (M2 := mX11_once) (As := [.int (F 0 (j + 1))]) (rest := [.int v]) hd lk_12_64 okX11_once (by decide) rfl (hq) (by omega) rfl rfl (Nat.le_of_ble_eq_true rfl) (fun r2 F2 h2 => ?_)
  obtain ⟨e2, hI2⟩ := h2
  subst e2
  refine R3.B (ls2 := [some (.ref 0), some (.ref 5), some (.ref 48), some (.int (nI j))]) (st2 := [.int v, .int v]) b_L_law_511_511 rfl (fun hd => ?_)
  refine R3.icmp_eq 1150 hd (by decide) (fun c511 => ?_) (fun c511 => absurd (rfl) c511)
  refine R3.B (ls2 := [some (.ref 0), some (.ref 5), some (.ref 48), some (.int (nI j))]) (st2 := []) b_L_law_1150_1150 rfl (fun hd => ?_)
  exact ex _ hI2
set_option maxRecDepth 20000 in
set_option maxHeartbeats 1000000 in
theorem law_worth {E : EE} {L : Nat} {c0 s0 : Nat} {F : FF} {Q : Q2} {l0 l1 n m j : Nat} (hI : IV F l0 l1 n m) (hj : j + 6 ≤ L) (hL : L ≤ 3072) (ex : ∀ F1 : FF, INV F1 → R3 E L mL_law c0 s0 20 1150 [some (.ref 0), some (.ref 5), some (.ref 48), some (.int (nI j))] [] F1 Q) : R3 E L mL_law c0 s0 20 516 [some (.ref 0), some (.ref 5), some (.ref 48), some (.int (nI j))] [] F Q := by
  obtain ⟨d1, hd1, hp⟩ := pr_worth (E := E) (L := L) hI 
  refine R3.B (ls2 := [some (.ref 0), some (.ref 5), some (.ref 48), some (.int (nI j))]) (st2 := [.ref 5]) b_L_law_516_517 rfl (fun hd => ?_)
  refine R3.callV (M2 := mX10_worth) (As := []) (rest := []) hd lk_12_65 okX10_worth (by decide) rfl (Ev2.scr hp) (by omega) rfl rfl (Nat.le_of_ble_eq_true rfl) (fun r1 F1 h1 => ?_)
  obtain ⟨⟨v, d2, hd2, e1, hq⟩, hsc⟩ := h1
  subst e1
  refine R3.B (ls2 := [some (.ref 0), some (.ref 5), some (.ref 48), some (.int (nI j))]) (st2 := [.ref 48, .int v]) b_L_law_520_521 rfl (fun hd => ?_)
  refine R3.callV (M2 := mX11_worth) (As := []) (rest := [.int v]) hd lk_12_68 okX11_worth (by decide) rfl (hq) (by omega) rfl rfl (Nat.le_of_ble_eq_true rfl) (fun r2 F2 h2 => ?_)
  obtain ⟨e2, hI2⟩ := h2
  subst e2
  refine R3.B (ls2 := [some (.ref 0), some (.ref 5), some (.ref 48), some (.int (nI j))]) (st2 := [.int v, .int v]) b_L_law_524_524 rfl (fun hd => ?_)
  refine R3.icmp_eq 1150 hd (by decide) (fun c524 => ?_) (fun c524 => absurd (rfl) c524)
  refine R3.B (ls2 := [some (.ref 0), some (.ref 5), some (.ref 48), some (.int (nI j))]) (st2 := []) b_L_law_1150_1150 rfl (fun hd => ?_)
  exact ex _ hI2
set_option maxRecDepth 20000 in
set_option maxHeartbeats 1000000 in
theorem law_judged {E : EE} {L : Nat} {c0 s0 : Nat} {F : FF} {Q : Q2} {l0 l1 n m j : Nat} (hI : IV F l0 l1 n m) (hj : j + 6 ≤ L) (hL : L ≤ 3072) (ex : ∀ F1 : FF, INV F1 → R3 E L mL_law c0 s0 20 1150 [some (.ref 0), some (.ref 5), some (.ref 48), some (.int (nI j))] [] F1 Q) : R3 E L mL_law c0 s0 20 529 [some (.ref 0), some (.ref 5), some (.ref 48), some (.int (nI j))] [] F Q := by
  obtain ⟨d1, hd1, hp⟩ := pr_judged (E := E) (L := L) hI (F 0 (j + 1))
  refine R3.B (ls2 := [some (.ref 0), some (.ref 5), some (.ref 48), some (.int (nI j))]) (st2 := [.int ((nI j) + 1), .ref 0, .ref 5]) b_L_law_529_534 rfl (fun hd => ?_)
  rw [show ((nI j) + 1 : Int32) = nI (j + 1) from nI_add j 1]
  refine R3.iald (j + 1) rfl hd rfl (fun _ => rfl) (by omega) (by omega) ?_
  refine R3.B (ls2 := [some (.ref 0), some (.ref 5), some (.ref 48), some (.int (nI j))]) (st2 := [.int (F 0 (j + 1)), .ref 5]) b_L_law_535_535 rfl (fun hd => ?_)
  refine R3.callV (M2 := mX10_judged) (As := [.int (F 0 (j + 1))]) (rest := []) hd lk_12_69 okX10_judged (by decide) rfl (Ev2.scr hp) (by omega) rfl rfl (Nat.le_of_ble_eq_true rfl) (fun r1 F1 h1 => ?_)
  obtain ⟨⟨v, d2, hd2, e1, hq⟩, hsc⟩ := h1
  subst e1
  refine R3.B (ls2 := [some (.ref 0), some (.ref 5), some (.ref 48), some (.int (nI j))]) (st2 := [.int ((nI j) + 1), .ref 0, .ref 48, .int v]) b_L_law_538_543 rfl (fun hd => ?_)
  rw [show ((nI j) + 1 : Int32) = nI (j + 1) from nI_add j 1]
  refine R3.iald (j + 1) rfl hd rfl (fun _ => rfl) (by omega) (by omega) ?_
  refine R3.top (show (F1 0 (j + 1) : Int32) = F 0 (j + 1) from hsc _ (by omega)) ?_
  refine R3.B (ls2 := [some (.ref 0), some (.ref 5), some (.ref 48), some (.int (nI j))]) (st2 := [.int (F 0 (j + 1)), .ref 48, .int v]) b_L_law_544_544 rfl (fun hd => ?_)
  refine R3.callV (M2 := mX11_judged) (As := [.int (F 0 (j + 1))]) (rest := [.int v]) hd lk_12_72 okX11_judged (by decide) rfl (hq) (by omega) rfl rfl (Nat.le_of_ble_eq_true rfl) (fun r2 F2 h2 => ?_)
  obtain ⟨e2, hI2⟩ := h2
  subst e2
  refine R3.B (ls2 := [some (.ref 0), some (.ref 5), some (.ref 48), some (.int (nI j))]) (st2 := [.int v, .int v]) b_L_law_547_547 rfl (fun hd => ?_)
  refine R3.icmp_eq 1150 hd (by decide) (fun c547 => ?_) (fun c547 => absurd (rfl) c547)
  refine R3.B (ls2 := [some (.ref 0), some (.ref 5), some (.ref 48), some (.int (nI j))]) (st2 := []) b_L_law_1150_1150 rfl (fun hd => ?_)
  exact ex _ hI2
set_option maxRecDepth 20000 in
set_option maxHeartbeats 1000000 in
theorem law_ends {E : EE} {L : Nat} {c0 s0 : Nat} {F : FF} {Q : Q2} {l0 l1 n m j : Nat} (hI : IV F l0 l1 n m) (hj : j + 6 ≤ L) (hL : L ≤ 3072) (ex : ∀ F1 : FF, INV F1 → R3 E L mL_law c0 s0 20 1150 [some (.ref 0), some (.ref 5), some (.ref 48), some (.int (nI j))] [] F1 Q) : R3 E L mL_law c0 s0 20 552 [some (.ref 0), some (.ref 5), some (.ref 48), some (.int (nI j))] [] F Q := by
  obtain ⟨d1, hd1, hp⟩ := pr_ends (E := E) (L := L) hI (F 0 (j + 1))
  refine R3.B (ls2 := [some (.ref 0), some (.ref 5), some (.ref 48), some (.int (nI j))]) (st2 := [.int ((nI j) + 1), .ref 0, .ref 5]) b_L_law_552_557 rfl (fun hd => ?_)
  rw [show ((nI j) + 1 : Int32) = nI (j + 1) from nI_add j 1]
  refine R3.iald (j + 1) rfl hd rfl (fun _ => rfl) (by omega) (by omega) ?_
  refine R3.B (ls2 := [some (.ref 0), some (.ref 5), some (.ref 48), some (.int (nI j))]) (st2 := [.int (F 0 (j + 1)), .ref 5]) b_L_law_558_558 rfl (fun hd => ?_)
  refine R3.callV (M2 := mX10_ends) (As := [.int (F 0 (j + 1))]) (rest := []) hd lk_12_73 okX10_ends (by decide) rfl (Ev2.scr hp) (by omega) rfl rfl (Nat.le_of_ble_eq_true rfl) (fun r1 F1 h1 => ?_)
  obtain ⟨⟨v, d2, hd2, e1, hq⟩, hsc⟩ := h1
  subst e1
  refine R3.B (ls2 := [some (.ref 0), some (.ref 5), some (.ref 48), some (.int (nI j))]) (st2 := [.int ((nI j) + 1), .ref 0, .ref 48, .int v]) b_L_law_561_566 rfl (fun hd => ?_)
  rw [show ((nI j) + 1 : Int32) = nI (j + 1) from nI_add j 1]
  refine R3.iald (j + 1) rfl hd rfl (fun _ => rfl) (by omega) (by omega) ?_
  refine R3.top (show (F1 0 (j + 1) : Int32) = F 0 (j + 1) from hsc _ (by omega)) ?_
  refine R3.B (ls2 := [some (.ref 0), some (.ref 5), some (.ref 48), some (.int (nI j))]) (st2 := [.int (F 0 (j + 1)), .ref 48, .int v]) b_L_law_567_567 rfl (fun hd => ?_)
  refine R3.callV (M2 := mX11_ends) (As := [.int (F 0 (j + 1))]) (rest := [.int v]) hd lk_12_76 okX11_ends (by decide) rfl (hq) (by omega) rfl rfl (Nat.le_of_ble_eq_true rfl) (fun r2 F2 h2 => ?_)
  obtain ⟨e2, hI2⟩ := h2
  subst e2
  refine R3.B (ls2 := [some (.ref 0), some (.ref 5), some (.ref 48), some (.int (nI j))]) (st2 := [.int v, .int v]) b_L_law_570_570 rfl (fun hd => ?_)
  refine R3.icmp_eq 1150 hd (by decide) (fun c570 => ?_) (fun c570 => absurd (rfl) c570)
  refine R3.B (ls2 := [some (.ref 0), some (.ref 5), some (.ref 48), some (.int (nI j))]) (st2 := []) b_L_law_1150_1150 rfl (fun hd => ?_)
  exact ex _ hI2
set_option maxRecDepth 20000 in
set_option maxHeartbeats 1000000 in
theorem law_comes {E : EE} {L : Nat} {c0 s0 : Nat} {F : FF} {Q : Q2} {l0 l1 n m j : Nat} (hI : IV F l0 l1 n m) (hj : j + 6 ≤ L) (hL : L ≤ 3072) (ex : ∀ F1 : FF, INV F1 → R3 E L mL_law c0 s0 20 1150 [some (.ref 0), some (.ref 5), some (.ref 48), some (.int (nI j))] [] F1 Q) : R3 E L mL_law c0 s0 20 575 [some (.ref 0), some (.ref 5), some (.ref 48), some (.int (nI j))] [] F Q := by
  obtain ⟨d1, hd1, hp⟩ := pr_comes (E := E) (L := L) hI (F 0 (j + 1)) (F 0 (j + 2))
  refine R3.B (ls2 := [some (.ref 0), some (.ref 5), some (.ref 48), some (.int (nI j))]) (st2 := [.int ((nI j) + 1), .ref 0, .ref 5]) b_L_law_575_580 rfl (fun hd => ?_)
  rw [show ((nI j) + 1 : Int32) = nI (j + 1) from nI_add j 1]
  refine R3.iald (j + 1) rfl hd rfl (fun _ => rfl) (by omega) (by omega) ?_
  refine R3.B (ls2 := [some (.ref 0), some (.ref 5), some (.ref 48), some (.int (nI j))]) (st2 := [.int ((nI j) + 2), .ref 0, .int (F 0 (j + 1)), .ref 5]) b_L_law_581_585 rfl (fun hd => ?_)
  rw [show ((nI j) + 2 : Int32) = nI (j + 2) from nI_add j 2]
  refine R3.iald (j + 2) rfl hd rfl (fun _ => rfl) (by omega) (by omega) ?_
  refine R3.B (ls2 := [some (.ref 0), some (.ref 5), some (.ref 48), some (.int (nI j))]) (st2 := [.int (F 0 (j + 2)), .int (F 0 (j + 1)), .ref 5]) b_L_law_586_586 rfl (fun hd => ?_)
  refine R3.callV (M2 := mX10_comes) (As := [.int (F 0 (j + 1)), .int (F 0 (j + 2))]) (rest := []) hd lk_12_77 okX10_comes (by decide) rfl (Ev2.scr hp) (by omega) rfl rfl (Nat.le_of_ble_eq_true rfl) (fun r1 F1 h1 => ?_)
  obtain ⟨⟨v, d2, hd2, e1, hq⟩, hsc⟩ := h1
  subst e1
  refine R3.B (ls2 := [some (.ref 0), some (.ref 5), some (.ref 48), some (.int (nI j))]) (st2 := [.int ((nI j) + 1), .ref 0, .ref 48, .int v]) b_L_law_589_594 rfl (fun hd => ?_)
  rw [show ((nI j) + 1 : Int32) = nI (j + 1) from nI_add j 1]
  refine R3.iald (j + 1) rfl hd rfl (fun _ => rfl) (by omega) (by omega) ?_
  refine R3.top (show (F1 0 (j + 1) : Int32) = F 0 (j + 1) from hsc _ (by omega)) ?_
  refine R3.B (ls2 := [some (.ref 0), some (.ref 5), some (.ref 48), some (.int (nI j))]) (st2 := [.int ((nI j) + 2), .ref 0, .int (F 0 (j + 1)), .ref 48, .int v]) b_L_law_595_599 rfl (fun hd => ?_)
  rw [show ((nI j) + 2 : Int32) = nI (j + 2) from nI_add j 2]
  refine R3.iald (j + 2) rfl hd rfl (fun _ => rfl) (by omega) (by omega) ?_
  refine R3.top (show (F1 0 (j + 2) : Int32) = F 0 (j + 2) from hsc _ (by omega)) ?_
  refine R3.B (ls2 := [some (.ref 0), some (.ref 5), some (.ref 48), some (.int (nI j))]) (st2 := [.int (F 0 (j + 2)), .int (F 0 (j + 1)), .ref 48, .int v]) b_L_law_600_600 rfl (fun hd => ?_)
  refine R3.callV (M2 := mX11_comes) (As := [.int (F 0 (j + 1)), .int (F 0 (j + 2))]) (rest := [.int v]) hd lk_12_80 okX11_comes (by decide) rfl (hq) (by omega) rfl rfl (Nat.le_of_ble_eq_true rfl) (fun r2 F2 h2 => ?_)
  obtain ⟨e2, hI2⟩ := h2
  subst e2
  refine R3.B (ls2 := [some (.ref 0), some (.ref 5), some (.ref 48), some (.int (nI j))]) (st2 := [.int v, .int v]) b_L_law_603_603 rfl (fun hd => ?_)
  refine R3.icmp_eq 1150 hd (by decide) (fun c603 => ?_) (fun c603 => absurd (rfl) c603)
  refine R3.B (ls2 := [some (.ref 0), some (.ref 5), some (.ref 48), some (.int (nI j))]) (st2 := []) b_L_law_1150_1150 rfl (fun hd => ?_)
  exact ex _ hI2
set_option maxRecDepth 20000 in
set_option maxHeartbeats 1000000 in
theorem law_way {E : EE} {L : Nat} {c0 s0 : Nat} {F : FF} {Q : Q2} {l0 l1 n m j : Nat} (hI : IV F l0 l1 n m) (hj : j + 6 ≤ L) (hL : L ≤ 3072) (ex : ∀ F1 : FF, INV F1 → R3 E L mL_law c0 s0 20 1150 [some (.ref 0), some (.ref 5), some (.ref 48), some (.int (nI j))] [] F1 Q) : R3 E L mL_law c0 s0 20 608 [some (.ref 0), some (.ref 5), some (.ref 48), some (.int (nI j))] [] F Q := by
  obtain ⟨d1, hd1, hp⟩ := pr_way (E := E) (L := L) hI (F 0 (j + 1)) (F 0 (j + 2)) (F 0 (j + 3))
  refine R3.B (ls2 := [some (.ref 0), some (.ref 5), some (.ref 48), some (.int (nI j))]) (st2 := [.int ((nI j) + 1), .ref 0, .ref 5]) b_L_law_608_613 rfl (fun hd => ?_)
  rw [show ((nI j) + 1 : Int32) = nI (j + 1) from nI_add j 1]
  refine R3.iald (j + 1) rfl hd rfl (fun _ => rfl) (by omega) (by omega) ?_
  refine R3.B (ls2 := [some (.ref 0), some (.ref 5), some (.ref 48), some (.int (nI j))]) (st2 := [.int ((nI j) + 2), .ref 0, .int (F 0 (j + 1)), .ref 5]) b_L_law_614_618 rfl (fun hd => ?_)
  rw [show ((nI j) + 2 : Int32) = nI (j + 2) from nI_add j 2]
  refine R3.iald (j + 2) rfl hd rfl (fun _ => rfl) (by omega) (by omega) ?_
  refine R3.B (ls2 := [some (.ref 0), some (.ref 5), some (.ref 48), some (.int (nI j))]) (st2 := [.int ((nI j) + 3), .ref 0, .int (F 0 (j + 2)), .int (F 0 (j + 1)), .ref 5]) b_L_law_619_623 rfl (fun hd => ?_)
  rw [show ((nI j) + 3 : Int32) = nI (j + 3) from nI_add j 3]
  refine R3.iald (j + 3) rfl hd rfl (fun _ => rfl) (by omega) (by omega) ?_
  refine R3.B (ls2 := [some (.ref 0), some (.ref 5), some (.ref 48), some (.int (nI j))]) (st2 := [.int (F 0 (j + 3)), .int (F 0 (j + 2)), .int (F 0 (j + 1)), .ref 5]) b_L_law_624_624 rfl (fun hd => ?_)
  refine R3.callV (M2 := mX10_way) (As := [.int (F 0 (j + 1)), .int (F 0 (j + 2)), .int (F 0 (j + 3))]) (rest := []) hd lk_12_81 okX10_way (by decide) rfl (Ev2.scr hp) (by omega) rfl rfl (Nat.le_of_ble_eq_true rfl) (fun r1 F1 h1 => ?_)
  obtain ⟨⟨v, d2, hd2, e1, hq⟩, hsc⟩ := h1
  subst e1
  refine R3.B (ls2 := [some (.ref 0), some (.ref 5), some (.ref 48), some (.int (nI j))]) (st2 := [.int ((nI j) + 1), .ref 0, .ref 48, .int v]) b_L_law_627_632 rfl (fun hd => ?_)
  rw [show ((nI j) + 1 : Int32) = nI (j + 1) from nI_add j 1]
  refine R3.iald (j + 1) rfl hd rfl (fun _ => rfl) (by omega) (by omega) ?_
  refine R3.top (show (F1 0 (j + 1) : Int32) = F 0 (j + 1) from hsc _ (by omega)) ?_
  refine R3.B (ls2 := [some (.ref 0), some (.ref 5), some (.ref 48), some (.int (nI j))]) (st2 := [.int ((nI j) + 2), .ref 0, .int (F 0 (j + 1)), .ref 48, .int v]) b_L_law_633_637 rfl (fun hd => ?_)
  rw [show ((nI j) + 2 : Int32) = nI (j + 2) from nI_add j 2]
  refine R3.iald (j + 2) rfl hd rfl (fun _ => rfl) (by omega) (by omega) ?_
  refine R3.top (show (F1 0 (j + 2) : Int32) = F 0 (j + 2) from hsc _ (by omega)) ?_
  refine R3.B (ls2 := [some (.ref 0), some (.ref 5), some (.ref 48), some (.int (nI j))]) (st2 := [.int ((nI j) + 3), .ref 0, .int (F 0 (j + 2)), .int (F 0 (j + 1)), .ref 48, .int v]) b_L_law_638_642 rfl (fun hd => ?_)
  rw [show ((nI j) + 3 : Int32) = nI (j + 3) from nI_add j 3]
  refine R3.iald (j + 3) rfl hd rfl (fun _ => rfl) (by omega) (by omega) ?_
  refine R3.top (show (F1 0 (j + 3) : Int32) = F 0 (j + 3) from hsc _ (by omega)) ?_
  refine R3.B (ls2 := [some (.ref 0), some (.ref 5), some (.ref 48), some (.int (nI j))]) (st2 := [.int (F 0 (j + 3)), .int (F 0 (j + 2)), .int (F 0 (j + 1)), .ref 48, .int v]) b_L_law_643_643 rfl (fun hd => ?_)
  refine R3.callV (M2 := mX11_way) (As := [.int (F 0 (j + 1)), .int (F 0 (j + 2)), .int (F 0 (j + 3))]) (rest := [.int v]) hd lk_12_84 okX11_way (by decide) rfl (hq) (by omega) rfl rfl (Nat.le_of_ble_eq_true rfl) (fun r2 F2 h2 => ?_)
  obtain ⟨e2, hI2⟩ := h2
  subst e2
  refine R3.B (ls2 := [some (.ref 0), some (.ref 5), some (.ref 48), some (.int (nI j))]) (st2 := [.int v, .int v]) b_L_law_646_646 rfl (fun hd => ?_)
  refine R3.icmp_eq 1150 hd (by decide) (fun c646 => ?_) (fun c646 => absurd (rfl) c646)
  refine R3.B (ls2 := [some (.ref 0), some (.ref 5), some (.ref 48), some (.int (nI j))]) (st2 := []) b_L_law_1150_1150 rfl (fun hd => ?_)
  exact ex _ hI2
set_option maxRecDepth 20000 in
set_option maxHeartbeats 1000000 in
theorem law_hinders {E : EE} {L : Nat} {c0 s0 : Nat} {F : FF} {Q : Q2} {l0 l1 n m j : Nat} (hI : IV F l0 l1 n m) (hj : j + 6 ≤ L) (hL : L ≤ 3072) (ex : ∀ F1 : FF, INV F1 → R3 E L mL_law c0 s0 20 1150 [some (.ref 0), some (.ref 5), some (.ref 48), some (.int (nI j))] [] F1 Q) : R3 E L mL_law c0 s0 20 651 [some (.ref 0), some (.ref 5), some (.ref 48), some (.int (nI j))] [] F Q := by
  obtain ⟨d1, hd1, hp⟩ := pr_hinders (E := E) (L := L) hI (F 0 (j + 1)) (F 0 (j + 2))
  refine R3.B (ls2 := [some (.ref 0), some (.ref 5), some (.ref 48), some (.int (nI j))]) (st2 := [.int ((nI j) + 1), .ref 0, .ref 5]) b_L_law_651_656 rfl (fun hd => ?_)
  rw [show ((nI j) + 1 : Int32) = nI (j + 1) from nI_add j 1]
  refine R3.iald (j + 1) rfl hd rfl (fun _ => rfl) (by omega) (by omega) ?_
  refine R3.B (ls2 := [some (.ref 0), some (.ref 5), some (.ref 48), some (.int (nI j))]) (st2 := [.int ((nI j) + 2), .ref 0, .int (F 0 (j + 1)), .ref 5]) b_L_law_657_661 rfl (fun hd => ?_)
  rw [show ((nI j) + 2 : Int32) = nI (j + 2) from nI_add j 2]
  refine R3.iald (j + 2) rfl hd rfl (fun _ => rfl) (by omega) (by omega) ?_
  refine R3.B (ls2 := [some (.ref 0), some (.ref 5), some (.ref 48), some (.int (nI j))]) (st2 := [.int (F 0 (j + 2)), .int (F 0 (j + 1)), .ref 5]) b_L_law_662_662 rfl (fun hd => ?_)
  refine R3.callV (M2 := mX10_hinders) (As := [.int (F 0 (j + 1)), .int (F 0 (j + 2))]) (rest := []) hd lk_12_85 okX10_hinders (by decide) rfl (Ev2.scr hp) (by omega) rfl rfl (Nat.le_of_ble_eq_true rfl) (fun r1 F1 h1 => ?_)
  obtain ⟨⟨v, d2, hd2, e1, hq⟩, hsc⟩ := h1
  subst e1
  refine R3.B (ls2 := [some (.ref 0), some (.ref 5), some (.ref 48), some (.int (nI j))]) (st2 := [.int ((nI j) + 1), .ref 0, .ref 48, .int v]) b_L_law_665_670 rfl (fun hd => ?_)
  rw [show ((nI j) + 1 : Int32) = nI (j + 1) from nI_add j 1]
  refine R3.iald (j + 1) rfl hd rfl (fun _ => rfl) (by omega) (by omega) ?_
  refine R3.top (show (F1 0 (j + 1) : Int32) = F 0 (j + 1) from hsc _ (by omega)) ?_
  refine R3.B (ls2 := [some (.ref 0), some (.ref 5), some (.ref 48), some (.int (nI j))]) (st2 := [.int ((nI j) + 2), .ref 0, .int (F 0 (j + 1)), .ref 48, .int v]) b_L_law_671_675 rfl (fun hd => ?_)
  rw [show ((nI j) + 2 : Int32) = nI (j + 2) from nI_add j 2]
  refine R3.iald (j + 2) rfl hd rfl (fun _ => rfl) (by omega) (by omega) ?_
  refine R3.top (show (F1 0 (j + 2) : Int32) = F 0 (j + 2) from hsc _ (by omega)) ?_
  refine R3.B (ls2 := [some (.ref 0), some (.ref 5), some (.ref 48), some (.int (nI j))]) (st2 := [.int (F 0 (j + 2)), .int (F 0 (j + 1)), .ref 48, .int v]) b_L_law_676_676 rfl (fun hd => ?_)
  refine R3.callV (M2 := mX11_hinders) (As := [.int (F 0 (j + 1)), .int (F 0 (j + 2))]) (rest := [.int v]) hd lk_12_88 okX11_hinders (by decide) rfl (hq) (by omega) rfl rfl (Nat.le_of_ble_eq_true rfl) (fun r2 F2 h2 => ?_)
  obtain ⟨e2, hI2⟩ := h2
  subst e2
  refine R3.B (ls2 := [some (.ref 0), some (.ref 5), some (.ref 48), some (.int (nI j))]) (st2 := [.int v, .int v]) b_L_law_679_679 rfl (fun hd => ?_)
  refine R3.icmp_eq 1150 hd (by decide) (fun c679 => ?_) (fun c679 => absurd (rfl) c679)
  refine R3.B (ls2 := [some (.ref 0), some (.ref 5), some (.ref 48), some (.int (nI j))]) (st2 := []) b_L_law_1150_1150 rfl (fun hd => ?_)
  exact ex _ hI2
set_option maxRecDepth 20000 in
set_option maxHeartbeats 1000000 in
theorem law_post {E : EE} {L : Nat} {c0 s0 : Nat} {F : FF} {Q : Q2} {l0 l1 n m j : Nat} (hI : IV F l0 l1 n m) (hj : j + 6 ≤ L) (hL : L ≤ 3072) (ex : ∀ F1 : FF, INV F1 → R3 E L mL_law c0 s0 20 1150 [some (.ref 0), some (.ref 5), some (.ref 48), some (.int (nI j))] [] F1 Q) : R3 E L mL_law c0 s0 20 684 [some (.ref 0), some (.ref 5), some (.ref 48), some (.int (nI j))] [] F Q := by
  obtain ⟨d1, hd1, hp⟩ := pr_post (E := E) (L := L) hI (F 0 (j + 1))
  refine R3.B (ls2 := [some (.ref 0), some (.ref 5), some (.ref 48), some (.int (nI j))]) (st2 := [.int ((nI j) + 1), .ref 0, .ref 5]) b_L_law_684_689 rfl (fun hd => ?_)
  rw [show ((nI j) + 1 : Int32) = nI (j + 1) from nI_add j 1]
  refine R3.iald (j + 1) rfl hd rfl (fun _ => rfl) (by omega) (by omega) ?_
  refine R3.B (ls2 := [some (.ref 0), some (.ref 5), some (.ref 48), some (.int (nI j))]) (st2 := [.int (F 0 (j + 1)), .ref 5]) b_L_law_690_690 rfl (fun hd => ?_)
  refine R3.callV (M2 := mX10_post) (As := [.int (F 0 (j + 1))]) (rest := []) hd lk_12_89 okX10_post (by decide) rfl (Ev2.scr hp) (by omega) rfl rfl (Nat.le_of_ble_eq_true rfl) (fun r1 F1 h1 => ?_)
  obtain ⟨⟨v, d2, hd2, e1, hq⟩, hsc⟩ := h1
  subst e1
  refine R3.B (ls2 := [some (.ref 0), some (.ref 5), some (.ref 48), some (.int (nI j))]) (st2 := [.int ((nI j) + 1), .ref 0, .ref 48, .int v]) b_L_law_693_698 rfl (fun hd => ?_)
  rw [show ((nI j) + 1 : Int32) = nI (j + 1) from nI_add j 1]
  refine R3.iald (j + 1) rfl hd rfl (fun _ => rfl) (by omega) (by omega) ?_
  refine R3.top (show (F1 0 (j + 1) : Int32) = F 0 (j + 1) from hsc _ (by omega)) ?_
  refine R3.B (ls2 := [some (.ref 0), some (.ref 5), some (.ref 48), some (.int (nI j))]) (st2 := [.int (F 0 (j + 1)), .ref 48, .int v]) b_L_law_699_699 rfl (fun hd => ?_)
  refine R3.callV (M2 := mX11_post) (As := [.int (F 0 (j + 1))]) (rest := [.int v]) hd lk_12_92 okX11_post (by decide) rfl (hq) (by omega) rfl rfl (Nat.le_of_ble_eq_true rfl) (fun r2 F2 h2 => ?_)
  obtain ⟨e2, hI2⟩ := h2
  subst e2
  refine R3.B (ls2 := [some (.ref 0), some (.ref 5), some (.ref 48), some (.int (nI j))]) (st2 := [.int v, .int v]) b_L_law_702_702 rfl (fun hd => ?_)
  refine R3.icmp_eq 1150 hd (by decide) (fun c702 => ?_) (fun c702 => absurd (rfl) c702)
  refine R3.B (ls2 := [some (.ref 0), some (.ref 5), some (.ref 48), some (.int (nI j))]) (st2 := []) b_L_law_1150_1150 rfl (fun hd => ?_)
  exact ex _ hI2
set_option maxRecDepth 20000 in
set_option maxHeartbeats 1000000 in
theorem law_gone {E : EE} {L : Nat} {c0 s0 : Nat} {F : FF} {Q : Q2} {l0 l1 n m j : Nat} (hI : IV F l0 l1 n m) (hj : j + 6 ≤ L) (hL : L ≤ 3072) (ex : ∀ F1 : FF, INV F1 → R3 E L mL_law c0 s0 20 1150 [some (.ref 0), some (.ref 5), some (.ref 48), some (.int (nI j))] [] F1 Q) : R3 E L mL_law c0 s0 20 707 [some (.ref 0), some (.ref 5), some (.ref 48), some (.int (nI j))] [] F Q := by
  obtain ⟨d1, hd1, hp⟩ := pr_gone (E := E) (L := L) hI 
  refine R3.B (ls2 := [some (.ref 0), some (.ref 5), some (.ref 48), some (.int (nI j))]) (st2 := [.ref 5]) b_L_law_707_708 rfl (fun hd => ?_)
  refine R3.callV (M2 := mX10_gone) (As := []) (rest := []) hd lk_12_93 okX10_gone (by decide) rfl (Ev2.scr hp) (by omega) rfl rfl (Nat.le_of_ble_eq_true rfl) (fun r1 F1 h1 => ?_)
  obtain ⟨⟨v, d2, hd2, e1, hq⟩, hsc⟩ := h1
  subst e1
  refine R3.B (ls2 := [some (.ref 0), some (.ref 5), some (.ref 48), some (.int (nI j))]) (st2 := [.ref 48, .int v]) b_L_law_711_712 rfl (fun hd => ?_)
  refine R3.callV (M2 := mX11_gone) (As := []) (rest := [.int v]) hd lk_12_96 okX11_gone (by decide) rfl (hq) (by omega) rfl rfl (Nat.le_of_ble_eq_true rfl) (fun r2 F2 h2 => ?_)
  obtain ⟨e2, hI2⟩ := h2
  subst e2
  refine R3.B (ls2 := [some (.ref 0), some (.ref 5), some (.ref 48), some (.int (nI j))]) (st2 := [.int v, .int v]) b_L_law_715_715 rfl (fun hd => ?_)
  refine R3.icmp_eq 1150 hd (by decide) (fun c715 => ?_) (fun c715 => absurd (rfl) c715)
  refine R3.B (ls2 := [some (.ref 0), some (.ref 5), some (.ref 48), some (.int (nI j))]) (st2 := []) b_L_law_1150_1150 rfl (fun hd => ?_)
  exact ex _ hI2
set_option maxRecDepth 20000 in
set_option maxHeartbeats 1000000 in
theorem law_sees {E : EE} {L : Nat} {c0 s0 : Nat} {F : FF} {Q : Q2} {l0 l1 n m j : Nat} (hI : IV F l0 l1 n m) (hj : j + 6 ≤ L) (hL : L ≤ 3072) (ex : ∀ F1 : FF, INV F1 → R3 E L mL_law c0 s0 20 1150 [some (.ref 0), some (.ref 5), some (.ref 48), some (.int (nI j))] [] F1 Q) : R3 E L mL_law c0 s0 20 720 [some (.ref 0), some (.ref 5), some (.ref 48), some (.int (nI j))] [] F Q := by
  obtain ⟨d1, hd1, hp⟩ := pr_sees (E := E) (L := L) hI 
  refine R3.B (ls2 := [some (.ref 0), some (.ref 5), some (.ref 48), some (.int (nI j))]) (st2 := [.ref 5]) b_L_law_720_721 rfl (fun hd => ?_)
  refine R3.callV (M2 := mX10_sees) (As := []) (rest := []) hd lk_12_97 okX10_sees (by decide) rfl (Ev2.scr hp) (by omega) rfl rfl (Nat.le_of_ble_eq_true rfl) (fun r1 F1 h1 => ?_)
  obtain ⟨⟨v, d2, hd2, e1, hq⟩, hsc⟩ := h1
  subst e1
  refine R3.B (ls2 := [some (.ref 0), some (.ref 5), some (.ref 48), some (.int (nI j))]) (st2 := [.ref 48, .int v]) b_L_law_724_725 rfl (fun hd => ?_)
  refine R3.callV (M2 := mX11_sees) (As := []) (rest := [.int v]) hd lk_12_100 okX11_sees (by decide) rfl (hq) (by omega) rfl rfl (Nat.le_of_ble_eq_true rfl) (fun r2 F2 h2 => ?_)
  obtain ⟨e2, hI2⟩ := h2
  subst e2
  refine R3.B (ls2 := [some (.ref 0), some (.ref 5), some (.ref 48), some (.int (nI j))]) (st2 := [.int v, .int v]) b_L_law_728_728 rfl (fun hd => ?_)
  refine R3.icmp_eq 1150 hd (by decide) (fun c728 => ?_) (fun c728 => absurd (rfl) c728)
  refine R3.B (ls2 := [some (.ref 0), some (.ref 5), some (.ref 48), some (.int (nI j))]) (st2 := []) b_L_law_1150_1150 rfl (fun hd => ?_)
  exact ex _ hI2
set_option maxRecDepth 20000 in
set_option maxHeartbeats 1000000 in
theorem law_more {E : EE} {L : Nat} {c0 s0 : Nat} {F : FF} {Q : Q2} {l0 l1 n m j : Nat} (hI : IV F l0 l1 n m) (hj : j + 6 ≤ L) (hL : L ≤ 3072) (ex : ∀ F1 : FF, INV F1 → R3 E L mL_law c0 s0 20 1150 [some (.ref 0), some (.ref 5), some (.ref 48), some (.int (nI j))] [] F1 Q) : R3 E L mL_law c0 s0 20 733 [some (.ref 0), some (.ref 5), some (.ref 48), some (.int (nI j))] [] F Q := by
  obtain ⟨d1, hd1, hp⟩ := pr_more (E := E) (L := L) hI (F 0 (j + 1))
  refine R3.B (ls2 := [some (.ref 0), some (.ref 5), some (.ref 48), some (.int (nI j))]) (st2 := [.int ((nI j) + 1), .ref 0, .ref 5]) b_L_law_733_738 rfl (fun hd => ?_)
  rw [show ((nI j) + 1 : Int32) = nI (j + 1) from nI_add j 1]
  refine R3.iald (j + 1) rfl hd rfl (fun _ => rfl) (by omega) (by omega) ?_
  refine R3.B (ls2 := [some (.ref 0), some (.ref 5), some (.ref 48), some (.int (nI j))]) (st2 := [.int (F 0 (j + 1)), .ref 5]) b_L_law_739_739 rfl (fun hd => ?_)
  refine R3.callV (M2 := mX10_more) (As := [.int (F 0 (j + 1))]) (rest := []) hd lk_12_101 okX10_more (by decide) rfl (Ev2.scr hp) (by omega) rfl rfl (Nat.le_of_ble_eq_true rfl) (fun r1 F1 h1 => ?_)
  obtain ⟨⟨v, d2, hd2, e1, hq⟩, hsc⟩ := h1
  subst e1
  refine R3.B (ls2 := [some (.ref 0), some (.ref 5), some (.ref 48), some (.int (nI j))]) (st2 := [.int ((nI j) + 1), .ref 0, .ref 48, .int v]) b_L_law_742_747 rfl (fun hd => ?_)
  rw [show ((nI j) + 1 : Int32) = nI (j + 1) from nI_add j 1]
  refine R3.iald (j + 1) rfl hd rfl (fun _ => rfl) (by omega) (by omega) ?_
  refine R3.top (show (F1 0 (j + 1) : Int32) = F 0 (j + 1) from hsc _ (by omega)) ?_
  refine R3.B (ls2 := [some (.ref 0), some (.ref 5), some (.ref 48), some (.int (nI j))]) (st2 := [.int (F 0 (j + 1)), .ref 48, .int v]) b_L_law_748_748 rfl (fun hd => ?_)
  refine R3.callV (M2 := mX11_more) (As := [.int (F 0 (j + 1))]) (rest := [.int v]) hd lk_12_104 okX11_more (by decide) rfl (hq) (by omega) rfl rfl (Nat.le_of_ble_eq_true rfl) (fun r2 F2 h2 => ?_)
  obtain ⟨e2, hI2⟩ := h2
  subst e2
  refine R3.B (ls2 := [some (.ref 0), some (.ref 5), some (.ref 48), some (.int (nI j))]) (st2 := [.int v, .int v]) b_L_law_751_751 rfl (fun hd => ?_)
  refine R3.icmp_eq 1150 hd (by decide) (fun c751 => ?_) (fun c751 => absurd (rfl) c751)
  refine R3.B (ls2 := [some (.ref 0), some (.ref 5), some (.ref 48), some (.int (nI j))]) (st2 := []) b_L_law_1150_1150 rfl (fun hd => ?_)
  exact ex _ hI2
set_option maxRecDepth 20000 in
set_option maxHeartbeats 1000000 in
theorem law_both {E : EE} {L : Nat} {c0 s0 : Nat} {F : FF} {Q : Q2} {l0 l1 n m j : Nat} (hI : IV F l0 l1 n m) (hj : j + 6 ≤ L) (hL : L ≤ 3072) (ex : ∀ F1 : FF, INV F1 → R3 E L mL_law c0 s0 20 1150 [some (.ref 0), some (.ref 5), some (.ref 48), some (.int (nI j))] [] F1 Q) : R3 E L mL_law c0 s0 20 756 [some (.ref 0), some (.ref 5), some (.ref 48), some (.int (nI j))] [] F Q := by
  obtain ⟨d1, hd1, hp⟩ := pr_both (E := E) (L := L) hI (F 0 (j + 1)) (F 0 (j + 2)) (F 0 (j + 3))
  refine R3.B (ls2 := [some (.ref 0), some (.ref 5), some (.ref 48), some (.int (nI j))]) (st2 := [.int ((nI j) + 1), .ref 0, .ref 5]) b_L_law_756_761 rfl (fun hd => ?_)
  rw [show ((nI j) + 1 : Int32) = nI (j + 1) from nI_add j 1]
  refine R3.iald (j + 1) rfl hd rfl (fun _ => rfl) (by omega) (by omega) ?_
  refine R3.B (ls2 := [some (.ref 0), some (.ref 5), some (.ref 48), some (.int (nI j))]) (st2 := [.int ((nI j) + 2), .ref 0, .int (F 0 (j + 1)), .ref 5]) b_L_law_762_766 rfl (fun hd => ?_)
  rw [show ((nI j) + 2 : Int32) = nI (j + 2) from nI_add j 2]
  refine R3.iald (j + 2) rfl hd rfl (fun _ => rfl) (by omega) (by omega) ?_
  refine R3.B (ls2 := [some (.ref 0), some (.ref 5), some (.ref 48), some (.int (nI j))]) (st2 := [.int ((nI j) + 3), .ref 0, .int (F 0 (j + 2)), .int (F 0 (j + 1)), .ref 5]) b_L_law_767_771 rfl (fun hd => ?_)
  rw [show ((nI j) + 3 : Int32) = nI (j + 3) from nI_add j 3]
  refine R3.iald (j + 3) rfl hd rfl (fun _ => rfl) (by omega) (by omega) ?_
  refine R3.B (ls2 := [some (.ref 0), some (.ref 5), some (.ref 48), some (.int (nI j))]) (st2 := [.int (F 0 (j + 3)), .int (F 0 (j + 2)), .int (F 0 (j + 1)), .ref 5]) b_L_law_772_772 rfl (fun hd => ?_)
  refine R3.callV (M2 := mX10_both) (As := [.int (F 0 (j + 1)), .int (F 0 (j + 2)), .int (F 0 (j + 3))]) (rest := []) hd lk_12_105 okX10_both (by decide) rfl (Ev2.scr hp) (by omega) rfl rfl (Nat.le_of_ble_eq_true rfl) (fun r1 F1 h1 => ?_)
  obtain ⟨⟨v, d2, hd2, e1, hq⟩, hsc⟩ := h1
  subst e1
  refine R3.B (ls2 := [some (.ref 0), some (.ref 5), some (.ref 48), some (.int (nI j))]) (st2 := [.int ((nI j) + 1), .ref 0, .ref 48, .int v]) b_L_law_775_780 rfl (fun hd => ?_)
  rw [show ((nI j) + 1 : Int32) = nI (j + 1) from nI_add j 1]
  refine R3.iald (j + 1) rfl hd rfl (fun _ => rfl) (by omega) (by omega) ?_
  refine R3.top (show (F1 0 (j + 1) : Int32) = F 0 (j + 1) from hsc _ (by omega)) ?_
  refine R3.B (ls2 := [some (.ref 0), some (.ref 5), some (.ref 48), some (.int (nI j))]) (st2 := [.int ((nI j) + 2), .ref 0, .int (F 0 (j + 1)), .ref 48, .int v]) b_L_law_781_785 rfl (fun hd => ?_)
  rw [show ((nI j) + 2 : Int32) = nI (j + 2) from nI_add j 2]
  refine R3.iald (j + 2) rfl hd rfl (fun _ => rfl) (by omega) (by omega) ?_
  refine R3.top (show (F1 0 (j + 2) : Int32) = F 0 (j + 2) from hsc _ (by omega)) ?_
  refine R3.B (ls2 := [some (.ref 0), some (.ref 5), some (.ref 48), some (.int (nI j))]) (st2 := [.int ((nI j) + 3), .ref 0, .int (F 0 (j + 2)), .int (F 0 (j + 1)), .ref 48, .int v]) b_L_law_786_790 rfl (fun hd => ?_)
  rw [show ((nI j) + 3 : Int32) = nI (j + 3) from nI_add j 3]
  refine R3.iald (j + 3) rfl hd rfl (fun _ => rfl) (by omega) (by omega) ?_
  refine R3.top (show (F1 0 (j + 3) : Int32) = F 0 (j + 3) from hsc _ (by omega)) ?_
  refine R3.B (ls2 := [some (.ref 0), some (.ref 5), some (.ref 48), some (.int (nI j))]) (st2 := [.int (F 0 (j + 3)), .int (F 0 (j + 2)), .int (F 0 (j + 1)), .ref 48, .int v]) b_L_law_791_791 rfl (fun hd => ?_)
  refine R3.callV (M2 := mX11_both) (As := [.int (F 0 (j + 1)), .int (F 0 (j + 2)), .int (F 0 (j + 3))]) (rest := [.int v]) hd lk_12_108 okX11_both (by decide) rfl (hq) (by omega) rfl rfl (Nat.le_of_ble_eq_true rfl) (fun r2 F2 h2 => ?_)
  obtain ⟨e2, hI2⟩ := h2
  subst e2
  refine R3.B (ls2 := [some (.ref 0), some (.ref 5), some (.ref 48), some (.int (nI j))]) (st2 := [.int v, .int v]) b_L_law_794_794 rfl (fun hd => ?_)
  refine R3.icmp_eq 1150 hd (by decide) (fun c794 => ?_) (fun c794 => absurd (rfl) c794)
  refine R3.B (ls2 := [some (.ref 0), some (.ref 5), some (.ref 48), some (.int (nI j))]) (st2 := []) b_L_law_1150_1150 rfl (fun hd => ?_)
  exact ex _ hI2
set_option maxRecDepth 20000 in
set_option maxHeartbeats 1000000 in
theorem law_broker {E : EE} {L : Nat} {c0 s0 : Nat} {F : FF} {Q : Q2} {l0 l1 n m j : Nat} (hI : IV F l0 l1 n m) (hj : j + 6 ≤ L) (hL : L ≤ 3072) (ex : ∀ F1 : FF, INV F1 → R3 E L mL_law c0 s0 20 1150 [some (.ref 0), some (.ref 5), some (.ref 48), some (.int (nI j))] [] F1 Q) : R3 E L mL_law c0 s0 20 799 [some (.ref 0), some (.ref 5), some (.ref 48), some (.int (nI j))] [] F Q := by
  obtain ⟨d1, hd1, hp⟩ := pr_broker (E := E) (L := L) hI (F 0 (j + 1))
  refine R3.B (ls2 := [some (.ref 0), some (.ref 5), some (.ref 48), some (.int (nI j))]) (st2 := [.int ((nI j) + 1), .ref 0, .ref 5]) b_L_law_799_804 rfl (fun hd => ?_)
  rw [show ((nI j) + 1 : Int32) = nI (j + 1) from nI_add j 1]
  refine R3.iald (j + 1) rfl hd rfl (fun _ => rfl) (by omega) (by omega) ?_
  refine R3.B (ls2 := [some (.ref 0), some (.ref 5), some (.ref 48), some (.int (nI j))]) (st2 := [.int (F 0 (j + 1)), .ref 5]) b_L_law_805_805 rfl (fun hd => ?_)
  refine R3.callV (M2 := mX10_broker) (As := [.int (F 0 (j + 1))]) (rest := []) hd lk_12_109 okX10_broker (by decide) rfl (Ev2.scr hp) (by omega) rfl rfl (Nat.le_of_ble_eq_true rfl) (fun r1 F1 h1 => ?_)
  obtain ⟨⟨v, d2, hd2, e1, hq⟩, hsc⟩ := h1
  subst e1
  refine R3.B (ls2 := [some (.ref 0), some (.ref 5), some (.ref 48), some (.int (nI j))]) (st2 := [.int ((nI j) + 1), .ref 0, .ref 48, .int v]) b_L_law_808_813 rfl (fun hd => ?_)
  rw [show ((nI j) + 1 : Int32) = nI (j + 1) from nI_add j 1]
  refine R3.iald (j + 1) rfl hd rfl (fun _ => rfl) (by omega) (by omega) ?_
  refine R3.top (show (F1 0 (j + 1) : Int32) = F 0 (j + 1) from hsc _ (by omega)) ?_
  refine R3.B (ls2 := [some (.ref 0), some (.ref 5), some (.ref 48), some (.int (nI j))]) (st2 := [.int (F 0 (j + 1)), .ref 48, .int v]) b_L_law_814_814 rfl (fun hd => ?_)
  refine R3.callV (M2 := mX11_broker) (As := [.int (F 0 (j + 1))]) (rest := [.int v]) hd lk_12_112 okX11_broker (by decide) rfl (hq) (by omega) rfl rfl (Nat.le_of_ble_eq_true rfl) (fun r2 F2 h2 => ?_)
  obtain ⟨e2, hI2⟩ := h2
  subst e2
  refine R3.B (ls2 := [some (.ref 0), some (.ref 5), some (.ref 48), some (.int (nI j))]) (st2 := [.int v, .int v]) b_L_law_817_817 rfl (fun hd => ?_)
  refine R3.icmp_eq 1150 hd (by decide) (fun c817 => ?_) (fun c817 => absurd (rfl) c817)
  refine R3.B (ls2 := [some (.ref 0), some (.ref 5), some (.ref 48), some (.int (nI j))]) (st2 := []) b_L_law_1150_1150 rfl (fun hd => ?_)
  exact ex _ hI2
set_option maxRecDepth 20000 in
set_option maxHeartbeats 1000000 in
theorem law_other {E : EE} {L : Nat} {c0 s0 : Nat} {F : FF} {Q : Q2} {l0 l1 n m j : Nat} (hI : IV F l0 l1 n m) (hj : j + 6 ≤ L) (hL : L ≤ 3072) (ex : ∀ F1 : FF, INV F1 → R3 E L mL_law c0 s0 20 1150 [some (.ref 0), some (.ref 5), some (.ref 48), some (.int (nI j))] [] F1 Q) : R3 E L mL_law c0 s0 20 822 [some (.ref 0), some (.ref 5), some (.ref 48), some (.int (nI j))] [] F Q := by
  obtain ⟨d1, hd1, hp⟩ := pr_other (E := E) (L := L) hI (F 0 (j + 1)) (F 0 (j + 2)) (F 0 (j + 3))
  refine R3.B (ls2 := [some (.ref 0), some (.ref 5), some (.ref 48), some (.int (nI j))]) (st2 := [.int ((nI j) + 1), .ref 0, .ref 5]) b_L_law_822_827 rfl (fun hd => ?_)
  rw [show ((nI j) + 1 : Int32) = nI (j + 1) from nI_add j 1]
  refine R3.iald (j + 1) rfl hd rfl (fun _ => rfl) (by omega) (by omega) ?_
  refine R3.B (ls2 := [some (.ref 0), some (.ref 5), some (.ref 48), some (.int (nI j))]) (st2 := [.int ((nI j) + 2), .ref 0, .int (F 0 (j + 1)), .ref 5]) b_L_law_828_832 rfl (fun hd => ?_)
  rw [show ((nI j) + 2 : Int32) = nI (j + 2) from nI_add j 2]
  refine R3.iald (j + 2) rfl hd rfl (fun _ => rfl) (by omega) (by omega) ?_
  refine R3.B (ls2 := [some (.ref 0), some (.ref 5), some (.ref 48), some (.int (nI j))]) (st2 := [.int ((nI j) + 3), .ref 0, .int (F 0 (j + 2)), .int (F 0 (j + 1)), .ref 5]) b_L_law_833_837 rfl (fun hd => ?_)
  rw [show ((nI j) + 3 : Int32) = nI (j + 3) from nI_add j 3]
  refine R3.iald (j + 3) rfl hd rfl (fun _ => rfl) (by omega) (by omega) ?_
  refine R3.B (ls2 := [some (.ref 0), some (.ref 5), some (.ref 48), some (.int (nI j))]) (st2 := [.int (F 0 (j + 3)), .int (F 0 (j + 2)), .int (F 0 (j + 1)), .ref 5]) b_L_law_838_838 rfl (fun hd => ?_)
  refine R3.callV (M2 := mX10_other) (As := [.int (F 0 (j + 1)), .int (F 0 (j + 2)), .int (F 0 (j + 3))]) (rest := []) hd lk_12_113 okX10_other (by decide) rfl (Ev2.scr hp) (by omega) rfl rfl (Nat.le_of_ble_eq_true rfl) (fun r1 F1 h1 => ?_)
  obtain ⟨⟨v, d2, hd2, e1, hq⟩, hsc⟩ := h1
  subst e1
  refine R3.B (ls2 := [some (.ref 0), some (.ref 5), some (.ref 48), some (.int (nI j))]) (st2 := [.int ((nI j) + 1), .ref 0, .ref 48, .int v]) b_L_law_841_846 rfl (fun hd => ?_)
  rw [show ((nI j) + 1 : Int32) = nI (j + 1) from nI_add j 1]
  refine R3.iald (j + 1) rfl hd rfl (fun _ => rfl) (by omega) (by omega) ?_
  refine R3.top (show (F1 0 (j + 1) : Int32) = F 0 (j + 1) from hsc _ (by omega)) ?_
  refine R3.B (ls2 := [some (.ref 0), some (.ref 5), some (.ref 48), some (.int (nI j))]) (st2 := [.int ((nI j) + 2), .ref 0, .int (F 0 (j + 1)), .ref 48, .int v]) b_L_law_847_851 rfl (fun hd => ?_)
  rw [show ((nI j) + 2 : Int32) = nI (j + 2) from nI_add j 2]
  refine R3.iald (j + 2) rfl hd rfl (fun _ => rfl) (by omega) (by omega) ?_
  refine R3.top (show (F1 0 (j + 2) : Int32) = F 0 (j + 2) from hsc _ (by omega)) ?_
  refine R3.B (ls2 := [some (.ref 0), some (.ref 5), some (.ref 48), some (.int (nI j))]) (st2 := [.int ((nI j) + 3), .ref 0, .int (F 0 (j + 2)), .int (F 0 (j + 1)), .ref 48, .int v]) b_L_law_852_856 rfl (fun hd => ?_)
  rw [show ((nI j) + 3 : Int32) = nI (j + 3) from nI_add j 3]
  refine R3.iald (j + 3) rfl hd rfl (fun _ => rfl) (by omega) (by omega) ?_
  refine R3.top (show (F1 0 (j + 3) : Int32) = F 0 (j + 3) from hsc _ (by omega)) ?_
  refine R3.B (ls2 := [some (.ref 0), some (.ref 5), some (.ref 48), some (.int (nI j))]) (st2 := [.int (F 0 (j + 3)), .int (F 0 (j + 2)), .int (F 0 (j + 1)), .ref 48, .int v]) b_L_law_857_857 rfl (fun hd => ?_)
  refine R3.callV (M2 := mX11_other) (As := [.int (F 0 (j + 1)), .int (F 0 (j + 2)), .int (F 0 (j + 3))]) (rest := [.int v]) hd lk_12_116 okX11_other (by decide) rfl (hq) (by omega) rfl rfl (Nat.le_of_ble_eq_true rfl) (fun r2 F2 h2 => ?_)
  obtain ⟨e2, hI2⟩ := h2
  subst e2
  refine R3.B (ls2 := [some (.ref 0), some (.ref 5), some (.ref 48), some (.int (nI j))]) (st2 := [.int v, .int v]) b_L_law_860_860 rfl (fun hd => ?_)
  refine R3.icmp_eq 1150 hd (by decide) (fun c860 => ?_) (fun c860 => absurd (rfl) c860)
  refine R3.B (ls2 := [some (.ref 0), some (.ref 5), some (.ref 48), some (.int (nI j))]) (st2 := []) b_L_law_1150_1150 rfl (fun hd => ?_)
  exact ex _ hI2
set_option maxRecDepth 20000 in
set_option maxHeartbeats 1000000 in
theorem law_sheet {E : EE} {L : Nat} {c0 s0 : Nat} {F : FF} {Q : Q2} {l0 l1 n m j : Nat} (hI : IV F l0 l1 n m) (hj : j + 6 ≤ L) (hL : L ≤ 3072) (ex : ∀ F1 : FF, INV F1 → R3 E L mL_law c0 s0 20 1150 [some (.ref 0), some (.ref 5), some (.ref 48), some (.int (nI j))] [] F1 Q) : R3 E L mL_law c0 s0 20 865 [some (.ref 0), some (.ref 5), some (.ref 48), some (.int (nI j))] [] F Q := by
  obtain ⟨d1, hd1, hp⟩ := pr_sheet (E := E) (L := L) hI (F 0 (j + 1)) (F 0 (j + 2)) (F 0 (j + 3))
  refine R3.B (ls2 := [some (.ref 0), some (.ref 5), some (.ref 48), some (.int (nI j))]) (st2 := [.int ((nI j) + 1), .ref 0, .ref 5]) b_L_law_865_870 rfl (fun hd => ?_)
  rw [show ((nI j) + 1 : Int32) = nI (j + 1) from nI_add j 1]
  refine R3.iald (j + 1) rfl hd rfl (fun _ => rfl) (by omega) (by omega) ?_
  refine R3.B (ls2 := [some (.ref 0), some (.ref 5), some (.ref 48), some (.int (nI j))]) (st2 := [.int ((nI j) + 2), .ref 0, .int (F 0 (j + 1)), .ref 5]) b_L_law_871_875 rfl (fun hd => ?_)
  rw [show ((nI j) + 2 : Int32) = nI (j + 2) from nI_add j 2]
  refine R3.iald (j + 2) rfl hd rfl (fun _ => rfl) (by omega) (by omega) ?_
  refine R3.B (ls2 := [some (.ref 0), some (.ref 5), some (.ref 48), some (.int (nI j))]) (st2 := [.int ((nI j) + 3), .ref 0, .int (F 0 (j + 2)), .int (F 0 (j + 1)), .ref 5]) b_L_law_876_880 rfl (fun hd => ?_)
  rw [show ((nI j) + 3 : Int32) = nI (j + 3) from nI_add j 3]
  refine R3.iald (j + 3) rfl hd rfl (fun _ => rfl) (by omega) (by omega) ?_
  refine R3.B (ls2 := [some (.ref 0), some (.ref 5), some (.ref 48), some (.int (nI j))]) (st2 := [.int (F 0 (j + 3)), .int (F 0 (j + 2)), .int (F 0 (j + 1)), .ref 5]) b_L_law_881_881 rfl (fun hd => ?_)
  refine R3.callV (M2 := mX10_sheet) (As := [.int (F 0 (j + 1)), .int (F 0 (j + 2)), .int (F 0 (j + 3))]) (rest := []) hd lk_12_117 okX10_sheet (by decide) rfl (Ev2.scr hp) (by omega) rfl rfl (Nat.le_of_ble_eq_true rfl) (fun r1 F1 h1 => ?_)
  obtain ⟨⟨v, d2, hd2, e1, hq⟩, hsc⟩ := h1
  subst e1
  refine R3.B (ls2 := [some (.ref 0), some (.ref 5), some (.ref 48), some (.int (nI j))]) (st2 := [.int ((nI j) + 1), .ref 0, .ref 48, .int v]) b_L_law_884_889 rfl (fun hd => ?_)
  rw [show ((nI j) + 1 : Int32) = nI (j + 1) from nI_add j 1]
  refine R3.iald (j + 1) rfl hd rfl (fun _ => rfl) (by omega) (by omega) ?_
  refine R3.top (show (F1 0 (j + 1) : Int32) = F 0 (j + 1) from hsc _ (by omega)) ?_
  refine R3.B (ls2 := [some (.ref 0), some (.ref 5), some (.ref 48), some (.int (nI j))]) (st2 := [.int ((nI j) + 2), .ref 0, .int (F 0 (j + 1)), .ref 48, .int v]) b_L_law_890_894 rfl (fun hd => ?_)
  rw [show ((nI j) + 2 : Int32) = nI (j + 2) from nI_add j 2]
  refine R3.iald (j + 2) rfl hd rfl (fun _ => rfl) (by omega) (by omega) ?_
  refine R3.top (show (F1 0 (j + 2) : Int32) = F 0 (j + 2) from hsc _ (by omega)) ?_
  refine R3.B (ls2 := [some (.ref 0), some (.ref 5), some (.ref 48), some (.int (nI j))]) (st2 := [.int ((nI j) + 3), .ref 0, .int (F 0 (j + 2)), .int (F 0 (j + 1)), .ref 48, .int v]) b_L_law_895_899 rfl (fun hd => ?_)
  rw [show ((nI j) + 3 : Int32) = nI (j + 3) from nI_add j 3]
  refine R3.iald (j + 3) rfl hd rfl (fun _ => rfl) (by omega) (by omega) ?_
  refine R3.top (show (F1 0 (j + 3) : Int32) = F 0 (j + 3) from hsc _ (by omega)) ?_
  refine R3.B (ls2 := [some (.ref 0), some (.ref 5), some (.ref 48), some (.int (nI j))]) (st2 := [.int (F 0 (j + 3)), .int (F 0 (j + 2)), .int (F 0 (j + 1)), .ref 48, .int v]) b_L_law_900_900 rfl (fun hd => ?_)
  refine R3.callV (M2 := mX11_sheet) (As := [.int (F 0 (j + 1)), .int (F 0 (j + 2)), .int (F 0 (j + 3))]) (rest := [.int v]) hd lk_12_120 okX11_sheet (by decide) rfl (hq) (by omega) rfl rfl (Nat.le_of_ble_eq_true rfl) (fun r2 F2 h2 => ?_)
  obtain ⟨e2, hI2⟩ := h2
  subst e2
  refine R3.B (ls2 := [some (.ref 0), some (.ref 5), some (.ref 48), some (.int (nI j))]) (st2 := [.int v, .int v]) b_L_law_903_903 rfl (fun hd => ?_)
  refine R3.icmp_eq 1150 hd (by decide) (fun c903 => ?_) (fun c903 => absurd (rfl) c903)
  refine R3.B (ls2 := [some (.ref 0), some (.ref 5), some (.ref 48), some (.int (nI j))]) (st2 := []) b_L_law_1150_1150 rfl (fun hd => ?_)
  exact ex _ hI2
set_option maxRecDepth 20000 in
set_option maxHeartbeats 1000000 in
theorem law_lose {E : EE} {L : Nat} {c0 s0 : Nat} {F : FF} {Q : Q2} {l0 l1 n m j : Nat} (hI : IV F l0 l1 n m) (hj : j + 6 ≤ L) (hL : L ≤ 3072) (ex : ∀ F1 : FF, INV F1 → R3 E L mL_law c0 s0 20 1150 [some (.ref 0), some (.ref 5), some (.ref 48), some (.int (nI j))] [] F1 Q) : R3 E L mL_law c0 s0 20 908 [some (.ref 0), some (.ref 5), some (.ref 48), some (.int (nI j))] [] F Q := by
  obtain ⟨d1, hd1, hp⟩ := pr_lose (E := E) (L := L) hI (F 0 (j + 1))
  refine R3.B (ls2 := [some (.ref 0), some (.ref 5), some (.ref 48), some (.int (nI j))]) (st2 := [.int ((nI j) + 1), .ref 0, .ref 5]) b_L_law_908_913 rfl (fun hd => ?_)
  rw [show ((nI j) + 1 : Int32) = nI (j + 1) from nI_add j 1]
  refine R3.iald (j + 1) rfl hd rfl (fun _ => rfl) (by omega) (by omega) ?_
  refine R3.B (ls2 := [some (.ref 0), some (.ref 5), some (.ref 48), some (.int (nI j))]) (st2 := [.int (F 0 (j + 1)), .ref 5]) b_L_law_914_914 rfl (fun hd => ?_)
  refine R3.callV (M2 := mX10_lose) (As := [.int (F 0 (j + 1))]) (rest := []) hd lk_12_121 okX10_lose (by decide) rfl (Ev2.scr hp) (by omega) rfl rfl (Nat.le_of_ble_eq_true rfl) (fun r1 F1 h1 => ?_)
  obtain ⟨⟨v, d2, hd2, e1, hq⟩, hsc⟩ := h1
  subst e1
  refine R3.B (ls2 := [some (.ref 0), some (.ref 5), some (.ref 48), some (.int (nI j))]) (st2 := [.int ((nI j) + 1), .ref 0, .ref 48, .int v]) b_L_law_917_922 rfl (fun hd => ?_)
  rw [show ((nI j) + 1 : Int32) = nI (j + 1) from nI_add j 1]
  refine R3.iald (j + 1) rfl hd rfl (fun _ => rfl) (by omega) (by omega) ?_
  refine R3.top (show (F1 0 (j + 1) : Int32) = F 0 (j + 1) from hsc _ (by omega)) ?_
  refine R3.B (ls2 := [some (.ref 0), some (.ref 5), some (.ref 48), some (.int (nI j))]) (st2 := [.int (F 0 (j + 1)), .ref 48, .int v]) b_L_law_923_923 rfl (fun hd => ?_)
  refine R3.callV (M2 := mX11_lose) (As := [.int (F 0 (j + 1))]) (rest := [.int v]) hd lk_12_124 okX11_lose (by decide) rfl (hq) (by omega) rfl rfl (Nat.le_of_ble_eq_true rfl) (fun r2 F2 h2 => ?_)
  obtain ⟨e2, hI2⟩ := h2
  subst e2
  refine R3.B (ls2 := [some (.ref 0), some (.ref 5), some (.ref 48), some (.int (nI j))]) (st2 := [.int v, .int v]) b_L_law_926_926 rfl (fun hd => ?_)
  refine R3.icmp_eq 1150 hd (by decide) (fun c926 => ?_) (fun c926 => absurd (rfl) c926)
  refine R3.B (ls2 := [some (.ref 0), some (.ref 5), some (.ref 48), some (.int (nI j))]) (st2 := []) b_L_law_1150_1150 rfl (fun hd => ?_)
  exact ex _ hI2
set_option maxRecDepth 20000 in
set_option maxHeartbeats 1000000 in
theorem law_put {E : EE} {L : Nat} {c0 s0 : Nat} {F : FF} {Q : Q2} {l0 l1 n m j : Nat} (hI : IV F l0 l1 n m) (hj : j + 6 ≤ L) (hL : L ≤ 3072) (ex : ∀ F1 : FF, INV F1 → R3 E L mL_law c0 s0 20 1150 [some (.ref 0), some (.ref 5), some (.ref 48), some (.int (nI j))] [] F1 Q) : R3 E L mL_law c0 s0 20 931 [some (.ref 0), some (.ref 5), some (.ref 48), some (.int (nI j))] [] F Q := by
  obtain ⟨d1, hd1, hp⟩ := pr_put (E := E) (L := L) hI (F 0 (j + 1)) (F 0 (j + 2)) (F 0 (j + 3)) (F 0 (j + 4))
  refine R3.B (ls2 := [some (.ref 0), some (.ref 5), some (.ref 48), some (.int (nI j))]) (st2 := [.int ((nI j) + 1), .ref 0, .ref 5]) b_L_law_931_936 rfl (fun hd => ?_)
  rw [show ((nI j) + 1 : Int32) = nI (j + 1) from nI_add j 1]
  refine R3.iald (j + 1) rfl hd rfl (fun _ => rfl) (by omega) (by omega) ?_
  refine R3.B (ls2 := [some (.ref 0), some (.ref 5), some (.ref 48), some (.int (nI j))]) (st2 := [.int ((nI j) + 2), .ref 0, .int (F 0 (j + 1)), .ref 5]) b_L_law_937_941 rfl (fun hd => ?_)
  rw [show ((nI j) + 2 : Int32) = nI (j + 2) from nI_add j 2]
  refine R3.iald (j + 2) rfl hd rfl (fun _ => rfl) (by omega) (by omega) ?_
  refine R3.B (ls2 := [some (.ref 0), some (.ref 5), some (.ref 48), some (.int (nI j))]) (st2 := [.int ((nI j) + 3), .ref 0, .int (F 0 (j + 2)), .int (F 0 (j + 1)), .ref 5]) b_L_law_942_946 rfl (fun hd => ?_)
  rw [show ((nI j) + 3 : Int32) = nI (j + 3) from nI_add j 3]
  refine R3.iald (j + 3) rfl hd rfl (fun _ => rfl) (by omega) (by omega) ?_
  refine R3.B (ls2 := [some (.ref 0), some (.ref 5), some (.ref 48), some (.int (nI j))]) (st2 := [.int ((nI j) + 4), .ref 0, .int (F 0 (j + 3)), .int (F 0 (j + 2)), .int (F 0 (j + 1)), .ref 5]) b_L_law_947_951 rfl (fun hd => ?_)
  rw [show ((nI j) + 4 : Int32) = nI (j + 4) from nI_add j 4]
  refine R3.iald (j + 4) rfl hd rfl (fun _ => rfl) (by omega) (by omega) ?_
  refine R3.B (ls2 := [some (.ref 0), some (.ref 5), some (.ref 48), some (.int (nI j))]) (st2 := [.int (F 0 (j + 4)), .int (F 0 (j + 3)), .int (F 0 (j + 2)), .int (F 0 (j + 1)), .ref 5]) b_L_law_952_952 rfl (fun hd => ?_)
  refine R3.callV (M2 := mX10_put) (As := [.int (F 0 (j + 1)), .int (F 0 (j + 2)), .int (F 0 (j + 3)), .int (F 0 (j + 4))]) (rest := []) hd lk_12_125 okX10_put (by decide) rfl (Ev2.scr hp) (by omega) rfl rfl (Nat.le_of_ble_eq_true rfl) (fun r1 F1 h1 => ?_)
  obtain ⟨⟨v, d2, hd2, e1, hq⟩, hsc⟩ := h1
  subst e1
  refine R3.B (ls2 := [some (.ref 0), some (.ref 5), some (.ref 48), some (.int (nI j))]) (st2 := [.int ((nI j) + 1), .ref 0, .ref 48, .int v]) b_L_law_955_960 rfl (fun hd => ?_)
  rw [show ((nI j) + 1 : Int32) = nI (j + 1) from nI_add j 1]
  refine R3.iald (j + 1) rfl hd rfl (fun _ => rfl) (by omega) (by omega) ?_
  refine R3.top (show (F1 0 (j + 1) : Int32) = F 0 (j + 1) from hsc _ (by omega)) ?_
  refine R3.B (ls2 := [some (.ref 0), some (.ref 5), some (.ref 48), some (.int (nI j))]) (st2 := [.int ((nI j) + 2), .ref 0, .int (F 0 (j + 1)), .ref 48, .int v]) b_L_law_961_965 rfl (fun hd => ?_)
  rw [show ((nI j) + 2 : Int32) = nI (j + 2) from nI_add j 2]
  refine R3.iald (j + 2) rfl hd rfl (fun _ => rfl) (by omega) (by omega) ?_
  refine R3.top (show (F1 0 (j + 2) : Int32) = F 0 (j + 2) from hsc _ (by omega)) ?_
  refine R3.B (ls2 := [some (.ref 0), some (.ref 5), some (.ref 48), some (.int (nI j))]) (st2 := [.int ((nI j) + 3), .ref 0, .int (F 0 (j + 2)), .int (F 0 (j + 1)), .ref 48, .int v]) b_L_law_966_970 rfl (fun hd => ?_)
  rw [show ((nI j) + 3 : Int32) = nI (j + 3) from nI_add j 3]
  refine R3.iald (j + 3) rfl hd rfl (fun _ => rfl) (by omega) (by omega) ?_
  refine R3.top (show (F1 0 (j + 3) : Int32) = F 0 (j + 3) from hsc _ (by omega)) ?_
  refine R3.B (ls2 := [some (.ref 0), some (.ref 5), some (.ref 48), some (.int (nI j))]) (st2 := [.int ((nI j) + 4), .ref 0, .int (F 0 (j + 3)), .int (F 0 (j + 2)), .int (F 0 (j + 1)), .ref 48, .int v]) b_L_law_971_975 rfl (fun hd => ?_)
  rw [show ((nI j) + 4 : Int32) = nI (j + 4) from nI_add j 4]
  refine R3.iald (j + 4) rfl hd rfl (fun _ => rfl) (by omega) (by omega) ?_
  refine R3.top (show (F1 0 (j + 4) : Int32) = F 0 (j + 4) from hsc _ (by omega)) ?_
  refine R3.B (ls2 := [some (.ref 0), some (.ref 5), some (.ref 48), some (.int (nI j))]) (st2 := [.int (F 0 (j + 4)), .int (F 0 (j + 3)), .int (F 0 (j + 2)), .int (F 0 (j + 1)), .ref 48, .int v]) b_L_law_976_976 rfl (fun hd => ?_)
  refine R3.callV (M2 := mX11_put) (As := [.int (F 0 (j + 1)), .int (F 0 (j + 2)), .int (F 0 (j + 3)), .int (F 0 (j + 4))]) (rest := [.int v]) hd lk_12_129 okX11_put (by decide) rfl (hq) (by omega) rfl rfl (Nat.le_of_ble_eq_true rfl) (fun r2 F2 h2 => ?_)
  obtain ⟨e2, hI2⟩ := h2
  subst e2
  refine R3.B (ls2 := [some (.ref 0), some (.ref 5), some (.ref 48), some (.int (nI j))]) (st2 := [.int v, .int v]) b_L_law_979_979 rfl (fun hd => ?_)
  refine R3.icmp_eq 1150 hd (by decide) (fun c979 => ?_) (fun c979 => absurd (rfl) c979)
  refine R3.B (ls2 := [some (.ref 0), some (.ref 5), some (.ref 48), some (.int (nI j))]) (st2 := []) b_L_law_1150_1150 rfl (fun hd => ?_)
  exact ex _ hI2
set_option maxRecDepth 20000 in
set_option maxHeartbeats 1000000 in
theorem law_get {E : EE} {L : Nat} {c0 s0 : Nat} {F : FF} {Q : Q2} {l0 l1 n m j : Nat} (hI : IV F l0 l1 n m) (hj : j + 6 ≤ L) (hL : L ≤ 3072) (ex : ∀ F1 : FF, INV F1 → R3 E L mL_law c0 s0 20 1150 [some (.ref 0), some (.ref 5), some (.ref 48), some (.int (nI j))] [] F1 Q) : R3 E L mL_law c0 s0 20 984 [some (.ref 0), some (.ref 5), some (.ref 48), some (.int (nI j))] [] F Q := by
  obtain ⟨d1, hd1, hp⟩ := pr_get (E := E) (L := L) hI (F 0 (j + 1)) (F 0 (j + 2)) (F 0 (j + 3))
  refine R3.B (ls2 := [some (.ref 0), some (.ref 5), some (.ref 48), some (.int (nI j))]) (st2 := [.int ((nI j) + 1), .ref 0, .ref 5]) b_L_law_984_989 rfl (fun hd => ?_)
  rw [show ((nI j) + 1 : Int32) = nI (j + 1) from nI_add j 1]
  refine R3.iald (j + 1) rfl hd rfl (fun _ => rfl) (by omega) (by omega) ?_
  refine R3.B (ls2 := [some (.ref 0), some (.ref 5), some (.ref 48), some (.int (nI j))]) (st2 := [.int ((nI j) + 2), .ref 0, .int (F 0 (j + 1)), .ref 5]) b_L_law_990_994 rfl (fun hd => ?_)
  rw [show ((nI j) + 2 : Int32) = nI (j + 2) from nI_add j 2]
  refine R3.iald (j + 2) rfl hd rfl (fun _ => rfl) (by omega) (by omega) ?_
  refine R3.B (ls2 := [some (.ref 0), some (.ref 5), some (.ref 48), some (.int (nI j))]) (st2 := [.int ((nI j) + 3), .ref 0, .int (F 0 (j + 2)), .int (F 0 (j + 1)), .ref 5]) b_L_law_995_999 rfl (fun hd => ?_)
  rw [show ((nI j) + 3 : Int32) = nI (j + 3) from nI_add j 3]
  refine R3.iald (j + 3) rfl hd rfl (fun _ => rfl) (by omega) (by omega) ?_
  refine R3.B (ls2 := [some (.ref 0), some (.ref 5), some (.ref 48), some (.int (nI j))]) (st2 := [.int (F 0 (j + 3)), .int (F 0 (j + 2)), .int (F 0 (j + 1)), .ref 5]) b_L_law_1000_1000 rfl (fun hd => ?_)
  refine R3.callV (M2 := mX10_get) (As := [.int (F 0 (j + 1)), .int (F 0 (j + 2)), .int (F 0 (j + 3))]) (rest := []) hd lk_12_130 okX10_get (by decide) rfl (Ev2.scr hp) (by omega) rfl rfl (Nat.le_of_ble_eq_true rfl) (fun r1 F1 h1 => ?_)
  obtain ⟨⟨v, d2, hd2, e1, hq⟩, hsc⟩ := h1
  subst e1
  refine R3.B (ls2 := [some (.ref 0), some (.ref 5), some (.ref 48), some (.int (nI j))]) (st2 := [.int ((nI j) + 1), .ref 0, .ref 48, .int v]) b_L_law_1003_1008 rfl (fun hd => ?_)
  rw [show ((nI j) + 1 : Int32) = nI (j + 1) from nI_add j 1]
  refine R3.iald (j + 1) rfl hd rfl (fun _ => rfl) (by omega) (by omega) ?_
  refine R3.top (show (F1 0 (j + 1) : Int32) = F 0 (j + 1) from hsc _ (by omega)) ?_
  refine R3.B (ls2 := [some (.ref 0), some (.ref 5), some (.ref 48), some (.int (nI j))]) (st2 := [.int ((nI j) + 2), .ref 0, .int (F 0 (j + 1)), .ref 48, .int v]) b_L_law_1009_1013 rfl (fun hd => ?_)
  rw [show ((nI j) + 2 : Int32) = nI (j + 2) from nI_add j 2]
  refine R3.iald (j + 2) rfl hd rfl (fun _ => rfl) (by omega) (by omega) ?_
  refine R3.top (show (F1 0 (j + 2) : Int32) = F 0 (j + 2) from hsc _ (by omega)) ?_
  refine R3.B (ls2 := [some (.ref 0), some (.ref 5), some (.ref 48), some (.int (nI j))]) (st2 := [.int ((nI j) + 3), .ref 0, .int (F 0 (j + 2)), .int (F 0 (j + 1)), .ref 48, .int v]) b_L_law_1014_1018 rfl (fun hd => ?_)
  rw [show ((nI j) + 3 : Int32) = nI (j + 3) from nI_add j 3]
  refine R3.iald (j + 3) rfl hd rfl (fun _ => rfl) (by omega) (by omega) ?_
  refine R3.top (show (F1 0 (j + 3) : Int32) = F 0 (j + 3) from hsc _ (by omega)) ?_
  refine R3.B (ls2 := [some (.ref 0), some (.ref 5), some (.ref 48), some (.int (nI j))]) (st2 := [.int (F 0 (j + 3)), .int (F 0 (j + 2)), .int (F 0 (j + 1)), .ref 48, .int v]) b_L_law_1019_1019 rfl (fun hd => ?_)
  refine R3.callV (M2 := mX11_get) (As := [.int (F 0 (j + 1)), .int (F 0 (j + 2)), .int (F 0 (j + 3))]) (rest := [.int v]) hd lk_12_133 okX11_get (by decide) rfl (hq) (by omega) rfl rfl (Nat.le_of_ble_eq_true rfl) (fun r2 F2 h2 => ?_)
  obtain ⟨e2, hI2⟩ := h2
  subst e2
  refine R3.B (ls2 := [some (.ref 0), some (.ref 5), some (.ref 48), some (.int (nI j))]) (st2 := [.int v, .int v]) b_L_law_1022_1022 rfl (fun hd => ?_)
  refine R3.icmp_eq 1150 hd (by decide) (fun c1022 => ?_) (fun c1022 => absurd (rfl) c1022)
  refine R3.B (ls2 := [some (.ref 0), some (.ref 5), some (.ref 48), some (.int (nI j))]) (st2 := []) b_L_law_1150_1150 rfl (fun hd => ?_)
  exact ex _ hI2
set_option maxRecDepth 20000 in
set_option maxHeartbeats 1000000 in
theorem law_copy {E : EE} {L : Nat} {c0 s0 : Nat} {F : FF} {Q : Q2} {l0 l1 n m j : Nat} (hI : IV F l0 l1 n m) (hj : j + 6 ≤ L) (hL : L ≤ 3072) (ex : ∀ F1 : FF, INV F1 → R3 E L mL_law c0 s0 20 1150 [some (.ref 0), some (.ref 5), some (.ref 48), some (.int (nI j))] [] F1 Q) : R3 E L mL_law c0 s0 20 1027 [some (.ref 0), some (.ref 5), some (.ref 48), some (.int (nI j))] [] F Q := by
  obtain ⟨d1, hd1, hp⟩ := pr_copy (E := E) (L := L) hI (F 0 (j + 1)) (F 0 (j + 2)) (F 0 (j + 3)) (F 0 (j + 4)) (F 0 (j + 5))
  refine R3.B (ls2 := [some (.ref 0), some (.ref 5), some (.ref 48), some (.int (nI j))]) (st2 := [.int ((nI j) + 1), .ref 0, .ref 5]) b_L_law_1027_1032 rfl (fun hd => ?_)
  rw [show ((nI j) + 1 : Int32) = nI (j + 1) from nI_add j 1]
  refine R3.iald (j + 1) rfl hd rfl (fun _ => rfl) (by omega) (by omega) ?_
  refine R3.B (ls2 := [some (.ref 0), some (.ref 5), some (.ref 48), some (.int (nI j))]) (st2 := [.int ((nI j) + 2), .ref 0, .int (F 0 (j + 1)), .ref 5]) b_L_law_1033_1037 rfl (fun hd => ?_)
  rw [show ((nI j) + 2 : Int32) = nI (j + 2) from nI_add j 2]
  refine R3.iald (j + 2) rfl hd rfl (fun _ => rfl) (by omega) (by omega) ?_
  refine R3.B (ls2 := [some (.ref 0), some (.ref 5), some (.ref 48), some (.int (nI j))]) (st2 := [.int ((nI j) + 3), .ref 0, .int (F 0 (j + 2)), .int (F 0 (j + 1)), .ref 5]) b_L_law_1038_1042 rfl (fun hd => ?_)
  rw [show ((nI j) + 3 : Int32) = nI (j + 3) from nI_add j 3]
  refine R3.iald (j + 3) rfl hd rfl (fun _ => rfl) (by omega) (by omega) ?_
  refine R3.B (ls2 := [some (.ref 0), some (.ref 5), some (.ref 48), some (.int (nI j))]) (st2 := [.int ((nI j) + 4), .ref 0, .int (F 0 (j + 3)), .int (F 0 (j + 2)), .int (F 0 (j + 1)), .ref 5]) b_L_law_1043_1047 rfl (fun hd => ?_)
  rw [show ((nI j) + 4 : Int32) = nI (j + 4) from nI_add j 4]
  refine R3.iald (j + 4) rfl hd rfl (fun _ => rfl) (by omega) (by omega) ?_
  refine R3.B (ls2 := [some (.ref 0), some (.ref 5), some (.ref 48), some (.int (nI j))]) (st2 := [.int ((nI j) + 5), .ref 0, .int (F 0 (j + 4)), .int (F 0 (j + 3)), .int (F 0 (j + 2)), .int (F 0 (j + 1)), .ref 5]) b_L_law_1048_1052 rfl (fun hd => ?_)
  rw [show ((nI j) + 5 : Int32) = nI (j + 5) from nI_add j 5]
  refine R3.iald (j + 5) rfl hd rfl (fun _ => rfl) (by omega) (by omega) ?_
  refine R3.B (ls2 := [some (.ref 0), some (.ref 5), some (.ref 48), some (.int (nI j))]) (st2 := [.int (F 0 (j + 5)), .int (F 0 (j + 4)), .int (F 0 (j + 3)), .int (F 0 (j + 2)), .int (F 0 (j + 1)), .ref 5]) b_L_law_1053_1053 rfl (fun hd => ?_)
  refine R3.callV (M2 := mX10_copy) (As := [.int (F 0 (j + 1)), .int (F 0 (j + 2)), .int (F 0 (j + 3)), .int (F 0 (j + 4)), .int (F 0 (j + 5))]) (rest := []) hd lk_12_134 okX10_copy (by decide) rfl (Ev2.scr hp) (by omega) rfl rfl (Nat.le_of_ble_eq_true rfl) (fun r1 F1 h1 => ?_)
  obtain ⟨⟨v, d2, hd2, e1, hq⟩, hsc⟩ := h1
  subst e1
  refine R3.B (ls2 := [some (.ref 0), some (.ref 5), some (.ref 48), some (.int (nI j))]) (st2 := [.int ((nI j) + 1), .ref 0, .ref 48, .int v]) b_L_law_1056_1061 rfl (fun hd => ?_)
  rw [show ((nI j) + 1 : Int32) = nI (j + 1) from nI_add j 1]
  refine R3.iald (j + 1) rfl hd rfl (fun _ => rfl) (by omega) (by omega) ?_
  refine R3.top (show (F1 0 (j + 1) : Int32) = F 0 (j + 1) from hsc _ (by omega)) ?_
  refine R3.B (ls2 := [some (.ref 0), some (.ref 5), some (.ref 48), some (.int (nI j))]) (st2 := [.int ((nI j) + 2), .ref 0, .int (F 0 (j + 1)), .ref 48, .int v]) b_L_law_1062_1066 rfl (fun hd => ?_)
  rw [show ((nI j) + 2 : Int32) = nI (j + 2) from nI_add j 2]
  refine R3.iald (j + 2) rfl hd rfl (fun _ => rfl) (by omega) (by omega) ?_
  refine R3.top (show (F1 0 (j + 2) : Int32) = F 0 (j + 2) from hsc _ (by omega)) ?_
  refine R3.B (ls2 := [some (.ref 0), some (.ref 5), some (.ref 48), some (.int (nI j))]) (st2 := [.int ((nI j) + 3), .ref 0, .int (F 0 (j + 2)), .int (F 0 (j + 1)), .ref 48, .int v]) b_L_law_1067_1071 rfl (fun hd => ?_)
  rw [show ((nI j) + 3 : Int32) = nI (j + 3) from nI_add j 3]
  refine R3.iald (j + 3) rfl hd rfl (fun _ => rfl) (by omega) (by omega) ?_
  refine R3.top (show (F1 0 (j + 3) : Int32) = F 0 (j + 3) from hsc _ (by omega)) ?_
  refine R3.B (ls2 := [some (.ref 0), some (.ref 5), some (.ref 48), some (.int (nI j))]) (st2 := [.int ((nI j) + 4), .ref 0, .int (F 0 (j + 3)), .int (F 0 (j + 2)), .int (F 0 (j + 1)), .ref 48, .int v]) b_L_law_1072_1076 rfl (fun hd => ?_)
  rw [show ((nI j) + 4 : Int32) = nI (j + 4) from nI_add j 4]
  refine R3.iald (j + 4) rfl hd rfl (fun _ => rfl) (by omega) (by omega) ?_
  refine R3.top (show (F1 0 (j + 4) : Int32) = F 0 (j + 4) from hsc _ (by omega)) ?_
  refine R3.B (ls2 := [some (.ref 0), some (.ref 5), some (.ref 48), some (.int (nI j))]) (st2 := [.int ((nI j) + 5), .ref 0, .int (F 0 (j + 4)), .int (F 0 (j + 3)), .int (F 0 (j + 2)), .int (F 0 (j + 1)), .ref 48, .int v]) b_L_law_1077_1081 rfl (fun hd => ?_)
  rw [show ((nI j) + 5 : Int32) = nI (j + 5) from nI_add j 5]
  refine R3.iald (j + 5) rfl hd rfl (fun _ => rfl) (by omega) (by omega) ?_
  refine R3.top (show (F1 0 (j + 5) : Int32) = F 0 (j + 5) from hsc _ (by omega)) ?_
  refine R3.B (ls2 := [some (.ref 0), some (.ref 5), some (.ref 48), some (.int (nI j))]) (st2 := [.int (F 0 (j + 5)), .int (F 0 (j + 4)), .int (F 0 (j + 3)), .int (F 0 (j + 2)), .int (F 0 (j + 1)), .ref 48, .int v]) b_L_law_1082_1082 rfl (fun hd => ?_)
  refine R3.callV (M2 := mX11_copy) (As := [.int (F 0 (j + 1)), .int (F 0 (j + 2)), .int (F 0 (j + 3)), .int (F 0 (j + 4)), .int (F 0 (j + 5))]) (rest := [.int v]) hd lk_12_138 okX11_copy (by decide) rfl (hq) (by omega) rfl rfl (Nat.le_of_ble_eq_true rfl) (fun r2 F2 h2 => ?_)
  obtain ⟨e2, hI2⟩ := h2
  subst e2
  refine R3.B (ls2 := [some (.ref 0), some (.ref 5), some (.ref 48), some (.int (nI j))]) (st2 := [.int v, .int v]) b_L_law_1085_1085 rfl (fun hd => ?_)
  refine R3.icmp_eq 1150 hd (by decide) (fun c1085 => ?_) (fun c1085 => absurd (rfl) c1085)
  refine R3.B (ls2 := [some (.ref 0), some (.ref 5), some (.ref 48), some (.int (nI j))]) (st2 := []) b_L_law_1150_1150 rfl (fun hd => ?_)
  exact ex _ hI2
set_option maxRecDepth 20000 in
set_option maxHeartbeats 1000000 in
theorem law_write {E : EE} {L : Nat} {c0 s0 : Nat} {F : FF} {Q : Q2} {l0 l1 n m j : Nat} (hI : IV F l0 l1 n m) (hj : j + 6 ≤ L) (hL : L ≤ 3072) (ex : ∀ F1 : FF, INV F1 → R3 E L mL_law c0 s0 20 1150 [some (.ref 0), some (.ref 5), some (.ref 48), some (.int (nI j))] [] F1 Q) : R3 E L mL_law c0 s0 20 1090 [some (.ref 0), some (.ref 5), some (.ref 48), some (.int (nI j))] [] F Q := by
  obtain ⟨d1, hd1, hp⟩ := pr_write (E := E) (L := L) hI (F 0 (j + 1))
  refine R3.B (ls2 := [some (.ref 0), some (.ref 5), some (.ref 48), some (.int (nI j))]) (st2 := [.int ((nI j) + 1), .ref 0, .ref 5]) b_L_law_1090_1095 rfl (fun hd => ?_)
  rw [show ((nI j) + 1 : Int32) = nI (j + 1) from nI_add j 1]
  refine R3.iald (j + 1) rfl hd rfl (fun _ => rfl) (by omega) (by omega) ?_
  refine R3.B (ls2 := [some (.ref 0), some (.ref 5), some (.ref 48), some (.int (nI j))]) (st2 := [.int (F 0 (j + 1)), .ref 5]) b_L_law_1096_1096 rfl (fun hd => ?_)
  refine R3.callV (M2 := mX10_write) (As := [.int (F 0 (j + 1))]) (rest := []) hd lk_12_139 okX10_write (by decide) rfl (Ev2.scr hp) (by omega) rfl rfl (Nat.le_of_ble_eq_true rfl) (fun r1 F1 h1 => ?_)
  obtain ⟨⟨v, d2, hd2, e1, hq⟩, hsc⟩ := h1
  subst e1
  refine R3.B (ls2 := [some (.ref 0), some (.ref 5), some (.ref 48), some (.int (nI j))]) (st2 := [.int ((nI j) + 1), .ref 0, .ref 48, .int v]) b_L_law_1099_1104 rfl (fun hd => ?_)
  rw [show ((nI j) + 1 : Int32) = nI (j + 1) from nI_add j 1]
  refine R3.iald (j + 1) rfl hd rfl (fun _ => rfl) (by omega) (by omega) ?_
  refine R3.top (show (F1 0 (j + 1) : Int32) = F 0 (j + 1) from hsc _ (by omega)) ?_
  refine R3.B (ls2 := [some (.ref 0), some (.ref 5), some (.ref 48), some (.int (nI j))]) (st2 := [.int (F 0 (j + 1)), .ref 48, .int v]) b_L_law_1105_1105 rfl (fun hd => ?_)
  refine R3.callV (M2 := mX11_write) (As := [.int (F 0 (j + 1))]) (rest := [.int v]) hd lk_12_142 okX11_write (by decide) rfl (hq) (by omega) rfl rfl (Nat.le_of_ble_eq_true rfl) (fun r2 F2 h2 => ?_)
  obtain ⟨e2, hI2⟩ := h2
  subst e2
  refine R3.B (ls2 := [some (.ref 0), some (.ref 5), some (.ref 48), some (.int (nI j))]) (st2 := [.int v, .int v]) b_L_law_1108_1108 rfl (fun hd => ?_)
  refine R3.icmp_eq 1150 hd (by decide) (fun c1108 => ?_) (fun c1108 => absurd (rfl) c1108)
  refine R3.B (ls2 := [some (.ref 0), some (.ref 5), some (.ref 48), some (.int (nI j))]) (st2 := []) b_L_law_1150_1150 rfl (fun hd => ?_)
  exact ex _ hI2
set_option maxRecDepth 20000 in
set_option maxHeartbeats 1000000 in
theorem law_count {E : EE} {L : Nat} {c0 s0 : Nat} {F : FF} {Q : Q2} {l0 l1 n m j : Nat} (hI : IV F l0 l1 n m) (hj : j + 6 ≤ L) (hL : L ≤ 3072) (ex : ∀ F1 : FF, INV F1 → R3 E L mL_law c0 s0 20 1150 [some (.ref 0), some (.ref 5), some (.ref 48), some (.int (nI j))] [] F1 Q) : R3 E L mL_law c0 s0 20 1113 [some (.ref 0), some (.ref 5), some (.ref 48), some (.int (nI j))] [] F Q := by
  obtain ⟨d1, hd1, hp⟩ := pr_count (E := E) (L := L) hI (F 0 (j + 1))
  refine R3.B (ls2 := [some (.ref 0), some (.ref 5), some (.ref 48), some (.int (nI j))]) (st2 := [.int ((nI j) + 1), .ref 0, .ref 5]) b_L_law_1113_1118 rfl (fun hd => ?_)
  rw [show ((nI j) + 1 : Int32) = nI (j + 1) from nI_add j 1]
  refine R3.iald (j + 1) rfl hd rfl (fun _ => rfl) (by omega) (by omega) ?_
  refine R3.B (ls2 := [some (.ref 0), some (.ref 5), some (.ref 48), some (.int (nI j))]) (st2 := [.int (F 0 (j + 1)), .ref 5]) b_L_law_1119_1119 rfl (fun hd => ?_)
  refine R3.callV (M2 := mX10_count) (As := [.int (F 0 (j + 1))]) (rest := []) hd lk_12_143 okX10_count (by decide) rfl (Ev2.scr hp) (by omega) rfl rfl (Nat.le_of_ble_eq_true rfl) (fun r1 F1 h1 => ?_)
  obtain ⟨⟨v, d2, hd2, e1, hq⟩, hsc⟩ := h1
  subst e1
  refine R3.B (ls2 := [some (.ref 0), some (.ref 5), some (.ref 48), some (.int (nI j))]) (st2 := [.int ((nI j) + 1), .ref 0, .ref 48, .int v]) b_L_law_1122_1127 rfl (fun hd => ?_)
  rw [show ((nI j) + 1 : Int32) = nI (j + 1) from nI_add j 1]
  refine R3.iald (j + 1) rfl hd rfl (fun _ => rfl) (by omega) (by omega) ?_
  refine R3.top (show (F1 0 (j + 1) : Int32) = F 0 (j + 1) from hsc _ (by omega)) ?_
  refine R3.B (ls2 := [some (.ref 0), some (.ref 5), some (.ref 48), some (.int (nI j))]) (st2 := [.int (F 0 (j + 1)), .ref 48, .int v]) b_L_law_1128_1128 rfl (fun hd => ?_)
  refine R3.callV (M2 := mX11_count) (As := [.int (F 0 (j + 1))]) (rest := [.int v]) hd lk_12_146 okX11_count (by decide) rfl (hq) (by omega) rfl rfl (Nat.le_of_ble_eq_true rfl) (fun r2 F2 h2 => ?_)
  obtain ⟨e2, hI2⟩ := h2
  subst e2
  refine R3.B (ls2 := [some (.ref 0), some (.ref 5), some (.ref 48), some (.int (nI j))]) (st2 := [.int v, .int v]) b_L_law_1131_1131 rfl (fun hd => ?_)
  refine R3.icmp_eq 1150 hd (by decide) (fun c1131 => ?_) (fun c1131 => absurd (rfl) c1131)
  refine R3.B (ls2 := [some (.ref 0), some (.ref 5), some (.ref 48), some (.int (nI j))]) (st2 := []) b_L_law_1150_1150 rfl (fun hd => ?_)
  exact ex _ hI2
set_option maxRecDepth 20000 in
set_option maxHeartbeats 1000000 in
theorem law_digest {E : EE} {L : Nat} {c0 s0 : Nat} {F : FF} {Q : Q2} {l0 l1 n m j : Nat} (hI : IV F l0 l1 n m) (hj : j + 6 ≤ L) (hL : L ≤ 3072) (ex : ∀ F1 : FF, INV F1 → R3 E L mL_law c0 s0 20 1150 [some (.ref 0), some (.ref 5), some (.ref 48), some (.int (nI j))] [] F1 Q) : R3 E L mL_law c0 s0 20 1136 [some (.ref 0), some (.ref 5), some (.ref 48), some (.int (nI j))] [] F Q := by
  obtain ⟨d1, hd1, hp⟩ := pr_digest (E := E) (L := L) hI 
  refine R3.B (ls2 := [some (.ref 0), some (.ref 5), some (.ref 48), some (.int (nI j))]) (st2 := [.ref 5]) b_L_law_1136_1137 rfl (fun hd => ?_)
  refine R3.callV (M2 := mX10_digest) (As := []) (rest := []) hd lk_12_147 okX10_digest (by decide) rfl (Ev2.scr hp) (by omega) rfl rfl (Nat.le_of_ble_eq_true rfl) (fun r1 F1 h1 => ?_)
  obtain ⟨⟨v, d2, hd2, e1, hq⟩, hsc⟩ := h1
  subst e1
  refine R3.B (ls2 := [some (.ref 0), some (.ref 5), some (.ref 48), some (.int (nI j))]) (st2 := [.ref 48, .long v]) b_L_law_1140_1141 rfl (fun hd => ?_)
  refine R3.callV (M2 := mX11_digest) (As := []) (rest := [.long v]) hd lk_12_151 okX11_digest (by decide) rfl (hq) (by omega) rfl rfl (Nat.le_of_ble_eq_true rfl) (fun r2 F2 h2 => ?_)
  obtain ⟨e2, hI2⟩ := h2
  subst e2
  refine R3.B (ls2 := [some (.ref 0), some (.ref 5), some (.ref 48), some (.int (nI j))]) (st2 := [.int (lg_cmp v v)]) b_L_law_1144_1145 rfl (fun hd => ?_)
  refine R3.if_eq 1150 hd (by decide) (fun c1145 => ?_) (fun c1145 => absurd ((lg_cmp_eq v v).mpr rfl) c1145)
  refine R3.B (ls2 := [some (.ref 0), some (.ref 5), some (.ref 48), some (.int (nI j))]) (st2 := []) b_L_law_1150_1150 rfl (fun hd => ?_)
  exact ex _ hI2
