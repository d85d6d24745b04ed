/-! The law's loop itself. Printed by wip/whole/gen/spec29.py. -/
theorem b_L_law_18_24 : bl2 mL_law 18 [(.iload_n 3, 1, 3, 0, .null), (.aload_n 0, 1, 0, 0, .null), (.arraylength, 1, 0, 0, .null), (.bipush 6, 2, 0, 0, .int 6), (.isub, 1, 0, 0, .null)] 24 (.if_icmp .gt 1132) 3 = true := by decide +kernel
theorem b_L_law_27_29 : bl2 mL_law 27 [(.aload_n 0, 1, 0, 0, .null), (.iload_n 3, 1, 3, 0, .null)] 29 (.iaload) 1 = true := by decide +kernel
theorem b_L_law_30_33 : bl2 mL_law 30 [(.bipush 63, 2, 0, 0, .int 63), (.iand, 1, 0, 0, .null)] 33 (.tableswitch 1117 0 32 #[147, 180, 203, 226, 259, 292, 325, 358, 371, 404, 447, 460, 483, 496, 519, 542, 575, 618, 651, 674, 687, 700, 723, 766, 789, 832, 875, 898, 951, 994, 1057, 1080, 1103]) 147 = true := by decide +kernel
theorem b_L_law_1150_18 : bl2 mL_law 1150 [(.iinc 3 6, 3, 3, 0, .int 6), (.goto (-1135), 3, 18, 0, .null)] 18 (.iload_n 3) 1 = true := by decide +kernel
theorem b_L_law_1156_1157 : bl2 mL_law 1156 [(.iconst 1, 1, 0, 0, .int 1)] 1157 (.ireturn) 1 = true := by decide +kernel
set_option maxRecDepth 20000 in
set_option maxHeartbeats 1000000 in
theorem law_loop {E : EE} {L : Nat} {c0 s0 : Nat} {Q : Q2} (hL : L ≤ 3072) (hQ : ∀ F : FF, Q (some (.int 1)) F) : ∀ (k j : Nat) (F : FF), L < j + k → j ≤ L → INV F → R3 E L mL_law c0 s0 20 18 [some (.ref 0), some (.ref 5), some (.ref 48), some (.int (nI j))] [] F Q := by
  intro k
  induction k with
  | zero => intro j F h1 h2; omega
  | succ k ih =>
    intro j F h1 h2 hI
    refine R3.B (ls2 := [some (.ref 0), some (.ref 5), some (.ref 48), some (.int (nI j))]) (st2 := [.int ((nI L) - 6), .int (nI j)]) b_L_law_18_24 rfl (fun hd => ?_)
    have hx : (nI L - 6 < nI j) ↔ L < j + 6 := by
      rw [Int32.lt_iff_toInt_lt, show (nI L - 6 : Int32) = nI L - nI 6 from rfl, pk_sub_toInt (by omega) (by omega), nI_toInt (by omega)]
      omega
    refine R3.icmp_gt 1156 hd (by decide) (fun c24 => ?_) (fun c24 => ?_)
    · refine R3.B (ls2 := [some (.ref 0), some (.ref 5), some (.ref 48), some (.int (nI j))]) (st2 := [.int 1]) b_L_law_1156_1157 rfl (fun hd => ?_)
      exact R3.ret (r := some (.int 1)) hd (Or.inr rfl) rfl (hQ F)
    · have hj : j + 6 ≤ L := by have := mt hx.mpr c24; omega
      have ex : ∀ F1 : FF, INV F1 → R3 E L mL_law c0 s0 20 1150 [some (.ref 0), some (.ref 5), some (.ref 48), some (.int (nI j))] [] F1 Q := by
        intro F1 hI1
        refine R3.B (ls2 := [some (.ref 0), some (.ref 5), some (.ref 48), some (.int ((nI j) + 6))]) (st2 := []) b_L_law_1150_18 rfl (fun hd => ?_)
        rw [show ((nI j) + 6 : Int32) = nI (j + 6) from nI_add j 6]
        exact ih (j + 6) F1 (by omega) (by omega) hI1
      refine R3.B (ls2 := [some (.ref 0), some (.ref 5), some (.ref 48), some (.int (nI j))]) (st2 := [.int (nI j), .ref 0]) b_L_law_27_29 rfl (fun hd => ?_)
      refine R3.iald j rfl hd rfl (fun _ => rfl) (by omega) (by omega) ?_
      refine R3.B (ls2 := [some (.ref 0), some (.ref 5), some (.ref 48), some (.int (nI j))]) (st2 := [.int ((F 0 j) &&& 63)]) b_L_law_30_33 rfl (fun hd => ?_)
      obtain ⟨l0, l1, n, m, hv⟩ := hI
      obtain ⟨q, hq, eq⟩ := pk_andE (F 0 j) (m := 63) 6 (by decide)
      refine R3.top eq ?_
      by_cases q0 : q = 0
      · subst q0; exact R3.tblIn (off := 147) 180 hd (by decide) (by decide) rfl (by decide) (law_type hv hj hL ex)
      by_cases q1 : q = 1
      · subst q1; exact R3.tblIn (off := 180) 213 hd (by decide) (by decide) rfl (by decide) (law_wipe hv hj hL ex)
      by_cases q2 : q = 2
      · subst q2; exact R3.tblIn (off := 203) 236 hd (by decide) (by decide) rfl (by decide) (law_fault hv hj hL ex)
      by_cases q3 : q = 3
      · subst q3; exact R3.tblIn (off := 226) 259 hd (by decide) (by decide) rfl (by decide) (law_set hv hj hL ex)
      by_cases q4 : q = 4
      · subst q4; exact R3.tblIn (off := 259) 292 hd (by decide) (by decide) rfl (by decide) (law_person hv hj hL ex)
      by_cases q5 : q = 5
      · subst q5; exact R3.tblIn (off := 292) 325 hd (by decide) (by decide) rfl (by decide) (law_step hv hj hL ex)
      by_cases q6 : q = 6
      · subst q6; exact R3.tblIn (off := 325) 358 hd (by decide) (by decide) rfl (by decide) (law_read hv hj hL ex)
      by_cases q7 : q = 7
      · subst q7; exact R3.tblIn (off := 358) 391 hd (by decide) (by decide) rfl (by decide) (law_home hv hj hL ex)
      by_cases q8 : q = 8
      · subst q8; exact R3.tblIn (off := 371) 404 hd (by decide) (by decide) rfl (by decide) (law_away hv hj hL ex)
      by_cases q9 : q = 9
      · subst q9; exact R3.tblIn (off := 404) 437 hd (by decide) (by decide) rfl (by decide) (law_binds hv hj hL ex)
      by_cases q10 : q = 10
      · subst q10; exact R3.tblIn (off := 447) 480 hd (by decide) (by decide) rfl (by decide) (law_pairs hv hj hL ex)
      by_cases q11 : q = 11
      · subst q11; exact R3.tblIn (off := 460) 493 hd (by decide) (by decide) rfl (by decide) (law_once hv hj hL ex)
      by_cases q12 : q = 12
      · subst q12; exact R3.tblIn (off := 483) 516 hd (by decide) (by decide) rfl (by decide) (law_worth hv hj hL ex)
      by_cases q13 : q = 13
      · subst q13; exact R3.tblIn (off := 496) 529 hd (by decide) (by decide) rfl (by decide) (law_judged hv hj hL ex)
      by_cases q14 : q = 14
      · subst q14; exact R3.tblIn (off := 519) 552 hd (by decide) (by decide) rfl (by decide) (law_ends hv hj hL ex)
      by_cases q15 : q = 15
      · subst q15; exact R3.tblIn (off := 542) 575 hd (by decide) (by decide) rfl (by decide) (law_comes hv hj hL ex)
      by_cases q16 : q = 16
      · subst q16; exact R3.tblIn (off := 575) 608 hd (by decide) (by decide) rfl (by decide) (law_way hv hj hL ex)
      by_cases q17 : q = 17
      · subst q17; exact R3.tblIn (off := 618) 651 hd (by decide) (by decide) rfl (by decide) (law_hinders hv hj hL ex)
      by_cases q18 : q = 18
      · subst q18; exact R3.tblIn (off := 651) 684 hd (by decide) (by decide) rfl (by decide) (law_post hv hj hL ex)
      by_cases q19 : q = 19
      · subst q19; exact R3.tblIn (off := 674) 707 hd (by decide) (by decide) rfl (by decide) (law_gone hv hj hL ex)
      by_cases q20 : q = 20
      · subst q20; exact R3.tblIn (off := 687) 720 hd (by decide) (by decide) rfl (by decide) (law_sees hv hj hL ex)
      by_cases q21 : q = 21
      · subst q21; exact R3.tblIn (off := 700) 733 hd (by decide) (by decide) rfl (by decide) (law_more hv hj hL ex)
      by_cases q22 : q = 22
      · subst q22; exact R3.tblIn (off := 723) 756 hd (by decide) (by decide) rfl (by decide) (law_both hv hj hL ex)
      by_cases q23 : q = 23
      · subst q23; exact R3.tblIn (off := 766) 799 hd (by decide) (by decide) rfl (by decide) (law_broker hv hj hL ex)
      by_cases q24 : q = 24
      · subst q24; exact R3.tblIn (off := 789) 822 hd (by decide) (by decide) rfl (by decide) (law_other hv hj hL ex)
      by_cases q25 : q = 25
      · subst q25; exact R3.tblIn (off := 832) 865 hd (by decide) (by decide) rfl (by decide) (law_sheet hv hj hL ex)
      by_cases q26 : q = 26
      · subst q26; exact R3.tblIn (off := 875) 908 hd (by decide) (by decide) rfl (by decide) (law_lose hv hj hL ex)
      by_cases q27 : q = 27
      · subst q27; exact R3.tblIn (off := 898) 931 hd (by decide) (by decide) rfl (by decide) (law_put hv hj hL ex)
      by_cases q28 : q = 28
      · subst q28; exact R3.tblIn (off := 951) 984 hd (by decide) (by decide) rfl (by decide) (law_get hv hj hL ex)
      by_cases q29 : q = 29
      · subst q29; exact R3.tblIn (off := 994) 1027 hd (by decide) (by decide) rfl (by decide) (law_copy hv hj hL ex)
      by_cases q30 : q = 30
      · subst q30; exact R3.tblIn (off := 1057) 1090 hd (by decide) (by decide) rfl (by decide) (law_write hv hj hL ex)
      by_cases q31 : q = 31
      · subst q31; exact R3.tblIn (off := 1080) 1113 hd (by decide) (by decide) rfl (by decide) (law_count hv hj hL ex)
      by_cases q32 : q = 32
      · subst q32; exact R3.tblIn (off := 1103) 1136 hd (by decide) (by decide) rfl (by decide) (law_digest hv hj hL ex)
      refine R3.tblOut 1150 hd (Or.inr ?_) (by decide) (ex F ⟨l0, l1, n, m, hv⟩)
      rw [nI_toInt (by omega)]
      omega
