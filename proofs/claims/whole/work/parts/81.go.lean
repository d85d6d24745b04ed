/-! The first state; the law from its entry. Printed by wip/whole/gen/spec31.py. -/
theorem F00_inv {S : FF} (hS : CST S) : INV (F00 S) := by
  have e3 : up2 (F00 S) 48 3 0 = F00 S := by
    funext a j
    by_cases ha : a = 48
    · subst ha
      by_cases hj : j = 3
      · subst hj; rw [up2_same]; rfl
      · unfold up2; rw [if_pos rfl, if_neg hj]
    · unfold up2; rw [if_neg ha]
  have hr : rds (F00 S) 0 = (-1, F00 S) := by
    unfold rds
    rw [e3, mrdL, if_pos ⟨by omega, rfl⟩]
  have hf : ∀ G : FF, fds G 0 0 = (-1, up2 G 48 10 0) := by
    intro G
    unfold fds
    rw [mfL, if_pos ⟨by omega, rfl⟩]
  refine ⟨0, 0, 0, 0, hS.of rfl rfl rfl rfl, ⟨⟨rfl, fun j hj => absurd hj (by omega)⟩, rfl, rfl, by omega, fun j hj => absurd hj (by omega)⟩, ⟨⟨rfl, by omega, by omega, rfl, by rw [hr]⟩, by rw [hr]; rfl⟩, ⟨⟨by omega, rfl, rfl⟩, fun p hp => absurd hp (by omega)⟩, ?_, fun j hj => rfl, ⟨by omega, rfl, rfl, fun j hj => absurd hj (by omega)⟩, rfl, ?_⟩
  · intro G _
    rw [hf G]
    exact ⟨rfl, 0, by omega, rfl, (by show up2 G 48 10 0 48 10 = nI 0; rw [up2_same]; rfl), fun q hq => absurd hq (by omega)⟩
  · intro q hq
    rcases (by omega : q = 0 ∨ q = 1 ∨ q = 2 ∨ q = 3) with rfl | rfl | rfl | rfl <;> exact ⟨Or.inr ⟨rfl, rfl⟩, rfl, ⟨0, by omega, rfl, rfl⟩, fun j hj => rfl⟩
theorem b_L_law_0_0 : bl2 mL_law 0 [] 0 (.new 7) 3 = true := by decide +kernel
theorem b_L_law_3_4 : bl2 mL_law 3 [(.dup, 1, 0, 0, .null)] 4 (.invokespecial 9) 3 = true := by decide +kernel
theorem b_L_law_7_8 : bl2 mL_law 7 [(.astore_n 1, 1, 1, 0, .null)] 8 (.new 10) 3 = true := by decide +kernel
theorem b_L_law_11_12 : bl2 mL_law 11 [(.dup, 1, 0, 0, .null)] 12 (.invokespecial 12) 3 = true := by decide +kernel
theorem b_L_law_15_18 : bl2 mL_law 15 [(.astore_n 2, 1, 2, 0, .null), (.iconst 0, 1, 0, 0, .int 0), (.istore_n 3, 1, 3, 0, .null)] 18 (.iload_n 3) 1 = true := by decide +kernel
set_option maxRecDepth 20000 in
set_option maxHeartbeats 1000000 in
theorem law_go (E : EE) (L : Nat) (S : FF) (Q : Q2) (hL : L ≤ 3072) (hS : CST S) (hQ : ∀ F : FF, Q (some (.int 1)) F) : Rn E mL_law 20 69 6603 0 0 0 [some (.ref 0), none, none, none] [] (tk L 5) (gl (F00 S)) (Lq L Q) := by
  obtain ⟨G, eG⟩ : ∃ G, G = gl (F00 S) := ⟨_, rfl⟩
  rw [← eG]
  have hG : ∀ a, 5 ≤ a → a < 74 → G a = gl (F00 S) a := fun a _ _ => by rw [eG]
  refine Rn.B (ls2 := [some (.ref 0), none, none, none]) (st2 := []) b_L_law_0_0 rfl (fun hd => ?_)
  refine Rn.newT (ci := 10) (N := 12) 5 hd (by decide) (fun r hr => by cases hr; rfl) rfl rfl (Nat.le_of_ble_eq_true rfl) (Nat.le_of_ble_eq_true rfl) ?_
  refine Rn.B (ls2 := [some (.ref 0), none, none, none]) (st2 := [.ref 5, .ref 5]) b_L_law_3_4 rfl (fun hd => ?_)
  refine Rn.callI (M2 := mX10_init) (As := []) (rest := [.ref 5]) hd lk_12_9 okX10_init rfl (by decide) (ct_5 E L S G (fun a h1 h2 => hG a (by omega) (by omega))) (by decide) rfl rfl (Nat.le_of_ble_eq_true rfl) (Nat.le_of_ble_eq_true rfl) (Nat.le_of_ble_eq_true rfl) ?_
  rintro r1 sh1 G1 ⟨rfl, rfl, e3⟩
  rw [e3]
  clear e3
  refine Rn.B (ls2 := [some (.ref 0), some (.ref 5), none, none]) (st2 := []) b_L_law_7_8 rfl (fun hd => ?_)
  refine Rn.newT (ci := 11) (N := 32) 48 hd (by decide) (fun r hr => by cases hr; rfl) rfl rfl (Nat.le_of_ble_eq_true rfl) (Nat.le_of_ble_eq_true rfl) ?_
  refine Rn.B (ls2 := [some (.ref 0), some (.ref 5), none, none]) (st2 := [.ref 48, .ref 48]) b_L_law_11_12 rfl (fun hd => ?_)
  refine Rn.callI (M2 := mX11_init) (As := []) (rest := [.ref 48]) hd lk_12_12 okX11_init rfl (by decide) (ct_48 E L S G (fun a h1 h2 => hG a (by omega) (by omega))) (by decide) rfl rfl (Nat.le_of_ble_eq_true rfl) (Nat.le_of_ble_eq_true rfl) (Nat.le_of_ble_eq_true rfl) ?_
  rintro r1 sh1 G1 ⟨rfl, rfl, e3⟩
  rw [e3]
  clear e3
  refine Rn.B (ls2 := [some (.ref 0), some (.ref 5), some (.ref 48), some (.int 0)]) (st2 := []) b_L_law_15_18 rfl (fun hd => ?_)
  subst eG
  exact law_loop (c0 := 69) (s0 := 6603) hL hQ (L + 1) 0 (F00 S) (by omega) (by omega) (F00_inv hS)
