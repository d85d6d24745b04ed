/-! The reference: how far, the second loop. Printed by wip/whole/gen/spec23.py. -/
theorem up2_row {α : Type} {F : Nat → Nat → α} {k j : Nat} {v : α} {a : Nat} (h : a ≠ k) : up2 F k j v a = F a := by funext b; simp [up2, h]
theorem frN_row {n a h0 x : Nat} (h1 : x ≠ 63) (h2 : x ≠ 64) : ∀ (k d t : Nat) (F : FF), (frN n a h0 k d t F).2 x = F x
  | 0, _, _, _ => rfl
  | k + 1, d, t, F => by
    rw [frN]; split
    · split
      · rw [frN_row h1 h2 k, up2_row h2, up2_row h1]
      · rw [frN_row h1 h2 k, up2_row h1]
    · exact frN_row h1 h2 k _ _ _
theorem frO_row {n a x : Nat} (h1 : x ≠ 63) (h2 : x ≠ 64) : ∀ (k h t : Nat) (F : FF), frO n a k h t F x = F x
  | 0, _, _, _ => rfl
  | k + 1, h, t, F => by
    rw [frO]; split
    · rw [frO_row h1 h2 k, frN_row h1 h2]
    · rfl
theorem fG_row {F : FF} {a w x : Nat} (h0 : x ≠ 57) (h1 : x ≠ 63) : fG F a w x = F x := (up2_row h0).trans (up2_row h1)
theorem fr1_row {n a b bg x : Nat} (h0 : x ≠ 57) (h1 : x ≠ 63) (h2 : x ≠ 64) : ∀ (k w t : Nat) (F : FF), (fr1 n a b bg k w t F).2 x = F x
  | 0, _, _, _ => rfl
  | k + 1, w, t, F => by
    rw [fr1]; split
    · split
      · rw [fr1_row h0 h1 h2 k, up2_row h2, up2_row h1, fG_row h0 h1]
      · rw [fr1_row h0 h1 h2 k, up2_row h1, fG_row h0 h1]
    · rw [fr1_row h0 h1 h2 k, fG_row h0 h1]
theorem lfF_row {F : FF} {n a b bg x : Nat} (h0 : x ≠ 57) (h1 : x ≠ 63) (h2 : x ≠ 64) : lfF F n a b bg x = F x := by
  unfold lfF; rw [up2_row h0, frO_row h1 h2, fr1_row h0 h1 h2, ly_row h0]
theorem frN_h (n a h0 k d t : Nat) (F : FF) {w x : Nat} (ew : F 64 h0 = nI w) (hw : w < 1024) (ex : F 63 w = nI x) : frN n a h0 (k + 1) d t F =
    if ¬ nbr (nI w) d = -1 ∧ F 63 (nbr (nI w) d).toNatClampNeg = -1 then
      (if free F n a (nbr (nI w) d).toNatClampNeg then frN n a h0 k (d + 1) (t + 1) (up2 (up2 F 63 (nbr (nI w) d).toNatClampNeg (nI (x + 1))) 64 t (nI (nbr (nI w) d).toNatClampNeg))
       else frN n a h0 k (d + 1) t (up2 F 63 (nbr (nI w) d).toNatClampNeg (nI (x + 1))))
    else frN n a h0 k (d + 1) t F := by
  rw [frN, ew, nI_clamp (show w < 2 ^ 31 by omega), ex, nI_1]
/-- far is none, or no more than there are spots -/
def FB (F : FF) : Prop := ∀ v, v < 1024 → F 63 v = -1 ∨ ∃ x, x ≤ 1024 ∧ F 63 v = nI x
theorem FB.set {F : FF} (h : FB F) {v x : Nat} (hx : x ≤ 1024) : FB (up2 F 63 v (nI x)) := by
  intro u hu
  by_cases e : u = v
  · subst e; rw [up2_same]; exact Or.inr ⟨x, hx, rfl⟩
  · rw [show up2 F 63 v (nI x) 63 u = F 63 u by simp [up2, e]]; exact h u hu
theorem FB.q {F : FF} (h : FB F) {t : Nat} {v : Int32} : FB (up2 F 64 t v) := by
  intro u hu; rw [show up2 F 64 t v 63 = F 63 from up2_row (by decide)]; exact h u hu
theorem frN_ok {n a h0 : Nat} : ∀ (k d t : Nat) (F : FF), d + k = 8 → h0 < t → QOK F t → FB F → QOK (frN n a h0 k d t F).2 (frN n a h0 k d t F).1 ∧ FB (frN n a h0 k d t F).2 ∧ h0 < (frN n a h0 k d t F).1
  | 0, _, _, _, _, h1, h2, h3 => ⟨h2, h3, h1⟩
  | k + 1, d, t, F, hd, h1, h2, h3 => by
    obtain ⟨w, x, hw, hx, ew, ex⟩ := h2.2 h0 h1
    have ht : t ≤ 1024 := Nat.le_trans h2.1 (cn_le _ _)
    rw [frN_h n a h0 k d t F ew hw ex]
    rcases nbr_cases hw (show d < 8 by omega) with hv | ⟨v, hv8, hv⟩
    · rw [if_neg (fun z => z.1 hv)]; exact frN_ok k (d + 1) t F (by omega) h1 h2 h3
    · rw [hv, nI_clamp (show v < 2 ^ 31 by omega)]
      by_cases e : F 63 v = -1
      · rw [if_pos ⟨nI_m1 (by omega), e⟩]
        have hs := h2.set hv8 e (x := x + 1) (by omega)
        split
        · exact frN_ok k (d + 1) (t + 1) _ (by omega) (by omega) (hs.1.push hv8 hs.2 (x := x + 1) (by omega) (up2_same _ _ _ _)) (h3.set (by omega)).q
        · exact frN_ok k (d + 1) t _ (by omega) h1 hs.1 (h3.set (by omega))
      · rw [if_neg (fun z => e z.2)]; exact frN_ok k (d + 1) t F (by omega) h1 h2 h3
theorem frO_fb {n a : Nat} : ∀ (k h t : Nat) (F : FF), QOK F t → FB F → FB (frO n a k h t F)
  | 0, _, _, _, _, h3 => h3
  | k + 1, h, t, F, h2, h3 => by
    rw [frO]; split
    · next hh => have := frN_ok (n := n) (a := a) (h0 := h) 8 0 t F rfl hh h2 h3; exact frO_fb k (h + 1) _ _ this.1 this.2.1
    · exact h3
def FBw (F : FF) (w : Nat) : Prop := ∀ v, v < w → F 63 v = -1 ∨ F 63 v = 0
theorem FBw.step {F G : FF} {w : Nat} (h : FBw F w) (e : ∀ i, i < w → G 63 i = F 63 i) (ew : G 63 w = -1 ∨ G 63 w = 0) : FBw G (w + 1) := by
  intro v hv
  by_cases z : v = w
  · subst z; exact ew
  · rw [e v (by omega)]; exact h v (by omega)
theorem fr1_ok {n a b bg : Nat} : ∀ (k w t : Nat) (F : FF), w + k = 1024 → Q1 F w t → FBw F w → Q1 (fr1 n a b bg k w t F).2 1024 (fr1 n a b bg k w t F).1 ∧ FBw (fr1 n a b bg k w t F).2 1024
  | 0, w, t, F, hw, h1, h2 => by
    have e : w = 1024 := by omega
    subst e; exact ⟨h1, h2⟩
  | k + 1, w, t, F, hw, h1, h2 => by
    have htw := h1.le
    rw [fr1]; split
    · split
      · exact fr1_ok k (w + 1) (t + 1) _ (by omega) (h1.step1 (fun i hi => (by simp [up2, show i ≠ t from (by omega)])) (fun i hi => (by simp [up2, show i ≠ w from (by omega)])) (by simp [up2]) (by simp [up2])) (h2.step (fun i hi => (by simp [up2, show i ≠ w from (by omega)])) (by simp [up2]))
      · exact fr1_ok k (w + 1) t _ (by omega) (h1.step (fun i hi => (by simp [up2, show i ≠ t from (by omega)])) (fun i hi => (by simp [up2, show i ≠ w from (by omega)]))) (h2.step (fun i hi => (by simp [up2, show i ≠ w from (by omega)])) (by simp [up2]))
    · exact fr1_ok k (w + 1) t _ (by omega) (h1.step (fun i hi => (by simp [up2, show i ≠ t from (by omega)])) (fun i hi => (by simp [up2, show i ≠ w from (by omega)]))) (h2.step (fun i hi => (by simp [up2, show i ≠ w from (by omega)])) (by simp [up2]))
theorem FBw.fin {F : FF} (h : FBw F 1024) : FB F := fun v hv => (h v hv).imp id (fun z => ⟨0, by omega, z⟩)
theorem Q1_0 (F : FF) : Q1 F 0 0 := ⟨Nat.zero_le _, fun _ hh => absurd hh (Nat.not_lt_zero _)⟩
theorem lfF_fb (F : FF) (n a b bg : Nat) : FB (lfF F n a b bg) := by
  have h := fr1_ok (n := n) (a := a) (b := b) (bg := bg) 1024 0 0 (ly F n) (by omega) (Q1_0 _) (fun v hv => absurd hv (Nat.not_lt_zero _))
  have h2 := frO_fb (n := n) (a := a) 1025 0 _ _ h.1.fin h.2.fin
  intro v hv
  unfold lfF
  rw [show (up2 (frO n a 1025 0 (fr1 n a b bg 1024 0 0 (ly F n)).1 (fr1 n a b bg 1024 0 0 (ly F n)).2) 57 a (nI bg)) 63 = frO n a 1025 0 (fr1 n a b bg 1024 0 0 (ly F n)).1 (fr1 n a b bg 1024 0 0 (ly F n)).2 63 from up2_row (by decide)]
  exact h2 v hv
abbrev wyC (F : FF) (n a w d : Nat) : Prop := ¬ nbr (nI w) d = -1 ∧ free F n a (nbr (nI w) d).toNatClampNeg ∧ F 63 (nbr (nI w) d).toNatClampNeg = F 63 w - 1
theorem wyC_iff {F : FF} {n a w d v : Nat} (hv : nbr (nI w) d = nI v) (h8 : v < 1024) : wyC F n a w d ↔ free F n a v ∧ F 63 v = F 63 w - 1 := by
  unfold wyC; rw [hv, nI_clamp (show v < 2 ^ 31 by omega)]; exact ⟨fun z => z.2, fun z => ⟨nI_m1 (by omega), z⟩⟩
def wyL (F : FF) (n a w : Nat) : Nat → Int32 → Int32
  | 0, told => told
  | k + 1, told => wyL F n a w k (if wyC F n a w k then nI k else told)
def wyD (F : FF) (n a w : Nat) : Int32 := if 0 < F 63 w then wyL F n a w 8 (-1) else -1
def wyO (F : FF) (n a iN : Nat) : Nat → Nat → Nat → Int32 → Int32
  | 0, _, _, told => told
  | k + 1, c, w, told => if iN < c then told else if wyD F n a w = -1 then -1 else wyO F n a iN k (c + 1) (nbr (nI w) (wyD F n a w).toNatClampNeg).toNatClampNeg (wyD F n a w)
theorem wyL_spec {F : FF} {n a w : Nat} : ∀ (k : Nat) (told : Int32), k ≤ 8 → (told = -1 ∨ ∃ e, e < 8 ∧ told = nI e ∧ wyC F n a w e) → (wyL F n a w k told = -1 ∨ ∃ e, e < 8 ∧ wyL F n a w k told = nI e ∧ wyC F n a w e)
  | 0, _, _, h => h
  | k + 1, told, hk, h => by
    rw [wyL]
    refine wyL_spec k _ (by omega) ?_
    split
    · next hc => exact Or.inr ⟨k, by omega, rfl, hc⟩
    · exact h
theorem wyD_spec {F : FF} {n a w : Nat} : wyD F n a w = -1 ∨ (0 < F 63 w ∧ ∃ e, e < 8 ∧ wyD F n a w = nI e ∧ wyC F n a w e) := by
  unfold wyD
  by_cases h : 0 < F 63 w
  · rw [if_pos h]
    rcases wyL_spec (F := F) (n := n) (a := a) (w := w) 8 (-1) (by omega) (Or.inl rfl) with h1 | h1
    · exact Or.inl h1
    · exact Or.inr ⟨h, h1⟩
  · rw [if_neg h]; exact Or.inl rfl
theorem dec_le {x : Int32} {k : Nat} (hk : k < 2000) (h : x ≤ nI (k + 1)) (h0 : 0 < x) : x - 1 ≤ nI k := by
  obtain ⟨j, hj, rfl⟩ := nI_of (x := x) (fun z => Int32.lt_irrefl (Int32.lt_trans h0 z))
  have h1 : j ≤ k + 1 := (nI_leI hj (by omega)).mp h
  have h2 : 0 < j := (nI_ltI (a := 0) (by omega) hj).mp h0
  rw [nI_sub1 h2]
  exact (nI_leI (by omega) (by omega)).mpr (by omega)
theorem b_X11_laysFar_125_129 : bl2 mX11_laysFar 125 [(.iload 6, 2, 6, 0, .null), (.bipush 8, 2, 0, 0, .int 8)] 129 (.if_icmp .ge 83) 3 = true := by decide +kernel
theorem b_X11_laysFar_212_212 : bl2 mX11_laysFar 212 [] 212 (.iinc 5 1) 3 = true := by decide +kernel
theorem b_X11_laysFar_132_138 : bl2 mX11_laysFar 132 [(.aload_n 0, 1, 0, 0, .null), (.getfield 55, 3, 11, 20, .null), (.iload 5, 2, 5, 0, .null)] 138 (.iaload) 1 = true := by decide +kernel
theorem b_X11_laysFar_139_141 : bl2 mX11_laysFar 139 [(.iload 6, 2, 6, 0, .null)] 141 (.invokestatic 143) 3 = true := by decide +kernel
theorem b_X11_laysFar_144_149 : bl2 mX11_laysFar 144 [(.istore 7, 2, 7, 0, .null), (.iload 7, 2, 7, 0, .null), (.iconst (-1), 1, 0, 0, .int (-1))] 149 (.if_icmp .eq 57) 3 = true := by decide +kernel
theorem b_X11_laysFar_206_125 : bl2 mX11_laysFar 206 [(.iinc 6 1, 3, 6, 0, .int 1), (.goto (-84), 3, 125, 0, .null)] 125 (.iload 6) 2 = true := by decide +kernel
theorem b_X11_laysFar_152_158 : bl2 mX11_laysFar 152 [(.aload_n 0, 1, 0, 0, .null), (.getfield 52, 3, 11, 19, .null), (.iload 7, 2, 7, 0, .null)] 158 (.iaload) 1 = true := by decide +kernel
theorem b_X11_laysFar_159_160 : bl2 mX11_laysFar 159 [(.iconst (-1), 1, 0, 0, .int (-1))] 160 (.if_icmp .ne 46) 3 = true := by decide +kernel
theorem b_X11_laysFar_163_179 : bl2 mX11_laysFar 163 [(.aload_n 0, 1, 0, 0, .null), (.getfield 52, 3, 11, 19, .null), (.iload 7, 2, 7, 0, .null), (.aload_n 0, 1, 0, 0, .null), (.getfield 52, 3, 11, 19, .null), (.aload_n 0, 1, 0, 0, .null), (.getfield 55, 3, 11, 20, .null), (.iload 5, 2, 5, 0, .null)] 179 (.iaload) 1 = true := by decide +kernel
theorem b_X11_laysFar_180_180 : bl2 mX11_laysFar 180 [] 180 (.iaload) 1 = true := by decide +kernel
theorem b_X11_laysFar_181_183 : bl2 mX11_laysFar 181 [(.iconst 1, 1, 0, 0, .int 1), (.iadd, 1, 0, 0, .null)] 183 (.iastore) 1 = true := by decide +kernel
theorem b_X11_laysFar_184_188 : bl2 mX11_laysFar 184 [(.aload_n 0, 1, 0, 0, .null), (.iload_n 1, 1, 1, 0, .null), (.iload 7, 2, 7, 0, .null)] 188 (.invokevirtual 146) 3 = true := by decide +kernel
theorem b_X11_laysFar_191_191 : bl2 mX11_laysFar 191 [] 191 (.ifCond .eq 15) 3 = true := by decide +kernel
theorem b_X11_laysFar_194_202 : bl2 mX11_laysFar 194 [(.aload_n 0, 1, 0, 0, .null), (.getfield 55, 3, 11, 20, .null), (.iload 4, 2, 4, 0, .null), (.iload 7, 2, 7, 0, .null)] 202 (.iastore) 1 = true := by decide +kernel
theorem b_X11_laysFar_203_125 : bl2 mX11_laysFar 203 [(.iinc 4 1, 3, 4, 0, .int 1), (.iinc 6 1, 3, 6, 0, .int 1), (.goto (-84), 3, 125, 0, .null)] 125 (.iload 6) 2 = true := by decide +kernel
set_option maxRecDepth 20000 in
set_option maxHeartbeats 2000000 in
theorem ml_fN (E : EE) (L : Nat) (n a b bg h : Nat) (hn10 : n ≤ 10) (ha : a < n) (Q : Q2) : ∀ (k d t : Nat) (F : FF), d + k = 8 → F 48 3 = nI n → QOK F t → h < t → (QOK (frN n a h k d t F).2 (frN n a h k d t F).1 → h < (frN n a h k d t F).1 → R2 E L mX11_laysFar 6 212 [some (.ref 48), some (.int (nI a)), some (.int (nI b)), some (.int (nI bg)), some (.int (nI (frN n a h k d t F).1)), some (.int (nI h)), none, none] [] (frN n a h k d t F).2 Q) → R2 E L mX11_laysFar 6 125 [some (.ref 48), some (.int (nI a)), some (.int (nI b)), some (.int (nI bg)), some (.int (nI t)), some (.int (nI h)), some (.int (nI d)), none] [] F Q := by
  intro k
  induction k with
  | zero =>
    intro d t F hi hn hq ht ex
    refine R2.B (ls2 := [some (.ref 48), some (.int (nI a)), some (.int (nI b)), some (.int (nI bg)), some (.int (nI t)), some (.int (nI h)), some (.int (nI d)), none]) (st2 := [.int 8, .int (nI d)]) b_X11_laysFar_125_129 rfl (fun hd => ?_)
    refine R2.icmp_ge 212 hd (by decide) (fun c129 => ?_) (fun c129 => absurd (nI_le (a := 8) (by omega) (by omega)) c129)
    refine R2.B (ls2 := [some (.ref 48), some (.int (nI a)), some (.int (nI b)), some (.int (nI bg)), some (.int (nI t)), some (.int (nI h)), some (.int (nI d)), none]) (st2 := []) b_X11_laysFar_212_212 rfl (fun hd => ?_)
    refine R2.forget (ls2 := [some (.ref 48), some (.int (nI a)), some (.int (nI b)), some (.int (nI bg)), some (.int (nI t)), some (.int (nI h)), none, none]) ⟨rfl, ⟨rfl, ⟨rfl, ⟨rfl, ⟨rfl, ⟨rfl, trivial⟩⟩⟩⟩⟩⟩ ?_
    exact ex hq ht
  | succ k ih =>
    intro d t F hi hn hq ht ex
    obtain ⟨w, x, hw, hx, ew, ex0⟩ := hq.2 h ht
    have ht1 : t ≤ 1024 := Nat.le_trans hq.1 (cn_le _ _)
    rcases nbr_cases hw (show d < 8 by omega) with hv | ⟨v, hv8, hv⟩
    · refine R2.B (ls2 := [some (.ref 48), some (.int (nI a)), some (.int (nI b)), some (.int (nI bg)), some (.int (nI t)), some (.int (nI h)), some (.int (nI d)), none]) (st2 := [.int 8, .int (nI d)]) b_X11_laysFar_125_129 rfl (fun hd => ?_)
      refine R2.icmp_ge 212 hd (by decide) (fun c129 => absurd c129 (nI_ge (b := 8) (by omega) (by omega))) (fun c129 => ?_)
      refine R2.B (ls2 := [some (.ref 48), some (.int (nI a)), some (.int (nI b)), some (.int (nI bg)), some (.int (nI t)), some (.int (nI h)), some (.int (nI d)), none]) (st2 := [.int (nI h), .ref 64]) b_X11_laysFar_132_138 rfl (fun hd => ?_)
      refine R2.iald h rfl hd rfl (fun _ => rfl) (by decide) (by omega) ?_
      refine R2.top (show (F 64 h : Int32) = nI w from ew) ?_
      refine R2.B (ls2 := [some (.ref 48), some (.int (nI a)), some (.int (nI b)), some (.int (nI bg)), some (.int (nI t)), some (.int (nI h)), some (.int (nI d)), none]) (st2 := [.int (nI d), .int (nI w)]) b_X11_laysFar_139_141 rfl (fun hd => ?_)
      refine R2.callS3 (M2 := mX11_stepTo) (As := [.int (nI w), .int (nI d)]) (rest := []) hd lk_11_143 okX11_stepTo (by decide) (me_stepTo E L F (nI w) d (by omega)) (by decide) rfl rfl (Nat.le_of_ble_eq_true rfl) ?_
      refine R2.top (show (nbr (nI w) d : Int32) = (-1) from hv) ?_
      refine R2.B (ls2 := [some (.ref 48), some (.int (nI a)), some (.int (nI b)), some (.int (nI bg)), some (.int (nI t)), some (.int (nI h)), some (.int (nI d)), some (.int (-1))]) (st2 := [.int (-1), .int (-1)]) b_X11_laysFar_144_149 rfl (fun hd => ?_)
      refine R2.icmp_eq 206 hd (by decide) (fun c149 => ?_) (fun c149 => absurd (by decide) c149)
      refine R2.B (ls2 := [some (.ref 48), some (.int (nI a)), some (.int (nI b)), some (.int (nI bg)), some (.int (nI t)), some (.int (nI h)), some (.int ((nI d) + 1)), some (.int (-1))]) (st2 := []) b_X11_laysFar_206_125 rfl (fun hd => ?_)
      rw [show ((nI d) + 1 : Int32) = nI (d + 1) from nI_add d 1]
      have e : frN n a h (k + 1) d t F = frN n a h k (d + 1) t F := by
        rw [frN_h n a h k d t F ew hw ex0]; rw [if_neg (fun z => z.1 hv)]
      rw [e] at ex
      refine R2.forget (ls2 := [some (.ref 48), some (.int (nI a)), some (.int (nI b)), some (.int (nI bg)), some (.int (nI t)), some (.int (nI h)), some (.int (nI (d + 1))), none]) ⟨rfl, ⟨rfl, ⟨rfl, ⟨rfl, ⟨rfl, ⟨rfl, ⟨rfl, trivial⟩⟩⟩⟩⟩⟩⟩ ?_
      exact ih (d + 1) _ _ (by omega) hn hq ht ex
    · refine R2.B (ls2 := [some (.ref 48), some (.int (nI a)), some (.int (nI b)), some (.int (nI bg)), some (.int (nI t)), some (.int (nI h)), some (.int (nI d)), none]) (st2 := [.int 8, .int (nI d)]) b_X11_laysFar_125_129 rfl (fun hd => ?_)
      refine R2.icmp_ge 212 hd (by decide) (fun c129 => absurd c129 (nI_ge (b := 8) (by omega) (by omega))) (fun c129 => ?_)
      refine R2.B (ls2 := [some (.ref 48), some (.int (nI a)), some (.int (nI b)), some (.int (nI bg)), some (.int (nI t)), some (.int (nI h)), some (.int (nI d)), none]) (st2 := [.int (nI h), .ref 64]) b_X11_laysFar_132_138 rfl (fun hd => ?_)
      refine R2.iald h rfl hd rfl (fun _ => rfl) (by decide) (by omega) ?_
      refine R2.top (show (F 64 h : Int32) = nI w from ew) ?_
      refine R2.B (ls2 := [some (.ref 48), some (.int (nI a)), some (.int (nI b)), some (.int (nI bg)), some (.int (nI t)), some (.int (nI h)), some (.int (nI d)), none]) (st2 := [.int (nI d), .int (nI w)]) b_X11_laysFar_139_141 rfl (fun hd => ?_)
      refine R2.callS3 (M2 := mX11_stepTo) (As := [.int (nI w), .int (nI d)]) (rest := []) hd lk_11_143 okX11_stepTo (by decide) (me_stepTo E L F (nI w) d (by omega)) (by decide) rfl rfl (Nat.le_of_ble_eq_true rfl) ?_
      refine R2.top (show (nbr (nI w) d : Int32) = nI v from hv) ?_
      refine R2.B (ls2 := [some (.ref 48), some (.int (nI a)), some (.int (nI b)), some (.int (nI bg)), some (.int (nI t)), some (.int (nI h)), some (.int (nI d)), some (.int (nI v))]) (st2 := [.int (-1), .int (nI v)]) b_X11_laysFar_144_149 rfl (fun hd => ?_)
      refine R2.icmp_eq 206 hd (by decide) (fun c149 => absurd c149 (nI_m1 (by omega))) (fun c149 => ?_)
      refine R2.B (ls2 := [some (.ref 48), some (.int (nI a)), some (.int (nI b)), some (.int (nI bg)), some (.int (nI t)), some (.int (nI h)), some (.int (nI d)), some (.int (nI v))]) (st2 := [.int (nI v), .ref 63]) b_X11_laysFar_152_158 rfl (fun hd => ?_)
      refine R2.iald v rfl hd rfl (fun _ => rfl) (by decide) (by omega) ?_
      refine R2.B (ls2 := [some (.ref 48), some (.int (nI a)), some (.int (nI b)), some (.int (nI bg)), some (.int (nI t)), some (.int (nI h)), some (.int (nI d)), some (.int (nI v))]) (st2 := [.int (-1), .int (F 63 v)]) b_X11_laysFar_159_160 rfl (fun hd => ?_)
      refine R2.icmp_ne 206 hd (by decide) (fun c160 => ?_) (fun c160 => ?_)
      · refine R2.B (ls2 := [some (.ref 48), some (.int (nI a)), some (.int (nI b)), some (.int (nI bg)), some (.int (nI t)), some (.int (nI h)), some (.int ((nI d) + 1)), some (.int (nI v))]) (st2 := []) b_X11_laysFar_206_125 rfl (fun hd => ?_)
        rw [show ((nI d) + 1 : Int32) = nI (d + 1) from nI_add d 1]
        have e : frN n a h (k + 1) d t F = frN n a h k (d + 1) t F := by
          rw [frN_h n a h k d t F ew hw ex0]; rw [hv, nI_clamp (show v < 2 ^ 31 by omega), if_neg (fun z => c160 z.2)]
        rw [e] at ex
        refine R2.forget (ls2 := [some (.ref 48), some (.int (nI a)), some (.int (nI b)), some (.int (nI bg)), some (.int (nI t)), some (.int (nI h)), some (.int (nI (d + 1))), none]) ⟨rfl, ⟨rfl, ⟨rfl, ⟨rfl, ⟨rfl, ⟨rfl, ⟨rfl, trivial⟩⟩⟩⟩⟩⟩⟩ ?_
        exact ih (d + 1) _ _ (by omega) hn hq ht ex
      · refine R2.B (ls2 := [some (.ref 48), some (.int (nI a)), some (.int (nI b)), some (.int (nI bg)), some (.int (nI t)), some (.int (nI h)), some (.int (nI d)), some (.int (nI v))]) (st2 := [.int (nI h), .ref 64, .ref 63, .int (nI v), .ref 63]) b_X11_laysFar_163_179 rfl (fun hd => ?_)
        refine R2.iald h rfl hd rfl (fun _ => rfl) (by decide) (by omega) ?_
        refine R2.top (show (F 64 h : Int32) = nI w from ew) ?_
        refine R2.B (ls2 := [some (.ref 48), some (.int (nI a)), some (.int (nI b)), some (.int (nI bg)), some (.int (nI t)), some (.int (nI h)), some (.int (nI d)), some (.int (nI v))]) (st2 := [.int (nI w), .ref 63, .int (nI v), .ref 63]) b_X11_laysFar_180_180 rfl (fun hd => ?_)
        refine R2.iald w rfl hd rfl (fun _ => rfl) (by decide) (by omega) ?_
        refine R2.top (show (F 63 w : Int32) = nI x from ex0) ?_
        refine R2.B (ls2 := [some (.ref 48), some (.int (nI a)), some (.int (nI b)), some (.int (nI bg)), some (.int (nI t)), some (.int (nI h)), some (.int (nI d)), some (.int (nI v))]) (st2 := [.int ((nI x) + 1), .int (nI v), .ref 63]) b_X11_laysFar_181_183 rfl (fun hd => ?_)
        rw [show ((nI x) + 1 : Int32) = nI (x + 1) from nI_add x 1]
        refine R2.iast v rfl hd (by decide) rfl (fun _ => rfl) (by decide) (by omega) ?_
        refine R2.B (ls2 := [some (.ref 48), some (.int (nI a)), some (.int (nI b)), some (.int (nI bg)), some (.int (nI t)), some (.int (nI h)), some (.int (nI d)), some (.int (nI v))]) (st2 := [.int (nI v), .int (nI a), .ref 48]) b_X11_laysFar_184_188 rfl (fun hd => ?_)
        refine R2.callV3 (M2 := mX11_isFree) (As := [.int (nI a), .int (nI v)]) (rest := []) hd lk_11_146 okX11_isFree (by decide) rfl (me_isFree E L (up2 F 63 v (nI (x + 1))) n hn hn10 a (nI v) (by omega)) (by decide) rfl rfl (Nat.le_of_ble_eq_true rfl) ?_
        refine R2.B (ls2 := [some (.ref 48), some (.int (nI a)), some (.int (nI b)), some (.int (nI bg)), some (.int (nI t)), some (.int (nI h)), some (.int (nI d)), some (.int (nI v))]) (st2 := [.int (b2i (mayS (F 57) a (nI v) (F 51 2 * F 51 2) n 0 = true))]) b_X11_laysFar_191_191 rfl (fun hd => ?_)
        refine R2.if_eq 206 hd (by decide) (fun c191 => ?_) (fun c191 => ?_)
        · have nc191 : ¬ (mayS (F 57) a (nI v) (F 51 2 * F 51 2) n 0 = true) := b2i_zero.mp c191
          refine R2.B (ls2 := [some (.ref 48), some (.int (nI a)), some (.int (nI b)), some (.int (nI bg)), some (.int (nI t)), some (.int (nI h)), some (.int ((nI d) + 1)), some (.int (nI v))]) (st2 := []) b_X11_laysFar_206_125 rfl (fun hd => ?_)
          rw [show ((nI d) + 1 : Int32) = nI (d + 1) from nI_add d 1]
          have e : frN n a h (k + 1) d t F = frN n a h k (d + 1) t (up2 F 63 v (nI (x + 1))) := by
            rw [frN_h n a h k d t F ew hw ex0]; rw [hv, nI_clamp (show v < 2 ^ 31 by omega), if_pos ⟨nI_m1 (by omega), c160⟩, if_neg nc191]
          rw [e] at ex
          refine R2.forget (ls2 := [some (.ref 48), some (.int (nI a)), some (.int (nI b)), some (.int (nI bg)), some (.int (nI t)), some (.int (nI h)), some (.int (nI (d + 1))), none]) ⟨rfl, ⟨rfl, ⟨rfl, ⟨rfl, ⟨rfl, ⟨rfl, ⟨rfl, trivial⟩⟩⟩⟩⟩⟩⟩ ?_
          exact ih (d + 1) _ _ (by omega) hn (hq.set hv8 c160 (x := x + 1) (by omega)).1 ht ex
        · have nc191 : mayS (F 57) a (nI v) (F 51 2 * F 51 2) n 0 = true := b2i_nz.mp c191
          refine R2.B (ls2 := [some (.ref 48), some (.int (nI a)), some (.int (nI b)), some (.int (nI bg)), some (.int (nI t)), some (.int (nI h)), some (.int (nI d)), some (.int (nI v))]) (st2 := [.int (nI v), .int (nI t), .ref 64]) b_X11_laysFar_194_202 rfl (fun hd => ?_)
          refine R2.iast t rfl hd (by decide) rfl (fun _ => rfl) (by decide) (hq.lt hv8 c160) ?_
          refine R2.B (ls2 := [some (.ref 48), some (.int (nI a)), some (.int (nI b)), some (.int (nI bg)), some (.int ((nI t) + 1)), some (.int (nI h)), some (.int ((nI d) + 1)), some (.int (nI v))]) (st2 := []) b_X11_laysFar_203_125 rfl (fun hd => ?_)
          rw [show ((nI t) + 1 : Int32) = nI (t + 1) from nI_add t 1]
          rw [show ((nI d) + 1 : Int32) = nI (d + 1) from nI_add d 1]
          have e : frN n a h (k + 1) d t F = frN n a h k (d + 1) (t + 1) (up2 (up2 F 63 v (nI (x + 1))) 64 t (nI v)) := by
            rw [frN_h n a h k d t F ew hw ex0]; rw [hv, nI_clamp (show v < 2 ^ 31 by omega), if_pos ⟨nI_m1 (by omega), c160⟩, if_pos nc191]
          rw [e] at ex
          refine R2.forget (ls2 := [some (.ref 48), some (.int (nI a)), some (.int (nI b)), some (.int (nI bg)), some (.int (nI (t + 1))), some (.int (nI h)), some (.int (nI (d + 1))), none]) ⟨rfl, ⟨rfl, ⟨rfl, ⟨rfl, ⟨rfl, ⟨rfl, ⟨rfl, trivial⟩⟩⟩⟩⟩⟩⟩ ?_
          exact ih (d + 1) _ _ (by omega) hn ((hq.set hv8 c160 (x := x + 1) (by omega)).1.push hv8 (hq.set hv8 c160 (x := x + 1) (by omega)).2 (x := x + 1) (by omega) (up2_same _ _ _ _)) (by omega) ex
theorem b_X11_laysFar_115_119 : bl2 mX11_laysFar 115 [(.iload 5, 2, 5, 0, .null), (.iload 4, 2, 4, 0, .null)] 119 (.if_icmp .ge 99) 3 = true := by decide +kernel
theorem b_X11_laysFar_218_224 : bl2 mX11_laysFar 218 [(.aload_n 0, 1, 0, 0, .null), (.getfield 34, 3, 11, 9, .null), (.iload_n 1, 1, 1, 0, .null), (.iload_n 3, 1, 3, 0, .null)] 224 (.iastore) 1 = true := by decide +kernel
theorem b_X11_laysFar_225_225 : bl2 mX11_laysFar 225 [] 225 (.return_) 1 = true := by decide +kernel
theorem b_X11_laysFar_122_125 : bl2 mX11_laysFar 122 [(.iconst 0, 1, 0, 0, .int 0), (.istore 6, 2, 6, 0, .null)] 125 (.iload 6) 2 = true := by decide +kernel
theorem b_X11_laysFar_212_115 : bl2 mX11_laysFar 212 [(.iinc 5 1, 3, 5, 0, .int 1), (.goto (-100), 3, 115, 0, .null)] 115 (.iload 5) 2 = true := by decide +kernel
set_option maxRecDepth 20000 in
set_option maxHeartbeats 2000000 in
theorem ml_fO (E : EE) (L : Nat) (n a b bg : Nat) (hn10 : n ≤ 10) (ha : a < n) : ∀ (k h t : Nat) (F : FF), h + k = 1025 → h ≤ t → F 48 3 = nI n → QOK F t → R2 E L mX11_laysFar 6 115 [some (.ref 48), some (.int (nI a)), some (.int (nI b)), some (.int (nI bg)), some (.int (nI t)), some (.int (nI h)), none, none] [] F (fun r' F' => r' = none ∧ F' = up2 (frO n a k h t F) 57 a (nI bg)) := by
  intro k
  induction k with
  | zero =>
    intro h t F hi hht hn hq
    have ht1 : t ≤ 1024 := Nat.le_trans hq.1 (cn_le _ _)
    omega
  | succ k ih =>
    intro h t F hi hht hn hq
    have ht1 : t ≤ 1024 := Nat.le_trans hq.1 (cn_le _ _)
    refine R2.B (ls2 := [some (.ref 48), some (.int (nI a)), some (.int (nI b)), some (.int (nI bg)), some (.int (nI t)), some (.int (nI h)), none, none]) (st2 := [.int (nI t), .int (nI h)]) b_X11_laysFar_115_119 rfl (fun hd => ?_)
    refine R2.icmp_ge 218 hd (by decide) (fun c119 => ?_) (fun c119 => ?_)
    · have nc119 : t ≤ h := (nI_leI (a := t) (b := h) (by omega) (by omega)).mp c119
      refine R2.B (ls2 := [some (.ref 48), some (.int (nI a)), some (.int (nI b)), some (.int (nI bg)), some (.int (nI t)), some (.int (nI h)), none, none]) (st2 := [.int (nI bg), .int (nI a), .ref 57]) b_X11_laysFar_218_224 rfl (fun hd => ?_)
      refine R2.iast a rfl hd (by decide) rfl (fun _ => rfl) (by decide) (by omega) ?_
      refine R2.B (ls2 := [some (.ref 48), some (.int (nI a)), some (.int (nI b)), some (.int (nI bg)), some (.int (nI t)), some (.int (nI h)), none, none]) (st2 := []) b_X11_laysFar_225_225 rfl (fun hd => ?_)
      exact R2.ret3 (r := none) hd trivial rfl rfl (by rw [show frO n a (k + 1) h t F = F from (by rw [frO, if_neg (by omega)])])
    · have nc119 : h < t := Nat.lt_of_not_le fun h9 => c119 ((nI_leI (a := t) (b := h) (by omega) (by omega)).mpr h9)
      refine R2.B (ls2 := [some (.ref 48), some (.int (nI a)), some (.int (nI b)), some (.int (nI bg)), some (.int (nI t)), some (.int (nI h)), some (.int 0), none]) (st2 := []) b_X11_laysFar_122_125 rfl (fun hd => ?_)
      refine ml_fN E L n a b bg h hn10 ha _ 8 0 t F (by omega) hn hq nc119 (fun hq2 ht2 => ?_)
      refine R2.B (ls2 := [some (.ref 48), some (.int (nI a)), some (.int (nI b)), some (.int (nI bg)), some (.int (nI (frN n a h 8 0 t F).1)), some (.int ((nI h) + 1)), none, none]) (st2 := []) b_X11_laysFar_212_115 rfl (fun hd => ?_)
      rw [show ((nI h) + 1 : Int32) = nI (h + 1) from nI_add h 1]
      rw [show frO n a (k + 1) h t F = frO n a k (h + 1) (frN n a h 8 0 t F).1 (frN n a h 8 0 t F).2 from (by rw [frO, if_pos nc119])]
      exact ih (h + 1) _ _ (by omega) (by omega) ((congrFun (frN_row (by decide) (by decide) 8 0 t F) 3).trans hn) hq2
theorem b_X11_laysFar_0_1 : bl2 mX11_laysFar 0 [(.aload_n 0, 1, 0, 0, .null)] 1 (.invokevirtual 140) 3 = true := by decide +kernel
theorem b_X11_laysFar_4_9 : bl2 mX11_laysFar 4 [(.aload_n 0, 1, 0, 0, .null), (.getfield 31, 3, 11, 8, .null), (.iload_n 1, 1, 1, 0, .null)] 9 (.iaload) 1 = true := by decide +kernel
theorem b_X11_laysFar_10_17 : bl2 mX11_laysFar 10 [(.istore_n 3, 1, 3, 0, .null), (.iconst 0, 1, 0, 0, .int 0), (.istore 4, 2, 4, 0, .null), (.iconst 0, 1, 0, 0, .int 0), (.istore 5, 2, 5, 0, .null)] 17 (.iload 5) 2 = true := by decide +kernel
theorem b_X11_laysFar_112_115 : bl2 mX11_laysFar 112 [(.iconst 0, 1, 0, 0, .int 0), (.istore 5, 2, 5, 0, .null)] 115 (.iload 5) 2 = true := by decide +kernel
set_option maxRecDepth 20000 in
set_option maxHeartbeats 1000000 in
theorem me_laysFar (E : EE) (L : Nat) (F : FF) (l n : Nat) (hm : MR F l n) (a b bg : Nat) (ha : a < n) (hb : b < n) (hs : F 56 a = nI bg) (hbg : bg < 1024) : Ev3 E L 6 mX11_laysFar [.ref 48, .int (nI a), .int (nI b)] F none (lfF F n a b bg) := by
  have hn10 := hm.2.2.1
  refine Ev3.of okX11_laysFar.2.2.1 (Nat.le_of_ble_eq_true rfl) ?_
  show R2 E L mX11_laysFar 6 0 [some (.ref 48), some (.int (nI a)), some (.int (nI b)), none, none, none, none, none] [] F _
  refine R2.B (ls2 := [some (.ref 48), some (.int (nI a)), some (.int (nI b)), none, none, none, none, none]) (st2 := [.ref 48]) b_X11_laysFar_0_1 rfl (fun hd => ?_)
  refine R2.callV3 (M2 := mX11_lays) (As := []) (rest := []) hd lk_11_140 okX11_lays (by decide) rfl (me_lays E L F l n hm) (by decide) rfl rfl (Nat.le_of_ble_eq_true rfl) ?_
  refine R2.B (ls2 := [some (.ref 48), some (.int (nI a)), some (.int (nI b)), none, none, none, none, none]) (st2 := [.int (nI a), .ref 56]) b_X11_laysFar_4_9 rfl (fun hd => ?_)
  refine R2.iald a rfl hd rfl (fun _ => rfl) (by decide) (by omega) ?_
  refine R2.top (show ((ly F n) 56 a : Int32) = nI bg from ((congrFun (ly_row (by decide)) a).trans hs)) ?_
  refine R2.B (ls2 := [some (.ref 48), some (.int (nI a)), some (.int (nI b)), some (.int (nI bg)), some (.int 0), some (.int 0), none, none]) (st2 := []) b_X11_laysFar_10_17 rfl (fun hd => ?_)
  refine ml_f1 E L n a b bg hm.2.2.1 ha hb hbg _ 1024 0 0 (ly F n) (by omega) ((congrFun (ly_row (by decide)) 3).trans hm.2.2.2.1) (Q1_0 _) (fun hq => ?_)
  refine R2.B (ls2 := [some (.ref 48), some (.int (nI a)), some (.int (nI b)), some (.int (nI bg)), some (.int (nI (fr1 n a b bg 1024 0 0 (ly F n)).1)), some (.int 0), none, none]) (st2 := []) b_X11_laysFar_112_115 rfl (fun hd => ?_)
  exact ml_fO E L n a b bg hm.2.2.1 ha 1025 0 _ _ (by omega) (by omega) ((congrFun (fr1_row (by decide) (by decide) (by decide) 1024 0 0 (ly F n)) 3).trans ((congrFun (ly_row (by decide)) 3).trans hm.2.2.2.1)) hq.fin
theorem b_X11_comesOf_0_3 : bl2 mX11_comesOf 0 [(.aload_n 0, 1, 0, 0, .null), (.iload_n 1, 1, 1, 0, .null), (.iload_n 2, 1, 2, 0, .null)] 3 (.invokevirtual 216) 3 = true := by decide +kernel
theorem b_X11_comesOf_6_15 : bl2 mX11_comesOf 6 [(.aload_n 0, 1, 0, 0, .null), (.getfield 52, 3, 11, 19, .null), (.aload_n 0, 1, 0, 0, .null), (.getfield 31, 3, 11, 8, .null), (.iload_n 1, 1, 1, 0, .null)] 15 (.iaload) 1 = true := by decide +kernel
theorem b_X11_comesOf_16_16 : bl2 mX11_comesOf 16 [] 16 (.iaload) 1 = true := by decide +kernel
theorem b_X11_comesOf_17_17 : bl2 mX11_comesOf 17 [] 17 (.ireturn) 1 = true := by decide +kernel
set_option maxRecDepth 20000 in
set_option maxHeartbeats 1000000 in
theorem me_comesOf (E : EE) (L : Nat) (F : FF) (l n : Nat) (hm : MR F l n) (a b bg : Nat) (ha : a < n) (hb : b < n) (hs : F 56 a = nI bg) (hbg : bg < 1024) : Ev3 E L 7 mX11_comesOf [.ref 48, .int (nI a), .int (nI b)] F (some (.int ((lfF F n a b bg) 63 bg))) (lfF F n a b bg) := by
  have hn10 := hm.2.2.1
  refine Ev3.of okX11_comesOf.2.2.1 (Nat.le_of_ble_eq_true rfl) ?_
  show R2 E L mX11_comesOf 7 0 [some (.ref 48), some (.int (nI a)), some (.int (nI b))] [] F _
  refine R2.B (ls2 := [some (.ref 48), some (.int (nI a)), some (.int (nI b))]) (st2 := [.int (nI b), .int (nI a), .ref 48]) b_X11_comesOf_0_3 rfl (fun hd => ?_)
  refine R2.callV3 (M2 := mX11_laysFar) (As := [.int (nI a), .int (nI b)]) (rest := []) hd lk_11_216 okX11_laysFar (by decide) rfl (me_laysFar E L F l n hm a b bg ha hb hs hbg) (by decide) rfl rfl (Nat.le_of_ble_eq_true rfl) ?_
  refine R2.B (ls2 := [some (.ref 48), some (.int (nI a)), some (.int (nI b))]) (st2 := [.int (nI a), .ref 56, .ref 63]) b_X11_comesOf_6_15 rfl (fun hd => ?_)
  refine R2.iald a rfl hd rfl (fun _ => rfl) (by decide) (by omega) ?_
  refine R2.top (show ((lfF F n a b bg) 56 a : Int32) = nI bg from ((congrFun (lfF_row (by decide) (by decide) (by decide)) a).trans hs)) ?_
  refine R2.B (ls2 := [some (.ref 48), some (.int (nI a)), some (.int (nI b))]) (st2 := [.int (nI bg), .ref 63]) b_X11_comesOf_16_16 rfl (fun hd => ?_)
  refine R2.iald bg rfl hd rfl (fun _ => rfl) (by decide) (by omega) ?_
  refine R2.B (ls2 := [some (.ref 48), some (.int (nI a)), some (.int (nI b))]) (st2 := [.int ((lfF F n a b bg) 63 bg)]) b_X11_comesOf_17_17 rfl (fun hd => ?_)
  exact R2.ret3 (r := some (.int ((lfF F n a b bg) 63 bg))) hd trivial rfl rfl rfl
