/-! The reference's fair and trial. Printed by wip/whole/gen/spec18.py. -/
theorem tat_lt {l : Nat} {b : Nat → Int32} {j : Nat} (h : tat l b j = 59) : j < l := by
  unfold tat at h; split at h
  · assumption
  · exact absurd h (by decide)
def mfP (F : FF) (part : Nat) (dn f1 f2 : Int32) : FF := up2 (up2 (up2 F 58 part f1) 59 part f2) 60 part dn
def mfL (l n : Nat) : Nat → Nat → Nat → FF → Int32 × FF
  | 0, _, _, F => (-1, F)
  | k + 1, part, at_, F =>
    if ¬ at_ < l ∧ at_ = 0 then (-1, F)
    else if tat l (B1 F) at_ = 61 then
      if ¬ (0 ≤ tat l (B1 F) (at_ + 1) - 48 ∧ tat l (B1 F) (at_ + 1) - 48 ≤ nI n - 1) then (nI (at_ + 1), F)
      else if ¬ (0 ≤ tat l (B1 F) (at_ + 1 + 1) - 48 ∧ tat l (B1 F) (at_ + 1 + 1) - 48 ≤ nI n - 1) ∨ tat l (B1 F) (at_ + 1 + 1) - 48 = tat l (B1 F) (at_ + 1) - 48 then (nI (at_ + 1 + 1), F)
      else if at_ + 1 + 2 = l then (-1, up2 (mfP F part 1 (tat l (B1 F) (at_ + 1) - 48) (tat l (B1 F) (at_ + 1 + 1) - 48)) 48 10 (nI (part + 1)))
      else if ¬ tat l (B1 F) (at_ + 1 + 2) = 59 then (nI (at_ + 1 + 2), (mfP F part 1 (tat l (B1 F) (at_ + 1) - 48) (tat l (B1 F) (at_ + 1 + 1) - 48)))
      else mfL l n k (part + 1) (at_ + 1 + 2 + 1) (mfP F part 1 (tat l (B1 F) (at_ + 1) - 48) (tat l (B1 F) (at_ + 1 + 1) - 48))
    else
      if ¬ (0 ≤ tat l (B1 F) at_ - 48 ∧ tat l (B1 F) at_ - 48 ≤ nI n - 1) then (nI at_, F)
      else if ¬ (0 ≤ tat l (B1 F) (at_ + 1) - 48 ∧ tat l (B1 F) (at_ + 1) - 48 ≤ 7) then (nI (at_ + 1), F)
      else if at_ + 2 = l then (-1, up2 (mfP F part 0 (tat l (B1 F) at_ - 48) (tat l (B1 F) (at_ + 1) - 48)) 48 10 (nI (part + 1)))
      else if ¬ tat l (B1 F) (at_ + 2) = 59 then (nI (at_ + 2), (mfP F part 0 (tat l (B1 F) at_ - 48) (tat l (B1 F) (at_ + 1) - 48)))
      else mfL l n k (part + 1) (at_ + 2 + 1) (mfP F part 0 (tat l (B1 F) at_ - 48) (tat l (B1 F) (at_ + 1) - 48))
def fds (F : FF) (l n : Nat) : Int32 × FF := mfL l n 21 0 0 (up2 F 48 10 0)
abbrev bit (x : Int32) (a : Nat) : Prop := x >>> (nI a &&& 31) &&& 1 = 1
abbrev mjC (F : FF) (n a b : Nat) : Prop := ¬ nbr (F 57 a) b = -1 ∧ mayS (F 57) a (nbr (F 57 a) b) (F 51 2 * F 51 2) n 0 = true
def mjL (n : Nat) : Nat → Nat → Int32 → FF → FF
  | 0, _, _, F => F
  | k + 1, q, had, F => if F 48 16 = -1 then
      (if F 60 q = 0 then
        (if mjC F n (F 58 q).toNatClampNeg (F 59 q).toNatClampNeg then mjL n k (q + 1) had (up2 (up2 F 48 16 (-1)) 57 (F 58 q).toNatClampNeg (nbr (F 57 (F 58 q).toNatClampNeg) (F 59 q).toNatClampNeg))
         else mjL n k (q + 1) had (up2 (up2 F 48 16 (nI q)) 57 (F 58 q).toNatClampNeg (F 57 (F 58 q).toNatClampNeg)))
       else if mvd F n (F 51 0) (-1) (F 58 q).toNatClampNeg (F 59 q).toNatClampNeg = 0 ∧ ¬ bit had (F 58 q).toNatClampNeg ∧ ¬ bit had (F 59 q).toNatClampNeg
         then mjL n k (q + 1) (had ||| (1 <<< (nI (F 58 q).toNatClampNeg &&& 31) ||| 1 <<< (nI (F 59 q).toNatClampNeg &&& 31))) (up2 (up2 F 48 17 (F 48 17 + 1)) 48 18 (F 48 18 + gan (F 52) (F 54) (F 58 q).toNatClampNeg (F 59 q).toNatClampNeg))
       else mjL n k (q + 1) had (up2 F 48 16 (nI q))) else F
def MFair (F : FF) (n s : Nat) : Prop := F 48 10 = nI s ∧ s ≤ 20 ∧ ∀ q, q < s → ∃ a b : Nat, a < n ∧ F 58 q = nI a ∧ F 59 q = nI b ∧ ((F 60 q = 0 ∧ b < 8) ∨ (F 60 q = 1 ∧ b < n))
def mjF (F : FF) (n s : Nat) : FF := mjL n s 0 0 (up2 (up2 (up2 (ly F n) 48 16 (-1)) 48 17 0) 48 18 0)
theorem b_X11_fairFault_14_20 : bl2 mX11_fairFault 14 [(.iload_n 3, 1, 3, 0, .null), (.aload_n 0, 1, 0, 0, .null), (.getfield 7, 3, 11, 0, .null), (.iconst 1, 1, 0, 0, .int 1)] 20 (.iaload) 1 = true := by decide +kernel
theorem b_X11_fairFault_21_21 : bl2 mX11_fairFault 21 [] 21 (.if_icmp .lt 7) 3 = true := by decide +kernel
theorem b_X11_fairFault_28_31 : bl2 mX11_fairFault 28 [(.aload_n 0, 1, 0, 0, .null), (.iconst 1, 1, 0, 0, .int 1), (.iload_n 3, 1, 3, 0, .null)] 31 (.invokevirtual 105) 3 = true := by decide +kernel
theorem b_X11_fairFault_34_36 : bl2 mX11_fairFault 34 [(.bipush 61, 2, 0, 0, .int 61)] 36 (.if_icmp .ne 7) 3 = true := by decide +kernel
theorem b_X11_fairFault_43_48 : bl2 mX11_fairFault 43 [(.iconst 0, 1, 0, 0, .int 0), (.istore 4, 2, 4, 0, .null), (.iload 4, 2, 4, 0, .null)] 48 (.ifCond .eq 9) 3 = true := by decide +kernel
theorem b_X11_fairFault_57_64 : bl2 mX11_fairFault 57 [(.iload_n 3, 1, 3, 0, .null), (.istore 5, 2, 5, 0, .null), (.aload_n 0, 1, 0, 0, .null), (.iconst 1, 1, 0, 0, .int 1), (.iload 5, 2, 5, 0, .null)] 64 (.invokevirtual 105) 3 = true := by decide +kernel
theorem b_X11_fairFault_67_81 : bl2 mX11_fairFault 67 [(.bipush 48, 2, 0, 0, .int 48), (.isub, 1, 0, 0, .null), (.istore 6, 2, 6, 0, .null), (.iload 6, 2, 6, 0, .null), (.iconst 0, 1, 0, 0, .int 0), (.aload_n 0, 1, 0, 0, .null), (.getfield 101, 3, 11, 3, .null), (.iconst 1, 1, 0, 0, .int 1), (.isub, 1, 0, 0, .null)] 81 (.invokestatic 86) 3 = true := by decide +kernel
theorem b_X11_fairFault_84_84 : bl2 mX11_fairFault 84 [] 84 (.ifCond .ne 6) 3 = true := by decide +kernel
theorem b_X11_fairFault_90_96 : bl2 mX11_fairFault 90 [(.aload_n 0, 1, 0, 0, .null), (.iconst 1, 1, 0, 0, .int 1), (.iload 5, 2, 5, 0, .null), (.iconst 1, 1, 0, 0, .int 1), (.iadd, 1, 0, 0, .null)] 96 (.invokevirtual 105) 3 = true := by decide +kernel
theorem b_X11_fairFault_99_109 : bl2 mX11_fairFault 99 [(.bipush 48, 2, 0, 0, .int 48), (.isub, 1, 0, 0, .null), (.istore 7, 2, 7, 0, .null), (.iload 7, 2, 7, 0, .null), (.iconst 0, 1, 0, 0, .int 0), (.iload 4, 2, 4, 0, .null)] 109 (.ifCond .eq 12) 3 = true := by decide +kernel
theorem b_X11_fairFault_121_123 : bl2 mX11_fairFault 121 [(.bipush 7, 2, 0, 0, .int 7)] 123 (.invokestatic 86) 3 = true := by decide +kernel
theorem b_X11_fairFault_126_126 : bl2 mX11_fairFault 126 [] 126 (.ifCond .eq 15) 3 = true := by decide +kernel
theorem b_X11_fairFault_141_145 : bl2 mX11_fairFault 141 [(.iload 5, 2, 5, 0, .null), (.iconst 1, 1, 0, 0, .int 1), (.iadd, 1, 0, 0, .null)] 145 (.ireturn) 1 = true := by decide +kernel
theorem b_X11_fairFault_129_131 : bl2 mX11_fairFault 129 [(.iload 4, 2, 4, 0, .null)] 131 (.ifCond .eq 15) 3 = true := by decide +kernel
theorem b_X11_fairFault_146_153 : bl2 mX11_fairFault 146 [(.aload_n 0, 1, 0, 0, .null), (.getfield 37, 3, 11, 11, .null), (.iload_n 2, 1, 2, 0, .null), (.iload 6, 2, 6, 0, .null)] 153 (.iastore) 1 = true := by decide +kernel
theorem b_X11_fairFault_154_161 : bl2 mX11_fairFault 154 [(.aload_n 0, 1, 0, 0, .null), (.getfield 40, 3, 11, 12, .null), (.iload_n 2, 1, 2, 0, .null), (.iload 7, 2, 7, 0, .null)] 161 (.iastore) 1 = true := by decide +kernel
theorem b_X11_fairFault_162_169 : bl2 mX11_fairFault 162 [(.aload_n 0, 1, 0, 0, .null), (.getfield 43, 3, 11, 13, .null), (.iload_n 2, 1, 2, 0, .null), (.iload 4, 2, 4, 0, .null)] 169 (.ifCond .eq 7) 3 = true := by decide +kernel
theorem b_X11_fairFault_176_177 : bl2 mX11_fairFault 176 [(.iconst 0, 1, 0, 0, .int 0)] 177 (.iastore) 1 = true := by decide +kernel
theorem b_X11_fairFault_178_192 : bl2 mX11_fairFault 178 [(.iinc 2 1, 3, 2, 0, .int 1), (.iload 5, 2, 5, 0, .null), (.iconst 2, 1, 0, 0, .int 2), (.iadd, 1, 0, 0, .null), (.istore_n 3, 1, 3, 0, .null), (.iload_n 3, 1, 3, 0, .null), (.aload_n 0, 1, 0, 0, .null), (.getfield 7, 3, 11, 0, .null), (.iconst 1, 1, 0, 0, .int 1)] 192 (.iaload) 1 = true := by decide +kernel
theorem b_X11_fairFault_193_193 : bl2 mX11_fairFault 193 [] 193 (.if_icmp .ne 10) 3 = true := by decide +kernel
theorem b_X11_fairFault_203_206 : bl2 mX11_fairFault 203 [(.aload_n 0, 1, 0, 0, .null), (.iconst 1, 1, 0, 0, .int 1), (.iload_n 3, 1, 3, 0, .null)] 206 (.invokevirtual 105) 3 = true := by decide +kernel
theorem b_X11_fairFault_209_211 : bl2 mX11_fairFault 209 [(.bipush 59, 2, 0, 0, .int 59)] 211 (.if_icmp .eq 5) 3 = true := by decide +kernel
theorem b_X11_fairFault_216_14 : bl2 mX11_fairFault 216 [(.iinc 3 1, 3, 3, 0, .int 1), (.goto (-205), 3, 14, 0, .null)] 14 (.iload_n 3) 1 = true := by decide +kernel
theorem b_X11_fairFault_214_215 : bl2 mX11_fairFault 214 [(.iload_n 3, 1, 3, 0, .null)] 215 (.ireturn) 1 = true := by decide +kernel
theorem b_X11_fairFault_196_198 : bl2 mX11_fairFault 196 [(.aload_n 0, 1, 0, 0, .null), (.iload_n 2, 1, 2, 0, .null)] 198 (.putfield 122) 3 = true := by decide +kernel
theorem b_X11_fairFault_201_202 : bl2 mX11_fairFault 201 [(.iconst (-1), 1, 0, 0, .int (-1))] 202 (.ireturn) 1 = true := by decide +kernel
theorem b_X11_fairFault_87_89 : bl2 mX11_fairFault 87 [(.iload 5, 2, 5, 0, .null)] 89 (.ireturn) 1 = true := by decide +kernel
theorem b_X11_fairFault_39_48 : bl2 mX11_fairFault 39 [(.iconst 1, 1, 0, 0, .int 1), (.goto 4, 3, 44, 0, .null), (.istore 4, 2, 4, 0, .null), (.iload 4, 2, 4, 0, .null)] 48 (.ifCond .eq 9) 3 = true := by decide +kernel
theorem b_X11_fairFault_51_64 : bl2 mX11_fairFault 51 [(.iload_n 3, 1, 3, 0, .null), (.iconst 1, 1, 0, 0, .int 1), (.iadd, 1, 0, 0, .null), (.goto 4, 3, 58, 0, .null), (.istore 5, 2, 5, 0, .null), (.aload_n 0, 1, 0, 0, .null), (.iconst 1, 1, 0, 0, .int 1), (.iload 5, 2, 5, 0, .null)] 64 (.invokevirtual 105) 3 = true := by decide +kernel
theorem b_X11_fairFault_112_123 : bl2 mX11_fairFault 112 [(.aload_n 0, 1, 0, 0, .null), (.getfield 101, 3, 11, 3, .null), (.iconst 1, 1, 0, 0, .int 1), (.isub, 1, 0, 0, .null), (.goto 5, 3, 123, 0, .null)] 123 (.invokestatic 86) 3 = true := by decide +kernel
theorem b_X11_fairFault_134_138 : bl2 mX11_fairFault 134 [(.iload 7, 2, 7, 0, .null), (.iload 6, 2, 6, 0, .null)] 138 (.if_icmp .ne 8) 3 = true := by decide +kernel
theorem b_X11_fairFault_172_177 : bl2 mX11_fairFault 172 [(.iconst 1, 1, 0, 0, .int 1), (.goto 4, 3, 177, 0, .null)] 177 (.iastore) 1 = true := by decide +kernel
theorem b_X11_fairFault_24_25 : bl2 mX11_fairFault 24 [(.iload_n 3, 1, 3, 0, .null)] 25 (.ifCond .le 197) 3 = true := by decide +kernel
theorem b_X11_fairFault_222_223 : bl2 mX11_fairFault 222 [(.iconst (-1), 1, 0, 0, .int (-1))] 223 (.ireturn) 1 = true := by decide +kernel
set_option maxRecDepth 20000 in
set_option maxHeartbeats 2000000 in
theorem ml_fair (E : EE) (L : Nat) (l : Nat) (hl : l ≤ 60) (n : Nat) (hn10 : n ≤ 10) : ∀ (k part at_ : Nat) (F : FF), part + k = 21 → 3 * part ≤ at_ → at_ ≤ l → F 49 1 = nI l → F 48 3 = nI n → R2 E L mX11_fairFault 5 14 [some (.ref 48), none, some (.int (nI part)), some (.int (nI at_)), none, none, none, none] [] F (fun r' F' => r' = some (.int (mfL l n k part at_ F).1) ∧ F' = (mfL l n k part at_ F).2) := by
  intro k
  induction k with
  | zero =>
    intro part at_ F hi h3 ha hlen hn
    omega
  | succ k ih =>
    intro part at_ F hi h3 ha hlen hn
    refine R2.B (ls2 := [some (.ref 48), none, some (.int (nI part)), some (.int (nI at_)), none, none, none, none]) (st2 := [.int 1, .ref 49, .int (nI at_)]) b_X11_fairFault_14_20 rfl (fun hd => ?_)
    refine R2.iald 1 rfl hd rfl (fun _ => rfl) (by decide) (by omega) ?_
    refine R2.top (show (F 49 1 : Int32) = nI l from hlen) ?_
    refine R2.B (ls2 := [some (.ref 48), none, some (.int (nI part)), some (.int (nI at_)), none, none, none, none]) (st2 := [.int (nI l), .int (nI at_)]) b_X11_fairFault_21_21 rfl (fun hd => ?_)
    refine R2.icmp_lt 28 hd (by decide) (fun c21 => ?_) (fun c21 => ?_)
    · have nc21 : at_ < l := (nI_ltI (a := at_) (b := l) (by omega) (by omega)).mp c21
      refine R2.B (ls2 := [some (.ref 48), none, some (.int (nI part)), some (.int (nI at_)), none, none, none, none]) (st2 := [.int (nI at_), .int 1, .ref 48]) b_X11_fairFault_28_31 rfl (fun hd => ?_)
      refine R2.callV3 (M2 := mX11_byteAt) (As := [.int 1, .int (nI at_)]) (rest := []) hd lk_11_105 okX11_byteAt (by decide) rfl (ev_byteAt1 E L F l at_ hlen hl (by omega)) (by decide) rfl rfl (Nat.le_of_ble_eq_true rfl) ?_
      refine R2.B (ls2 := [some (.ref 48), none, some (.int (nI part)), some (.int (nI at_)), none, none, none, none]) (st2 := [.int 61, .int (tat l (B1 F) at_)]) b_X11_fairFault_34_36 rfl (fun hd => ?_)
      refine R2.icmp_ne 43 hd (by decide) (fun c36 => ?_) (fun c36 => ?_)
      · refine R2.B (ls2 := [some (.ref 48), none, some (.int (nI part)), some (.int (nI at_)), some (.int 0), none, none, none]) (st2 := [.int 0]) b_X11_fairFault_43_48 rfl (fun hd => ?_)
        refine R2.if_eq 57 hd (by decide) (fun c48 => ?_) (fun c48 => absurd (by decide) c48)
        refine R2.B (ls2 := [some (.ref 48), none, some (.int (nI part)), some (.int (nI at_)), some (.int 0), some (.int (nI at_)), none, none]) (st2 := [.int (nI at_), .int 1, .ref 48]) b_X11_fairFault_57_64 rfl (fun hd => ?_)
        refine R2.callV3 (M2 := mX11_byteAt) (As := [.int 1, .int (nI at_)]) (rest := []) hd lk_11_105 okX11_byteAt (by decide) rfl (ev_byteAt1 E L F l at_ hlen hl (by omega)) (by decide) rfl rfl (Nat.le_of_ble_eq_true rfl) ?_
        refine R2.B (ls2 := [some (.ref 48), none, some (.int (nI part)), some (.int (nI at_)), some (.int 0), some (.int (nI at_)), some (.int ((tat l (B1 F) at_) - 48)), none]) (st2 := [.int ((F 48 3) - 1), .int 0, .int ((tat l (B1 F) at_) - 48)]) b_X11_fairFault_67_81 rfl (fun hd => ?_)
        refine R2.callS3 (M2 := mX11_in) (As := [.int ((tat l (B1 F) at_) - 48), .int 0, .int ((F 48 3) - 1)]) (rest := []) hd lk_11_86 okX11_in (by decide) (ev_in E L F ((tat l (B1 F) at_) - 48) 0 ((F 48 3) - 1)) (by decide) rfl rfl (Nat.le_of_ble_eq_true rfl) ?_
        refine R2.B (ls2 := [some (.ref 48), none, some (.int (nI part)), some (.int (nI at_)), some (.int 0), some (.int (nI at_)), some (.int ((tat l (B1 F) at_) - 48)), none]) (st2 := [.int (b2i (0 ≤ ((tat l (B1 F) at_) - 48) ∧ ((tat l (B1 F) at_) - 48) ≤ ((F 48 3) - 1)))]) b_X11_fairFault_84_84 rfl (fun hd => ?_)
        refine R2.if_ne 90 hd (by decide) (fun c84 => ?_) (fun c84 => ?_)
        · have nc84 : 0 ≤ ((tat l (B1 F) at_) - 48) ∧ ((tat l (B1 F) at_) - 48) ≤ ((F 48 3) - 1) := b2i_nz.mp c84
          refine R2.B (ls2 := [some (.ref 48), none, some (.int (nI part)), some (.int (nI at_)), some (.int 0), some (.int (nI at_)), some (.int ((tat l (B1 F) at_) - 48)), none]) (st2 := [.int ((nI at_) + 1), .int 1, .ref 48]) b_X11_fairFault_90_96 rfl (fun hd => ?_)
          rw [show ((nI at_) + 1 : Int32) = nI (at_ + 1) from nI_add at_ 1]
          refine R2.callV3 (M2 := mX11_byteAt) (As := [.int 1, .int (nI (at_ + 1))]) (rest := []) hd lk_11_105 okX11_byteAt (by decide) rfl (ev_byteAt1 E L F l (at_ + 1) hlen hl (by omega)) (by decide) rfl rfl (Nat.le_of_ble_eq_true rfl) ?_
          refine R2.B (ls2 := [some (.ref 48), none, some (.int (nI part)), some (.int (nI at_)), some (.int 0), some (.int (nI at_)), some (.int ((tat l (B1 F) at_) - 48)), some (.int ((tat l (B1 F) (at_ + 1)) - 48))]) (st2 := [.int 0, .int 0, .int ((tat l (B1 F) (at_ + 1)) - 48)]) b_X11_fairFault_99_109 rfl (fun hd => ?_)
          refine R2.if_eq 121 hd (by decide) (fun c109 => ?_) (fun c109 => absurd (by decide) c109)
          refine R2.B (ls2 := [some (.ref 48), none, some (.int (nI part)), some (.int (nI at_)), some (.int 0), some (.int (nI at_)), some (.int ((tat l (B1 F) at_) - 48)), some (.int ((tat l (B1 F) (at_ + 1)) - 48))]) (st2 := [.int 7, .int 0, .int ((tat l (B1 F) (at_ + 1)) - 48)]) b_X11_fairFault_121_123 rfl (fun hd => ?_)
          refine R2.callS3 (M2 := mX11_in) (As := [.int ((tat l (B1 F) (at_ + 1)) - 48), .int 0, .int 7]) (rest := []) hd lk_11_86 okX11_in (by decide) (ev_in E L F ((tat l (B1 F) (at_ + 1)) - 48) 0 7) (by decide) rfl rfl (Nat.le_of_ble_eq_true rfl) ?_
          refine R2.B (ls2 := [some (.ref 48), none, some (.int (nI part)), some (.int (nI at_)), some (.int 0), some (.int (nI at_)), some (.int ((tat l (B1 F) at_) - 48)), some (.int ((tat l (B1 F) (at_ + 1)) - 48))]) (st2 := [.int (b2i (0 ≤ ((tat l (B1 F) (at_ + 1)) - 48) ∧ ((tat l (B1 F) (at_ + 1)) - 48) ≤ 7))]) b_X11_fairFault_126_126 rfl (fun hd => ?_)
          refine R2.if_eq 141 hd (by decide) (fun c126 => ?_) (fun c126 => ?_)
          · have nc126 : ¬ (0 ≤ ((tat l (B1 F) (at_ + 1)) - 48) ∧ ((tat l (B1 F) (at_ + 1)) - 48) ≤ 7) := b2i_zero.mp c126
            refine R2.B (ls2 := [some (.ref 48), none, some (.int (nI part)), some (.int (nI at_)), some (.int 0), some (.int (nI at_)), some (.int ((tat l (B1 F) at_) - 48)), some (.int ((tat l (B1 F) (at_ + 1)) - 48))]) (st2 := [.int ((nI at_) + 1)]) b_X11_fairFault_141_145 rfl (fun hd => ?_)
            rw [show ((nI at_) + 1 : Int32) = nI (at_ + 1) from nI_add at_ 1]
            have e : mfL l n (k + 1) part at_ F = (nI (at_ + 1), F) := by
              clear hd ih; simp only [mfL, mfP] <;> grind
            exact R2.ret3 (r := some (.int (nI (at_ + 1)))) hd trivial rfl (by rw [e]) (by rw [e])
          · have nc126 : 0 ≤ ((tat l (B1 F) (at_ + 1)) - 48) ∧ ((tat l (B1 F) (at_ + 1)) - 48) ≤ 7 := b2i_nz.mp c126
            refine R2.B (ls2 := [some (.ref 48), none, some (.int (nI part)), some (.int (nI at_)), some (.int 0), some (.int (nI at_)), some (.int ((tat l (B1 F) at_) - 48)), some (.int ((tat l (B1 F) (at_ + 1)) - 48))]) (st2 := [.int 0]) b_X11_fairFault_129_131 rfl (fun hd => ?_)
            refine R2.if_eq 146 hd (by decide) (fun c131 => ?_) (fun c131 => absurd (by decide) c131)
            refine R2.B (ls2 := [some (.ref 48), none, some (.int (nI part)), some (.int (nI at_)), some (.int 0), some (.int (nI at_)), some (.int ((tat l (B1 F) at_) - 48)), some (.int ((tat l (B1 F) (at_ + 1)) - 48))]) (st2 := [.int ((tat l (B1 F) at_) - 48), .int (nI part), .ref 58]) b_X11_fairFault_146_153 rfl (fun hd => ?_)
            refine R2.iast part rfl hd (by decide) rfl (fun _ => rfl) (by decide) (by omega) ?_
            refine R2.B (ls2 := [some (.ref 48), none, some (.int (nI part)), some (.int (nI at_)), some (.int 0), some (.int (nI at_)), some (.int ((tat l (B1 F) at_) - 48)), some (.int ((tat l (B1 F) (at_ + 1)) - 48))]) (st2 := [.int ((tat l (B1 F) (at_ + 1)) - 48), .int (nI part), .ref 59]) b_X11_fairFault_154_161 rfl (fun hd => ?_)
            refine R2.iast part rfl hd (by decide) rfl (fun _ => rfl) (by decide) (by omega) ?_
            refine R2.B (ls2 := [some (.ref 48), none, some (.int (nI part)), some (.int (nI at_)), some (.int 0), some (.int (nI at_)), some (.int ((tat l (B1 F) at_) - 48)), some (.int ((tat l (B1 F) (at_ + 1)) - 48))]) (st2 := [.int 0, .int (nI part), .ref 60]) b_X11_fairFault_162_169 rfl (fun hd => ?_)
            refine R2.if_eq 176 hd (by decide) (fun c169 => ?_) (fun c169 => absurd (by decide) c169)
            refine R2.B (ls2 := [some (.ref 48), none, some (.int (nI part)), some (.int (nI at_)), some (.int 0), some (.int (nI at_)), some (.int ((tat l (B1 F) at_) - 48)), some (.int ((tat l (B1 F) (at_ + 1)) - 48))]) (st2 := [.int 0, .int (nI part), .ref 60]) b_X11_fairFault_176_177 rfl (fun hd => ?_)
            refine R2.iast part rfl hd (by decide) rfl (fun _ => rfl) (by decide) (by omega) ?_
            refine R2.B (ls2 := [some (.ref 48), none, some (.int ((nI part) + 1)), some (.int ((nI at_) + 2)), some (.int 0), some (.int (nI at_)), some (.int ((tat l (B1 F) at_) - 48)), some (.int ((tat l (B1 F) (at_ + 1)) - 48))]) (st2 := [.int 1, .ref 49, .int ((nI at_) + 2)]) b_X11_fairFault_178_192 rfl (fun hd => ?_)
            rw [show ((nI part) + 1 : Int32) = nI (part + 1) from nI_add part 1]
            rw [show ((nI at_) + 2 : Int32) = nI (at_ + 2) from nI_add at_ 2]
            refine R2.iald 1 rfl hd rfl (fun _ => rfl) (by decide) (by omega) ?_
            refine R2.top (show (F 49 1 : Int32) = nI l from hlen) ?_
            refine R2.B (ls2 := [some (.ref 48), none, some (.int (nI (part + 1))), some (.int (nI (at_ + 2))), some (.int 0), some (.int (nI at_)), some (.int ((tat l (B1 F) at_) - 48)), some (.int ((tat l (B1 F) (at_ + 1)) - 48))]) (st2 := [.int (nI l), .int (nI (at_ + 2))]) b_X11_fairFault_193_193 rfl (fun hd => ?_)
            refine R2.icmp_ne 203 hd (by decide) (fun c193 => ?_) (fun c193 => ?_)
            · have nc193 : ¬ (at_ + 2) = l := fun h9 => c193 ((nI_eq (a := (at_ + 2)) (b := l) (by omega) (by omega)).mpr h9)
              refine R2.B (ls2 := [some (.ref 48), none, some (.int (nI (part + 1))), some (.int (nI (at_ + 2))), some (.int 0), some (.int (nI at_)), some (.int ((tat l (B1 F) at_) - 48)), some (.int ((tat l (B1 F) (at_ + 1)) - 48))]) (st2 := [.int (nI (at_ + 2)), .int 1, .ref 48]) b_X11_fairFault_203_206 rfl (fun hd => ?_)
              refine R2.callV3 (M2 := mX11_byteAt) (As := [.int 1, .int (nI (at_ + 2))]) (rest := []) hd lk_11_105 okX11_byteAt (by decide) rfl (ev_byteAt1 E L (up2 (up2 (up2 F 58 part ((tat l (B1 F) at_) - 48)) 59 part ((tat l (B1 F) (at_ + 1)) - 48)) 60 part 0) l (at_ + 2) hlen hl (by omega)) (by decide) rfl rfl (Nat.le_of_ble_eq_true rfl) ?_
              refine R2.B (ls2 := [some (.ref 48), none, some (.int (nI (part + 1))), some (.int (nI (at_ + 2))), some (.int 0), some (.int (nI at_)), some (.int ((tat l (B1 F) at_) - 48)), some (.int ((tat l (B1 F) (at_ + 1)) - 48))]) (st2 := [.int 59, .int (tat l (B1 F) (at_ + 2))]) b_X11_fairFault_209_211 rfl (fun hd => ?_)
              refine R2.icmp_eq 216 hd (by decide) (fun c211 => ?_) (fun c211 => ?_)
              · refine R2.B (ls2 := [some (.ref 48), none, some (.int (nI (part + 1))), some (.int ((nI (at_ + 2)) + 1)), some (.int 0), some (.int (nI at_)), some (.int ((tat l (B1 F) at_) - 48)), some (.int ((tat l (B1 F) (at_ + 1)) - 48))]) (st2 := []) b_X11_fairFault_216_14 rfl (fun hd => ?_)
                rw [show ((nI (at_ + 2)) + 1 : Int32) = nI ((at_ + 2) + 1) from nI_add (at_ + 2) 1]
                have hj := tat_lt c211
                have e : mfL l n (k + 1) part at_ F = mfL l n k (part + 1) ((at_ + 2) + 1) (up2 (up2 (up2 F 58 part ((tat l (B1 F) at_) - 48)) 59 part ((tat l (B1 F) (at_ + 1)) - 48)) 60 part 0) := by
                  clear hd ih; simp only [mfL, mfP] <;> grind
                rw [e]
                refine R2.forget (ls2 := [some (.ref 48), none, some (.int (nI (part + 1))), some (.int (nI ((at_ + 2) + 1))), none, none, none, none]) ⟨rfl, ⟨rfl, ⟨rfl, trivial⟩⟩⟩ ?_
                exact ih (part + 1) ((at_ + 2) + 1) _ (by omega) (by omega) (by omega) hlen hn
              · refine R2.B (ls2 := [some (.ref 48), none, some (.int (nI (part + 1))), some (.int (nI (at_ + 2))), some (.int 0), some (.int (nI at_)), some (.int ((tat l (B1 F) at_) - 48)), some (.int ((tat l (B1 F) (at_ + 1)) - 48))]) (st2 := [.int (nI (at_ + 2))]) b_X11_fairFault_214_215 rfl (fun hd => ?_)
                have e : mfL l n (k + 1) part at_ F = (nI (at_ + 2), (up2 (up2 (up2 F 58 part ((tat l (B1 F) at_) - 48)) 59 part ((tat l (B1 F) (at_ + 1)) - 48)) 60 part 0)) := by
                  clear hd ih; simp only [mfL, mfP] <;> grind
                exact R2.ret3 (r := some (.int (nI (at_ + 2)))) hd trivial rfl (by rw [e]) (by rw [e])
            · have nc193 : (at_ + 2) = l := (nI_eq (a := (at_ + 2)) (b := l) (by omega) (by omega)).mp c193
              refine R2.B (ls2 := [some (.ref 48), none, some (.int (nI (part + 1))), some (.int (nI (at_ + 2))), some (.int 0), some (.int (nI at_)), some (.int ((tat l (B1 F) at_) - 48)), some (.int ((tat l (B1 F) (at_ + 1)) - 48))]) (st2 := [.int (nI (part + 1)), .ref 48]) b_X11_fairFault_196_198 rfl (fun hd => ?_)
              refine R2.putf (a := 11) (b := 10) hd (by decide) (by decide) rfl rfl (fun _ => rfl) ?_
              refine R2.B (ls2 := [some (.ref 48), none, some (.int (nI (part + 1))), some (.int (nI (at_ + 2))), some (.int 0), some (.int (nI at_)), some (.int ((tat l (B1 F) at_) - 48)), some (.int ((tat l (B1 F) (at_ + 1)) - 48))]) (st2 := [.int (-1)]) b_X11_fairFault_201_202 rfl (fun hd => ?_)
              have e : mfL l n (k + 1) part at_ F = ((-1), (up2 (up2 (up2 (up2 F 58 part ((tat l (B1 F) at_) - 48)) 59 part ((tat l (B1 F) (at_ + 1)) - 48)) 60 part 0) 48 10 (nI (part + 1)))) := by
                clear hd ih; simp only [mfL, mfP] <;> grind
              exact R2.ret3 (r := some (.int (-1))) hd trivial rfl (by rw [e]) (by rw [e])
        · have nc84 : ¬ (0 ≤ ((tat l (B1 F) at_) - 48) ∧ ((tat l (B1 F) at_) - 48) ≤ ((F 48 3) - 1)) := b2i_zero.mp c84
          refine R2.B (ls2 := [some (.ref 48), none, some (.int (nI part)), some (.int (nI at_)), some (.int 0), some (.int (nI at_)), some (.int ((tat l (B1 F) at_) - 48)), none]) (st2 := [.int (nI at_)]) b_X11_fairFault_87_89 rfl (fun hd => ?_)
          have e : mfL l n (k + 1) part at_ F = (nI at_, F) := by
            clear hd ih; simp only [mfL, mfP] <;> grind
          exact R2.ret3 (r := some (.int (nI at_))) hd trivial rfl (by rw [e]) (by rw [e])
      · refine R2.B (ls2 := [some (.ref 48), none, some (.int (nI part)), some (.int (nI at_)), some (.int 1), none, none, none]) (st2 := [.int 1]) b_X11_fairFault_39_48 rfl (fun hd => ?_)
        refine R2.if_eq 57 hd (by decide) (fun c48 => absurd c48 (by decide)) (fun c48 => ?_)
        refine R2.B (ls2 := [some (.ref 48), none, some (.int (nI part)), some (.int (nI at_)), some (.int 1), some (.int ((nI at_) + 1)), none, none]) (st2 := [.int ((nI at_) + 1), .int 1, .ref 48]) b_X11_fairFault_51_64 rfl (fun hd => ?_)
        rw [show ((nI at_) + 1 : Int32) = nI (at_ + 1) from nI_add at_ 1]
        refine R2.callV3 (M2 := mX11_byteAt) (As := [.int 1, .int (nI (at_ + 1))]) (rest := []) hd lk_11_105 okX11_byteAt (by decide) rfl (ev_byteAt1 E L F l (at_ + 1) hlen hl (by omega)) (by decide) rfl rfl (Nat.le_of_ble_eq_true rfl) ?_
        refine R2.B (ls2 := [some (.ref 48), none, some (.int (nI part)), some (.int (nI at_)), some (.int 1), some (.int (nI (at_ + 1))), some (.int ((tat l (B1 F) (at_ + 1)) - 48)), none]) (st2 := [.int ((F 48 3) - 1), .int 0, .int ((tat l (B1 F) (at_ + 1)) - 48)]) b_X11_fairFault_67_81 rfl (fun hd => ?_)
        refine R2.callS3 (M2 := mX11_in) (As := [.int ((tat l (B1 F) (at_ + 1)) - 48), .int 0, .int ((F 48 3) - 1)]) (rest := []) hd lk_11_86 okX11_in (by decide) (ev_in E L F ((tat l (B1 F) (at_ + 1)) - 48) 0 ((F 48 3) - 1)) (by decide) rfl rfl (Nat.le_of_ble_eq_true rfl) ?_
        refine R2.B (ls2 := [some (.ref 48), none, some (.int (nI part)), some (.int (nI at_)), some (.int 1), some (.int (nI (at_ + 1))), some (.int ((tat l (B1 F) (at_ + 1)) - 48)), none]) (st2 := [.int (b2i (0 ≤ ((tat l (B1 F) (at_ + 1)) - 48) ∧ ((tat l (B1 F) (at_ + 1)) - 48) ≤ ((F 48 3) - 1)))]) b_X11_fairFault_84_84 rfl (fun hd => ?_)
        refine R2.if_ne 90 hd (by decide) (fun c84 => ?_) (fun c84 => ?_)
        · have nc84 : 0 ≤ ((tat l (B1 F) (at_ + 1)) - 48) ∧ ((tat l (B1 F) (at_ + 1)) - 48) ≤ ((F 48 3) - 1) := b2i_nz.mp c84
          refine R2.B (ls2 := [some (.ref 48), none, some (.int (nI part)), some (.int (nI at_)), some (.int 1), some (.int (nI (at_ + 1))), some (.int ((tat l (B1 F) (at_ + 1)) - 48)), none]) (st2 := [.int ((nI (at_ + 1)) + 1), .int 1, .ref 48]) b_X11_fairFault_90_96 rfl (fun hd => ?_)
          rw [show ((nI (at_ + 1)) + 1 : Int32) = nI ((at_ + 1) + 1) from nI_add (at_ + 1) 1]
          refine R2.callV3 (M2 := mX11_byteAt) (As := [.int 1, .int (nI ((at_ + 1) + 1))]) (rest := []) hd lk_11_105 okX11_byteAt (by decide) rfl (ev_byteAt1 E L F l ((at_ + 1) + 1) hlen hl (by omega)) (by decide) rfl rfl (Nat.le_of_ble_eq_true rfl) ?_
          refine R2.B (ls2 := [some (.ref 48), none, some (.int (nI part)), some (.int (nI at_)), some (.int 1), some (.int (nI (at_ + 1))), some (.int ((tat l (B1 F) (at_ + 1)) - 48)), some (.int ((tat l (B1 F) ((at_ + 1) + 1)) - 48))]) (st2 := [.int 1, .int 0, .int ((tat l (B1 F) ((at_ + 1) + 1)) - 48)]) b_X11_fairFault_99_109 rfl (fun hd => ?_)
          refine R2.if_eq 121 hd (by decide) (fun c109 => absurd c109 (by decide)) (fun c109 => ?_)
          refine R2.B (ls2 := [some (.ref 48), none, some (.int (nI part)), some (.int (nI at_)), some (.int 1), some (.int (nI (at_ + 1))), some (.int ((tat l (B1 F) (at_ + 1)) - 48)), some (.int ((tat l (B1 F) ((at_ + 1) + 1)) - 48))]) (st2 := [.int ((F 48 3) - 1), .int 0, .int ((tat l (B1 F) ((at_ + 1) + 1)) - 48)]) b_X11_fairFault_112_123 rfl (fun hd => ?_)
          refine R2.callS3 (M2 := mX11_in) (As := [.int ((tat l (B1 F) ((at_ + 1) + 1)) - 48), .int 0, .int ((F 48 3) - 1)]) (rest := []) hd lk_11_86 okX11_in (by decide) (ev_in E L F ((tat l (B1 F) ((at_ + 1) + 1)) - 48) 0 ((F 48 3) - 1)) (by decide) rfl rfl (Nat.le_of_ble_eq_true rfl) ?_
          refine R2.B (ls2 := [some (.ref 48), none, some (.int (nI part)), some (.int (nI at_)), some (.int 1), some (.int (nI (at_ + 1))), some (.int ((tat l (B1 F) (at_ + 1)) - 48)), some (.int ((tat l (B1 F) ((at_ + 1) + 1)) - 48))]) (st2 := [.int (b2i (0 ≤ ((tat l (B1 F) ((at_ + 1) + 1)) - 48) ∧ ((tat l (B1 F) ((at_ + 1) + 1)) - 48) ≤ ((F 48 3) - 1)))]) b_X11_fairFault_126_126 rfl (fun hd => ?_)
          refine R2.if_eq 141 hd (by decide) (fun c126 => ?_) (fun c126 => ?_)
          · have nc126 : ¬ (0 ≤ ((tat l (B1 F) ((at_ + 1) + 1)) - 48) ∧ ((tat l (B1 F) ((at_ + 1) + 1)) - 48) ≤ ((F 48 3) - 1)) := b2i_zero.mp c126
            refine R2.B (ls2 := [some (.ref 48), none, some (.int (nI part)), some (.int (nI at_)), some (.int 1), some (.int (nI (at_ + 1))), some (.int ((tat l (B1 F) (at_ + 1)) - 48)), some (.int ((tat l (B1 F) ((at_ + 1) + 1)) - 48))]) (st2 := [.int ((nI (at_ + 1)) + 1)]) b_X11_fairFault_141_145 rfl (fun hd => ?_)
            rw [show ((nI (at_ + 1)) + 1 : Int32) = nI ((at_ + 1) + 1) from nI_add (at_ + 1) 1]
            have e : mfL l n (k + 1) part at_ F = (nI ((at_ + 1) + 1), F) := by
              clear hd ih; simp only [mfL, mfP] <;> grind
            exact R2.ret3 (r := some (.int (nI ((at_ + 1) + 1)))) hd trivial rfl (by rw [e]) (by rw [e])
          · have nc126 : 0 ≤ ((tat l (B1 F) ((at_ + 1) + 1)) - 48) ∧ ((tat l (B1 F) ((at_ + 1) + 1)) - 48) ≤ ((F 48 3) - 1) := b2i_nz.mp c126
            refine R2.B (ls2 := [some (.ref 48), none, some (.int (nI part)), some (.int (nI at_)), some (.int 1), some (.int (nI (at_ + 1))), some (.int ((tat l (B1 F) (at_ + 1)) - 48)), some (.int ((tat l (B1 F) ((at_ + 1) + 1)) - 48))]) (st2 := [.int 1]) b_X11_fairFault_129_131 rfl (fun hd => ?_)
            refine R2.if_eq 146 hd (by decide) (fun c131 => absurd c131 (by decide)) (fun c131 => ?_)
            refine R2.B (ls2 := [some (.ref 48), none, some (.int (nI part)), some (.int (nI at_)), some (.int 1), some (.int (nI (at_ + 1))), some (.int ((tat l (B1 F) (at_ + 1)) - 48)), some (.int ((tat l (B1 F) ((at_ + 1) + 1)) - 48))]) (st2 := [.int ((tat l (B1 F) (at_ + 1)) - 48), .int ((tat l (B1 F) ((at_ + 1) + 1)) - 48)]) b_X11_fairFault_134_138 rfl (fun hd => ?_)
            refine R2.icmp_ne 146 hd (by decide) (fun c138 => ?_) (fun c138 => ?_)
            · refine R2.B (ls2 := [some (.ref 48), none, some (.int (nI part)), some (.int (nI at_)), some (.int 1), some (.int (nI (at_ + 1))), some (.int ((tat l (B1 F) (at_ + 1)) - 48)), some (.int ((tat l (B1 F) ((at_ + 1) + 1)) - 48))]) (st2 := [.int ((tat l (B1 F) (at_ + 1)) - 48), .int (nI part), .ref 58]) b_X11_fairFault_146_153 rfl (fun hd => ?_)
              refine R2.iast part rfl hd (by decide) rfl (fun _ => rfl) (by decide) (by omega) ?_
              refine R2.B (ls2 := [some (.ref 48), none, some (.int (nI part)), some (.int (nI at_)), some (.int 1), some (.int (nI (at_ + 1))), some (.int ((tat l (B1 F) (at_ + 1)) - 48)), some (.int ((tat l (B1 F) ((at_ + 1) + 1)) - 48))]) (st2 := [.int ((tat l (B1 F) ((at_ + 1) + 1)) - 48), .int (nI part), .ref 59]) b_X11_fairFault_154_161 rfl (fun hd => ?_)
              refine R2.iast part rfl hd (by decide) rfl (fun _ => rfl) (by decide) (by omega) ?_
              refine R2.B (ls2 := [some (.ref 48), none, some (.int (nI part)), some (.int (nI at_)), some (.int 1), some (.int (nI (at_ + 1))), some (.int ((tat l (B1 F) (at_ + 1)) - 48)), some (.int ((tat l (B1 F) ((at_ + 1) + 1)) - 48))]) (st2 := [.int 1, .int (nI part), .ref 60]) b_X11_fairFault_162_169 rfl (fun hd => ?_)
              refine R2.if_eq 176 hd (by decide) (fun c169 => absurd c169 (by decide)) (fun c169 => ?_)
              refine R2.B (ls2 := [some (.ref 48), none, some (.int (nI part)), some (.int (nI at_)), some (.int 1), some (.int (nI (at_ + 1))), some (.int ((tat l (B1 F) (at_ + 1)) - 48)), some (.int ((tat l (B1 F) ((at_ + 1) + 1)) - 48))]) (st2 := [.int 1, .int (nI part), .ref 60]) b_X11_fairFault_172_177 rfl (fun hd => ?_)
              refine R2.iast part rfl hd (by decide) rfl (fun _ => rfl) (by decide) (by omega) ?_
              refine R2.B (ls2 := [some (.ref 48), none, some (.int ((nI part) + 1)), some (.int ((nI (at_ + 1)) + 2)), some (.int 1), some (.int (nI (at_ + 1))), some (.int ((tat l (B1 F) (at_ + 1)) - 48)), some (.int ((tat l (B1 F) ((at_ + 1) + 1)) - 48))]) (st2 := [.int 1, .ref 49, .int ((nI (at_ + 1)) + 2)]) b_X11_fairFault_178_192 rfl (fun hd => ?_)
              rw [show ((nI part) + 1 : Int32) = nI (part + 1) from nI_add part 1]
              rw [show ((nI (at_ + 1)) + 2 : Int32) = nI ((at_ + 1) + 2) from nI_add (at_ + 1) 2]
              refine R2.iald 1 rfl hd rfl (fun _ => rfl) (by decide) (by omega) ?_
              refine R2.top (show (F 49 1 : Int32) = nI l from hlen) ?_
              refine R2.B (ls2 := [some (.ref 48), none, some (.int (nI (part + 1))), some (.int (nI ((at_ + 1) + 2))), some (.int 1), some (.int (nI (at_ + 1))), some (.int ((tat l (B1 F) (at_ + 1)) - 48)), some (.int ((tat l (B1 F) ((at_ + 1) + 1)) - 48))]) (st2 := [.int (nI l), .int (nI ((at_ + 1) + 2))]) b_X11_fairFault_193_193 rfl (fun hd => ?_)
              refine R2.icmp_ne 203 hd (by decide) (fun c193 => ?_) (fun c193 => ?_)
              · have nc193 : ¬ ((at_ + 1) + 2) = l := fun h9 => c193 ((nI_eq (a := ((at_ + 1) + 2)) (b := l) (by omega) (by omega)).mpr h9)
                refine R2.B (ls2 := [some (.ref 48), none, some (.int (nI (part + 1))), some (.int (nI ((at_ + 1) + 2))), some (.int 1), some (.int (nI (at_ + 1))), some (.int ((tat l (B1 F) (at_ + 1)) - 48)), some (.int ((tat l (B1 F) ((at_ + 1) + 1)) - 48))]) (st2 := [.int (nI ((at_ + 1) + 2)), .int 1, .ref 48]) b_X11_fairFault_203_206 rfl (fun hd => ?_)
                refine R2.callV3 (M2 := mX11_byteAt) (As := [.int 1, .int (nI ((at_ + 1) + 2))]) (rest := []) hd lk_11_105 okX11_byteAt (by decide) rfl (ev_byteAt1 E L (up2 (up2 (up2 F 58 part ((tat l (B1 F) (at_ + 1)) - 48)) 59 part ((tat l (B1 F) ((at_ + 1) + 1)) - 48)) 60 part 1) l ((at_ + 1) + 2) hlen hl (by omega)) (by decide) rfl rfl (Nat.le_of_ble_eq_true rfl) ?_
                refine R2.B (ls2 := [some (.ref 48), none, some (.int (nI (part + 1))), some (.int (nI ((at_ + 1) + 2))), some (.int 1), some (.int (nI (at_ + 1))), some (.int ((tat l (B1 F) (at_ + 1)) - 48)), some (.int ((tat l (B1 F) ((at_ + 1) + 1)) - 48))]) (st2 := [.int 59, .int (tat l (B1 F) ((at_ + 1) + 2))]) b_X11_fairFault_209_211 rfl (fun hd => ?_)
                refine R2.icmp_eq 216 hd (by decide) (fun c211 => ?_) (fun c211 => ?_)
                · refine R2.B (ls2 := [some (.ref 48), none, some (.int (nI (part + 1))), some (.int ((nI ((at_ + 1) + 2)) + 1)), some (.int 1), some (.int (nI (at_ + 1))), some (.int ((tat l (B1 F) (at_ + 1)) - 48)), some (.int ((tat l (B1 F) ((at_ + 1) + 1)) - 48))]) (st2 := []) b_X11_fairFault_216_14 rfl (fun hd => ?_)
                  rw [show ((nI ((at_ + 1) + 2)) + 1 : Int32) = nI (((at_ + 1) + 2) + 1) from nI_add ((at_ + 1) + 2) 1]
                  have hj := tat_lt c211
                  have e : mfL l n (k + 1) part at_ F = mfL l n k (part + 1) (((at_ + 1) + 2) + 1) (up2 (up2 (up2 F 58 part ((tat l (B1 F) (at_ + 1)) - 48)) 59 part ((tat l (B1 F) ((at_ + 1) + 1)) - 48)) 60 part 1) := by
                    clear hd ih; simp only [mfL, mfP] <;> grind
                  rw [e]
                  refine R2.forget (ls2 := [some (.ref 48), none, some (.int (nI (part + 1))), some (.int (nI (((at_ + 1) + 2) + 1))), none, none, none, none]) ⟨rfl, ⟨rfl, ⟨rfl, trivial⟩⟩⟩ ?_
                  exact ih (part + 1) (((at_ + 1) + 2) + 1) _ (by omega) (by omega) (by omega) hlen hn
                · refine R2.B (ls2 := [some (.ref 48), none, some (.int (nI (part + 1))), some (.int (nI ((at_ + 1) + 2))), some (.int 1), some (.int (nI (at_ + 1))), some (.int ((tat l (B1 F) (at_ + 1)) - 48)), some (.int ((tat l (B1 F) ((at_ + 1) + 1)) - 48))]) (st2 := [.int (nI ((at_ + 1) + 2))]) b_X11_fairFault_214_215 rfl (fun hd => ?_)
                  have e : mfL l n (k + 1) part at_ F = (nI ((at_ + 1) + 2), (up2 (up2 (up2 F 58 part ((tat l (B1 F) (at_ + 1)) - 48)) 59 part ((tat l (B1 F) ((at_ + 1) + 1)) - 48)) 60 part 1)) := by
                    clear hd ih; simp only [mfL, mfP] <;> grind
                  exact R2.ret3 (r := some (.int (nI ((at_ + 1) + 2)))) hd trivial rfl (by rw [e]) (by rw [e])
              · have nc193 : ((at_ + 1) + 2) = l := (nI_eq (a := ((at_ + 1) + 2)) (b := l) (by omega) (by omega)).mp c193
                refine R2.B (ls2 := [some (.ref 48), none, some (.int (nI (part + 1))), some (.int (nI ((at_ + 1) + 2))), some (.int 1), some (.int (nI (at_ + 1))), some (.int ((tat l (B1 F) (at_ + 1)) - 48)), some (.int ((tat l (B1 F) ((at_ + 1) + 1)) - 48))]) (st2 := [.int (nI (part + 1)), .ref 48]) b_X11_fairFault_196_198 rfl (fun hd => ?_)
                refine R2.putf (a := 11) (b := 10) hd (by decide) (by decide) rfl rfl (fun _ => rfl) ?_
                refine R2.B (ls2 := [some (.ref 48), none, some (.int (nI (part + 1))), some (.int (nI ((at_ + 1) + 2))), some (.int 1), some (.int (nI (at_ + 1))), some (.int ((tat l (B1 F) (at_ + 1)) - 48)), some (.int ((tat l (B1 F) ((at_ + 1) + 1)) - 48))]) (st2 := [.int (-1)]) b_X11_fairFault_201_202 rfl (fun hd => ?_)
                have e : mfL l n (k + 1) part at_ F = ((-1), (up2 (up2 (up2 (up2 F 58 part ((tat l (B1 F) (at_ + 1)) - 48)) 59 part ((tat l (B1 F) ((at_ + 1) + 1)) - 48)) 60 part 1) 48 10 (nI (part + 1)))) := by
                  clear hd ih; simp only [mfL, mfP] <;> grind
                exact R2.ret3 (r := some (.int (-1))) hd trivial rfl (by rw [e]) (by rw [e])
            · refine R2.B (ls2 := [some (.ref 48), none, some (.int (nI part)), some (.int (nI at_)), some (.int 1), some (.int (nI (at_ + 1))), some (.int ((tat l (B1 F) (at_ + 1)) - 48)), some (.int ((tat l (B1 F) ((at_ + 1) + 1)) - 48))]) (st2 := [.int ((nI (at_ + 1)) + 1)]) b_X11_fairFault_141_145 rfl (fun hd => ?_)
              rw [show ((nI (at_ + 1)) + 1 : Int32) = nI ((at_ + 1) + 1) from nI_add (at_ + 1) 1]
              have e : mfL l n (k + 1) part at_ F = (nI ((at_ + 1) + 1), F) := by
                clear hd ih; simp only [mfL, mfP] <;> grind
              exact R2.ret3 (r := some (.int (nI ((at_ + 1) + 1)))) hd trivial rfl (by rw [e]) (by rw [e])
        · have nc84 : ¬ (0 ≤ ((tat l (B1 F) (at_ + 1)) - 48) ∧ ((tat l (B1 F) (at_ + 1)) - 48) ≤ ((F 48 3) - 1)) := b2i_zero.mp c84
          refine R2.B (ls2 := [some (.ref 48), none, some (.int (nI part)), some (.int (nI at_)), some (.int 1), some (.int (nI (at_ + 1))), some (.int ((tat l (B1 F) (at_ + 1)) - 48)), none]) (st2 := [.int (nI (at_ + 1))]) b_X11_fairFault_87_89 rfl (fun hd => ?_)
          have e : mfL l n (k + 1) part at_ F = (nI (at_ + 1), F) := by
            clear hd ih; simp only [mfL, mfP] <;> grind
          exact R2.ret3 (r := some (.int (nI (at_ + 1)))) hd trivial rfl (by rw [e]) (by rw [e])
    · have nc21 : ¬ at_ < l := fun h9 => c21 ((nI_ltI (a := at_) (b := l) (by omega) (by omega)).mpr h9)
      refine R2.B (ls2 := [some (.ref 48), none, some (.int (nI part)), some (.int (nI at_)), none, none, none, none]) (st2 := [.int (nI at_)]) b_X11_fairFault_24_25 rfl (fun hd => ?_)
      refine R2.if_le 222 hd (by decide) (fun c25 => ?_) (fun c25 => ?_)
      · have nc25 : at_ ≤ 0 := (nI_leI (a := at_) (b := 0) (by omega) (by omega)).mp c25
        refine R2.B (ls2 := [some (.ref 48), none, some (.int (nI part)), some (.int (nI at_)), none, none, none, none]) (st2 := [.int (-1)]) b_X11_fairFault_222_223 rfl (fun hd => ?_)
        have e : mfL l n (k + 1) part at_ F = ((-1), F) := by
          clear hd ih; simp only [mfL, mfP] <;> grind
        exact R2.ret3 (r := some (.int (-1))) hd trivial rfl (by rw [e]) (by rw [e])
      · have nc25 : ¬ at_ ≤ 0 := fun h9 => c25 ((nI_leI (a := at_) (b := 0) (by omega) (by omega)).mpr h9)
        refine R2.B (ls2 := [some (.ref 48), none, some (.int (nI part)), some (.int (nI at_)), none, none, none, none]) (st2 := [.int (nI at_), .int 1, .ref 48]) b_X11_fairFault_28_31 rfl (fun hd => ?_)
        refine R2.callV3 (M2 := mX11_byteAt) (As := [.int 1, .int (nI at_)]) (rest := []) hd lk_11_105 okX11_byteAt (by decide) rfl (ev_byteAt1 E L F l at_ hlen hl (by omega)) (by decide) rfl rfl (Nat.le_of_ble_eq_true rfl) ?_
        refine R2.B (ls2 := [some (.ref 48), none, some (.int (nI part)), some (.int (nI at_)), none, none, none, none]) (st2 := [.int 61, .int (tat l (B1 F) at_)]) b_X11_fairFault_34_36 rfl (fun hd => ?_)
        refine R2.icmp_ne 43 hd (by decide) (fun c36 => ?_) (fun c36 => ?_)
        · refine R2.B (ls2 := [some (.ref 48), none, some (.int (nI part)), some (.int (nI at_)), some (.int 0), none, none, none]) (st2 := [.int 0]) b_X11_fairFault_43_48 rfl (fun hd => ?_)
          refine R2.if_eq 57 hd (by decide) (fun c48 => ?_) (fun c48 => absurd (by decide) c48)
          refine R2.B (ls2 := [some (.ref 48), none, some (.int (nI part)), some (.int (nI at_)), some (.int 0), some (.int (nI at_)), none, none]) (st2 := [.int (nI at_), .int 1, .ref 48]) b_X11_fairFault_57_64 rfl (fun hd => ?_)
          refine R2.callV3 (M2 := mX11_byteAt) (As := [.int 1, .int (nI at_)]) (rest := []) hd lk_11_105 okX11_byteAt (by decide) rfl (ev_byteAt1 E L F l at_ hlen hl (by omega)) (by decide) rfl rfl (Nat.le_of_ble_eq_true rfl) ?_
          refine R2.B (ls2 := [some (.ref 48), none, some (.int (nI part)), some (.int (nI at_)), some (.int 0), some (.int (nI at_)), some (.int ((tat l (B1 F) at_) - 48)), none]) (st2 := [.int ((F 48 3) - 1), .int 0, .int ((tat l (B1 F) at_) - 48)]) b_X11_fairFault_67_81 rfl (fun hd => ?_)
          refine R2.callS3 (M2 := mX11_in) (As := [.int ((tat l (B1 F) at_) - 48), .int 0, .int ((F 48 3) - 1)]) (rest := []) hd lk_11_86 okX11_in (by decide) (ev_in E L F ((tat l (B1 F) at_) - 48) 0 ((F 48 3) - 1)) (by decide) rfl rfl (Nat.le_of_ble_eq_true rfl) ?_
          refine R2.B (ls2 := [some (.ref 48), none, some (.int (nI part)), some (.int (nI at_)), some (.int 0), some (.int (nI at_)), some (.int ((tat l (B1 F) at_) - 48)), none]) (st2 := [.int (b2i (0 ≤ ((tat l (B1 F) at_) - 48) ∧ ((tat l (B1 F) at_) - 48) ≤ ((F 48 3) - 1)))]) b_X11_fairFault_84_84 rfl (fun hd => ?_)
          refine R2.if_ne 90 hd (by decide) (fun c84 => ?_) (fun c84 => ?_)
          · have nc84 : 0 ≤ ((tat l (B1 F) at_) - 48) ∧ ((tat l (B1 F) at_) - 48) ≤ ((F 48 3) - 1) := b2i_nz.mp c84
            refine R2.B (ls2 := [some (.ref 48), none, some (.int (nI part)), some (.int (nI at_)), some (.int 0), some (.int (nI at_)), some (.int ((tat l (B1 F) at_) - 48)), none]) (st2 := [.int ((nI at_) + 1), .int 1, .ref 48]) b_X11_fairFault_90_96 rfl (fun hd => ?_)
            rw [show ((nI at_) + 1 : Int32) = nI (at_ + 1) from nI_add at_ 1]
            refine R2.callV3 (M2 := mX11_byteAt) (As := [.int 1, .int (nI (at_ + 1))]) (rest := []) hd lk_11_105 okX11_byteAt (by decide) rfl (ev_byteAt1 E L F l (at_ + 1) hlen hl (by omega)) (by decide) rfl rfl (Nat.le_of_ble_eq_true rfl) ?_
            refine R2.B (ls2 := [some (.ref 48), none, some (.int (nI part)), some (.int (nI at_)), some (.int 0), some (.int (nI at_)), some (.int ((tat l (B1 F) at_) - 48)), some (.int ((tat l (B1 F) (at_ + 1)) - 48))]) (st2 := [.int 0, .int 0, .int ((tat l (B1 F) (at_ + 1)) - 48)]) b_X11_fairFault_99_109 rfl (fun hd => ?_)
            refine R2.if_eq 121 hd (by decide) (fun c109 => ?_) (fun c109 => absurd (by decide) c109)
            refine R2.B (ls2 := [some (.ref 48), none, some (.int (nI part)), some (.int (nI at_)), some (.int 0), some (.int (nI at_)), some (.int ((tat l (B1 F) at_) - 48)), some (.int ((tat l (B1 F) (at_ + 1)) - 48))]) (st2 := [.int 7, .int 0, .int ((tat l (B1 F) (at_ + 1)) - 48)]) b_X11_fairFault_121_123 rfl (fun hd => ?_)
            refine R2.callS3 (M2 := mX11_in) (As := [.int ((tat l (B1 F) (at_ + 1)) - 48), .int 0, .int 7]) (rest := []) hd lk_11_86 okX11_in (by decide) (ev_in E L F ((tat l (B1 F) (at_ + 1)) - 48) 0 7) (by decide) rfl rfl (Nat.le_of_ble_eq_true rfl) ?_
            refine R2.B (ls2 := [some (.ref 48), none, some (.int (nI part)), some (.int (nI at_)), some (.int 0), some (.int (nI at_)), some (.int ((tat l (B1 F) at_) - 48)), some (.int ((tat l (B1 F) (at_ + 1)) - 48))]) (st2 := [.int (b2i (0 ≤ ((tat l (B1 F) (at_ + 1)) - 48) ∧ ((tat l (B1 F) (at_ + 1)) - 48) ≤ 7))]) b_X11_fairFault_126_126 rfl (fun hd => ?_)
            refine R2.if_eq 141 hd (by decide) (fun c126 => ?_) (fun c126 => ?_)
            · have nc126 : ¬ (0 ≤ ((tat l (B1 F) (at_ + 1)) - 48) ∧ ((tat l (B1 F) (at_ + 1)) - 48) ≤ 7) := b2i_zero.mp c126
              refine R2.B (ls2 := [some (.ref 48), none, some (.int (nI part)), some (.int (nI at_)), some (.int 0), some (.int (nI at_)), some (.int ((tat l (B1 F) at_) - 48)), some (.int ((tat l (B1 F) (at_ + 1)) - 48))]) (st2 := [.int ((nI at_) + 1)]) b_X11_fairFault_141_145 rfl (fun hd => ?_)
              rw [show ((nI at_) + 1 : Int32) = nI (at_ + 1) from nI_add at_ 1]
              have e : mfL l n (k + 1) part at_ F = (nI (at_ + 1), F) := by
                clear hd ih; simp only [mfL, mfP] <;> grind
              exact R2.ret3 (r := some (.int (nI (at_ + 1)))) hd trivial rfl (by rw [e]) (by rw [e])
            · have nc126 : 0 ≤ ((tat l (B1 F) (at_ + 1)) - 48) ∧ ((tat l (B1 F) (at_ + 1)) - 48) ≤ 7 := b2i_nz.mp c126
              refine R2.B (ls2 := [some (.ref 48), none, some (.int (nI part)), some (.int (nI at_)), some (.int 0), some (.int (nI at_)), some (.int ((tat l (B1 F) at_) - 48)), some (.int ((tat l (B1 F) (at_ + 1)) - 48))]) (st2 := [.int 0]) b_X11_fairFault_129_131 rfl (fun hd => ?_)
              refine R2.if_eq 146 hd (by decide) (fun c131 => ?_) (fun c131 => absurd (by decide) c131)
              refine R2.B (ls2 := [some (.ref 48), none, some (.int (nI part)), some (.int (nI at_)), some (.int 0), some (.int (nI at_)), some (.int ((tat l (B1 F) at_) - 48)), some (.int ((tat l (B1 F) (at_ + 1)) - 48))]) (st2 := [.int ((tat l (B1 F) at_) - 48), .int (nI part), .ref 58]) b_X11_fairFault_146_153 rfl (fun hd => ?_)
              refine R2.iast part rfl hd (by decide) rfl (fun _ => rfl) (by decide) (by omega) ?_
              refine R2.B (ls2 := [some (.ref 48), none, some (.int (nI part)), some (.int (nI at_)), some (.int 0), some (.int (nI at_)), some (.int ((tat l (B1 F) at_) - 48)), some (.int ((tat l (B1 F) (at_ + 1)) - 48))]) (st2 := [.int ((tat l (B1 F) (at_ + 1)) - 48), .int (nI part), .ref 59]) b_X11_fairFault_154_161 rfl (fun hd => ?_)
              refine R2.iast part rfl hd (by decide) rfl (fun _ => rfl) (by decide) (by omega) ?_
              refine R2.B (ls2 := [some (.ref 48), none, some (.int (nI part)), some (.int (nI at_)), some (.int 0), some (.int (nI at_)), some (.int ((tat l (B1 F) at_) - 48)), some (.int ((tat l (B1 F) (at_ + 1)) - 48))]) (st2 := [.int 0, .int (nI part), .ref 60]) b_X11_fairFault_162_169 rfl (fun hd => ?_)
              refine R2.if_eq 176 hd (by decide) (fun c169 => ?_) (fun c169 => absurd (by decide) c169)
              refine R2.B (ls2 := [some (.ref 48), none, some (.int (nI part)), some (.int (nI at_)), some (.int 0), some (.int (nI at_)), some (.int ((tat l (B1 F) at_) - 48)), some (.int ((tat l (B1 F) (at_ + 1)) - 48))]) (st2 := [.int 0, .int (nI part), .ref 60]) b_X11_fairFault_176_177 rfl (fun hd => ?_)
              refine R2.iast part rfl hd (by decide) rfl (fun _ => rfl) (by decide) (by omega) ?_
              refine R2.B (ls2 := [some (.ref 48), none, some (.int ((nI part) + 1)), some (.int ((nI at_) + 2)), some (.int 0), some (.int (nI at_)), some (.int ((tat l (B1 F) at_) - 48)), some (.int ((tat l (B1 F) (at_ + 1)) - 48))]) (st2 := [.int 1, .ref 49, .int ((nI at_) + 2)]) b_X11_fairFault_178_192 rfl (fun hd => ?_)
              rw [show ((nI part) + 1 : Int32) = nI (part + 1) from nI_add part 1]
              rw [show ((nI at_) + 2 : Int32) = nI (at_ + 2) from nI_add at_ 2]
              refine R2.iald 1 rfl hd rfl (fun _ => rfl) (by decide) (by omega) ?_
              refine R2.top (show (F 49 1 : Int32) = nI l from hlen) ?_
              refine R2.B (ls2 := [some (.ref 48), none, some (.int (nI (part + 1))), some (.int (nI (at_ + 2))), some (.int 0), some (.int (nI at_)), some (.int ((tat l (B1 F) at_) - 48)), some (.int ((tat l (B1 F) (at_ + 1)) - 48))]) (st2 := [.int (nI l), .int (nI (at_ + 2))]) b_X11_fairFault_193_193 rfl (fun hd => ?_)
              refine R2.icmp_ne 203 hd (by decide) (fun c193 => ?_) (fun c193 => ?_)
              · have nc193 : ¬ (at_ + 2) = l := fun h9 => c193 ((nI_eq (a := (at_ + 2)) (b := l) (by omega) (by omega)).mpr h9)
                refine R2.B (ls2 := [some (.ref 48), none, some (.int (nI (part + 1))), some (.int (nI (at_ + 2))), some (.int 0), some (.int (nI at_)), some (.int ((tat l (B1 F) at_) - 48)), some (.int ((tat l (B1 F) (at_ + 1)) - 48))]) (st2 := [.int (nI (at_ + 2)), .int 1, .ref 48]) b_X11_fairFault_203_206 rfl (fun hd => ?_)
                refine R2.callV3 (M2 := mX11_byteAt) (As := [.int 1, .int (nI (at_ + 2))]) (rest := []) hd lk_11_105 okX11_byteAt (by decide) rfl (ev_byteAt1 E L (up2 (up2 (up2 F 58 part ((tat l (B1 F) at_) - 48)) 59 part ((tat l (B1 F) (at_ + 1)) - 48)) 60 part 0) l (at_ + 2) hlen hl (by omega)) (by decide) rfl rfl (Nat.le_of_ble_eq_true rfl) ?_
                refine R2.B (ls2 := [some (.ref 48), none, some (.int (nI (part + 1))), some (.int (nI (at_ + 2))), some (.int 0), some (.int (nI at_)), some (.int ((tat l (B1 F) at_) - 48)), some (.int ((tat l (B1 F) (at_ + 1)) - 48))]) (st2 := [.int 59, .int (tat l (B1 F) (at_ + 2))]) b_X11_fairFault_209_211 rfl (fun hd => ?_)
                refine R2.icmp_eq 216 hd (by decide) (fun c211 => ?_) (fun c211 => ?_)
                · refine R2.B (ls2 := [some (.ref 48), none, some (.int (nI (part + 1))), some (.int ((nI (at_ + 2)) + 1)), some (.int 0), some (.int (nI at_)), some (.int ((tat l (B1 F) at_) - 48)), some (.int ((tat l (B1 F) (at_ + 1)) - 48))]) (st2 := []) b_X11_fairFault_216_14 rfl (fun hd => ?_)
                  rw [show ((nI (at_ + 2)) + 1 : Int32) = nI ((at_ + 2) + 1) from nI_add (at_ + 2) 1]
                  have hj := tat_lt c211
                  have e : mfL l n (k + 1) part at_ F = mfL l n k (part + 1) ((at_ + 2) + 1) (up2 (up2 (up2 F 58 part ((tat l (B1 F) at_) - 48)) 59 part ((tat l (B1 F) (at_ + 1)) - 48)) 60 part 0) := by
                    clear hd ih; simp only [mfL, mfP] <;> grind
                  rw [e]
                  refine R2.forget (ls2 := [some (.ref 48), none, some (.int (nI (part + 1))), some (.int (nI ((at_ + 2) + 1))), none, none, none, none]) ⟨rfl, ⟨rfl, ⟨rfl, trivial⟩⟩⟩ ?_
                  exact ih (part + 1) ((at_ + 2) + 1) _ (by omega) (by omega) (by omega) hlen hn
                · refine R2.B (ls2 := [some (.ref 48), none, some (.int (nI (part + 1))), some (.int (nI (at_ + 2))), some (.int 0), some (.int (nI at_)), some (.int ((tat l (B1 F) at_) - 48)), some (.int ((tat l (B1 F) (at_ + 1)) - 48))]) (st2 := [.int (nI (at_ + 2))]) b_X11_fairFault_214_215 rfl (fun hd => ?_)
                  have e : mfL l n (k + 1) part at_ F = (nI (at_ + 2), (up2 (up2 (up2 F 58 part ((tat l (B1 F) at_) - 48)) 59 part ((tat l (B1 F) (at_ + 1)) - 48)) 60 part 0)) := by
                    clear hd ih; simp only [mfL, mfP] <;> grind
                  exact R2.ret3 (r := some (.int (nI (at_ + 2)))) hd trivial rfl (by rw [e]) (by rw [e])
              · have nc193 : (at_ + 2) = l := (nI_eq (a := (at_ + 2)) (b := l) (by omega) (by omega)).mp c193
                refine R2.B (ls2 := [some (.ref 48), none, some (.int (nI (part + 1))), some (.int (nI (at_ + 2))), some (.int 0), some (.int (nI at_)), some (.int ((tat l (B1 F) at_) - 48)), some (.int ((tat l (B1 F) (at_ + 1)) - 48))]) (st2 := [.int (nI (part + 1)), .ref 48]) b_X11_fairFault_196_198 rfl (fun hd => ?_)
                refine R2.putf (a := 11) (b := 10) hd (by decide) (by decide) rfl rfl (fun _ => rfl) ?_
                refine R2.B (ls2 := [some (.ref 48), none, some (.int (nI (part + 1))), some (.int (nI (at_ + 2))), some (.int 0), some (.int (nI at_)), some (.int ((tat l (B1 F) at_) - 48)), some (.int ((tat l (B1 F) (at_ + 1)) - 48))]) (st2 := [.int (-1)]) b_X11_fairFault_201_202 rfl (fun hd => ?_)
                have e : mfL l n (k + 1) part at_ F = ((-1), (up2 (up2 (up2 (up2 F 58 part ((tat l (B1 F) at_) - 48)) 59 part ((tat l (B1 F) (at_ + 1)) - 48)) 60 part 0) 48 10 (nI (part + 1)))) := by
                  clear hd ih; simp only [mfL, mfP] <;> grind
                exact R2.ret3 (r := some (.int (-1))) hd trivial rfl (by rw [e]) (by rw [e])
          · have nc84 : ¬ (0 ≤ ((tat l (B1 F) at_) - 48) ∧ ((tat l (B1 F) at_) - 48) ≤ ((F 48 3) - 1)) := b2i_zero.mp c84
            refine R2.B (ls2 := [some (.ref 48), none, some (.int (nI part)), some (.int (nI at_)), some (.int 0), some (.int (nI at_)), some (.int ((tat l (B1 F) at_) - 48)), none]) (st2 := [.int (nI at_)]) b_X11_fairFault_87_89 rfl (fun hd => ?_)
            have e : mfL l n (k + 1) part at_ F = (nI at_, F) := by
              clear hd ih; simp only [mfL, mfP] <;> grind
            exact R2.ret3 (r := some (.int (nI at_))) hd trivial rfl (by rw [e]) (by rw [e])
        · refine R2.B (ls2 := [some (.ref 48), none, some (.int (nI part)), some (.int (nI at_)), some (.int 1), none, none, none]) (st2 := [.int 1]) b_X11_fairFault_39_48 rfl (fun hd => ?_)
          refine R2.if_eq 57 hd (by decide) (fun c48 => absurd c48 (by decide)) (fun c48 => ?_)
          refine R2.B (ls2 := [some (.ref 48), none, some (.int (nI part)), some (.int (nI at_)), some (.int 1), some (.int ((nI at_) + 1)), none, none]) (st2 := [.int ((nI at_) + 1), .int 1, .ref 48]) b_X11_fairFault_51_64 rfl (fun hd => ?_)
          rw [show ((nI at_) + 1 : Int32) = nI (at_ + 1) from nI_add at_ 1]
          refine R2.callV3 (M2 := mX11_byteAt) (As := [.int 1, .int (nI (at_ + 1))]) (rest := []) hd lk_11_105 okX11_byteAt (by decide) rfl (ev_byteAt1 E L F l (at_ + 1) hlen hl (by omega)) (by decide) rfl rfl (Nat.le_of_ble_eq_true rfl) ?_
          refine R2.B (ls2 := [some (.ref 48), none, some (.int (nI part)), some (.int (nI at_)), some (.int 1), some (.int (nI (at_ + 1))), some (.int ((tat l (B1 F) (at_ + 1)) - 48)), none]) (st2 := [.int ((F 48 3) - 1), .int 0, .int ((tat l (B1 F) (at_ + 1)) - 48)]) b_X11_fairFault_67_81 rfl (fun hd => ?_)
          refine R2.callS3 (M2 := mX11_in) (As := [.int ((tat l (B1 F) (at_ + 1)) - 48), .int 0, .int ((F 48 3) - 1)]) (rest := []) hd lk_11_86 okX11_in (by decide) (ev_in E L F ((tat l (B1 F) (at_ + 1)) - 48) 0 ((F 48 3) - 1)) (by decide) rfl rfl (Nat.le_of_ble_eq_true rfl) ?_
          refine R2.B (ls2 := [some (.ref 48), none, some (.int (nI part)), some (.int (nI at_)), some (.int 1), some (.int (nI (at_ + 1))), some (.int ((tat l (B1 F) (at_ + 1)) - 48)), none]) (st2 := [.int (b2i (0 ≤ ((tat l (B1 F) (at_ + 1)) - 48) ∧ ((tat l (B1 F) (at_ + 1)) - 48) ≤ ((F 48 3) - 1)))]) b_X11_fairFault_84_84 rfl (fun hd => ?_)
          refine R2.if_ne 90 hd (by decide) (fun c84 => ?_) (fun c84 => ?_)
          · have nc84 : 0 ≤ ((tat l (B1 F) (at_ + 1)) - 48) ∧ ((tat l (B1 F) (at_ + 1)) - 48) ≤ ((F 48 3) - 1) := b2i_nz.mp c84
            refine R2.B (ls2 := [some (.ref 48), none, some (.int (nI part)), some (.int (nI at_)), some (.int 1), some (.int (nI (at_ + 1))), some (.int ((tat l (B1 F) (at_ + 1)) - 48)), none]) (st2 := [.int ((nI (at_ + 1)) + 1), .int 1, .ref 48]) b_X11_fairFault_90_96 rfl (fun hd => ?_)
            rw [show ((nI (at_ + 1)) + 1 : Int32) = nI ((at_ + 1) + 1) from nI_add (at_ + 1) 1]
            refine R2.callV3 (M2 := mX11_byteAt) (As := [.int 1, .int (nI ((at_ + 1) + 1))]) (rest := []) hd lk_11_105 okX11_byteAt (by decide) rfl (ev_byteAt1 E L F l ((at_ + 1) + 1) hlen hl (by omega)) (by decide) rfl rfl (Nat.le_of_ble_eq_true rfl) ?_
            refine R2.B (ls2 := [some (.ref 48), none, some (.int (nI part)), some (.int (nI at_)), some (.int 1), some (.int (nI (at_ + 1))), some (.int ((tat l (B1 F) (at_ + 1)) - 48)), some (.int ((tat l (B1 F) ((at_ + 1) + 1)) - 48))]) (st2 := [.int 1, .int 0, .int ((tat l (B1 F) ((at_ + 1) + 1)) - 48)]) b_X11_fairFault_99_109 rfl (fun hd => ?_)
            refine R2.if_eq 121 hd (by decide) (fun c109 => absurd c109 (by decide)) (fun c109 => ?_)
            refine R2.B (ls2 := [some (.ref 48), none, some (.int (nI part)), some (.int (nI at_)), some (.int 1), some (.int (nI (at_ + 1))), some (.int ((tat l (B1 F) (at_ + 1)) - 48)), some (.int ((tat l (B1 F) ((at_ + 1) + 1)) - 48))]) (st2 := [.int ((F 48 3) - 1), .int 0, .int ((tat l (B1 F) ((at_ + 1) + 1)) - 48)]) b_X11_fairFault_112_123 rfl (fun hd => ?_)
            refine R2.callS3 (M2 := mX11_in) (As := [.int ((tat l (B1 F) ((at_ + 1) + 1)) - 48), .int 0, .int ((F 48 3) - 1)]) (rest := []) hd lk_11_86 okX11_in (by decide) (ev_in E L F ((tat l (B1 F) ((at_ + 1) + 1)) - 48) 0 ((F 48 3) - 1)) (by decide) rfl rfl (Nat.le_of_ble_eq_true rfl) ?_
            refine R2.B (ls2 := [some (.ref 48), none, some (.int (nI part)), some (.int (nI at_)), some (.int 1), some (.int (nI (at_ + 1))), some (.int ((tat l (B1 F) (at_ + 1)) - 48)), some (.int ((tat l (B1 F) ((at_ + 1) + 1)) - 48))]) (st2 := [.int (b2i (0 ≤ ((tat l (B1 F) ((at_ + 1) + 1)) - 48) ∧ ((tat l (B1 F) ((at_ + 1) + 1)) - 48) ≤ ((F 48 3) - 1)))]) b_X11_fairFault_126_126 rfl (fun hd => ?_)
            refine R2.if_eq 141 hd (by decide) (fun c126 => ?_) (fun c126 => ?_)
            · have nc126 : ¬ (0 ≤ ((tat l (B1 F) ((at_ + 1) + 1)) - 48) ∧ ((tat l (B1 F) ((at_ + 1) + 1)) - 48) ≤ ((F 48 3) - 1)) := b2i_zero.mp c126
              refine R2.B (ls2 := [some (.ref 48), none, some (.int (nI part)), some (.int (nI at_)), some (.int 1), some (.int (nI (at_ + 1))), some (.int ((tat l (B1 F) (at_ + 1)) - 48)), some (.int ((tat l (B1 F) ((at_ + 1) + 1)) - 48))]) (st2 := [.int ((nI (at_ + 1)) + 1)]) b_X11_fairFault_141_145 rfl (fun hd => ?_)
              rw [show ((nI (at_ + 1)) + 1 : Int32) = nI ((at_ + 1) + 1) from nI_add (at_ + 1) 1]
              have e : mfL l n (k + 1) part at_ F = (nI ((at_ + 1) + 1), F) := by
                clear hd ih; simp only [mfL, mfP] <;> grind
              exact R2.ret3 (r := some (.int (nI ((at_ + 1) + 1)))) hd trivial rfl (by rw [e]) (by rw [e])
            · have nc126 : 0 ≤ ((tat l (B1 F) ((at_ + 1) + 1)) - 48) ∧ ((tat l (B1 F) ((at_ + 1) + 1)) - 48) ≤ ((F 48 3) - 1) := b2i_nz.mp c126
              refine R2.B (ls2 := [some (.ref 48), none, some (.int (nI part)), some (.int (nI at_)), some (.int 1), some (.int (nI (at_ + 1))), some (.int ((tat l (B1 F) (at_ + 1)) - 48)), some (.int ((tat l (B1 F) ((at_ + 1) + 1)) - 48))]) (st2 := [.int 1]) b_X11_fairFault_129_131 rfl (fun hd => ?_)
              refine R2.if_eq 146 hd (by decide) (fun c131 => absurd c131 (by decide)) (fun c131 => ?_)
              refine R2.B (ls2 := [some (.ref 48), none, some (.int (nI part)), some (.int (nI at_)), some (.int 1), some (.int (nI (at_ + 1))), some (.int ((tat l (B1 F) (at_ + 1)) - 48)), some (.int ((tat l (B1 F) ((at_ + 1) + 1)) - 48))]) (st2 := [.int ((tat l (B1 F) (at_ + 1)) - 48), .int ((tat l (B1 F) ((at_ + 1) + 1)) - 48)]) b_X11_fairFault_134_138 rfl (fun hd => ?_)
              refine R2.icmp_ne 146 hd (by decide) (fun c138 => ?_) (fun c138 => ?_)
              · refine R2.B (ls2 := [some (.ref 48), none, some (.int (nI part)), some (.int (nI at_)), some (.int 1), some (.int (nI (at_ + 1))), some (.int ((tat l (B1 F) (at_ + 1)) - 48)), some (.int ((tat l (B1 F) ((at_ + 1) + 1)) - 48))]) (st2 := [.int ((tat l (B1 F) (at_ + 1)) - 48), .int (nI part), .ref 58]) b_X11_fairFault_146_153 rfl (fun hd => ?_)
                refine R2.iast part rfl hd (by decide) rfl (fun _ => rfl) (by decide) (by omega) ?_
                refine R2.B (ls2 := [some (.ref 48), none, some (.int (nI part)), some (.int (nI at_)), some (.int 1), some (.int (nI (at_ + 1))), some (.int ((tat l (B1 F) (at_ + 1)) - 48)), some (.int ((tat l (B1 F) ((at_ + 1) + 1)) - 48))]) (st2 := [.int ((tat l (B1 F) ((at_ + 1) + 1)) - 48), .int (nI part), .ref 59]) b_X11_fairFault_154_161 rfl (fun hd => ?_)
                refine R2.iast part rfl hd (by decide) rfl (fun _ => rfl) (by decide) (by omega) ?_
                refine R2.B (ls2 := [some (.ref 48), none, some (.int (nI part)), some (.int (nI at_)), some (.int 1), some (.int (nI (at_ + 1))), some (.int ((tat l (B1 F) (at_ + 1)) - 48)), some (.int ((tat l (B1 F) ((at_ + 1) + 1)) - 48))]) (st2 := [.int 1, .int (nI part), .ref 60]) b_X11_fairFault_162_169 rfl (fun hd => ?_)
                refine R2.if_eq 176 hd (by decide) (fun c169 => absurd c169 (by decide)) (fun c169 => ?_)
                refine R2.B (ls2 := [some (.ref 48), none, some (.int (nI part)), some (.int (nI at_)), some (.int 1), some (.int (nI (at_ + 1))), some (.int ((tat l (B1 F) (at_ + 1)) - 48)), some (.int ((tat l (B1 F) ((at_ + 1) + 1)) - 48))]) (st2 := [.int 1, .int (nI part), .ref 60]) b_X11_fairFault_172_177 rfl (fun hd => ?_)
                refine R2.iast part rfl hd (by decide) rfl (fun _ => rfl) (by decide) (by omega) ?_
                refine R2.B (ls2 := [some (.ref 48), none, some (.int ((nI part) + 1)), some (.int ((nI (at_ + 1)) + 2)), some (.int 1), some (.int (nI (at_ + 1))), some (.int ((tat l (B1 F) (at_ + 1)) - 48)), some (.int ((tat l (B1 F) ((at_ + 1) + 1)) - 48))]) (st2 := [.int 1, .ref 49, .int ((nI (at_ + 1)) + 2)]) b_X11_fairFault_178_192 rfl (fun hd => ?_)
                rw [show ((nI part) + 1 : Int32) = nI (part + 1) from nI_add part 1]
                rw [show ((nI (at_ + 1)) + 2 : Int32) = nI ((at_ + 1) + 2) from nI_add (at_ + 1) 2]
                refine R2.iald 1 rfl hd rfl (fun _ => rfl) (by decide) (by omega) ?_
                refine R2.top (show (F 49 1 : Int32) = nI l from hlen) ?_
                refine R2.B (ls2 := [some (.ref 48), none, some (.int (nI (part + 1))), some (.int (nI ((at_ + 1) + 2))), some (.int 1), some (.int (nI (at_ + 1))), some (.int ((tat l (B1 F) (at_ + 1)) - 48)), some (.int ((tat l (B1 F) ((at_ + 1) + 1)) - 48))]) (st2 := [.int (nI l), .int (nI ((at_ + 1) + 2))]) b_X11_fairFault_193_193 rfl (fun hd => ?_)
                refine R2.icmp_ne 203 hd (by decide) (fun c193 => ?_) (fun c193 => ?_)
                · have nc193 : ¬ ((at_ + 1) + 2) = l := fun h9 => c193 ((nI_eq (a := ((at_ + 1) + 2)) (b := l) (by omega) (by omega)).mpr h9)
                  refine R2.B (ls2 := [some (.ref 48), none, some (.int (nI (part + 1))), some (.int (nI ((at_ + 1) + 2))), some (.int 1), some (.int (nI (at_ + 1))), some (.int ((tat l (B1 F) (at_ + 1)) - 48)), some (.int ((tat l (B1 F) ((at_ + 1) + 1)) - 48))]) (st2 := [.int (nI ((at_ + 1) + 2)), .int 1, .ref 48]) b_X11_fairFault_203_206 rfl (fun hd => ?_)
                  refine R2.callV3 (M2 := mX11_byteAt) (As := [.int 1, .int (nI ((at_ + 1) + 2))]) (rest := []) hd lk_11_105 okX11_byteAt (by decide) rfl (ev_byteAt1 E L (up2 (up2 (up2 F 58 part ((tat l (B1 F) (at_ + 1)) - 48)) 59 part ((tat l (B1 F) ((at_ + 1) + 1)) - 48)) 60 part 1) l ((at_ + 1) + 2) hlen hl (by omega)) (by decide) rfl rfl (Nat.le_of_ble_eq_true rfl) ?_
                  refine R2.B (ls2 := [some (.ref 48), none, some (.int (nI (part + 1))), some (.int (nI ((at_ + 1) + 2))), some (.int 1), some (.int (nI (at_ + 1))), some (.int ((tat l (B1 F) (at_ + 1)) - 48)), some (.int ((tat l (B1 F) ((at_ + 1) + 1)) - 48))]) (st2 := [.int 59, .int (tat l (B1 F) ((at_ + 1) + 2))]) b_X11_fairFault_209_211 rfl (fun hd => ?_)
                  refine R2.icmp_eq 216 hd (by decide) (fun c211 => ?_) (fun c211 => ?_)
                  · refine R2.B (ls2 := [some (.ref 48), none, some (.int (nI (part + 1))), some (.int ((nI ((at_ + 1) + 2)) + 1)), some (.int 1), some (.int (nI (at_ + 1))), some (.int ((tat l (B1 F) (at_ + 1)) - 48)), some (.int ((tat l (B1 F) ((at_ + 1) + 1)) - 48))]) (st2 := []) b_X11_fairFault_216_14 rfl (fun hd => ?_)
                    rw [show ((nI ((at_ + 1) + 2)) + 1 : Int32) = nI (((at_ + 1) + 2) + 1) from nI_add ((at_ + 1) + 2) 1]
                    have hj := tat_lt c211
                    have e : mfL l n (k + 1) part at_ F = mfL l n k (part + 1) (((at_ + 1) + 2) + 1) (up2 (up2 (up2 F 58 part ((tat l (B1 F) (at_ + 1)) - 48)) 59 part ((tat l (B1 F) ((at_ + 1) + 1)) - 48)) 60 part 1) := by
                      clear hd ih; simp only [mfL, mfP] <;> grind
                    rw [e]
                    refine R2.forget (ls2 := [some (.ref 48), none, some (.int (nI (part + 1))), some (.int (nI (((at_ + 1) + 2) + 1))), none, none, none, none]) ⟨rfl, ⟨rfl, ⟨rfl, trivial⟩⟩⟩ ?_
                    exact ih (part + 1) (((at_ + 1) + 2) + 1) _ (by omega) (by omega) (by omega) hlen hn
                  · refine R2.B (ls2 := [some (.ref 48), none, some (.int (nI (part + 1))), some (.int (nI ((at_ + 1) + 2))), some (.int 1), some (.int (nI (at_ + 1))), some (.int ((tat l (B1 F) (at_ + 1)) - 48)), some (.int ((tat l (B1 F) ((at_ + 1) + 1)) - 48))]) (st2 := [.int (nI ((at_ + 1) + 2))]) b_X11_fairFault_214_215 rfl (fun hd => ?_)
                    have e : mfL l n (k + 1) part at_ F = (nI ((at_ + 1) + 2), (up2 (up2 (up2 F 58 part ((tat l (B1 F) (at_ + 1)) - 48)) 59 part ((tat l (B1 F) ((at_ + 1) + 1)) - 48)) 60 part 1)) := by
                      clear hd ih; simp only [mfL, mfP] <;> grind
                    exact R2.ret3 (r := some (.int (nI ((at_ + 1) + 2)))) hd trivial rfl (by rw [e]) (by rw [e])
                · have nc193 : ((at_ + 1) + 2) = l := (nI_eq (a := ((at_ + 1) + 2)) (b := l) (by omega) (by omega)).mp c193
                  refine R2.B (ls2 := [some (.ref 48), none, some (.int (nI (part + 1))), some (.int (nI ((at_ + 1) + 2))), some (.int 1), some (.int (nI (at_ + 1))), some (.int ((tat l (B1 F) (at_ + 1)) - 48)), some (.int ((tat l (B1 F) ((at_ + 1) + 1)) - 48))]) (st2 := [.int (nI (part + 1)), .ref 48]) b_X11_fairFault_196_198 rfl (fun hd => ?_)
                  refine R2.putf (a := 11) (b := 10) hd (by decide) (by decide) rfl rfl (fun _ => rfl) ?_
                  refine R2.B (ls2 := [some (.ref 48), none, some (.int (nI (part + 1))), some (.int (nI ((at_ + 1) + 2))), some (.int 1), some (.int (nI (at_ + 1))), some (.int ((tat l (B1 F) (at_ + 1)) - 48)), some (.int ((tat l (B1 F) ((at_ + 1) + 1)) - 48))]) (st2 := [.int (-1)]) b_X11_fairFault_201_202 rfl (fun hd => ?_)
                  have e : mfL l n (k + 1) part at_ F = ((-1), (up2 (up2 (up2 (up2 F 58 part ((tat l (B1 F) (at_ + 1)) - 48)) 59 part ((tat l (B1 F) ((at_ + 1) + 1)) - 48)) 60 part 1) 48 10 (nI (part + 1)))) := by
                    clear hd ih; simp only [mfL, mfP] <;> grind
                  exact R2.ret3 (r := some (.int (-1))) hd trivial rfl (by rw [e]) (by rw [e])
              · refine R2.B (ls2 := [some (.ref 48), none, some (.int (nI part)), some (.int (nI at_)), some (.int 1), some (.int (nI (at_ + 1))), some (.int ((tat l (B1 F) (at_ + 1)) - 48)), some (.int ((tat l (B1 F) ((at_ + 1) + 1)) - 48))]) (st2 := [.int ((nI (at_ + 1)) + 1)]) b_X11_fairFault_141_145 rfl (fun hd => ?_)
                rw [show ((nI (at_ + 1)) + 1 : Int32) = nI ((at_ + 1) + 1) from nI_add (at_ + 1) 1]
                have e : mfL l n (k + 1) part at_ F = (nI ((at_ + 1) + 1), F) := by
                  clear hd ih; simp only [mfL, mfP] <;> grind
                exact R2.ret3 (r := some (.int (nI ((at_ + 1) + 1)))) hd trivial rfl (by rw [e]) (by rw [e])
          · have nc84 : ¬ (0 ≤ ((tat l (B1 F) (at_ + 1)) - 48) ∧ ((tat l (B1 F) (at_ + 1)) - 48) ≤ ((F 48 3) - 1)) := b2i_zero.mp c84
            refine R2.B (ls2 := [some (.ref 48), none, some (.int (nI part)), some (.int (nI at_)), some (.int 1), some (.int (nI (at_ + 1))), some (.int ((tat l (B1 F) (at_ + 1)) - 48)), none]) (st2 := [.int (nI (at_ + 1))]) b_X11_fairFault_87_89 rfl (fun hd => ?_)
            have e : mfL l n (k + 1) part at_ F = (nI (at_ + 1), F) := by
              clear hd ih; simp only [mfL, mfP] <;> grind
            exact R2.ret3 (r := some (.int (nI (at_ + 1)))) hd trivial rfl (by rw [e]) (by rw [e])
theorem b_X11_fairFault_0_1 : bl2 mX11_fairFault 0 [(.aload_n 0, 1, 0, 0, .null)] 1 (.invokevirtual 116) 3 = true := by decide +kernel
theorem b_X11_fairFault_4_7 : bl2 mX11_fairFault 4 [(.istore_n 1, 1, 1, 0, .null), (.aload_n 0, 1, 0, 0, .null), (.iconst 0, 1, 0, 0, .int 0)] 7 (.putfield 122) 3 = true := by decide +kernel
theorem b_X11_fairFault_10_14 : bl2 mX11_fairFault 10 [(.iconst 0, 1, 0, 0, .int 0), (.istore_n 2, 1, 2, 0, .null), (.iconst 0, 1, 0, 0, .int 0), (.istore_n 3, 1, 3, 0, .null)] 14 (.iload_n 3) 1 = true := by decide +kernel
set_option maxRecDepth 20000 in
set_option maxHeartbeats 1000000 in
theorem me_fairFault (E : EE) (L : Nat) (F : FF) (l n : Nat) (hm : MR F l n) (l1 : Nat) (hl1 : l1 ≤ 60) (h1 : F 49 1 = nI l1) : Ev3 E L 5 mX11_fairFault [.ref 48] F (some (.int (fds F l1 n).1)) (fds F l1 n).2 := by
  refine Ev3.of okX11_fairFault.2.2.1 (Nat.le_of_ble_eq_true rfl) ?_
  show R2 E L mX11_fairFault 5 0 [some (.ref 48), none, none, none, none, none, none, none] [] F _
  refine R2.B (ls2 := [some (.ref 48), none, none, none, none, none, none, none]) (st2 := [.ref 48]) b_X11_fairFault_0_1 rfl (fun hd => ?_)
  refine R2.callV3 (M2 := mX11_reads) (As := []) (rest := []) hd lk_11_116 okX11_reads (by decide) rfl (me_reads E L F l n hm) (by decide) rfl rfl (Nat.le_of_ble_eq_true rfl) ?_
  refine R2.B (ls2 := [some (.ref 48), some (.int ((rds F l).1)), none, none, none, none, none, none]) (st2 := [.int 0, .ref 48]) b_X11_fairFault_4_7 rfl (fun hd => ?_)
  refine R2.putf (a := 11) (b := 10) hd (by decide) (by decide) rfl rfl (fun _ => rfl) ?_
  refine R2.B (ls2 := [some (.ref 48), some (.int ((rds F l).1)), some (.int 0), some (.int 0), none, none, none, none]) (st2 := []) b_X11_fairFault_10_14 rfl (fun hd => ?_)
  refine R2.forget (ls2 := [some (.ref 48), none, some (.int 0), some (.int 0), none, none, none, none]) ⟨rfl, ⟨rfl, ⟨rfl, trivial⟩⟩⟩ ?_
  exact ml_fair E L l1 hl1 n hm.2.2.1 21 0 0 _ (by omega) (by omega) (by omega) h1 hm.2.2.2.1
