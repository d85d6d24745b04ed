/-! The class's sheets, any of them. Printed by wip/whole/gen/pub_x.py. -/
theorem X_sheet_size (E : EE) (L : Nat) (F : FF) (s : Nat) (hs4 : s < 4) (f x : Int32) (h : 0 ≤ f ∧ f < 3) (h60 : x ≤ 60) (hx : x < 0) : Ev3 E L 16 mX10_sheet [.ref 5, .int (nI s), .int f, .int x] F (some (.int (-10 - 5))) (up2 F 5 11 5) := by
  rcases (by omega : s = 0 ∨ s = 1 ∨ s = 2 ∨ s = 3) with q | q | q | q <;> subst q
  · exact x_sheet_size0 E L F f x h h60 hx
  · exact x_sheet_size1 E L F f x h h60 hx
  · exact x_sheet_size2 E L F f x h h60 hx
  · exact x_sheet_size3 E L F f x h h60 hx
theorem X_sheet (E : EE) (L : Nat) (F : FF) (s : Nat) (hs4 : s < 4) (f x : Int32) (h : 0 ≤ f ∧ f < 3) (h60 : x ≤ 60) (hx : 0 ≤ x) : Ev3 E L 16 mX10_sheet [.ref 5, .int (nI s), .int f, .int x] F (some (.int x)) (fillF (up2 (up2 (up2 F (40 + 2 * s) 1 0) (40 + 2 * s) 2 f) (40 + 2 * s) 3 x) (41 + 2 * s) 60 0) := by
  rcases (by omega : s = 0 ∨ s = 1 ∨ s = 2 ∨ s = 3) with q | q | q | q <;> subst q
  · exact x_sheet0 E L F f x h h60 hx
  · exact x_sheet1 E L F f x h h60 hx
  · exact x_sheet2 E L F f x h h60 hx
  · exact x_sheet3 E L F f x h h60 hx
theorem X_lose_null (E : EE) (L : Nat) (F : FF) (s : Nat) (hs4 : s < 4) (hl : ¬ F (40 + 2 * s) 1 = 0) : Ev3 E L 16 mX10_lose [.ref 5, .int (nI s)] F (some (.int (-10 - 1))) (up2 F 5 11 1) := by
  rcases (by omega : s = 0 ∨ s = 1 ∨ s = 2 ∨ s = 3) with q | q | q | q <;> subst q
  · exact x_lose_null0 E L F hl
  · exact x_lose_null1 E L F hl
  · exact x_lose_null2 E L F hl
  · exact x_lose_null3 E L F hl
theorem X_lose (E : EE) (L : Nat) (F : FF) (s : Nat) (hs4 : s < 4) (hl : F (40 + 2 * s) 1 = 0) : Ev3 E L 16 mX10_lose [.ref 5, .int (nI s)] F (some (.int (F (40 + 2 * s) 3))) (up2 F (40 + 2 * s) 1 1) := by
  rcases (by omega : s = 0 ∨ s = 1 ∨ s = 2 ∨ s = 3) with q | q | q | q <;> subst q
  · exact x_lose0 E L F hl
  · exact x_lose1 E L F hl
  · exact x_lose2 E L F hl
  · exact x_lose3 E L F hl
theorem X_put_find (E : EE) (L : Nat) (F : FF) (s : Nat) (hs4 : s < 4) (f x v : Int32) (h : 0 ≤ f ∧ f < 3) (hf : ¬ fndA (F (40 + 2 * s) 1) (F (40 + 2 * s) 2) (F (40 + 2 * s) 3) f x = 0) : Ev3 E L 16 mX10_put [.ref 5, .int (nI s), .int f, .int x, .int v] F (some (.int (-10 - (fndA (F (40 + 2 * s) 1) (F (40 + 2 * s) 2) (F (40 + 2 * s) 3) f x)))) (up2 F 5 11 (fndA (F (40 + 2 * s) 1) (F (40 + 2 * s) 2) (F (40 + 2 * s) 3) f x)) := by
  rcases (by omega : s = 0 ∨ s = 1 ∨ s = 2 ∨ s = 3) with q | q | q | q <;> subst q
  · exact x_put_find0 E L F f x v h hf
  · exact x_put_find1 E L F f x v h hf
  · exact x_put_find2 E L F f x v h hf
  · exact x_put_find3 E L F f x v h hf
theorem X_put (E : EE) (L : Nat) (F : FF) (s : Nat) (hs4 : s < 4) (z : Nat) (hz : F (40 + 2 * s) 3 = nI z) (hz60 : z ≤ 60) (f v : Int32) (h : 0 ≤ f ∧ f < 3) (j : Nat) (hj : j < z) (hf : fndA (F (40 + 2 * s) 1) (F (40 + 2 * s) 2) (F (40 + 2 * s) 3) f (nI j) = 0) : Ev3 E L 16 mX10_put [.ref 5, .int (nI s), .int f, .int (nI j), .int v] F (some (.int 1)) (up2 F (41 + 2 * s) j (nrw (F (40 + 2 * s) 2) v)) := by
  rcases (by omega : s = 0 ∨ s = 1 ∨ s = 2 ∨ s = 3) with q | q | q | q <;> subst q
  · exact x_put0 E L F z hz hz60 f v h j hj hf
  · exact x_put1 E L F z hz hz60 f v h j hj hf
  · exact x_put2 E L F z hz hz60 f v h j hj hf
  · exact x_put3 E L F z hz hz60 f v h j hj hf
theorem X_get_find (E : EE) (L : Nat) (F : FF) (s : Nat) (hs4 : s < 4) (f x : Int32) (h : 0 ≤ f ∧ f < 3) (hf : ¬ fndA (F (40 + 2 * s) 1) (F (40 + 2 * s) 2) (F (40 + 2 * s) 3) f x = 0) : Ev3 E L 16 mX10_get [.ref 5, .int (nI s), .int f, .int x] F (some (.int (-2147483648))) (up2 F 5 11 (fndA (F (40 + 2 * s) 1) (F (40 + 2 * s) 2) (F (40 + 2 * s) 3) f x)) := by
  rcases (by omega : s = 0 ∨ s = 1 ∨ s = 2 ∨ s = 3) with q | q | q | q <;> subst q
  · exact x_get_find0 E L F f x h hf
  · exact x_get_find1 E L F f x h hf
  · exact x_get_find2 E L F f x h hf
  · exact x_get_find3 E L F f x h hf
theorem X_get (E : EE) (L : Nat) (F : FF) (s : Nat) (hs4 : s < 4) (f : Int32) (h : 0 ≤ f ∧ f < 3) (j : Nat) (hj : j < 60) (hf : fndA (F (40 + 2 * s) 1) (F (40 + 2 * s) 2) (F (40 + 2 * s) 3) f (nI j) = 0) : Ev3 E L 16 mX10_get [.ref 5, .int (nI s), .int f, .int (nI j)] F (some (.int (F (41 + 2 * s) j))) F := by
  rcases (by omega : s = 0 ∨ s = 1 ∨ s = 2 ∨ s = 3) with q | q | q | q <;> subst q
  · exact x_get0 E L F f h j hj hf
  · exact x_get1 E L F f h j hj hf
  · exact x_get2 E L F f h j hj hf
  · exact x_get3 E L F f h j hj hf
theorem X_write_null (E : EE) (L : Nat) (F : FF) (s : Nat) (hs4 : s < 4) (hl : ¬ F (40 + 2 * s) 1 = 0) : Ev3 E L 16 mX10_write [.ref 5, .int (nI s)] F (some (.int (-10 - 1))) (up2 F 5 11 1) := by
  rcases (by omega : s = 0 ∨ s = 1 ∨ s = 2 ∨ s = 3) with q | q | q | q <;> subst q
  · exact x_write_null0 E L F hl
  · exact x_write_null1 E L F hl
  · exact x_write_null2 E L F hl
  · exact x_write_null3 E L F hl
theorem X_write (E : EE) (L : Nat) (F : FF) (s : Nat) (hs4 : s < 4) (n : Nat) (hn : F 10 5 = nI n) (hn10 : n ≤ 10) (z : Nat) (hz : F (40 + 2 * s) 3 = nI z) (hz60 : z ≤ 60) (hl : F (40 + 2 * s) 1 = 0) : Ev3 E L 16 mX10_write [.ref 5, .int (nI s)] F (some (.int (nI (if n < z then n else z)))) (wrL (40 + 2 * s) (if n < z then n else z) 0 F) := by
  rcases (by omega : s = 0 ∨ s = 1 ∨ s = 2 ∨ s = 3) with q | q | q | q <;> subst q
  · exact x_write0 E L F n hn hn10 z hz hz60 hl
  · exact x_write1 E L F n hn hn10 z hz hz60 hl
  · exact x_write2 E L F n hn hn10 z hz hz60 hl
  · exact x_write3 E L F n hn hn10 z hz hz60 hl
theorem X_read_null (E : EE) (L : Nat) (F : FF) (s : Nat) (hs4 : s < 4) (n : Nat) (hn : F 10 5 = nI n) (hn10 : n ≤ 10) (a : Nat) (ha : a < n) (hl : ¬ F (40 + 2 * s) 1 = 0) : Ev3 E L 16 mX10_read [.ref 5, .int (nI s), .int (nI a)] F (some (.int (-10 - 1))) (up2 F 5 11 1) := by
  rcases (by omega : s = 0 ∨ s = 1 ∨ s = 2 ∨ s = 3) with q | q | q | q <;> subst q
  · exact x_read_null0 E L F n hn hn10 a ha hl
  · exact x_read_null1 E L F n hn hn10 a ha hl
  · exact x_read_null2 E L F n hn hn10 a ha hl
  · exact x_read_null3 E L F n hn hn10 a ha hl
theorem X_read (E : EE) (L : Nat) (F : FF) (s : Nat) (hs4 : s < 4) (hc : CST F) (n : Nat) (hn : F 10 5 = nI n) (hn10 : n ≤ 10) (a : Nat) (ha : a < n) (z : Nat) (hz : F (40 + 2 * s) 3 = nI z) (hz60 : z ≤ 60) (hl : F (40 + 2 * s) 1 = 0) : Ev3 E L 16 mX10_read [.ref 5, .int (nI s), .int (nI a)] F (some (.int (nI (rdL n a (40 + 2 * s) z 0 F).1))) (rdL n a (40 + 2 * s) z 0 F).2 := by
  rcases (by omega : s = 0 ∨ s = 1 ∨ s = 2 ∨ s = 3) with q | q | q | q <;> subst q
  · exact x_read0 E L F hc n hn hn10 a ha z hz hz60 hl
  · exact x_read1 E L F hc n hn hn10 a ha z hz hz60 hl
  · exact x_read2 E L F hc n hn hn10 a ha z hz hz60 hl
  · exact x_read3 E L F hc n hn hn10 a ha z hz hz60 hl
theorem X_copy_null (E : EE) (L : Nat) (F : FF) (s : Nat) (hs4 : s < 4) (t : Nat) (ht4 : t < 4) (x y w : Int32) (h : ¬ F (40 + 2 * s) 1 = 0 ∨ ¬ F (40 + 2 * t) 1 = 0) : Ev3 E L 16 mX10_copy [.ref 5, .int (nI s), .int x, .int (nI t), .int y, .int w] F (some (.int (-10 - 1))) (up2 F 5 11 1) := by
  rcases (by omega : s = 0 ∨ s = 1 ∨ s = 2 ∨ s = 3) with q0 | q0 | q0 | q0 <;> subst q0 <;> rcases (by omega : t = 0 ∨ t = 1 ∨ t = 2 ∨ t = 3) with r | r | r | r <;> subst r
  · exact x_copy_null00 E L F x y w h
  · exact x_copy_null01 E L F x y w h
  · exact x_copy_null02 E L F x y w h
  · exact x_copy_null03 E L F x y w h
  · exact x_copy_null10 E L F x y w h
  · exact x_copy_null11 E L F x y w h
  · exact x_copy_null12 E L F x y w h
  · exact x_copy_null13 E L F x y w h
  · exact x_copy_null20 E L F x y w h
  · exact x_copy_null21 E L F x y w h
  · exact x_copy_null22 E L F x y w h
  · exact x_copy_null23 E L F x y w h
  · exact x_copy_null30 E L F x y w h
  · exact x_copy_null31 E L F x y w h
  · exact x_copy_null32 E L F x y w h
  · exact x_copy_null33 E L F x y w h
theorem X_copy_store (E : EE) (L : Nat) (F : FF) (s : Nat) (hs4 : s < 4) (t : Nat) (ht4 : t < 4) (x y w : Int32) (h1 : F (40 + 2 * s) 1 = 0) (h2 : F (40 + 2 * t) 1 = 0) (h3 : ¬ F (40 + 2 * s) 2 = F (40 + 2 * t) 2) : Ev3 E L 16 mX10_copy [.ref 5, .int (nI s), .int x, .int (nI t), .int y, .int w] F (some (.int (-10 - 4))) (up2 F 5 11 4) := by
  rcases (by omega : s = 0 ∨ s = 1 ∨ s = 2 ∨ s = 3) with q0 | q0 | q0 | q0 <;> subst q0 <;> rcases (by omega : t = 0 ∨ t = 1 ∨ t = 2 ∨ t = 3) with r | r | r | r <;> subst r
  · exact absurd rfl h3
  · exact x_copy_store01 E L F x y w h1 h2 h3
  · exact x_copy_store02 E L F x y w h1 h2 h3
  · exact x_copy_store03 E L F x y w h1 h2 h3
  · exact x_copy_store10 E L F x y w h1 h2 h3
  · exact absurd rfl h3
  · exact x_copy_store12 E L F x y w h1 h2 h3
  · exact x_copy_store13 E L F x y w h1 h2 h3
  · exact x_copy_store20 E L F x y w h1 h2 h3
  · exact x_copy_store21 E L F x y w h1 h2 h3
  · exact absurd rfl h3
  · exact x_copy_store23 E L F x y w h1 h2 h3
  · exact x_copy_store30 E L F x y w h1 h2 h3
  · exact x_copy_store31 E L F x y w h1 h2 h3
  · exact x_copy_store32 E L F x y w h1 h2 h3
  · exact absurd rfl h3
theorem X_copy_index (E : EE) (L : Nat) (F : FF) (s : Nat) (hs4 : s < 4) (t : Nat) (ht4 : t < 4) (x y w : Int32) (h1 : F (40 + 2 * s) 1 = 0) (h2 : F (40 + 2 * t) 1 = 0) (h3 : F (40 + 2 * s) 2 = F (40 + 2 * t) 2) (h : ¬ (0 ≤ x ∧ 0 ≤ w ∧ x ≤ F (40 + 2 * s) 3 - w) ∨ ¬ (0 ≤ y ∧ 0 ≤ w ∧ y ≤ F (40 + 2 * t) 3 - w)) : Ev3 E L 16 mX10_copy [.ref 5, .int (nI s), .int x, .int (nI t), .int y, .int w] F (some (.int (-10 - 2))) (up2 F 5 11 2) := by
  rcases (by omega : s = 0 ∨ s = 1 ∨ s = 2 ∨ s = 3) with q0 | q0 | q0 | q0 <;> subst q0 <;> rcases (by omega : t = 0 ∨ t = 1 ∨ t = 2 ∨ t = 3) with r | r | r | r <;> subst r
  · exact x_copy_index00 E L F x y w h1 h2 h3 h
  · exact x_copy_index01 E L F x y w h1 h2 h3 h
  · exact x_copy_index02 E L F x y w h1 h2 h3 h
  · exact x_copy_index03 E L F x y w h1 h2 h3 h
  · exact x_copy_index10 E L F x y w h1 h2 h3 h
  · exact x_copy_index11 E L F x y w h1 h2 h3 h
  · exact x_copy_index12 E L F x y w h1 h2 h3 h
  · exact x_copy_index13 E L F x y w h1 h2 h3 h
  · exact x_copy_index20 E L F x y w h1 h2 h3 h
  · exact x_copy_index21 E L F x y w h1 h2 h3 h
  · exact x_copy_index22 E L F x y w h1 h2 h3 h
  · exact x_copy_index23 E L F x y w h1 h2 h3 h
  · exact x_copy_index30 E L F x y w h1 h2 h3 h
  · exact x_copy_index31 E L F x y w h1 h2 h3 h
  · exact x_copy_index32 E L F x y w h1 h2 h3 h
  · exact x_copy_index33 E L F x y w h1 h2 h3 h
theorem X_copy (E : EE) (L : Nat) (F : FF) (s : Nat) (hs4 : s < 4) (t : Nat) (ht4 : t < 4) (a b q : Nat) (h1 : F (40 + 2 * s) 1 = 0) (h2 : F (40 + 2 * t) 1 = 0) (h3 : F (40 + 2 * s) 2 = F (40 + 2 * t) 2) (hx : (0 ≤ nI a ∧ 0 ≤ nI q ∧ nI a ≤ F (40 + 2 * s) 3 - nI q)) (hy : (0 ≤ nI b ∧ 0 ≤ nI q ∧ nI b ≤ F (40 + 2 * t) 3 - nI q)) (ha : a + q ≤ 60) (hb : b + q ≤ 60) : Ev3 E L 16 mX10_copy [.ref 5, .int (nI s), .int (nI a), .int (nI t), .int (nI b), .int (nI q)] F (some (.int 1)) (cpyF F (41 + 2 * s) (41 + 2 * t) a b q) := by
  rcases (by omega : s = 0 ∨ s = 1 ∨ s = 2 ∨ s = 3) with q0 | q0 | q0 | q0 <;> subst q0 <;> rcases (by omega : t = 0 ∨ t = 1 ∨ t = 2 ∨ t = 3) with r | r | r | r <;> subst r
  · exact x_copy00 E L F a b q h1 h2 h3 hx hy ha hb
  · exact x_copy01 E L F a b q h1 h2 h3 hx hy ha hb
  · exact x_copy02 E L F a b q h1 h2 h3 hx hy ha hb
  · exact x_copy03 E L F a b q h1 h2 h3 hx hy ha hb
  · exact x_copy10 E L F a b q h1 h2 h3 hx hy ha hb
  · exact x_copy11 E L F a b q h1 h2 h3 hx hy ha hb
  · exact x_copy12 E L F a b q h1 h2 h3 hx hy ha hb
  · exact x_copy13 E L F a b q h1 h2 h3 hx hy ha hb
  · exact x_copy20 E L F a b q h1 h2 h3 hx hy ha hb
  · exact x_copy21 E L F a b q h1 h2 h3 hx hy ha hb
  · exact x_copy22 E L F a b q h1 h2 h3 hx hy ha hb
  · exact x_copy23 E L F a b q h1 h2 h3 hx hy ha hb
  · exact x_copy30 E L F a b q h1 h2 h3 hx hy ha hb
  · exact x_copy31 E L F a b q h1 h2 h3 hx hy ha hb
  · exact x_copy32 E L F a b q h1 h2 h3 hx hy ha hb
  · exact x_copy33 E L F a b q h1 h2 h3 hx hy ha hb
