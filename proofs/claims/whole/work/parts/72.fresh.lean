/-! a new object, and one that is opened again -/
section FR
/-- v put at k, k + 1 and on, r times -/
def lp (v : Int32) : Nat → Nat → (Nat → Int32) → Nat → Int32
  | 0, _, w => w
  | r + 1, k, w => lp v r (k + 1) (upd w k v)
theorem lp_at {v : Int32} : ∀ (r k : Nat) (w : Nat → Int32) (j : Nat), (∀ i : Nat, i < k → w i = v) → j < k + r → lp v r k w j = v := by
  intro r
  induction r with
  | zero => intro k w j h hj; exact h j (by omega)
  | succ r ih =>
    intro k w j h hj
    rw [lp]
    refine ih (k + 1) _ j (fun i hi => ?_) (by omega)
    by_cases e : i = k
    · subst e; exact pk_us
    · rw [pk_un e]; exact h i (by omega)
theorem lp_0 {v : Int32} {n j : Nat} {w : Nat → Int32} (h : j < n) : lp v n 0 w j = v := lp_at n 0 w j (fun i hi => by omega) (by omega)
theorem fill4_lp {v : Int32} : ∀ (r k : Nat) (w : Nat → Int32), p_fill4_5 v r k w = lp v r k w := by
  intro r
  induction r with
  | zero => intro k w; rfl
  | succ r ih => intro k w; rw [p_fill4_5, lp]; exact ih _ _
theorem fill6_lp {v : Int32} : ∀ (r k : Nat) (w : Nat → Int32), p_fill6_5 v r k w = lp v r k w := by
  intro r
  induction r with
  | zero => intro k w; rfl
  | succ r ih => intro k w; rw [p_fill6_5, lp]; exact ih _ _
theorem fill7_lp {v : Int32} : ∀ (r k : Nat) (w : Nat → Int32), p_fill7_5 v r k w = lp v r k w := by
  intro r
  induction r with
  | zero => intro k w; rfl
  | succ r ih => intro k w; rw [p_fill7_5, lp]; exact ih _ _
theorem fill49_lp {v : Int32} : ∀ (r k : Nat) (w : Nat → Int32), p_fill49_5 v r k w = lp v r k w := by
  intro r
  induction r with
  | zero => intro k w; rfl
  | succ r ih => intro k w; rw [p_fill49_5, lp]; exact ih _ _
theorem fl4 (w : Nat → Int32) (v : Int32) : p_fill4 w v = lp v 4 0 w := by rw [p_fill4]; exact fill4_lp 4 0 w
theorem fl6 (w : Nat → Int32) (v : Int32) : p_fill6 w v = lp v 6 0 w := by rw [p_fill6]; exact fill6_lp 6 0 w
theorem fl7 (w : Nat → Int32) (v : Int32) : p_fill7 w v = lp v 7 0 w := by rw [p_fill7]; exact fill7_lp 7 0 w
theorem fl49 (w : Nat → Int32) (v : Int32) : p_fill49 w v = lp v 49 0 w := by rw [p_fill49]; exact fill49_lp 49 0 w
variable {a b c d e f l h q p s w n m t : Nat → Int32}
theorem c_reset_lp : p_reset a b c d e f l p = (lp (nI 1000) 6 0 a, lp (nI 1000) 6 0 b, lp (nI 1000) 6 0 c, lp (nI 0) 49 0 d, lp (nI 0) 49 0 e, lp (nI 0) 49 0 f, lp (nI 20000) 6 0 l, lp (nI 0) 4 0 p, nI 5000, nI 5000, nI 0, nI 0, nI 0, nI 0) := by
  unfold p_reset p_setLeak
  rw [fl6, fl6, fl6, fl49, fl49, fl49, fl6, fl4]
  simp only [ap1, ap4]
theorem mb127 {A B C D E F G H I : Nat → Int32} : ∀ (r k : Nat) (p s w n m t : Nat → Int32), p_mBegin_127 A B C D E F G H I r k p s w n m t = (A, B, C, D, E, F, G, H, I, lp (nI 0) r k p, lp (nI 0) r k s, lp (-1) r k w, lp (nI 0) r k n, lp (nI 0) r k m, lp (nI 0) r k t, nI 0, nI 5000, nI 5000, nI 5000, nI 0, nI 0, nI 0, nI 0, nI 0) := by
  intro r
  induction r with
  | zero => intro k p s w n m t; rw [p_mBegin_127]; simp only [lp]
  | succ r ih => intro k p s w n m t; rw [p_mBegin_127, ih]; simp only [lp]
theorem mb71 {p s w n m t A B C D E F : Nat → Int32} : ∀ (r k : Nat) (l h q : Nat → Int32), p_mBegin_71 p s w n m t A B C D E F r k l h q = p_mBegin_127 A B C D E F (lp (nI 0) r k l) (lp (nI 0) r k h) (lp (nI 0) r k q) 4 0 p s w n m t := by
  intro r
  induction r with
  | zero => intro k l h q; rw [p_mBegin_71]; simp only [lp]
  | succ r ih => intro k l h q; rw [p_mBegin_71, ih]; simp only [lp]
theorem mb7 {l h q p s w n m t : Nat → Int32} : ∀ (r k : Nat) (a b c d e f : Nat → Int32), p_mBegin_7 l h q p s w n m t r k a b c d e f = p_mBegin_71 p s w n m t (lp (nI 1000) r k a) (lp (nI 1000) r k b) (lp (nI 1000) r k c) (lp (nI 20000) r k d) (lp (nI 0) r k e) (lp (nI 0) r k f) 49 0 l h q := by
  intro r
  induction r with
  | zero => intro k a b c d e f; rw [p_mBegin_7]; simp only [lp]
  | succ r ih => intro k a b c d e f; rw [p_mBegin_7, ih]; simp only [lp]
theorem m_begin_lp : p_mBegin a b c d e f l h q p s w n m t = (lp (nI 1000) 6 0 a, lp (nI 1000) 6 0 b, lp (nI 1000) 6 0 c, lp (nI 20000) 6 0 d, lp (nI 0) 6 0 e, lp (nI 0) 6 0 f, lp (nI 0) 49 0 l, lp (nI 0) 49 0 h, lp (nI 0) 49 0 q, lp (nI 0) 4 0 p, lp (nI 0) 4 0 s, lp (-1) 4 0 w, lp (nI 0) 4 0 n, lp (nI 0) 4 0 m, lp (nI 0) 4 0 t, nI 0, nI 5000, nI 5000, nI 5000, nI 0, nI 0, nI 0, nI 0, nI 0) := by
  rw [p_mBegin, mb7, mb71, mb127]
end FR
section FS
variable {x : Nat → Nat → Int32} {f : Nat → Int32} {y : Nat → Nat → Int32} {yl : Nat → Nat → Int64} {g : Nat → Int32} {u1 u2 u3 u4 u5 u6 u7 u8 w1 w2 w3 w4 w5 w6 w7 : Nat → Int32}
theorem rl_new (hx2 : x 2 = lp (nI 1000) 6 0 u1) (hx3 : x 3 = lp (nI 1000) 6 0 u2) (hx4 : x 4 = lp (nI 1000) 6 0 u3) (hx5 : x 5 = lp (nI 0) 49 0 u4) (hx6 : x 6 = lp (nI 0) 49 0 u5) (hx7 : x 7 = lp (nI 0) 49 0 u6) (hx8 : x 8 = lp (nI 20000) 6 0 u7) (hx9 : x 9 = lp (nI 0) 4 0 u8)
    (hf0 : f 0 = nI 0) (hf1 : f 1 = nI 5000) (hf2 : f 2 = nI 5000) (hf3 : f 3 = nI 0) (hf4 : f 4 = nI 0) (hf5 : f 5 = nI 0) (hf6 : f 6 = nI 0)
    (hy1 : y 1 = lp (nI 1000) 6 0 u1) (hy2 : y 2 = lp (nI 1000) 6 0 u2) (hy3 : y 3 = lp (nI 1000) 6 0 u3) (hy4 : y 4 = lp (nI 0) 49 0 u4) (hy5 : y 5 = lp (nI 0) 49 0 u5) (hy6 : y 6 = lp (nI 0) 49 0 u6) (hy7 : y 7 = lp (nI 20000) 6 0 u7) (hy8 : y 8 = lp (nI 0) 4 0 u8)
    (hy14 : y 14 = lp (nI 0) 6 0 w1) (hy15 : y 15 = lp (nI 0) 6 0 w2) (hy16 : y 16 = lp (nI 0) 4 0 w3) (hy18 : y 18 = lp (-1) 4 0 w4) (hy19 : y 19 = lp (nI 0) 4 0 w5) (hy20 : y 20 = lp (nI 0) 4 0 w6) (hy21 : y 21 = lp (nI 0) 4 0 w7)
    (hg1 : g 1 = nI 0) (hg3 : g 3 = nI 5000) (hg4 : g 4 = nI 5000) (hg5 : g 5 = nI 0) (hg6 : g 6 = nI 0) (hg7 : g 7 = nI 0) (hg8 : g 8 = nI 0) (hg9 : g 9 = nI 0)
    (hid : ∀ j : Nat, j < 4 → x 13 j = nI 0) (htr : ∀ j : Nat, j < 4 → y 17 j = nI 0) (hst : ∀ j : Nat, j < 4 → vp_in (x 21 j) 4) (hwi : ∀ j : Nat, j < 4 → -1 ≤ (x 22 j).toInt ∧ (x 22 j).toInt ≤ 3) : Rel x f y yl g := by
  have q0 : (nI 0).toInt = 0 := by decide
  have q1 : (nI 1000).toInt = 1000 := by decide
  have q2 : (nI 20000).toInt = 20000 := by decide
  have q3 : (nI 5000).toInt = 5000 := by decide
  refine ⟨⟨⟨by rw [hx2, hy1], by rw [hx3, hy2], by rw [hx4, hy3]⟩, ⟨by rw [hx5, hy4], by rw [hx6, hy5], by rw [hx7, hy6]⟩, by rw [hx8, hy7], by rw [hx9, hy8], ⟨by rw [hf1, hg3], by rw [hf2, hg4]⟩, ⟨by rw [hf3, hg5], by rw [hf4, hg6], by rw [hf5, hg7], by rw [hf6, hg8]⟩, by rw [hf0, hg1], Or.inl (by rw [hf0]; decide)⟩, ⟨?_, ?_, ⟨?_, ?_⟩, ⟨?_, ?_, ?_, ?_⟩, ?_, ?_, ?_, ?_⟩, ⟨hid, htr, hst, ?_, hwi, ?_⟩, fun _ => ⟨?_, ?_, hg9⟩, fun h => absurd (hf0.symm.trans h) (by decide)⟩
  · intro n o hn ho
    rw [hx5, hx6, lp_0 (by omega), lp_0 (by omega)]; omega
  · intro n hn
    rw [hx2, hx3, lp_0 hn, lp_0 hn]; omega
  · intro n hn
    rw [hx2, hx3, hx4, lp_0 hn, lp_0 hn, lp_0 hn]; omega
  · intro n o hn ho
    rw [hx5, hx6, hx7, lp_0 (by omega), lp_0 (by omega), lp_0 (by omega)]; omega
  · intro j hj
    rw [hx9, lp_0 hj]; omega
  · rw [hx9, lp_0 (by omega), lp_0 (by omega)]; exact Int.le_refl _
  · rw [hx9, lp_0 (by omega), lp_0 (by omega)]; exact Int.le_refl _
  · rw [hx9, lp_0 (by omega), lp_0 (by omega)]; exact Int.le_refl _
  · rw [hf3, hf4, hf5, hf6]; unfold nu_leak; omega
  · intro n hn
    rw [hx8, lp_0 hn]; omega
  · rw [hf1, hf2]; omega
  · intro n o hn ho
    rw [hx5, hx6, lp_0 (by omega), lp_0 (by omega), lp_0 (by omega), lp_0 (by omega)]; exact ⟨rfl, rfl⟩
  · intro j hj
    rw [hy16, lp_0 hj]; exact vin_0
  · intro j hj
    rw [hy18, lp_0 hj, n_m1]; omega
  · intro j hj
    rw [hy14, hy15, lp_0 hj, lp_0 hj]; exact ⟨rfl, rfl⟩
  · intro j hj
    rw [hy16, hy18, hy19, hy20, hy21, lp_0 hj, lp_0 hj, lp_0 hj, lp_0 hj, lp_0 hj]; exact ⟨rfl, rfl, rfl, rfl, rfl⟩
end FS
