/-! joined with the air: six rounds from a copy, and passes in place, find the same -/
section JN
def jb (x j : Nat) : Nat := if x.testBit j = true then 1 else 0
def jpc (x : Nat) : Nat := jb x 0 + jb x 1 + jb x 2 + jb x 3 + jb x 4 + jb x 5 + jb x 6
def jsub (x y : Nat) : Prop := ∀ j : Nat, j < 7 → x.testBit j = true → y.testBit j = true
def jcl (hE : Nat → Int32) (x : Nat) : Prop := ∀ a o : Nat, a < 7 → o < 7 → x.testBit a = true → 0 < hE (7 * a + o) → x.testBit o = true
theorem jsub_rf (x : Nat) : jsub x x := fun _ _ h => h
theorem jsub_tr {x y z : Nat} (h1 : jsub x y) (h2 : jsub y z) : jsub x z := fun j hj h => h2 j hj (h1 j hj h)
theorem j_ext {x y : Nat} (hx : x < 128) (hy : y < 128) (h : ∀ j : Nat, j < 7 → x.testBit j = y.testBit j) : x = y := by
  refine Nat.eq_of_testBit_eq fun j => ?_
  by_cases hj : j < 7
  · exact h j hj
  · have hp : 2 ^ 7 ≤ 2 ^ j := Nat.pow_le_pow_right (by omega) (by omega)
    rw [Nat.testBit_lt_two_pow (show x < 2 ^ j by omega), Nat.testBit_lt_two_pow (show y < 2 ^ j by omega)]
theorem j_anti {x y : Nat} (hx : x < 128) (hy : y < 128) (h1 : jsub x y) (h2 : jsub y x) : x = y := by
  refine j_ext hx hy fun j hj => ?_
  cases e1 : x.testBit j with
  | true => exact (h1 j hj e1).symm
  | false =>
    cases e2 : y.testBit j with
    | true => exact absurd (h2 j hj e2) (by rw [e1]; decide)
    | false => rfl
theorem jb_le {x y j : Nat} (h : jsub x y) (hj : j < 7) : jb x j ≤ jb y j ∧ jb y j ≤ 1 := by
  unfold jb
  constructor
  · split
    · rw [if_pos (h j hj (by assumption))]; exact Nat.le_refl _
    · exact Nat.zero_le _
  · split <;> omega
theorem jb_eq {x y j : Nat} (h : jb x j = jb y j) : x.testBit j = y.testBit j := by
  unfold jb at h
  cases e1 : x.testBit j <;> cases e2 : y.testBit j <;> simp [e1, e2] at h <;> rfl
theorem jpc_lt {x y : Nat} (hx : x < 128) (hy : y < 128) (h : jsub x y) (hne : ¬ y = x) : jpc x + 1 ≤ jpc y := by
  by_cases hc : jpc x + 1 ≤ jpc y
  · exact hc
  · exfalso
    unfold jpc at hc
    have h0 := (jb_le h (show 0 < 7 by omega)).1
    have h1 := (jb_le h (show 1 < 7 by omega)).1
    have h2 := (jb_le h (show 2 < 7 by omega)).1
    have h3 := (jb_le h (show 3 < 7 by omega)).1
    have h4 := (jb_le h (show 4 < 7 by omega)).1
    have h5 := (jb_le h (show 5 < 7 by omega)).1
    have h6 := (jb_le h (show 6 < 7 by omega)).1
    refine hne (j_ext hy hx fun j hj => ?_)
    rcases (show j = 0 ∨ j = 1 ∨ j = 2 ∨ j = 3 ∨ j = 4 ∨ j = 5 ∨ j = 6 by omega) with rfl | rfl | rfl | rfl | rfl | rfl | rfl
    · exact jb_eq (by omega)
    · exact jb_eq (by omega)
    · exact jb_eq (by omega)
    · exact jb_eq (by omega)
    · exact jb_eq (by omega)
    · exact jb_eq (by omega)
    · exact jb_eq (by omega)
theorem j127 {j : Nat} (hj : j < 7) : Nat.testBit 127 j = true := by
  rcases (show j = 0 ∨ j = 1 ∨ j = 2 ∨ j = 3 ∨ j = 4 ∨ j = 5 ∨ j = 6 by omega) with rfl | rfl | rfl | rfl | rfl | rfl | rfl <;> decide
theorem jpc_7 {x : Nat} (hx : x < 128) (h : 7 ≤ jpc x) : x = 127 := by
  have h9 : jsub x 127 := fun j hj _ => j127 hj
  by_cases e : 127 = x
  · exact e.symm
  · have := jpc_lt hx (by omega) h9 e
    have h7 : jpc 127 = 7 := by decide
    omega
theorem j_all {x : Nat} (hx : x < 128) (h : jsub 127 x) : x = 127 := (j_anti (by omega) hx h (fun j hj _ => j127 hj)).symm
set_option maxRecDepth 100000 in
theorem j_tab : ∀ m : Nat, m < 7 → ∀ x : Nat, x < 128 → ((nI x &&& (nI 1 <<< (nI m &&& 31))) = 0 ↔ x.testBit m = false) ∧ (((nI x >>> (nI m &&& 31)) &&& nI 1) = nI 1 ↔ x.testBit m = true) ∧ ∀ j : Nat, j < 7 → (x ||| 1 <<< m).testBit j = (x.testBit j || decide (j = m)) := by decide +kernel
theorem j_or {x m j : Nat} (hm : m < 7) (hx : x < 128) (hj : j < 7) : (x ||| 1 <<< m).testBit j = true ↔ x.testBit j = true ∨ j = m := by
  rw [(j_tab m hm x hx).2.2 j hj]
  simp
theorem jnI {x y : Nat} (hx : x < 128) (hy : y < 128) : nI x = nI y ↔ x = y := nI_eq (by omega) (by omega)
variable {hE : Nat → Int32}
theorem c_wn13 {x k : Nat} (hx : x < 128) (hk : k < 7) : ∀ (r j0 y : Nat), j0 + r = 7 → y < 128 → ∃ y' : Nat, y' < 128 ∧ p_withNeighbours_13 hE (nI x) k r j0 (nI y) = nI y' ∧ ∀ j : Nat, j < 7 → (y'.testBit j = true ↔ y.testBit j = true ∨ (j0 ≤ j ∧ x.testBit k = true ∧ 0 < hE (7 * k + j))) := by
  intro r
  induction r with
  | zero => intro j0 y hj hy; exact ⟨y, hy, rfl, fun j h7 => ⟨Or.inl, fun q => q.elim id fun q => by omega⟩⟩
  | succ r ih =>
    intro j0 y hj hy
    have hi : k * 7 + j0 = 7 * k + j0 := by omega
    unfold p_withNeighbours_13
    rw [hi]
    by_cases h1 : (nI x &&& (nI 1 <<< (nI k &&& 31))) = 0
    · rw [if_pos h1]
      have hb := ((j_tab k hk x hx).1).mp h1
      obtain ⟨y', a1, a2, a3⟩ := ih (j0 + 1) y (by omega) hy
      refine ⟨y', a1, a2, fun j h7 => (a3 j h7).trans ⟨fun q => q.elim Or.inl fun q => absurd q.2.1 (by rw [hb]; decide), fun q => q.elim Or.inl fun q => absurd q.2.1 (by rw [hb]; decide)⟩⟩
    · rw [if_neg h1]
      have hb : x.testBit k = true := by
        cases e : x.testBit k with
        | true => rfl
        | false => exact absurd ((j_tab k hk x hx).1.mpr e) h1
      by_cases h2 : hE (7 * k + j0) ≤ 0
      · rw [if_pos h2]
        obtain ⟨y', a1, a2, a3⟩ := ih (j0 + 1) y (by omega) hy
        refine ⟨y', a1, a2, fun j h7 => (a3 j h7).trans ⟨fun q => q.elim Or.inl fun q => Or.inr ⟨by omega, q.2⟩, fun q => q.elim Or.inl fun q => ?_⟩⟩
        by_cases e : j = j0
        · subst e
          have g1 := n_lt.mp q.2.2
          have g2 := n_le.mp h2
          omega
        · exact Or.inr ⟨by omega, q.2⟩
      · rw [if_neg h2]
        have h2' : 0 < hE (7 * k + j0) := n_lt.mpr (by have : ¬ (hE (7 * k + j0)).toInt ≤ (0 : Int32).toInt := fun q => h2 (n_le.mpr q); omega)
        have hj7 : j0 < 7 := by omega
        obtain ⟨t1, t2, t3⟩ := jn_tab j0 hj7 y hy
        rw [t3]
        obtain ⟨y', a1, a2, a3⟩ := ih (j0 + 1) (y ||| 1 <<< j0) (by omega) t2
        refine ⟨y', a1, a2, fun j h7 => (a3 j h7).trans ?_⟩
        rw [j_or hj7 hy h7]
        constructor
        · rintro ((q | q) | q)
          · exact Or.inl q
          · subst q; exact Or.inr ⟨Nat.le_refl _, hb, h2'⟩
          · exact Or.inr ⟨by omega, q.2⟩
        · rintro (q | q)
          · exact Or.inl (Or.inl q)
          · by_cases e : j = j0
            · exact Or.inl (Or.inr e)
            · exact Or.inr ⟨by omega, q.2⟩
theorem c_wn4 {x : Nat} (hx : x < 128) : ∀ (r k y : Nat), k + r = 7 → y < 128 → ∃ y' : Nat, y' < 128 ∧ p_withNeighbours_4 hE (nI x) r k (nI y) = nI y' ∧ ∀ j : Nat, j < 7 → (y'.testBit j = true ↔ y.testBit j = true ∨ ∃ a : Nat, k ≤ a ∧ a < 7 ∧ x.testBit a = true ∧ 0 < hE (7 * a + j)) := by
  intro r
  induction r with
  | zero => intro k y hk hy; exact ⟨y, hy, rfl, fun j h7 => ⟨Or.inl, fun q => q.elim id fun ⟨a, q⟩ => by omega⟩⟩
  | succ r ih =>
    intro k y hk hy
    unfold p_withNeighbours_4
    obtain ⟨y1, a1, a2, a3⟩ := c_wn13 (hE := hE) hx (show k < 7 by omega) 7 0 y rfl hy
    simp only [ap1]
    rw [a2]
    obtain ⟨y', b1, b2, b3⟩ := ih (k + 1) y1 (by omega) a1
    refine ⟨y', b1, b2, fun j h7 => (b3 j h7).trans ?_⟩
    rw [a3 j h7]
    constructor
    · rintro ((q | q) | ⟨a, q1, q2, q3⟩)
      · exact Or.inl q
      · exact Or.inr ⟨k, Nat.le_refl _, by omega, q.2⟩
      · exact Or.inr ⟨a, by omega, q2, q3⟩
    · rintro (q | ⟨a, q1, q2, q3⟩)
      · exact Or.inl (Or.inl q)
      · by_cases e : a = k
        · subst e; exact Or.inl (Or.inr ⟨Nat.zero_le _, q3⟩)
        · exact Or.inr ⟨a, by omega, q2, q3⟩
/-- the least set with the air that is closed -/
def jleast (hE : Nat → Int32) (M : Nat) : Prop := M < 128 ∧ jsub 64 M ∧ jcl hE M ∧ ∀ c : Nat, jsub 64 c → jcl hE c → jsub M c
theorem c_join5 {M : Nat} (hM : jleast hE M) : ∀ (r k x : Nat), x < 128 → jsub 64 x → (∀ c : Nat, jsub 64 c → jcl hE c → jsub x c) → (jcl hE x ∨ 7 ≤ jpc x + r) → p_isJoined_5 hE r k (nI x) = if M = 127 then nI 1 else nI 0 := by
  obtain ⟨m1, m2, m3, m4⟩ := hM
  intro r
  induction r with
  | zero =>
    intro k x hx h64 hl hc
    unfold p_isJoined_5
    have e : x = M := by
      rcases hc with h | h
      · exact j_anti hx m1 (hl M m2 m3) (m4 x h64 h)
      · have e7 := jpc_7 hx h
        have h9 := hl M m2 m3
        rw [e7] at h9 ⊢
        exact (j_all m1 h9).symm
    subst e
    by_cases h : x = 127
    · rw [if_pos h, if_pos ((jnI hx (by omega)).mpr h)]
    · rw [if_neg h, if_neg (fun q => h ((jnI hx (by omega)).mp q))]
  | succ r ih =>
    intro k x hx h64 hl hc
    unfold p_isJoined_5
    obtain ⟨y, a1, a2, a3⟩ := c_wn4 (hE := hE) hx 7 0 x rfl hx
    have e : p_withNeighbours hE (nI x) = nI y := a2
    rw [e]
    have hxy : jsub x y := fun j hj h => (a3 j hj).mpr (Or.inl h)
    refine ih (k + 1) y a1 (jsub_tr h64 hxy) (fun c h1 h2 j hj h => ?_) ?_
    · rcases (a3 j hj).mp h with q | ⟨a, _, q2, q3, q4⟩
      · exact hl c h1 h2 j hj q
      · exact h2 a j q2 hj (hl c h1 h2 a q2 q3) q4
    · by_cases e9 : y = x
      · left
        rw [e9]
        intro a o ha ho g1 g2
        have := (a3 o ho).mpr (Or.inr ⟨a, Nat.zero_le _, ha, g1, g2⟩)
        rw [e9] at this
        exact this
      · right
        rcases hc with h | h
        · refine absurd (j_anti a1 hx (fun j hj q => ?_) hxy) e9
          rcases (a3 j hj).mp q with q | ⟨a, _, q2, q3, q4⟩
          · exact q
          · exact h a j q2 hj q3 q4
        · have := jpc_lt hx a1 hxy e9
          omega
theorem m_join14 : ∀ (r k y : Nat), k + r = 49 → y < 128 → ∃ y' : Nat, y' < 128 ∧ p_mAreJoined_14 hE r k (nI y) = nI y' ∧ y ≤ y' ∧ jsub y y' ∧ (∀ c : Nat, jsub y c → jcl hE c → jsub y' c) ∧ (y' = y → ∀ i : Nat, k ≤ i → i < 49 → 0 < hE i → y.testBit (i / 7) = true → y.testBit (i % 7) = true) := by
  intro r
  induction r with
  | zero => intro k y hk hy; exact ⟨y, hy, rfl, Nat.le_refl _, jsub_rf y, fun c h _ => h, fun _ i h1 h2 => by omega⟩
  | succ r ih =>
    intro k y hk hy
    have hd : k / 7 < 7 := by omega
    have hm : k % 7 < 7 := by omega
    have h7 : 7 * (k / 7) + k % 7 = k := by omega
    unfold p_mAreJoined_14
    by_cases h1 : hE k ≤ 0
    · rw [if_pos h1]
      obtain ⟨y', a1, a2, a3, a4, a5, a6⟩ := ih (k + 1) y (by omega) hy
      refine ⟨y', a1, a2, a3, a4, a5, fun e i g1 g2 g3 g4 => ?_⟩
      by_cases e9 : i = k
      · subst e9
        have q1 := n_lt.mp g3
        have q2 := n_le.mp h1
        omega
      · exact a6 e i (by omega) g2 g3 g4
    · rw [if_neg h1]
      have h1' : 0 < hE k := n_lt.mpr (by have : ¬ (hE k).toInt ≤ (0 : Int32).toInt := fun q => h1 (n_le.mpr q); omega)
      by_cases h2 : ((nI y >>> (nI (k / 7) &&& 31)) &&& nI 1) = nI 1
      · rw [if_pos h2]
        have hb := ((j_tab (k / 7) hd y hy).2.1).mp h2
        obtain ⟨t1, t2, t3⟩ := jn_tab (k % 7) hm y hy
        rw [t3]
        obtain ⟨y', a1, a2, a3, a4, a5, a6⟩ := ih (k + 1) (y ||| 1 <<< (k % 7)) (by omega) t2
        have hs : jsub y (y ||| 1 <<< (k % 7)) := fun j hj h => (j_or hm hy hj).mpr (Or.inl h)
        refine ⟨y', a1, a2, Nat.le_trans t1 a3, jsub_tr hs a4, fun c g1 g2 => a5 c (fun j hj g3 => ?_) g2, fun e => ?_⟩
        · rcases (j_or hm hy hj).mp g3 with q | q
          · exact g1 j hj q
          · subst q
            exact g2 (k / 7) (k % 7) hd hm (g1 _ hd hb) (by rw [h7]; exact h1')
        · have e1 : (y ||| 1 <<< (k % 7)) = y := by omega
          intro i g1 g2 g3 g4
          by_cases e9 : i = k
          · subst e9
            have := (j_or (j := i % 7) hm hy hm).mpr (Or.inr rfl)
            rw [e1] at this
            exact this
          · have := a6 (by omega) i (by omega) g2 g3
            rw [e1] at this
            exact this g4
      · rw [if_neg h2]
        obtain ⟨y', a1, a2, a3, a4, a5, a6⟩ := ih (k + 1) y (by omega) hy
        refine ⟨y', a1, a2, a3, a4, a5, fun e i g1 g2 g3 g4 => ?_⟩
        by_cases e9 : i = k
        · subst e9
          exact absurd ((j_tab (i / 7) hd y hy).2.1.mpr g4) h2
        · exact a6 e i (by omega) g2 g3 g4
theorem m_join5 : ∀ (r x : Nat) (bef : Int32), x < 128 → jsub 64 x → (∀ c : Nat, jsub 64 c → jcl hE c → jsub x c) → (nI x = bef → jcl hE x) → (nI x = bef ∨ 127 < x + r) → ∃ M : Nat, jleast hE M ∧ p_mAreJoined_5 hE r (nI x) bef = if M = 127 then nI 1 else nI 0 := by
  have fin : ∀ (x : Nat), x < 128 → jsub 64 x → (∀ c : Nat, jsub 64 c → jcl hE c → jsub x c) → jcl hE x → ∃ M : Nat, jleast hE M ∧ (if nI x = nI 127 then nI 1 else nI 0) = if M = 127 then nI 1 else nI 0 := by
    intro x hx h64 hl hc
    refine ⟨x, ⟨hx, h64, hc, hl⟩, ?_⟩
    by_cases h : x = 127
    · rw [if_pos h, if_pos ((jnI hx (by omega)).mpr h)]
    · rw [if_neg h, if_neg (fun q => h ((jnI hx (by omega)).mp q))]
  intro r
  induction r with
  | zero =>
    intro x bef hx h64 hl hc hf
    unfold p_mAreJoined_5
    exact fin x hx h64 hl (hc (by rcases hf with h | h; exact h; omega))
  | succ r ih =>
    intro x bef hx h64 hl hc hf
    unfold p_mAreJoined_5
    by_cases hb : nI x = bef
    · rw [if_pos hb]
      exact fin x hx h64 hl (hc hb)
    · rw [if_neg hb]
      obtain ⟨y', a1, a2, a3, a4, a5, a6⟩ := m_join14 (hE := hE) 49 0 x rfl hx
      simp only [ap1]
      rw [a2]
      refine ih y' (nI x) a1 (jsub_tr h64 a4) (fun c g1 g2 => a5 c (hl c g1 g2) g2) (fun e => ?_) ?_
      · have e1 := (jnI a1 hx).mp e
        rw [e1]
        intro a o ha ho g1 g2
        have h9 := a6 e1 (7 * a + o) (Nat.zero_le _) (by omega) g2
        rw [show (7 * a + o) / 7 = a by omega, show (7 * a + o) % 7 = o by omega] at h9
        exact h9 g1
      · by_cases e1 : y' = x
        · left; rw [e1]
        · right
          rcases hf with h | h
          · exact absurd h hb
          · omega
/-- both say the same of every package -/
theorem s_joined (hE : Nat → Int32) : p_isJoined hE = p_mAreJoined hE := by
  obtain ⟨M, hM, e⟩ := m_join5 (hE := hE) 64 64 (nI 0) (by omega) (jsub_rf 64) (fun c h _ => h) (fun h => absurd h (by decide)) (Or.inr (by omega))
  have e2 : p_mAreJoined hE = if M = 127 then nI 1 else nI 0 := e
  rw [e2]
  exact c_join5 hM 6 0 64 (by omega) (jsub_rf 64) (fun c h _ => h) (Or.inr (by decide))
end JN
