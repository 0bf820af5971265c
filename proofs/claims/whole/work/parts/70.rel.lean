/-! what holds between the class's world and the reference's, between two calls of the script -/
section RL
def RelC (x : Nat → Nat → Int32) (f : Nat → Int32) (y : Nat → Nat → Int32) (g : Nat → Int32) : Prop :=
  (x 2 = y 1 ∧ x 3 = y 2 ∧ x 4 = y 3) ∧ (x 5 = y 4 ∧ x 6 = y 5 ∧ x 7 = y 6) ∧ x 8 = y 7 ∧ x 9 = y 8 ∧ (f 1 = g 3 ∧ f 2 = g 4) ∧ (f 3 = g 5 ∧ f 4 = g 6 ∧ f 5 = g 7 ∧ f 6 = g 8) ∧ f 0 = g 1 ∧ (f 0 = 0 ∨ f 0 = 1)
def RelR (x : Nat → Nat → Int32) (f : Nat → Int32) : Prop :=
  cf_E (x 5) (x 6) ∧ cf_C (x 2) (x 3) ∧ cf_T (x 2) (x 3) (x 4) (x 5) (x 6) (x 7) ∧ (cf_P (x 9) ∧ (x 9 0).toInt ≤ (x 9 1).toInt ∧ (x 9 1).toInt ≤ (x 9 2).toInt ∧ (x 9 2).toInt ≤ (x 9 3).toInt) ∧ nu_leak (f 3) (f 4) (f 5) (f 6) ∧ (∀ n : Nat, n < 6 → 0 ≤ (x 8 n).toInt ∧ (x 8 n).toInt ≤ 50000) ∧ (0 ≤ (f 1).toInt ∧ (f 1).toInt ≤ (f 2).toInt ∧ (f 2).toInt ≤ 50000) ∧ cf_Sy (x 5) (x 6)
def RelA (x y : Nat → Nat → Int32) : Prop :=
  (∀ j : Nat, j < 4 → x 13 j = nI 0) ∧ (∀ j : Nat, j < 4 → y 17 j = nI 0) ∧ (∀ j : Nat, j < 4 → vp_in (x 21 j) 4) ∧ (∀ j : Nat, j < 4 → vp_in (y 16 j) 4) ∧ (∀ j : Nat, j < 4 → -1 ≤ (x 22 j).toInt ∧ (x 22 j).toInt ≤ 3) ∧ (∀ j : Nat, j < 4 → -1 ≤ (y 18 j).toInt ∧ (y 18 j).toInt ≤ 3)
/-- not sealed: what the reference has cleared -/
def RelU (y : Nat → Nat → Int32) (g : Nat → Int32) : Prop :=
  (∀ j : Nat, j < 6 → y 14 j = nI 0 ∧ y 15 j = nI 0) ∧ (∀ j : Nat, j < 4 → y 16 j = nI 0 ∧ y 18 j = -1 ∧ y 19 j = nI 0 ∧ y 20 j = nI 0 ∧ y 21 j = nI 0) ∧ g 9 = nI 0
/-- sealed -/
def RelS (x : Nat → Nat → Int32) (f : Nat → Int32) (y : Nat → Nat → Int32) (yl : Nat → Nat → Int64) (g : Nat → Int32) : Prop :=
  cf_K (x 2) (x 3) (x 5) (x 6) (x 8) (x 9) (f 3) (f 4) (f 5) (f 6) ∧ sl_I (x 2) (x 3) (x 5) (x 6) (x 8) (x 9) (f 1) (f 2) (f 3) (f 4) (f 5) (f 6) (x 13) (x 15) (x 16) (x 17) (x 18) (x 19) (f 7) (x 21) (x 25) (yl 9) (yl 10) (yl 11) (y 14) (y 15) (y 16) (y 21) (g 9) ∧
  (∀ j : Nat, j < 4 → x 22 j = y 18 j) ∧ (∀ j : Nat, j < 4 → x 23 j = y 19 j) ∧ ∀ j : Nat, j < 4 → x 24 j = y 20 j
def Rel (x : Nat → Nat → Int32) (f : Nat → Int32) (y : Nat → Nat → Int32) (yl : Nat → Nat → Int64) (g : Nat → Int32) : Prop :=
  RelC x f y g ∧ RelR x f ∧ RelA x y ∧ (f 0 = 0 → RelU y g) ∧ (f 0 = 1 → RelS x f y yl g)
variable {x : Nat → Nat → Int32} {f : Nat → Int32} {y : Nat → Nat → Int32} {yl : Nat → Nat → Int64} {g : Nat → Int32}
theorem rl_nz {v : Int32} (h : 1 ≤ v.toInt) : ¬ v = 0 := fun e => by rw [e, n_0] at h; omega
theorem rl_id (R : Rel x f y yl g) : ∀ j, j < 4 → vp_in (x 13 j) 4 := fun j hj => by rw [R.2.2.1.1 j hj]; exact vin_0
theorem rl_lo (R : Rel x f y yl g) : ∀ j, j < 6 → ¬ x 2 j = 0 := fun j hj => rl_nz (R.2.1.2.1 j hj).1
theorem rl_hi (R : Rel x f y yl g) : ∀ j, j < 6 → ¬ x 3 j = 0 := fun j hj => rl_nz (by have := R.2.1.2.1 j hj; omega)
theorem rl_tc (R : Rel x f y yl g) : ∀ j, j < 6 → ¬ x 4 j = 0 := fun j hj => rl_nz (by have h1 := R.2.1.2.1 j hj; have h2 := R.2.1.2.2.1.1 j hj; omega)
theorem rl_st (R : Rel x f y yl g) : ∀ j, j < 4 → vp_in (x 21 j) 4 := R.2.2.1.2.2.1
theorem rl_wi (R : Rel x f y yl g) : ∀ j, j < 4 → (x 22 j).toInt ≤ 3 := fun j hj => (R.2.2.1.2.2.2.2.1 j hj).2
theorem rl_wx (R : Rel x f y yl g) : ∀ j, j < 4 → vp_in (if x 22 j < nI 0 then nI 0 else x 22 j) 4 := fun j hj => by
  by_cases h : x 22 j < nI 0
  · rw [if_pos h]; exact vin_0
  · rw [if_neg h]
    have e0 : (nI 0).toInt = 0 := by decide
    have h' : ¬ (x 22 j).toInt < (nI 0).toInt := fun q => h (n_lt.mpr q)
    exact vp_in_iff.mpr ⟨by omega, by have := rl_wi R j hj; omega⟩
theorem rl_mlo (R : Rel x f y yl g) : ∀ j, j < 6 → ¬ y 1 j = 0 := by rw [← R.1.1.1]; exact rl_lo R
theorem rl_mhi (R : Rel x f y yl g) : ∀ j, j < 6 → ¬ y 2 j = 0 := by rw [← R.1.1.2.1]; exact rl_hi R
theorem rl_mtc (R : Rel x f y yl g) : ∀ j, j < 6 → ¬ y 3 j = 0 := by rw [← R.1.1.2.2]; exact rl_tc R
theorem rl_mst (R : Rel x f y yl g) : ∀ j, j < 4 → vp_in (y 16 j) 4 := R.2.2.1.2.2.2.1
theorem rl_tr (R : Rel x f y yl g) : ∀ j, j < 4 → vp_in (y 17 j) 4 := fun j hj => by rw [R.2.2.1.2.1 j hj]; exact vin_0
theorem rl_mwi (R : Rel x f y yl g) : ∀ j, j < 4 → (y 18 j).toInt ≤ 3 := fun j hj => (R.2.2.1.2.2.2.2.2 j hj).2
end RL
