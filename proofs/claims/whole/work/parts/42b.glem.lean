theorem ni_in {i : Int32} {n : Nat} (hn : n < 2 ^ 31) (h : Sum.inr () = p_gNeedIndex i (nI n)) : vp_in i n := by
  unfold p_gNeedIndex at h
  split at h
  · cases h
  · split at h
    · rename_i h1 h2
      rw [Int32.lt_iff_toInt_lt, nI_toInt hn] at h2
      exact vp_in_hi h1 h2
    · cases h
theorem ni_lt {x n : Nat} (hx : x < 2 ^ 31) (hn : n < 2 ^ 31) (h : Sum.inr () = p_gNeedIndex (nI x) (nI n)) : x < n := by
  have h1 := ni_in hn h
  rw [vp_in_iff, nI_toInt hx] at h1
  omega
theorem nw_tick {n : Int32} (h : Sum.inr () = p_gNeedWithin n (nI 1) (nI 100)) : vp_in n 101 := by
  unfold p_gNeedWithin at h
  split at h
  · cases h
  · split at h
    · rename_i h1 h2; exact tick_in h1 h2
    · cases h
theorem nI_gtle {x : Nat} (h : ¬ nI x ≤ 0) : 0 < x := by
  rcases Nat.eq_zero_or_pos x with e | e
  · subst e; exact absurd (by decide) h
  · exact e
theorem bz_vp {x : Int32} (h : x = 0 ∨ x = 1) : vp_nar .boolean x = x := by rcases h with rfl | rfl <;> decide
theorem bz_isSafe_75 {idle : Nat → Int32} {leakBase leakSlope leakSteep leakKnee : Int32} {lowCap highCap lowE highE lim powr : Nat → Int32} : ∀ (r k : Nat) (b g : Int32) (t q : Nat → Int32), (p_isSafe_75 idle leakBase leakSlope leakSteep leakKnee lowCap highCap lowE highE lim powr r k b g t q).1 = 0 ∨ (p_isSafe_75 idle leakBase leakSlope leakSteep leakKnee lowCap highCap lowE highE lim powr r k b g t q).1 = 1 := by
  intro r
  induction r with
  | zero =>
    intros
    unfold p_isSafe_75
    repeat' split
    all_goals first | exact Or.inl rfl | exact Or.inr rfl
  | succ r ih =>
    intros
    unfold p_isSafe_75
    simp only [ap3]
    repeat' split
    all_goals first | exact Or.inl rfl | exact Or.inr rfl | exact ih _ _ _ _ _
theorem bz_isSafe_27 {idle : Nat → Int32} {leakBase leakSlope leakSteep leakKnee : Int32} {lowCap highCap lowE highE lim powr stp : Nat → Int32} : ∀ (r k : Nat) (b : Int32) (t q : Nat → Int32), (p_isSafe_27 idle leakBase leakSlope leakSteep leakKnee lowCap highCap lowE highE lim powr stp r k b t q).1 = 0 ∨ (p_isSafe_27 idle leakBase leakSlope leakSteep leakKnee lowCap highCap lowE highE lim powr stp r k b t q).1 = 1 := by
  intro r
  induction r with
  | zero => intros; exact bz_isSafe_75 _ _ _ _ _ _
  | succ r ih =>
    intros
    unfold p_isSafe_27
    simp only [ap3]
    split
    · exact bz_isSafe_75 _ _ _ _ _ _
    · exact ih _ _ _ _
theorem bz_isSafeE {trial idle : Nat → Int32} {leakBase leakSlope leakSteep leakKnee : Int32} {lowCap highCap lowE highE lim powr grow bnd stp : Nat → Int32} {v : Int32} {y : (Nat → Int32) × (Nat → Int32)} (h : (v, y) = p_isSafe trial idle leakBase leakSlope leakSteep leakKnee lowCap highCap lowE highE lim powr grow bnd stp) : v = 0 ∨ v = 1 := by
  have e : v = (p_isSafe trial idle leakBase leakSlope leakSteep leakKnee lowCap highCap lowE highE lim powr grow bnd stp).1 := congrArg Prod.fst h
  rw [e]; exact bz_isSafe_27 _ _ _ _ _
theorem coresPass_vinE {held : Int32} {steps x : Nat → Int32} {y : Int32} (hs : ∀ j, j < 4 → vp_in (steps j) 4) (h : (x, y) = p_coresPass held steps) : ∀ j, j < 4 → vp_in (x j) 4 := by
  have e : x = (p_coresPass held steps).1 := congrArg Prod.fst h
  rw [e]; unfold p_coresPass
  simp only [ap1]
  repeat' split
  all_goals first | exact hs | exact fill4_in vin_0
theorem coresBegin_vinE {steps wishes ranks waits told x : Nat → Int32} {y : (Nat → Int32) × (Nat → Int32) × (Nat → Int32) × (Nat → Int32) × Int32} (h : (x, y) = p_coresBegin steps wishes ranks waits told) : ∀ j, j < 4 → vp_in (x j) 4 := by
  have e : x = (p_coresBegin steps wishes ranks waits told).1 := congrArg Prod.fst h
  rw [e]; unfold p_coresBegin
  simp only [ap1]
  exact fill4_in vin_0
