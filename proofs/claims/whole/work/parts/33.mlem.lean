theorem vp_in_hi {x : Int32} {n : Nat} (h0 : ¬ x < 0) (h1 : x.toInt < n) : vp_in x n := by
  rw [Int32.lt_iff_toInt_lt] at h0
  have h2 : (0 : Int32).toInt = 0 := by decide
  rw [vp_in_iff]
  omega
theorem go_sub {x : Int32} (h : ¬ x ≤ 0) (hx : vp_in x 4) : vp_in (x - nI 1) 4 := by
  rw [Int32.le_iff_toInt_le] at h
  rw [vp_in_iff] at hx ⊢
  have h0 : (0 : Int32).toInt = 0 := by decide
  have h1 : (nI 1 : Int32).toInt = 1 := by decide
  rw [Int32.toInt_sub, h1, Int.bmod_eq_of_le (by omega) (by omega)]
  omega
theorem mGrantOne_in {qairHigh qbase qslope qsteep qknee : Int32} {qlowCap qhighCap qlow qhigh qlimits qpow : Nat → Int32} {qbounds : Nat → Int64} {qsteps : Nat → Int32} {k : Nat} (hs : ∀ j, j < 4 → vp_in (qsteps j) 4) : ∀ (r : Nat) (stp found : Int32) (trd : Nat → Int32) (nxt prb : Nat → Int64), vp_in stp 4 → ∀ j, j < 4 → vp_in ((p_mGrantOne_9 qairHigh qbase qslope qsteep qknee qlowCap qhighCap qlow qhigh qlimits qpow qbounds qsteps k r stp found trd nxt prb).1 j) 4 := by
  intro r
  induction r with
  | zero =>
    intro stp found trd nxt prb h
    unfold p_mGrantOne_9
    split <;> exact vin_upd hs h
  | succ r ih =>
    intro stp found trd nxt prb h
    unfold p_mGrantOne_9
    split
    · exact vin_upd hs h
    · split
      · simp only [ap1, ap4]
        split
        · exact ih _ _ _ _ _ (go_sub (by assumption) h)
        · exact ih _ _ _ _ _ h
      · exact vin_upd hs h
theorem mGrantOne_vinE {qairHigh qbase qslope qsteep qknee : Int32} {qlowCap qhighCap qlow qhigh qlimits qpow : Nat → Int32} {qbounds qnext qprobe : Nat → Int64} {qtried qsteps qwishes : Nat → Int32} {k : Nat} {x : Nat → Int32} {y : (Nat → Int32) × (Nat → Int64) × (Nat → Int64)} (hw : vp_in (qwishes k) 4) (hs : ∀ j, j < 4 → vp_in (qsteps j) 4) (h : (x, y) = p_mGrantOne qairHigh qbase qslope qsteep qknee qlowCap qhighCap qlow qhigh qlimits qpow qbounds qnext qprobe qtried qsteps qwishes k) : ∀ j, j < 4 → vp_in (x j) 4 := by
  have e : x = (p_mGrantOne qairHigh qbase qslope qsteep qknee qlowCap qhighCap qlow qhigh qlimits qpow qbounds qnext qprobe qtried qsteps qwishes k).1 := congrArg Prod.fst h
  rw [e]; exact mGrantOne_in hs 3 _ _ _ _ _ hw
theorem mTickOnce_141in {u1_0 u2_0 bou pea : Nat → Int64} : ∀ (r k : Nat) (sts : Nat → Int32) (left2 : Int32), (∀ j, j < 4 → vp_in (sts j) 4) → ∀ j, j < 4 → vp_in ((p_mTickOnce_141 u1_0 u2_0 bou pea r k sts left2).2.2.2.2.1 j) 4 := by
  intro r
  induction r with
  | zero => intro k sts left2 h; exact h
  | succ r ih =>
    intro k sts left2 h
    unfold p_mTickOnce_141
    split
    · exact ih _ _ _ (vin_upd h vin_0)
    · exact h
theorem mTickOnce_19in {qleft : Int32} {qerrors qdead qsteps : Nat → Int32} {u1_0 u2_0 : Nat → Int64} (h : ∀ j, j < 4 → vp_in (qsteps j) 4) : ∀ (r k : Nat) (bou pea : Nat → Int64), ∀ j, j < 4 → vp_in ((p_mTickOnce_19 qleft qerrors qdead qsteps u1_0 u2_0 r k bou pea).2.2.2.2.1 j) 4 := by
  intro r
  induction r with
  | zero => intro k bou pea; unfold p_mTickOnce_19; split <;> exact mTickOnce_141in _ _ _ _ h
  | succ r ih =>
    intro k bou pea
    unfold p_mTickOnce_19
    repeat' split
    all_goals exact ih _ _ _
theorem mTickOnce_vinE {qairTrue qairHigh qbase qslope qsteep qknee qleft : Int32} {qlowCap qhighCap qtruCap qlow qhigh qreal qpow : Nat → Int32} {qwarm qbounds qpeaks qnext : Nat → Int64} {qerrors qdead qsteps qdraws : Nat → Int32} {x0 x1 x2 x3 : Nat → Int64} {x : Nat → Int32} {y : Int32} (hs : ∀ j, j < 4 → vp_in (qsteps j) 4) (h : (x0, x1, x2, x3, x, y) = p_mTickOnce qairTrue qairHigh qbase qslope qsteep qknee qleft qlowCap qhighCap qtruCap qlow qhigh qreal qpow qwarm qbounds qpeaks qnext qerrors qdead qsteps qdraws) : ∀ j, j < 4 → vp_in (x j) 4 := by
  have e : x = (p_mTickOnce qairTrue qairHigh qbase qslope qsteep qknee qleft qlowCap qhighCap qtruCap qlow qhigh qreal qpow qwarm qbounds qpeaks qnext qerrors qdead qsteps qdraws).2.2.2.2.1 := congrArg (fun z => z.2.2.2.2.1) h
  rw [e]; unfold p_mTickOnce; simp only [ap2, ap3]; exact mTickOnce_19in hs _ _ _ _
theorem bz_mIsSafe_89 {qairHigh qbase qslope qsteep qknee : Int32} {qlowCap qhighCap qlow qhigh qlimits qpow trd : Nat → Int32} : ∀ (r k : Nat) (right : Int32) (prb nxt : Nat → Int64), (p_mIsSafe_89 qairHigh qbase qslope qsteep qknee qlowCap qhighCap qlow qhigh qlimits qpow trd r k right prb nxt).1 = 0 ∨ (p_mIsSafe_89 qairHigh qbase qslope qsteep qknee qlowCap qhighCap qlow qhigh qlimits qpow trd r k right prb nxt).1 = 1 := by
  intro r
  induction r with
  | zero => intros; exact Or.inl rfl
  | succ r ih =>
    intros
    unfold p_mIsSafe_89
    split
    · exact Or.inl rfl
    · simp only [ap3]
      split
      · exact ih _ _ _ _
      · split
        · exact Or.inr rfl
        · exact ih _ _ _ _
theorem bz_mIsSafe_69 {qairHigh qbase qslope qsteep qknee : Int32} {qlowCap qhighCap qlow qhigh qlimits qpow : Nat → Int32} : ∀ (r k : Nat) (right : Int32) (prb nxt : Nat → Int64) (trd : Nat → Int32), (p_mIsSafe_69 qairHigh qbase qslope qsteep qknee qlowCap qhighCap qlow qhigh qlimits qpow r k right prb nxt trd).1 = 0 ∨ (p_mIsSafe_69 qairHigh qbase qslope qsteep qknee qlowCap qhighCap qlow qhigh qlimits qpow r k right prb nxt trd).1 = 1 := by
  intro r
  induction r with
  | zero => intros; exact bz_mIsSafe_89 _ _ _ _ _
  | succ r ih => intros; exact ih _ _ _ _ _
theorem bz_mIsSafe_33 {qairHigh qbase qslope qsteep qknee : Int32} {qlowCap qhighCap qlow qhigh qlimits qpow qtried : Nat → Int32} : ∀ (r k : Nat) (right : Int32) (prb nxt : Nat → Int64), (p_mIsSafe_33 qairHigh qbase qslope qsteep qknee qlowCap qhighCap qlow qhigh qlimits qpow qtried r k right prb nxt).1 = 0 ∨ (p_mIsSafe_33 qairHigh qbase qslope qsteep qknee qlowCap qhighCap qlow qhigh qlimits qpow qtried r k right prb nxt).1 = 1 := by
  intro r
  induction r with
  | zero => intros; exact bz_mIsSafe_69 _ _ _ _ _ _
  | succ r ih =>
    intros
    unfold p_mIsSafe_33
    split
    · exact bz_mIsSafe_69 _ _ _ _ _ _
    · simp only [ap3]; exact ih _ _ _ _
theorem bz_mIsSafe_2 {qairHigh qbase qslope qsteep qknee : Int32} {qlowCap qhighCap qlow qhigh qlimits qpow qtried : Nat → Int32} {qbounds qnext : Nat → Int64} : ∀ (r k : Nat) (prb : Nat → Int64), (p_mIsSafe_2 qairHigh qbase qslope qsteep qknee qlowCap qhighCap qlow qhigh qlimits qpow qbounds qnext qtried r k prb).1 = 0 ∨ (p_mIsSafe_2 qairHigh qbase qslope qsteep qknee qlowCap qhighCap qlow qhigh qlimits qpow qbounds qnext qtried r k prb).1 = 1 := by
  intro r
  induction r with
  | zero => intros; exact bz_mIsSafe_33 _ _ _ _ _
  | succ r ih => intros; exact ih _ _
theorem bz_mIsSafeE {qairHigh qbase qslope qsteep qknee : Int32} {qlowCap qhighCap qlow qhigh qlimits qpow qtried : Nat → Int32} {qbounds qnext qprobe : Nat → Int64} {v : Int32} {y : (Nat → Int64) × (Nat → Int64) × (Nat → Int32)} (h : (v, y) = p_mIsSafe qairHigh qbase qslope qsteep qknee qlowCap qhighCap qlow qhigh qlimits qpow qbounds qnext qprobe qtried) : v = 0 ∨ v = 1 := by
  have e : v = (p_mIsSafe qairHigh qbase qslope qsteep qknee qlowCap qhighCap qlow qhigh qlimits qpow qbounds qnext qprobe qtried).1 := congrArg Prod.fst h
  rw [e]; exact bz_mIsSafe_2 _ _ _
theorem un_t {s t r v u : Int32} (h : (v, u) = p_mUnsealed s t r) (hv : v ≤ 0) : ¬ t = 0 := by
  intro e; unfold p_mUnsealed at h; rw [if_pos e] at h
  have e2 : v = nI 1 := congrArg Prod.fst h
  rw [e2] at hv; exact absurd hv (by decide)
theorem un_t0 {s t r v u : Int32} (h : (v, u) = p_mUnsealed s t r) (hv : v = 0) : ¬ t = 0 := un_t h (by rw [hv]; decide)
theorem un_no0 {s r v u : Int32} (h : (v, u) = p_mUnsealed s (nI 0) r) : ¬ v ≤ 0 := fun hv => un_t h hv rfl
theorem un_no1 {s t v u : Int32} (h : (v, u) = p_mUnsealed s t (nI 0)) : ¬ v ≤ 0 := by
  intro hv
  unfold p_mUnsealed at h
  split at h
  · have e2 : v = nI 1 := congrArg Prod.fst h
    rw [e2] at hv; exact absurd hv (by decide)
  · rw [if_pos (show (nI 0 : Int32) = 0 from rfl)] at h
    have e2 : v = nI 2 := congrArg Prod.fst h
    rw [e2] at hv; exact absurd hv (by decide)
theorem un_ne1 {s t v u : Int32} (h : (v, u) = p_mUnsealed s t (nI 0)) : ¬ v = 0 := fun e => un_no1 h (by rw [e]; decide)
theorem sh_t {s t r v u : Int32} (h : (v, u) = p_mShut s t r) (hv : v ≤ 0) : ¬ t = 0 := by
  intro e; unfold p_mShut at h; rw [if_pos e] at h
  have e2 : v = nI 1 := congrArg Prod.fst h
  rw [e2] at hv; exact absurd hv (by decide)
theorem sh_t0 {s t r v u : Int32} (h : (v, u) = p_mShut s t r) (hv : v = 0) : ¬ t = 0 := sh_t h (by rw [hv]; decide)
theorem sh_no1 {s t v u : Int32} (h : (v, u) = p_mShut s t (nI 0)) : ¬ v ≤ 0 := by
  intro hv
  unfold p_mShut at h
  split at h
  · have e2 : v = nI 1 := congrArg Prod.fst h
    rw [e2] at hv; exact absurd hv (by decide)
  · rw [if_pos (show (nI 0 : Int32) = 0 from rfl)] at h
    have e2 : v = nI 2 := congrArg Prod.fst h
    rw [e2] at hv; exact absurd hv (by decide)
theorem node_in {n : Int32} (h : ¬ p_mIsNode n = 0) : vp_in n 6 := by
  unfold p_mIsNode at h
  split at h
  · exact absurd rfl h
  · split at h
    · exact absurd rfl h
    · rename_i h1 h2
      rw [Int32.le_iff_toInt_le] at h2
      have h3 : (nI 6 : Int32).toInt = 6 := by decide
      exact vp_in_hi h1 (by omega)
theorem core_in {n : Int32} (h : ¬ p_mIsCore n = 0) : vp_in n 4 := by
  unfold p_mIsCore at h
  split at h
  · exact absurd rfl h
  · split at h
    · exact absurd rfl h
    · rename_i h1 h2
      rw [Int32.le_iff_toInt_le] at h2
      have h3 : (nI 4 : Int32).toInt = 4 := by decide
      exact vp_in_hi h1 (by omega)
theorem end_in {n : Int32} (h : ¬ p_mIsEnd n = 0) : vp_in n 7 := by
  unfold p_mIsEnd at h
  split at h
  · exact absurd rfl h
  · split at h
    · exact absurd rfl h
    · rename_i h1 h2
      rw [Int32.lt_iff_toInt_lt] at h2
      have h3 : (nI 6 : Int32).toInt = 6 := by decide
      exact vp_in_hi h1 (by omega)
theorem tick_in {n : Int32} (h1 : ¬ n < nI 1) (h2 : n ≤ nI 100) : vp_in n 101 := by
  rw [Int32.lt_iff_toInt_lt] at h1
  rw [Int32.le_iff_toInt_le] at h2
  have h3 : (nI 1 : Int32).toInt = 1 := by decide
  have h4 : (nI 100 : Int32).toInt = 100 := by decide
  rw [vp_in_iff]; omega
theorem wi_in {x : Int32} (h0 : ¬ x < 0) (h : x.toInt ≤ 3) : vp_in x 4 := vp_in_hi h0 (by omega)
theorem nI_gt0 {x : Nat} (h : ¬ nI x = 0) : 0 < x := by
  rcases Nat.eq_zero_or_pos x with e | e
  · subst e; exact absurd rfl h
  · exact e
theorem and3_in (x : Int32) : vp_in (x &&& nI 3) 4 := by
  have hb : (x &&& nI 3).toBitVec = x.toBitVec &&& 3#32 := rfl
  have hn : (x.toBitVec &&& 3#32).toNat ≤ 3 := by
    rw [BitVec.toNat_and]; exact Nat.and_le_right
  have hi : (x &&& nI 3).toInt = ((x.toBitVec &&& 3#32).toNat : Int) := by
    show (x &&& nI 3).toBitVec.toInt = _
    rw [hb]; exact BitVec.toInt_eq_toNat_of_lt (by omega)
  rw [vp_in_iff, hi]; omega
