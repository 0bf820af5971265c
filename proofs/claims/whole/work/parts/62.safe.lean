/-! the look ahead, of the class and of the reference -/
section SF
/-- a package that is steady, every number in its range -/
def cf_K (lowCap highCap lowE highE lim powr : Nat → Int32) (base slope steep knee : Int32) : Prop := cf_E lowE highE ∧ cf_C lowCap highCap ∧ cf_P powr ∧ nu_leak base slope steep knee ∧ (∀ n : Nat, n < 6 → 0 ≤ (lim n).toInt ∧ (lim n).toInt ≤ 50000) ∧ (∀ n : Nat, n < 6 → mt_sum (fun o => iE highE (7 * n + o)) 7 ≤ (lowCap n).toInt)
variable {lowCap highCap lowE highE lim powr : Nat → Int32} {base slope steep knee air : Int32} {stp idle trd bnd : Nat → Int32} {row : Nat → Int64} {b : Nat → Int}
theorem cf_nice (K : cf_K lowCap highCap lowE highE lim powr base slope steep knee) : mt_nice (iE highE) (iE lowE) (iE lowCap) (iE highCap) := by
  obtain ⟨E, C, P, L, M, S⟩ := K
  refine ⟨fun n o hn ho => ?_, fun n hn => ?_⟩
  · have := E n o (by omega) ho
    exact ⟨this.1, this.2.1⟩
  · have := C n hn
    exact ⟨by show 0 < (lowCap n).toInt; omega, this.2.1, S n hn⟩
theorem nu_src_mono {P : Nat → Int} (L : nu_leak base slope steep knee) : ∀ (n : Nat) (t t' : Int), n < 6 → t ≤ t' → nu_src P base.toInt slope.toInt steep.toInt knee.toInt n t ≤ nu_src P base.toInt slope.toInt steep.toInt knee.toInt n t' := by
  intro n t t' _ h
  obtain ⟨b0, b1, s0, s1, t0, t1, k0, k1⟩ := L
  unfold nu_src
  by_cases h4 : n < 4
  · rw [if_pos h4, if_pos h4]
    have := mt_leak_mono (b := base.toInt) (k := knee.toInt) s0 t0 h
    omega
  · rw [if_neg h4, if_neg h4]; exact Int.le_refl _
theorem nu_F_mono (K : cf_K lowCap highCap lowE highE lim powr base slope steep knee) : ∀ b b' : Nat → Int, mt_le b b' → mt_le (nu_F lowCap highCap lowE highE powr base slope steep knee stp b) (nu_F lowCap highCap lowE highE powr base slope steep knee stp b') :=
  fun _ _ h => mt_F_mono (cf_nice K) (nu_src_mono K.2.2.2.1) h
theorem nu_F_nonneg (K : cf_K lowCap highCap lowE highE lim powr base slope steep knee) (hst : ∀ j, j < 4 → vp_in (stp j) 4) (hb : ∀ n, n < 7 → 0 ≤ b n) : ∀ n, n < 7 → 0 ≤ nu_F lowCap highCap lowE highE powr base slope steep knee stp b n := by
  refine mt_F_nonneg (cf_nice K) (nu_src_mono K.2.2.2.1) (fun n hn => ?_) hb
  unfold nu_src
  by_cases h4 : n < 4
  · rw [if_pos h4]
    have h1 := K.2.2.1 _ (vin_lt (hst n h4))
    have h2 := nu_leak_ran K.2.2.2.1 (t := 0) (by omega) (by omega)
    unfold nu_pw
    omega
  · rw [if_neg h4]; exact Int.le_refl _
theorem nu_F_air (b : Nat → Int) : nu_F lowCap highCap lowE highE powr base slope steep knee stp b 6 = b 6 := mt_F_air 6 (by omega)
theorem nu_F_stp (h : ∀ j, j < 4 → idle j = trd j) : nu_F lowCap highCap lowE highE powr base slope steep knee idle = nu_F lowCap highCap lowE highE powr base slope steep knee trd := by
  have e : nu_src (nu_pw powr idle) base.toInt slope.toInt steep.toInt knee.toInt = nu_src (nu_pw powr trd) base.toInt slope.toInt steep.toInt knee.toInt := by
    funext n t
    unfold nu_src
    by_cases h4 : n < 4
    · rw [if_pos h4, if_pos h4]; unfold nu_pw; rw [h n h4]
    · rw [if_neg h4, if_neg h4]
  unfold nu_F
  rw [e]
/-- more power, a higher tick -/
theorem nu_F_pow (K : cf_K lowCap highCap lowE highE lim powr base slope steep knee) (h : ∀ j, j < 4 → (powr (idle j).toNatClampNeg).toInt ≤ (powr (stp j).toNatClampNeg).toInt) (b : Nat → Int) : mt_le (nu_F lowCap highCap lowE highE powr base slope steep knee idle b) (nu_F lowCap highCap lowE highE powr base slope steep knee stp b) := by
  refine mt_F_src (cf_nice K) (fun n t hn => ?_)
  unfold nu_src
  by_cases h4 : n < 4
  · rw [if_pos h4, if_pos h4]; have := h n h4; unfold nu_pw; omega
  · rw [if_neg h4, if_neg h4]; exact Int.le_refl _
theorem c_kl (lim bnd : Nat → Int32) : ∀ r k : Nat, k + r = 6 → (p_keepsLimits_2 lim bnd r k = nI 1 ∧ ∀ j : Nat, k ≤ j → j < 6 → (bnd j).toInt ≤ (lim j).toInt) ∨ (p_keepsLimits_2 lim bnd r k = nI 0 ∧ ¬ ∀ j : Nat, k ≤ j → j < 6 → (bnd j).toInt ≤ (lim j).toInt) := by
  intro r
  induction r with
  | zero => intro k hk; exact Or.inl ⟨rfl, fun j h1 h2 => by omega⟩
  | succ r ih =>
    intro k hk
    unfold p_keepsLimits_2
    by_cases h : bnd k ≤ lim k
    · rw [if_pos h]
      rcases ih (k + 1) (by omega) with ⟨h1, h2⟩ | ⟨h1, h2⟩
      · refine Or.inl ⟨h1, fun j hj h6 => ?_⟩
        by_cases e : j = k
        · subst e; exact n_le.mp h
        · exact h2 j (by omega) h6
      · exact Or.inr ⟨h1, fun q => h2 fun j hj h6 => q j (by omega) h6⟩
    · rw [if_neg h]
      exact Or.inr ⟨rfl, fun q => h (n_le.mpr (q k (Nat.le_refl k) (by omega)))⟩
theorem m_aw (lim : Nat → Int32) (prb : Nat → Int64) : ∀ (r k : Nat) (every : Int32), k + r = 6 → (every = nI 0 ∨ every = nI 1) → (p_mAreWithin_4 lim prb r k every = nI 1 ∧ every = nI 1 ∧ ∀ j : Nat, k ≤ j → j < 6 → (prb j).toInt ≤ (lim j).toInt) ∨ (p_mAreWithin_4 lim prb r k every = nI 0 ∧ ¬ (every = nI 1 ∧ ∀ j : Nat, k ≤ j → j < 6 → (prb j).toInt ≤ (lim j).toInt)) := by
  intro r
  induction r with
  | zero =>
    intro k every hk he
    unfold p_mAreWithin_4
    rcases he with e | e
    · exact Or.inr ⟨e, fun q => absurd (e.symm.trans q.1) (by decide)⟩
    · exact Or.inl ⟨e, e, fun j h1 h2 => by omega⟩
  | succ r ih =>
    intro k every hk he
    unfold p_mAreWithin_4
    rcases he with e | e
    · subst e
      rw [if_pos (show nI 0 = 0 by decide)]
      rcases ih (k + 1) (nI 0) (by omega) (Or.inl rfl) with ⟨h1, h2, _⟩ | ⟨h1, _⟩
      · exact absurd h2 (by decide)
      · exact Or.inr ⟨h1, fun q => absurd q.1 (by decide)⟩
    · subst e
      rw [if_neg (show ¬ nI 1 = 0 by decide)]
      by_cases h : 0 < lg_cmp (prb k) (lim k).toInt64
      · rw [if_pos h]
        have h' := l_lt.mp ((lg_cmp_gt _ _).mp h)
        rw [Int32.toInt_toInt64] at h'
        rcases ih (k + 1) (nI 0) (by omega) (Or.inl rfl) with ⟨h1, h2, _⟩ | ⟨h1, _⟩
        · exact absurd h2 (by decide)
        · exact Or.inr ⟨h1, fun q => by have := q.2 k (Nat.le_refl k) (by omega); omega⟩
      · rw [if_neg h]
        have h' : (prb k).toInt ≤ (lim k).toInt := by
          rcases mt_lt_or_ge (lim k).toInt (prb k).toInt with q | q
          · exact absurd ((lg_cmp_gt _ _).mpr (l_lt.mpr (by rw [Int32.toInt_toInt64]; exact q))) h
          · exact q
        rcases ih (k + 1) (nI 1) (by omega) (Or.inr rfl) with ⟨h1, h2, h3⟩ | ⟨h1, h2⟩
        · refine Or.inl ⟨h1, rfl, fun j hj h6 => ?_⟩
          by_cases e : j = k
          · subst e; exact h'
          · exact h3 j (by omega) h6
        · exact Or.inr ⟨h1, fun q => h2 ⟨rfl, fun j hj h6 => q.2 j (by omega) h6⟩⟩
/-- both look at the same numbers, so both say the same -/
theorem s_within (hb : ∀ o : Nat, o < 6 → (bnd o).toInt = b o) (hr : ∀ o : Nat, o < 6 → (row o).toInt = b o) : (p_keepsLimits lim bnd = nI 1 ∧ p_mAreWithin lim row = nI 1 ∧ ∀ n : Nat, n < 6 → b n ≤ (lim n).toInt) ∨ (p_keepsLimits lim bnd = nI 0 ∧ p_mAreWithin lim row = nI 0) := by
  have h1 := c_kl lim bnd 6 0 rfl
  have h2 := m_aw lim row 6 0 (nI 1) rfl (Or.inr rfl)
  rcases h1 with ⟨a1, a2⟩ | ⟨a1, a2⟩
  · rcases h2 with ⟨c1, c2, c3⟩ | ⟨c1, c2⟩
    · exact Or.inl ⟨a1, c1, fun n hn => by have := a2 n (Nat.zero_le _) hn; rw [hb n hn] at this; exact this⟩
    · exact absurd ⟨rfl, fun j h3 h6 => by rw [hr j h6, ← hb j h6]; exact a2 j h3 h6⟩ c2
  · rcases h2 with ⟨c1, c2, c3⟩ | ⟨c1, c2⟩
    · exact absurd (fun j h3 h6 => by rw [hb j h6, ← hr j h6]; exact c3 j h3 h6) a2
    · exact Or.inr ⟨a1, c1⟩
theorem c_75_no (r k : Nat) (g : Int32) (t q : Nat → Int32) : (p_isSafe_75 idle base slope steep knee lowCap highCap lowE highE lim powr r k (nI 0) g t q).1 = nI 0 := by
  cases r with
  | zero => unfold p_isSafe_75; rw [if_pos (show nI 0 = 0 by decide)]
  | succ r => unfold p_isSafe_75; rw [if_pos (show nI 0 = 0 by decide), if_pos (show nI 0 = 0 by decide)]
theorem c_75_yes (r k : Nat) {g : Int32} (hg : g = 0) (t q : Nat → Int32) : (p_isSafe_75 idle base slope steep knee lowCap highCap lowE highE lim powr r k (nI 1) g t q).1 = nI 1 := by
  cases r with
  | zero => unfold p_isSafe_75; rw [if_neg (show ¬ nI 1 = 0 by decide), if_pos hg]
  | succ r => unfold p_isSafe_75; rw [if_neg (show ¬ nI 1 = 0 by decide), if_pos hg, if_neg (show ¬ nI 1 = 0 by decide), if_pos hg]
theorem m_89_no (r k : Nat) (t q : Nat → Int64) : (p_mIsSafe_89 air base slope steep knee lowCap highCap lowE highE lim powr trd r k (nI 0) t q).1 = nI 0 := by
  cases r with
  | zero => unfold p_mIsSafe_89; rfl
  | succ r => unfold p_mIsSafe_89; rw [if_pos (show nI 0 = 0 by decide)]
theorem m_89_trd : ∀ (r k : Nat) (x : Int32) (t q : Nat → Int64), (p_mIsSafe_89 air base slope steep knee lowCap highCap lowE highE lim powr trd r k x t q).2.2.2 = trd := by
  intro r
  induction r with
  | zero => intro k x t q; unfold p_mIsSafe_89; rfl
  | succ r ih =>
    intro k x t q
    unfold p_mIsSafe_89
    split
    · rfl
    · simp only [ap3]
      split
      · exact ih _ _ _ _
      · split
        · rfl
        · exact ih _ _ _ _
/-- the ticks with all down -/
theorem s_calm (K : cf_K lowCap highCap lowE highE lim powr base slope steep knee) (hid : ∀ j, j < 4 → vp_in (idle j) 4) (htr : ∀ j, j < 4 → idle j = trd j) : ∀ (r k k' : Nat) (w g : Int32) (tri gro : Nat → Int32) (prb nxt : Nat → Int64) (b : Nat → Int), (w = nI 0 ∨ (w = nI 1 ∧ nu_b b ∧ ∀ n : Nat, n < 6 → b n ≤ (lim n).toInt)) → ¬ g = 0 → (∀ o : Nat, o < 7 → (tri o).toInt = b o) → (∀ o : Nat, o < 6 → (prb o).toInt = b o) → air.toInt = b 6 →
    (p_isSafe_75 idle base slope steep knee lowCap highCap lowE highE lim powr r k w g tri gro).1 = (p_mIsSafe_89 air base slope steep knee lowCap highCap lowE highE lim powr trd r k' w prb nxt).1 ∧ ((p_isSafe_75 idle base slope steep knee lowCap highCap lowE highE lim powr r k w g tri gro).1 = nI 1 → ∀ i n : Nat, n < 6 → mt_it (nu_F lowCap highCap lowE highE powr base slope steep knee idle) i b n ≤ iE lim n) := by
  intro r
  induction r with
  | zero =>
    intro k k' w g tri gro prb nxt b hw hg ht hp ha
    rcases hw with rfl | ⟨rfl, _⟩
    · rw [c_75_no, m_89_no]; exact ⟨rfl, fun h => absurd h (by decide)⟩
    · have e : (p_isSafe_75 idle base slope steep knee lowCap highCap lowE highE lim powr 0 k (nI 1) g tri gro).1 = nI 0 := by
        unfold p_isSafe_75; rw [if_neg (show ¬ nI 1 = 0 by decide), if_neg hg]
      rw [e]
      exact ⟨rfl, fun h => absurd h (by decide)⟩
  | succ r ih =>
    intro k k' w g tri gro prb nxt b hw hg ht hp ha
    rcases hw with rfl | ⟨rfl, B, hl⟩
    · rw [c_75_no, m_89_no]; exact ⟨rfl, fun h => absurd h (by decide)⟩
    · obtain ⟨E, C, P, L, M, S⟩ := K
      obtain ⟨t1, t2, t3⟩ := c_btick (stp := idle) E C P L hid B ht gro
      obtain ⟨g', nxt', row', u0, u1, u2, u3⟩ := m_btick (stp := trd) E C P L (fun j hj => by rw [← htr j hj]; exact hid j hj) B hp ha nxt
      rw [← nu_F_stp (lowCap := lowCap) (highCap := highCap) (lowE := lowE) (highE := highE) (powr := powr) (base := base) (slope := slope) (steep := steep) (knee := knee) htr] at u1 u3
      have K' : cf_K lowCap highCap lowE highE lim powr base slope steep knee := ⟨E, C, P, L, M, S⟩
      unfold p_isSafe_75 p_mIsSafe_89
      rw [if_neg (show ¬ nI 1 = 0 by decide), if_neg hg, if_neg (show ¬ nI 1 = 0 by decide), u0]
      simp only [ap3]
      rcases hT : p_boundTick base slope steep knee lowCap highCap lowE highE powr gro tri idle with ⟨v1, gro1, tri1⟩
      rw [hT] at t1 t2 t3
      simp only at t1 t2 t3 ⊢
      rcases s_within (lim := lim) (fun o ho => t1 o (by omega)) u1 with ⟨w1, w2, w3⟩ | ⟨w1, w2⟩
      · rw [w1, w2, if_neg (show ¬ nI 1 = 0 by decide)]
        by_cases hv : v1 = 0
        · have hg0 : g' = 0 := u3.mpr (t3.mp hv)
          rw [if_pos hg0, c_75_yes r (k + 1) hv]
          refine ⟨rfl, fun _ => mt_ok_calm (nu_F_mono K') (fun n hn => ?_) hl⟩
          by_cases h6 : n < 6
          · exact t3.mp hv n h6
          · rw [show n = 6 by omega, nu_F_air]; exact Int.le_refl _
        · have hg0 : ¬ g' = 0 := fun q => hv (t3.mpr (u3.mp q))
          rw [if_neg hg0]
          have B' : nu_b (nu_F lowCap highCap lowE highE powr base slope steep knee idle b) := by
            intro o ho
            refine ⟨nu_F_nonneg K' hid (fun n hn => (B n hn).1) o ho, ?_⟩
            by_cases h6 : o < 6
            · have := w3 o h6
              have := M o h6
              omega
            · rw [show o = 6 by omega, nu_F_air]; exact (B 6 (by omega)).2
          obtain ⟨i1, i2⟩ := ih (k + 1) (k' + 1) (nI 1) v1 tri1 gro1 row' nxt' _ (Or.inr ⟨rfl, B', w3⟩) hv t1 u1 (by rw [nu_F_air]; exact ha)
          refine ⟨i1, fun h i n hn => ?_⟩
          cases i with
          | zero => exact hl n hn
          | succ i => exact i2 h i n hn
      · rw [w1, w2, if_pos (show nI 0 = 0 by decide), c_75_no, m_89_no]
        exact ⟨rfl, fun h => absurd h (by decide)⟩
theorem m_69 : ∀ (r k : Nat) (x : Int32) (prb nxt : Nat → Int64) (trd : Nat → Int32), k + r = 4 → (∀ j : Nat, j < k → trd j = nI 0) → ∃ trd' : Nat → Int32, (∀ j : Nat, j < 4 → trd' j = nI 0) ∧ p_mIsSafe_69 air base slope steep knee lowCap highCap lowE highE lim powr r k x prb nxt trd = p_mIsSafe_89 air base slope steep knee lowCap highCap lowE highE lim powr trd' 250 0 x prb nxt := by
  intro r
  induction r with
  | zero => intro k x prb nxt trd hk h; exact ⟨trd, fun j hj => h j (by omega), rfl⟩
  | succ r ih =>
    intro k x prb nxt trd hk h
    unfold p_mIsSafe_69
    refine ih (k + 1) x prb nxt _ (by omega) (fun j hj => ?_)
    by_cases e : j = k
    · subst e; exact pk_us
    · rw [pk_un e]; exact h j (by omega)
/-- the ticks of a period, then the ticks with all down -/
theorem s_hold (K : cf_K lowCap highCap lowE highE lim powr base slope steep knee) (hst : ∀ j, j < 4 → vp_in (stp j) 4) (hst' : ∀ j, j < 4 → stp j = trd j) (hid : ∀ j, j < 4 → idle j = nI 0) : ∀ (r k k' : Nat) (w : Int32) (tri gro : Nat → Int32) (prb nxt : Nat → Int64) (b : Nat → Int), (w = nI 0 ∨ (w = nI 1 ∧ nu_b b ∧ ∀ n : Nat, n < 6 → b n ≤ (lim n).toInt)) → (∀ o : Nat, o < 7 → (tri o).toInt = b o) → (∀ o : Nat, o < 6 → (prb o).toInt = b o) → air.toInt = b 6 →
    (p_isSafe_27 idle base slope steep knee lowCap highCap lowE highE lim powr stp r k w tri gro).1 = (p_mIsSafe_33 air base slope steep knee lowCap highCap lowE highE lim powr trd r k' w prb nxt).1 ∧ ((p_isSafe_27 idle base slope steep knee lowCap highCap lowE highE lim powr stp r k w tri gro).1 = nI 1 → mt_ok (nu_F lowCap highCap lowE highE powr base slope steep knee stp) (nu_F lowCap highCap lowE highE powr base slope steep knee idle) (iE lim) r b) ∧ ∀ j : Nat, j < 4 → (p_mIsSafe_33 air base slope steep knee lowCap highCap lowE highE lim powr trd r k' w prb nxt).2.2.2 j = nI 0 := by
  have hidv : ∀ j, j < 4 → vp_in (idle j) 4 := fun j hj => by rw [hid j hj]; exact vin_0
  intro r
  induction r with
  | zero =>
    intro k k' w tri gro prb nxt b hw ht hp ha
    unfold p_isSafe_27 p_mIsSafe_33
    obtain ⟨trd', q1, q2⟩ := m_69 (air := air) (base := base) (slope := slope) (steep := steep) (knee := knee) (lowCap := lowCap) (highCap := highCap) (lowE := lowE) (highE := highE) (lim := lim) (powr := powr) 4 0 w prb nxt trd rfl (fun j hj => by omega)
    rw [q2]
    obtain ⟨i1, i2⟩ := s_calm (air := air) (trd := trd') K hidv (fun j hj => by rw [hid j hj, q1 j hj]) 250 0 0 w (nI 1) tri gro prb nxt b hw (by decide) ht hp ha
    exact ⟨i1, i2, fun j hj => by rw [m_89_trd]; exact q1 j hj⟩
  | succ r ih =>
    intro k k' w tri gro prb nxt b hw ht hp ha
    rcases hw with rfl | ⟨rfl, B, hl⟩
    · unfold p_isSafe_27 p_mIsSafe_33
      rw [if_pos (show nI 0 = 0 by decide), if_pos (show nI 0 = 0 by decide)]
      obtain ⟨trd', q1, q2⟩ := m_69 (air := air) (base := base) (slope := slope) (steep := steep) (knee := knee) (lowCap := lowCap) (highCap := highCap) (lowE := lowE) (highE := highE) (lim := lim) (powr := powr) 4 0 (nI 0) prb nxt trd rfl (fun j hj => by omega)
      rw [q2, c_75_no, m_89_no]
      exact ⟨rfl, fun h => absurd h (by decide), fun j hj => by rw [m_89_trd]; exact q1 j hj⟩
    · obtain ⟨E, C, P, L, M, S⟩ := K
      have K' : cf_K lowCap highCap lowE highE lim powr base slope steep knee := ⟨E, C, P, L, M, S⟩
      obtain ⟨t1, t2, t3⟩ := c_btick (stp := stp) E C P L hst B ht gro
      obtain ⟨g', nxt', row', u0, u1, u2, u3⟩ := m_btick (stp := trd) E C P L (fun j hj => by rw [← hst' j hj]; exact hst j hj) B hp ha nxt
      rw [← nu_F_stp (lowCap := lowCap) (highCap := highCap) (lowE := lowE) (highE := highE) (powr := powr) (base := base) (slope := slope) (steep := steep) (knee := knee) hst'] at u1 u3
      unfold p_isSafe_27 p_mIsSafe_33
      rw [if_neg (show ¬ nI 1 = 0 by decide), if_neg (show ¬ nI 1 = 0 by decide), u0]
      simp only [ap3]
      rcases hT : p_boundTick base slope steep knee lowCap highCap lowE highE powr gro tri stp with ⟨v1, gro1, tri1⟩
      rw [hT] at t1 t2 t3
      simp only at t1 t2 t3 ⊢
      rcases s_within (lim := lim) (fun o ho => t1 o (by omega)) u1 with ⟨w1, w2, w3⟩ | ⟨w1, w2⟩
      · rw [w1, w2]
        have B' : nu_b (nu_F lowCap highCap lowE highE powr base slope steep knee stp b) := by
          intro o ho
          refine ⟨nu_F_nonneg K' hst (fun n hn => (B n hn).1) o ho, ?_⟩
          by_cases h6 : o < 6
          · have := w3 o h6
            have := M o h6
            omega
          · rw [show o = 6 by omega, nu_F_air]; exact (B 6 (by omega)).2
        obtain ⟨i1, i2, i3⟩ := ih (k + 1) (k' + 1) (nI 1) tri1 gro1 row' nxt' _ (Or.inr ⟨rfl, B', w3⟩) t1 u1 (by rw [nu_F_air]; exact ha)
        exact ⟨i1, fun h => ⟨hl, i2 h⟩, i3⟩
      · rw [w1, w2]
        obtain ⟨i1, i2, i3⟩ := ih (k + 1) (k' + 1) (nI 0) tri1 gro1 row' nxt' _ (Or.inl rfl) t1 u1 (by rw [nu_F_air]; exact ha)
        refine ⟨i1, fun h => ?_, i3⟩
        have hz : (p_isSafe_27 idle base slope steep knee lowCap highCap lowE highE lim powr stp r (k + 1) (nI 0) tri1 gro1).1 = nI 0 := by
          cases r with
          | zero => unfold p_isSafe_27; exact c_75_no _ _ _ _ _
          | succ r => unfold p_isSafe_27; rw [if_pos (show nI 0 = 0 by decide)]; exact c_75_no _ _ _ _ _
        rw [hz] at h
        exact absurd h (by decide)
theorem m_s2 : ∀ (r k : Nat) (prb : Nat → Int64) (bou nxt : Nat → Int64), k + r = 6 → (∀ j : Nat, j < k → prb j = bou j) → ∃ prb' : Nat → Int64, (∀ j : Nat, j < 6 → prb' j = bou j) ∧ p_mIsSafe_2 air base slope steep knee lowCap highCap lowE highE lim powr bou nxt trd r k prb = p_mIsSafe_33 air base slope steep knee lowCap highCap lowE highE lim powr trd 8 0 (p_mAreWithin lim prb') prb' nxt := by
  intro r
  induction r with
  | zero => intro k prb bou nxt hk h; exact ⟨prb, fun j hj => h j (by omega), rfl⟩
  | succ r ih =>
    intro k prb bou nxt hk h
    unfold p_mIsSafe_2
    refine ih (k + 1) _ bou nxt (by omega) (fun j hj => ?_)
    by_cases e : j = k
    · subst e; exact vl_us
    · rw [vl_un e]; exact h j (by omega)
/-- the look ahead: the class and the reference say the same, and what a yes means -/
theorem s_safe (K : cf_K lowCap highCap lowE highE lim powr base slope steep knee) (hst : ∀ j, j < 4 → vp_in (stp j) 4) (hst' : ∀ j, j < 4 → stp j = trd j) (hid : ∀ j, j < 4 → idle j = nI 0) {bou : Nat → Int64} (B0 : nu_b b) (hb : ∀ o : Nat, o < 7 → (bnd o).toInt = b o) (hr : ∀ o : Nat, o < 6 → (bou o).toInt = b o) (ha : air.toInt = b 6) (trial grow : Nat → Int32) (nxt prb : Nat → Int64) :
    (p_isSafe trial idle base slope steep knee lowCap highCap lowE highE lim powr grow bnd stp).1 = (p_mIsSafe air base slope steep knee lowCap highCap lowE highE lim powr bou nxt prb trd).1 ∧ ((p_isSafe trial idle base slope steep knee lowCap highCap lowE highE lim powr grow bnd stp).1 = nI 1 → mt_ok (nu_F lowCap highCap lowE highE powr base slope steep knee stp) (nu_F lowCap highCap lowE highE powr base slope steep knee idle) (iE lim) 8 b) ∧ ∀ j : Nat, j < 4 → (p_mIsSafe air base slope steep knee lowCap highCap lowE highE lim powr bou nxt prb trd).2.2.2 j = nI 0 := by
  obtain ⟨prb', h1, h2⟩ := m_s2 (air := air) (base := base) (slope := slope) (steep := steep) (knee := knee) (lowCap := lowCap) (highCap := highCap) (lowE := lowE) (highE := highE) (lim := lim) (powr := powr) (trd := trd) 6 0 prb bou nxt rfl (fun j hj => by omega)
  have e : p_mIsSafe air base slope steep knee lowCap highCap lowE highE lim powr bou nxt prb trd = _ := h2
  rw [e]
  have ht : ∀ o : Nat, o < 7 → (va_cpy bnd trial 0 0 7 o).toInt = b o := fun o ho => by
    have : va_cpy bnd trial 0 0 7 o = bnd o := by unfold va_cpy; rw [if_pos (by omega)]; simp
    rw [this]; exact hb o ho
  have hp : ∀ o : Nat, o < 6 → (prb' o).toInt = b o := fun o ho => by rw [h1 o ho]; exact hr o ho
  unfold p_isSafe
  rcases s_within (lim := lim) (fun o ho => ht o (by omega)) hp with ⟨w1, w2, w3⟩ | ⟨w1, w2⟩
  · rw [w1, w2]
    exact s_hold (air := air) K hst hst' hid 8 0 0 (nI 1) _ grow prb' nxt b (Or.inr ⟨rfl, B0, w3⟩) ht hp ha
  · rw [w1, w2]
    exact s_hold (air := air) K hst hst' hid 8 0 0 (nI 0) _ grow prb' nxt b (Or.inl rfl) ht hp ha
theorem bz_isSafe (trial idle : Nat → Int32) (base slope steep knee : Int32) (lowCap highCap lowE highE lim powr grow bnd stp : Nat → Int32) : (p_isSafe trial idle base slope steep knee lowCap highCap lowE highE lim powr grow bnd stp).1 = 0 ∨ (p_isSafe trial idle base slope steep knee lowCap highCap lowE highE lim powr grow bnd stp).1 = 1 := bz_isSafe_27 _ _ _ _ _
end SF
