/-! many ticks -/
section TS
variable {lowCap highCap truCap lowE highE truE lim powr : Nat → Int32} {trueAir highAir base slope steep knee : Int32} {idle errors alive told : Nat → Int32} {qerrors qdead qdraws : Nat → Int32}
theorem c_busy2 (sts : Nat → Int32) : ∀ r k : Nat, k + r = 4 → (p_isBusy_2 sts r k = 0 ↔ ∀ j : Nat, k ≤ j → j < 4 → (sts j).toInt ≤ 0) := by
  intro r
  induction r with
  | zero => intro k hk; exact ⟨fun _ j h1 h2 => by omega, fun _ => (show nI 0 = 0 by decide)⟩
  | succ r ih =>
    intro k hk
    rw [p_isBusy_2]
    by_cases h : sts k ≤ 0
    · have h' := n_le.mp h
      rw [n_0] at h'
      rw [if_pos h, ih (k + 1) (by omega)]
      refine ⟨fun q j h1 h2 => ?_, fun q j h1 h2 => q j (by omega) h2⟩
      by_cases e : j = k
      · subst e; exact h'
      · exact q j (by omega) h2
    · rw [if_neg h]
      refine ⟨fun q => absurd q (by decide), fun q => absurd (n_le.mpr ?_) h⟩
      rw [n_0]
      exact q k (Nat.le_refl _) (by omega)
theorem s_busy {sts qsts : Nat → Int32} (h : ∀ j : Nat, j < 4 → sts j = qsts j ∧ vp_in (sts j) 4) : p_isBusy sts = 0 ↔ (qsts 0 + qsts 1 + qsts 2 + qsts 3) ≤ 0 := by
  have e := c_busy2 sts 4 0 rfl
  have b0 := vp_in_iff.mp (h 0 (by omega)).2
  have b1 := vp_in_iff.mp (h 1 (by omega)).2
  have b2 := vp_in_iff.mp (h 2 (by omega)).2
  have b3 := vp_in_iff.mp (h 3 (by omega)).2
  have s1 : (sts 0 + sts 1).toInt = (sts 0).toInt + (sts 1).toInt := n_add (by omega) (by omega)
  have s2 : (sts 0 + sts 1 + sts 2).toInt = (sts 0).toInt + (sts 1).toInt + (sts 2).toInt := by rw [n_add (by rw [s1]; omega) (by rw [s1]; omega), s1]
  have s3 : (sts 0 + sts 1 + sts 2 + sts 3).toInt = (sts 0).toInt + (sts 1).toInt + (sts 2).toInt + (sts 3).toInt := by rw [n_add (by rw [s2]; omega) (by rw [s2]; omega), s2]
  rw [← (h 0 (by omega)).1, ← (h 1 (by omega)).1, ← (h 2 (by omega)).1, ← (h 3 (by omega)).1, n_le, s3, n_0]
  constructor
  · intro q
    have q0 := e.mp q 0 (by omega) (by omega)
    have q1 := e.mp q 1 (by omega) (by omega)
    have q2 := e.mp q 2 (by omega) (by omega)
    have q3 := e.mp q 3 (by omega) (by omega)
    omega
  · intro q
    refine e.mpr fun j _ hj => ?_
    rcases (show j = 0 ∨ j = 1 ∨ j = 2 ∨ j = 3 by omega) with rfl | rfl | rfl | rfl <;> omega
theorem s_ticks (K : cf_K lowCap highCap lowE highE lim powr base slope steep knee) (T : cf_T lowCap highCap truCap lowE highE truE) (hair : 0 ≤ trueAir.toInt ∧ trueAir.toInt ≤ highAir.toInt ∧ highAir.toInt ≤ 50000) (hid : ∀ j : Nat, j < 4 → idle j = nI 0) :
    ∀ (r k k' : Nat) (busy : Int32) (tru bou pea gro sts : Nat → Int32) (held : Int32) (wrm qbou qpea nxt : Nat → Int64) (qsts : Nat → Int32) (left : Int32),
      sl_I lowCap highCap lowE highE lim powr trueAir highAir base slope steep knee idle tru bou pea errors alive held sts told wrm qbou qpea qerrors qdead qsts qdraws left →
      ∃ (busy' : Int32) (tru' bou' pea' gro' sts' : Nat → Int32) (held' : Int32) (wrm' qbou' qpea' nxt' : Nat → Int64) (qsts' : Nat → Int32) (left' : Int32),
        p_gTick_15 errors alive base slope steep knee lowCap highCap truCap lowE highE truE powr told r k busy tru bou pea gro sts held = Sum.inr (busy', tru', bou', pea', gro', sts', held') ∧
        p_mTick_44 trueAir highAir base slope steep knee lowCap highCap truCap lowE highE truE powr qerrors qdead qdraws r k' busy wrm qbou qpea nxt qsts left = (busy', nI 0, wrm', qbou', qpea', nxt', qsts', left') ∧
        sl_I lowCap highCap lowE highE lim powr trueAir highAir base slope steep knee idle tru' bou' pea' errors alive held' sts' told wrm' qbou' qpea' qerrors qdead qsts' qdraws left' := by
  intro r
  induction r with
  | zero =>
    intro k k' busy tru bou pea gro sts held wrm qbou qpea nxt qsts left I
    exact ⟨busy, tru, bou, pea, gro, sts, held, wrm, qbou, qpea, nxt, qsts, left, rfl, rfl, I⟩
  | succ r ih =>
    intro k k' busy tru bou pea gro sts held wrm qbou qpea nxt qsts left I
    obtain ⟨tru1, bou1, pea1, gro1, sts1, held1, wrm1, qbou1, qpea1, nxt1, qsts1, left1, a1, a2, a3, I1⟩ := s_pass K T hair hid I gro nxt
    have hb := s_busy (sts := sts) (qsts := qsts) I.2.2.2.2.1
    rw [p_gTick_15, p_mTick_44, a1, a2, a3]
    simp only [ap4, ap2, ap6]
    by_cases h : p_isBusy sts = 0
    · rw [if_pos h, if_pos (hb.mp h)]
      exact ih _ _ _ _ _ _ _ _ _ _ _ _ _ _ _ I1
    · rw [if_neg h, if_neg (fun q => h (hb.mpr q))]
      exact ih _ _ _ _ _ _ _ _ _ _ _ _ _ _ _ I1
end TS
