theorem nx_no {S : Type} {n : Nat} {u : S} {r : Sum Nat S} (h : Sum.inl n = r) (e : r = Sum.inr u) : False := by
  rw [e] at h
  cases h
theorem nx_air {k9 : Nat} {sealed : Int32} {low : Int32} {truly : Int32} {high : Int32} (h : Sum.inl k9 = p_gAir sealed low truly high) : ¬ k9 = 1 := by
  unfold p_gAir at h
  rcases tx_then_inl h with h | h
  · have e := nl_Range h; omega
  · rcases tx_then_inl h with h | h
    · have e := nl_Within h; omega
    · rcases tx_then_inl h with h | h
      · have e := nl_Unsealed h; omega
      · exact (nx_no h rfl).elim
theorem nx_leak {k9 : Nat} {sealed : Int32} {base : Int32} {slope : Int32} {steep : Int32} {knee : Int32} (h : Sum.inl k9 = p_gLeak sealed base slope steep knee) : ¬ k9 = 1 := by
  unfold p_gLeak at h
  rcases tx_then_inl h with h | h
  · have e := nl_Within h; omega
  · rcases tx_then_inl h with h | h
    · have e := nl_Within h; omega
    · rcases tx_then_inl h with h | h
      · have e := nl_Within h; omega
      · rcases tx_then_inl h with h | h
        · have e := nl_Within h; omega
        · rcases tx_then_inl h with h | h
          · have e := nl_Unsealed h; omega
          · exact (nx_no h rfl).elim
theorem nx_tick_15 {k9 : Nat} {errors : Nat → Int32} {alive : Nat → Int32} {leakBase : Int32} {leakSlope : Int32} {leakSteep : Int32} {leakKnee : Int32} {lowCap : Nat → Int32} {highCap : Nat → Int32} {truCap : Nat → Int32} {lowE : Nat → Int32} {highE : Nat → Int32} {truE : Nat → Int32} {powr : Nat → Int32} {told : Nat → Int32} : ∀ (r k : Nat) (busy : Int32) (tru bou pea gro sts : Nat → Int32) (held : Int32), ¬ Sum.inl k9 = p_gTick_15 errors alive leakBase leakSlope leakSteep leakKnee lowCap highCap truCap lowE highE truE powr told r k busy tru bou pea gro sts held := by
  intro r
  induction r with
  | zero => intro k busy tru bou pea gro sts held h; unfold p_gTick_15 at h; cases h
  | succ r ih =>
    intro k busy tru bou pea gro sts held h
    unfold p_gTick_15 at h
    split at h
    · simp only [ap4, ap2] at h; exact ih _ _ _ _ _ _ _ _ h
    · simp only [ap4, ap2] at h; exact ih _ _ _ _ _ _ _ _ h
theorem nx_ahead_14 {k9 : Nat} {trial : Nat → Int32} {idle : Nat → Int32} {leakBase : Int32} {leakSlope : Int32} {leakSteep : Int32} {leakKnee : Int32} {lowCap : Nat → Int32} {highCap : Nat → Int32} {lowE : Nat → Int32} {highE : Nat → Int32} {lim : Nat → Int32} {powr : Nat → Int32} {grow : Nat → Int32} {bounds : Nat → Int32} {row1 : Int32} : ∀ (r k : Nat) (lkd : Nat → Int32), ¬ Sum.inl k9 = p_gAhead_14 trial idle leakBase leakSlope leakSteep leakKnee lowCap highCap lowE highE lim powr grow bounds row1 r k lkd := by
  intro r
  induction r with
  | zero => intro k lkd h; unfold p_gAhead_14 at h; exact (nx_no h rfl).elim
  | succ r ih => intro k lkd h; unfold p_gAhead_14 at h; exact ih _ _ h
theorem nx_tick {k9 : Nat} {sealed : Int32} {truths : Nat → Int32} {bounds : Nat → Int32} {peaks : Nat → Int32} {errors : Nat → Int32} {alive : Nat → Int32} {leakBase : Int32} {leakSlope : Int32} {leakSteep : Int32} {leakKnee : Int32} {lowCap : Nat → Int32} {highCap : Nat → Int32} {truCap : Nat → Int32} {lowE : Nat → Int32} {highE : Nat → Int32} {truE : Nat → Int32} {powr : Nat → Int32} {grow : Nat → Int32} {ticksHeld : Int32} {steps : Nat → Int32} {told : Nat → Int32} {n : Int32} (h : Sum.inl k9 = p_gTick sealed truths bounds peaks errors alive leakBase leakSlope leakSteep leakKnee lowCap highCap truCap lowE highE truE powr grow ticksHeld steps told n) : ¬ k9 = 1 := by
  unfold p_gTick at h
  rcases tx_then_inl h with h | h
  · have e := nl_Within h; omega
  · rcases tx_then_inl h with h | h
    · have e := nl_Sealed h; omega
    · exact absurd h (nx_tick_15 _ _ _ _ _ _ _ _ _)
theorem nx_ahead {k9 : Nat} {sealed : Int32} {looked : Nat → Int32} {trial : Nat → Int32} {idle : Nat → Int32} {leakBase : Int32} {leakSlope : Int32} {leakSteep : Int32} {leakKnee : Int32} {lowCap : Nat → Int32} {highCap : Nat → Int32} {lowE : Nat → Int32} {highE : Nat → Int32} {lim : Nat → Int32} {powr : Nat → Int32} {grow : Nat → Int32} {bounds : Nat → Int32} {row1 : Int32} (h : Sum.inl k9 = p_gAhead sealed looked trial idle leakBase leakSlope leakSteep leakKnee lowCap highCap lowE highE lim powr grow bounds row1) : ¬ k9 = 1 := by
  unfold p_gAhead at h
  rcases tx_then_inl h with h | h
  · have e := nl_Within h; omega
  · rcases tx_then_inl h with h | h
    · have e := nl_Sealed h; omega
    · exact absurd h (nx_ahead_14 _ _ _)
theorem nx_node {k9 : Nat} {sealed : Int32} {truths : Nat → Int32} {bounds : Nat → Int32} {peaks : Nat → Int32} {errors : Nat → Int32} {alive : Nat → Int32} {n : Int32} {what : Int32} (h : Sum.inl k9 = p_gNode sealed truths bounds peaks errors alive n what) : ¬ k9 = 2 := by
  unfold p_gNode at h
  rcases tx_then_inl h with h | h
  · have e := nl_Index h; omega
  · rcases tx_then_inl h with h | h
    · have e := nl_Index h; omega
    · rcases tx_then_inl h with h | h
      · have e := nl_Sealed h; omega
      · repeat' split at h
        all_goals cases h
theorem nx_core {k9 : Nat} {sealed : Int32} {powr : Nat → Int32} {steps : Nat → Int32} {wishes : Nat → Int32} {waits : Nat → Int32} {told : Nat → Int32} {c1 : Int32} {what : Int32} (h : Sum.inl k9 = p_gCore sealed powr steps wishes waits told c1 what) : ¬ k9 = 2 := by
  unfold p_gCore at h
  rcases tx_then_inl h with h | h
  · have e := nl_Index h; omega
  · rcases tx_then_inl h with h | h
    · have e := nl_Index h; omega
    · rcases tx_then_inl h with h | h
      · have e := nl_Sealed h; omega
      · repeat' split at h
        all_goals cases h
theorem nx_seal1 {k9 : Nat} {sealed : Int32} {trial : Nat → Int32} {idle : Nat → Int32} {trueAir : Int32} {highAir : Int32} {leakBase : Int32} {leakSlope : Int32} {leakSteep : Int32} {leakKnee : Int32} {lowCap : Nat → Int32} {highCap : Nat → Int32} {lowE : Nat → Int32} {highE : Nat → Int32} {lim : Nat → Int32} {powr : Nat → Int32} {grow : Nat → Int32} {truths : Nat → Int32} {bounds : Nat → Int32} {peaks : Nat → Int32} {errors : Nat → Int32} {alive : Nat → Int32} {ticksHeld : Int32} {steps : Nat → Int32} {wishes : Nat → Int32} {ranks : Nat → Int32} {waits : Nat → Int32} {told : Nat → Int32} (h : Sum.inl k9 = p_gSeal sealed trial idle trueAir highAir leakBase leakSlope leakSteep leakKnee lowCap highCap lowE highE lim powr grow truths bounds peaks errors alive ticksHeld steps wishes ranks waits told) : ¬ k9 = 1 := by
  unfold p_gSeal at h
  rcases tx_then_inl h with h | h
  · have e := nl_Unsealed h; omega
  · repeat' split at h
    all_goals exact (nx_no h rfl).elim
theorem nx_period1 {k9 : Nat} {sealed : Int32} {steps : Nat → Int32} {wishes : Nat → Int32} {ranks : Nat → Int32} {waits : Nat → Int32} {grants : Nat → Int32} {trial : Nat → Int32} {idle : Nat → Int32} {leakBase : Int32} {leakSlope : Int32} {leakSteep : Int32} {leakKnee : Int32} {lowCap : Nat → Int32} {highCap : Nat → Int32} {lowE : Nat → Int32} {highE : Nat → Int32} {lim : Nat → Int32} {powr : Nat → Int32} {grow : Nat → Int32} {bounds : Nat → Int32} (h : Sum.inl k9 = p_gPeriod sealed steps wishes ranks waits grants trial idle leakBase leakSlope leakSteep leakKnee lowCap highCap lowE highE lim powr grow bounds) : ¬ k9 = 1 := by
  unfold p_gPeriod at h
  rcases tx_then_inl h with h | h
  · have e := nl_Sealed h; omega
  · exact (nx_no h rfl).elim
theorem nx_seal2 {k9 : Nat} {sealed : Int32} {trial : Nat → Int32} {idle : Nat → Int32} {trueAir : Int32} {highAir : Int32} {leakBase : Int32} {leakSlope : Int32} {leakSteep : Int32} {leakKnee : Int32} {lowCap : Nat → Int32} {highCap : Nat → Int32} {lowE : Nat → Int32} {highE : Nat → Int32} {lim : Nat → Int32} {powr : Nat → Int32} {grow : Nat → Int32} {truths : Nat → Int32} {bounds : Nat → Int32} {peaks : Nat → Int32} {errors : Nat → Int32} {alive : Nat → Int32} {ticksHeld : Int32} {steps : Nat → Int32} {wishes : Nat → Int32} {ranks : Nat → Int32} {waits : Nat → Int32} {told : Nat → Int32} (h : Sum.inl k9 = p_gSeal sealed trial idle trueAir highAir leakBase leakSlope leakSteep leakKnee lowCap highCap lowE highE lim powr grow truths bounds peaks errors alive ticksHeld steps wishes ranks waits told) : ¬ k9 = 2 := by
  unfold p_gSeal at h
  rcases tx_then_inl h with h | h
  · have e := nl_Unsealed h; omega
  · repeat' split at h
    all_goals exact (nx_no h rfl).elim
theorem nx_period2 {k9 : Nat} {sealed : Int32} {steps : Nat → Int32} {wishes : Nat → Int32} {ranks : Nat → Int32} {waits : Nat → Int32} {grants : Nat → Int32} {trial : Nat → Int32} {idle : Nat → Int32} {leakBase : Int32} {leakSlope : Int32} {leakSteep : Int32} {leakKnee : Int32} {lowCap : Nat → Int32} {highCap : Nat → Int32} {lowE : Nat → Int32} {highE : Nat → Int32} {lim : Nat → Int32} {powr : Nat → Int32} {grow : Nat → Int32} {bounds : Nat → Int32} (h : Sum.inl k9 = p_gPeriod sealed steps wishes ranks waits grants trial idle leakBase leakSlope leakSteep leakKnee lowCap highCap lowE highE lim powr grow bounds) : ¬ k9 = 2 := by
  unfold p_gPeriod at h
  rcases tx_then_inl h with h | h
  · have e := nl_Sealed h; omega
  · exact (nx_no h rfl).elim
