/-! a tick of time -/
section PS
theorem mt_ok_zero {f f' g : (Nat → Int) → Nat → Int} {lim b : Nat → Int} (h : mt_ok f g lim 0 b) : mt_ok f' g lim 0 b := h
def cnb (errors alive tru : Nat → Int32) (j : Nat) (x : Int32) : Int32 := if alive j = 0 then x else if p_reading tru errors j + nI 200 < x then p_reading tru errors j + nI 200 else x
def cmx (q x : Int32) : Int32 := if q < x then x else q
theorem c_np24 {errors alive tru gro : Nat → Int32} : ∀ (r k : Nat) (bou pea : Nat → Int32), k + r = 6 → ∃ bou' pea' : Nat → Int32, p_nodesPass_24 errors alive tru gro r k bou pea = (tru, bou', pea', gro) ∧ (∀ j : Nat, bou' j = if k ≤ j ∧ j < 6 then cnb errors alive tru j (bou j) else bou j) ∧ ∀ j : Nat, pea' j = if k ≤ j ∧ j < 6 then cmx (pea j) (cnb errors alive tru j (bou j)) else pea j := by
  intro r
  induction r with
  | zero =>
    intro k bou pea hk
    refine ⟨bou, pea, rfl, fun j => ?_, fun j => ?_⟩
    · rw [if_neg (by omega)]
    · rw [if_neg (by omega)]
  | succ r ih =>
    intro k bou pea hk
    have step : ∃ b1 p1 : Nat → Int32, p_nodesPass_24 errors alive tru gro (r + 1) k bou pea = p_nodesPass_24 errors alive tru gro r (k + 1) b1 p1 ∧ (∀ j : Nat, b1 j = if j = k then cnb errors alive tru k (bou k) else bou j) ∧ ∀ j : Nat, p1 j = if j = k then cmx (pea k) (cnb errors alive tru k (bou k)) else pea j := by
      by_cases ha : alive k = 0
      · refine ⟨bou, upd pea k (if pea k < bou k then bou k else pea k), ?_, fun j => ?_, fun j => ?_⟩
        · rw [p_nodesPass_24, if_pos ha]
        · by_cases e : j = k
          · subst e; rw [if_pos rfl]; unfold cnb; rw [if_pos ha]
          · rw [if_neg e]
        · unfold cnb cmx upd
          rw [if_pos ha]
      · refine ⟨upd bou k (if p_reading tru errors k + nI 200 < bou k then p_reading tru errors k + nI 200 else bou k), upd pea k (if pea k < (if p_reading tru errors k + nI 200 < bou k then p_reading tru errors k + nI 200 else bou k) then (if p_reading tru errors k + nI 200 < bou k then p_reading tru errors k + nI 200 else bou k) else pea k), ?_, fun j => ?_, fun j => ?_⟩
        · rw [p_nodesPass_24, if_neg ha, pk_us]
        · unfold cnb upd
          rw [if_neg ha]
        · unfold cnb cmx upd
          rw [if_neg ha]
    obtain ⟨b1, p1, e1, e2, e3⟩ := step
    obtain ⟨bou', pea', a1, a2, a3⟩ := ih (k + 1) b1 p1 (by omega)
    refine ⟨bou', pea', e1.trans a1, fun j => ?_, fun j => ?_⟩
    · rw [a2 j, e2 j]
      by_cases e : j = k
      · subst e; rw [if_neg (by omega), if_pos rfl, if_pos (by omega)]
      · rw [if_neg e]
        by_cases h : k + 1 ≤ j ∧ j < 6
        · rw [if_pos h, if_pos (by omega)]
        · rw [if_neg h, if_neg (by omega)]
    · rw [a3 j, e3 j, e2 j]
      by_cases e : j = k
      · subst e; rw [if_neg (by omega), if_pos rfl, if_pos (by omega)]
      · rw [if_neg e, if_neg e]
        by_cases h : k + 1 ≤ j ∧ j < 6
        · rw [if_pos h, if_pos (by omega)]
        · rw [if_neg h, if_neg (by omega)]
def mnb (qerrors qdead : Nat → Int32) (wrm : Nat → Int64) (j : Nat) (x : Int64) : Int64 := if qdead j = 0 then (if 0 ≤ lg_cmp ((wrm j + (qerrors j).toInt64) + 200) x then x else (wrm j + (qerrors j).toInt64) + 200) else x
def mmx (q x : Int64) : Int64 := if lg_cmp x q ≤ 0 then q else x
theorem m_np19 {left : Int32} {qerrors qdead qsteps : Nat → Int32} {wrm nxt : Nat → Int64} : ∀ (r k : Nat) (bou pea : Nat → Int64), k + r = 6 → ∃ bou' pea' : Nat → Int64, p_mTickOnce_19 left qerrors qdead qsteps wrm nxt r k bou pea = p_mTickOnce_19 left qerrors qdead qsteps wrm nxt 0 6 bou' pea' ∧ (∀ j : Nat, bou' j = if k ≤ j ∧ j < 6 then mnb qerrors qdead wrm j (bou j) else bou j) ∧ ∀ j : Nat, pea' j = if k ≤ j ∧ j < 6 then mmx (pea j) (mnb qerrors qdead wrm j (bou j)) else pea j := by
  intro r
  induction r with
  | zero =>
    intro k bou pea hk
    refine ⟨bou, pea, by rw [show k = 6 by omega], fun j => ?_, fun j => ?_⟩
    · rw [if_neg (by omega)]
    · rw [if_neg (by omega)]
  | succ r ih =>
    intro k bou pea hk
    have step : ∃ b1 p1 : Nat → Int64, p_mTickOnce_19 left qerrors qdead qsteps wrm nxt (r + 1) k bou pea = p_mTickOnce_19 left qerrors qdead qsteps wrm nxt r (k + 1) b1 p1 ∧ (∀ j : Nat, b1 j = if j = k then mnb qerrors qdead wrm k (bou k) else bou j) ∧ ∀ j : Nat, p1 j = if j = k then mmx (pea k) (mnb qerrors qdead wrm k (bou k)) else pea j := by
      have same : ∀ j : Nat, bou j = if j = k then bou k else bou j := fun j => by
        by_cases e : j = k
        · subst e; rw [if_pos rfl]
        · rw [if_neg e]
      rw [p_mTickOnce_19]
      unfold mnb mmx
      by_cases hd : qdead k = 0
      · simp only [hd, if_true]
        by_cases h1 : 0 ≤ lg_cmp ((wrm k + (qerrors k).toInt64) + 200) (bou k)
        · simp only [h1, if_true]
          by_cases h2 : lg_cmp (bou k) (pea k) ≤ 0
          · simp only [h2, if_true]; exact ⟨bou, vp_updL pea k (pea k), rfl, same, fun j => rfl⟩
          · simp only [h2, if_false]; exact ⟨bou, vp_updL pea k (bou k), rfl, same, fun j => rfl⟩
        · simp only [h1, if_false, vl_us]
          by_cases h2 : lg_cmp ((wrm k + (qerrors k).toInt64) + 200) (pea k) ≤ 0
          · simp only [h2, if_true]; exact ⟨_, _, rfl, fun j => rfl, fun j => rfl⟩
          · simp only [h2, if_false]; exact ⟨_, _, rfl, fun j => rfl, fun j => rfl⟩
      · simp only [hd, if_false]
        by_cases h2 : lg_cmp (bou k) (pea k) ≤ 0
        · simp only [h2, if_true]; exact ⟨bou, vp_updL pea k (pea k), rfl, same, fun j => rfl⟩
        · simp only [h2, if_false]; exact ⟨bou, vp_updL pea k (bou k), rfl, same, fun j => rfl⟩
    obtain ⟨b1, p1, e1, e2, e3⟩ := step
    obtain ⟨bou', pea', a1, a2, a3⟩ := ih (k + 1) b1 p1 (by omega)
    refine ⟨bou', pea', e1.trans a1, fun j => ?_, fun j => ?_⟩
    · rw [a2 j, e2 j]
      by_cases e : j = k
      · subst e; rw [if_neg (by omega), if_pos rfl, if_pos (by omega)]
      · rw [if_neg e]
        by_cases h : k + 1 ≤ j ∧ j < 6
        · rw [if_pos h, if_pos (by omega)]
        · rw [if_neg h, if_neg (by omega)]
    · rw [a3 j, e3 j, e2 j]
      by_cases e : j = k
      · subst e; rw [if_neg (by omega), if_pos rfl, if_pos (by omega)]
      · rw [if_neg e, if_neg e]
        by_cases h : k + 1 ≤ j ∧ j < 6
        · rw [if_pos h, if_pos (by omega)]
        · rw [if_neg h, if_neg (by omega)]
theorem m_141 {wrm nxt bou pea : Nat → Int64} : ∀ (r k : Nat) (sts : Nat → Int32) (left : Int32), k + r = 4 → (∀ j : Nat, j < k → sts j = nI 0) → (k = 0 ∨ left = 0) → ∃ sts' : Nat → Int32, p_mTickOnce_141 wrm nxt bou pea r k sts left = (wrm, bou, pea, nxt, sts', left) ∧ (left = 0 → ∀ j : Nat, j < 4 → sts' j = nI 0) ∧ (¬ left = 0 → sts' = sts) := by
  intro r
  induction r with
  | zero => intro k sts left hk h h0; exact ⟨sts, rfl, fun _ j hj => h j (by omega), fun _ => rfl⟩
  | succ r ih =>
    intro k sts left hk h h0
    unfold p_mTickOnce_141
    by_cases hl : left = 0
    · rw [if_pos hl]
      obtain ⟨sts', a1, a2, a3⟩ := ih (k + 1) (upd sts k (nI 0)) left (by omega) (fun j hj => by
        by_cases e : j = k
        · subst e; exact pk_us
        · rw [pk_un e]; exact h j (by omega)) (Or.inr hl)
      exact ⟨sts', a1, a2, fun q => absurd hl q⟩
    · rw [if_neg hl]
      exact ⟨sts, rfl, fun q => absurd q hl, fun _ => rfl⟩
theorem fill4_at {f : Nat → Int32} {v : Int32} {j : Nat} (hj : j < 4) : p_fill4 f v j = v := by
  unfold p_fill4
  simp only [p_fill4_5]
  rcases (show j = 0 ∨ j = 1 ∨ j = 2 ∨ j = 3 by omega) with rfl | rfl | rfl | rfl <;> simp [upd]
theorem c_cpass {held : Int32} {steps : Nat → Int32} (h0 : 0 ≤ held.toInt) (h8 : held.toInt ≤ 8) (hz : held.toInt = 8 → ∀ j : Nat, j < 4 → steps j = nI 0) : ∃ (sts' : Nat → Int32) (held' : Int32), p_coresPass held steps = (sts', held') ∧ held'.toInt = (if held.toInt = 8 then 8 else held.toInt + 1) ∧ (held'.toInt = 8 → ∀ j : Nat, j < 4 → sts' j = nI 0) ∧ (¬ held'.toInt = 8 → sts' = steps) := by
  have e8 : (nI 8).toInt = 8 := by decide
  have e1 : (nI 1).toInt = 1 := by decide
  unfold p_coresPass
  by_cases h : nI 8 ≤ held
  · have h' := n_le.mp h
    have h9 : held.toInt = 8 := by omega
    have he : held = nI 8 := n_eq.mpr (by omega)
    rw [if_pos h, if_pos he]
    simp only [ap1]
    exact ⟨_, _, rfl, by rw [if_pos h9, h9], fun _ j hj => fill4_at hj, fun q => absurd h9 q⟩
  · have h' : ¬ (nI 8).toInt ≤ held.toInt := fun q => h (n_le.mpr q)
    have ha : (held + nI 1).toInt = held.toInt + 1 := by rw [n_add (by omega) (by omega), e1]
    rw [if_neg h]
    by_cases h7 : held + nI 1 = nI 8
    · rw [if_pos h7]
      simp only [ap1]
      refine ⟨_, _, rfl, by rw [if_neg (by omega), ha], fun _ j hj => fill4_at hj, fun q => absurd (by rw [h7, e8]) q⟩
    · rw [if_neg h7]
      refine ⟨_, _, rfl, by rw [if_neg (by omega), ha], fun q => absurd (n_eq.mpr (by omega)) h7, fun _ => rfl⟩
/-- all that changes while the package is sealed, of both -/
def sl_I (lowCap highCap lowE highE lim powr : Nat → Int32) (trueAir highAir base slope steep knee : Int32) (idle truths bounds peaks errors alive : Nat → Int32) (held : Int32) (steps told : Nat → Int32) (qwarm qbounds qpeaks : Nat → Int64) (qerrors qdead qsteps qdraws : Nat → Int32) (left : Int32) : Prop :=
  (∃ t b : Nat → Int, (∀ o : Nat, o < 7 → (truths o).toInt = t o) ∧ (∀ o : Nat, o < 7 → (bounds o).toInt = b o) ∧ (∀ o : Nat, o < 6 → (qwarm o).toInt = t o) ∧ (∀ o : Nat, o < 6 → (qbounds o).toInt = b o) ∧ t 6 = trueAir.toInt ∧ b 6 = highAir.toInt ∧ (∀ o : Nat, o < 7 → 0 ≤ t o ∧ t o ≤ b o) ∧
    mt_ok (nu_F lowCap highCap lowE highE powr base slope steep knee steps) (nu_F lowCap highCap lowE highE powr base slope steep knee idle) (iE lim) (8 - held.toInt).toNat b) ∧
  (∀ o : Nat, o < 6 → (peaks o).toInt = (qpeaks o).toInt) ∧ (∀ o : Nat, o < 6 → errors o = qerrors o ∧ -200 ≤ (errors o).toInt ∧ (errors o).toInt ≤ 200) ∧ (∀ o : Nat, o < 6 → (alive o = 0 ↔ ¬ qdead o = 0)) ∧ (∀ j : Nat, j < 4 → steps j = qsteps j ∧ vp_in (steps j) 4) ∧ (∀ j : Nat, j < 4 → told j = qdraws j ∧ 0 ≤ (told j).toInt ∧ (told j).toInt ≤ 1000000) ∧
  0 ≤ held.toInt ∧ held.toInt ≤ 8 ∧ 0 ≤ left.toInt ∧ left.toInt ≤ 8 ∧ (held.toInt + left.toInt = 8 ∨ ∀ j : Nat, j < 4 → steps j = nI 0) ∧ (held.toInt = 8 → ∀ j : Nat, j < 4 → steps j = nI 0)
variable {lowCap highCap truCap lowE highE truE lim powr : Nat → Int32} {trueAir highAir base slope steep knee : Int32} {idle truths bounds peaks errors alive : Nat → Int32} {held : Int32} {steps told : Nat → Int32} {qwarm qbounds qpeaks : Nat → Int64} {qerrors qdead qsteps qdraws : Nat → Int32} {left : Int32}
theorem s_pass (K : cf_K lowCap highCap lowE highE lim powr base slope steep knee) (T : cf_T lowCap highCap truCap lowE highE truE) (hair : 0 ≤ trueAir.toInt ∧ trueAir.toInt ≤ highAir.toInt ∧ highAir.toInt ≤ 50000) (hid : ∀ j : Nat, j < 4 → idle j = nI 0)
    (I : sl_I lowCap highCap lowE highE lim powr trueAir highAir base slope steep knee idle truths bounds peaks errors alive held steps told qwarm qbounds qpeaks qerrors qdead qsteps qdraws left) (grow : Nat → Int32) (nxt : Nat → Int64) :
    ∃ (tru1 bou1 pea1 gro1 sts1 : Nat → Int32) (held1 : Int32) (wrm1 qbou1 qpea1 nxt1 : Nat → Int64) (qsts1 : Nat → Int32) (left1 : Int32), p_nodesPass truths bounds peaks errors alive base slope steep knee lowCap highCap truCap lowE highE truE powr grow steps told = (tru1, bou1, pea1, gro1) ∧ p_coresPass held steps = (sts1, held1) ∧
      p_mTickOnce trueAir highAir base slope steep knee left lowCap highCap truCap lowE highE truE powr qwarm qbounds qpeaks nxt qerrors qdead qsteps qdraws = (wrm1, qbou1, qpea1, nxt1, qsts1, left1) ∧
      sl_I lowCap highCap lowE highE lim powr trueAir highAir base slope steep knee idle tru1 bou1 pea1 errors alive held1 sts1 told wrm1 qbou1 qpea1 qerrors qdead qsts1 qdraws left1 := by
  obtain ⟨⟨t, b, ht, hb, hqt, hqb, ht6, hb6, htb, hok⟩, hpk, her, hal, hst, hto, h0, h8, l0, l8, hl, hz⟩ := I
  obtain ⟨E, C, P, L, M, S⟩ := K
  have K' : cf_K lowCap highCap lowE highE lim powr base slope steep knee := ⟨E, C, P, L, M, S⟩
  have hstv : ∀ j, j < 4 → vp_in (steps j) 4 := fun j hj => (hst j hj).2
  have hqv : ∀ j, j < 4 → vp_in (qsteps j) 4 := fun j hj => by rw [← (hst j hj).1]; exact (hst j hj).2
  have htov : ∀ j, j < 4 → 0 ≤ (told j).toInt ∧ (told j).toInt ≤ 1000000 := fun j hj => (hto j hj).2
  have hlim : ∀ n : Nat, n < 6 → b n ≤ (lim n).toInt := mt_ok_now hok
  have Bb : nu_b b := fun o ho => ⟨by have := htb o ho; omega, by
    by_cases h6 : o < 6
    · have := hlim o h6; have := M o h6; omega
    · rw [show o = 6 by omega, hb6]; exact hair.2.2⟩
  have Bt : nu_b t := fun o ho => ⟨(htb o ho).1, by have := htb o ho; have := Bb o ho; omega⟩
  -- the ticks
  obtain ⟨c1, c2⟩ := c_ttick E C T P L hstv htov Bt ht grow
  obtain ⟨nxt', wrm', m1, m2⟩ := m_ttick (air := trueAir) (steps := qsteps) (told := qdraws) E C T P L hqv (fun j hj => by rw [← (hto j hj).1]; exact (hto j hj).2) Bt hqt ht6.symm nxt
  have eG : ∀ n : Nat, n < 6 → nu_G truCap truE powr base slope steep knee qsteps qdraws t n = nu_G truCap truE powr base slope steep knee steps told t n := by
    intro n hn
    rw [nu_G_eq hn, nu_G_eq hn]
    have : nu_th truE powr base slope steep knee qsteps qdraws t n = nu_th truE powr base slope steep knee steps told t n := by
      unfold nu_th nu_src
      by_cases h4 : n < 4
      · rw [if_pos h4, if_pos h4]
        unfold nu_dr p_trueDraw
        rw [(hst n h4).1, (hto n h4).1]
      · rw [if_neg h4, if_neg h4]
    rw [this]
  rcases hT : p_trueTick base slope steep knee truE truCap powr grow truths steps told with ⟨gro0, tru1⟩
  rw [hT] at c1 c2
  simp only at c1 c2
  obtain ⟨d1, d2, d3⟩ := c_btick (stp := steps) E C P L hstv Bb hb gro0
  obtain ⟨g', nxt2, row', u0, u1, u2, u3⟩ := m_btick (stp := qsteps) (air := highAir) E C P L hqv Bb hqb hb6.symm nxt'
  rw [← nu_F_stp (lowCap := lowCap) (highCap := highCap) (lowE := lowE) (highE := highE) (powr := powr) (base := base) (slope := slope) (steep := steep) (knee := knee) (fun j hj => (hst j hj).1)] at u1 u3
  rcases hB : p_boundTick base slope steep knee lowCap highCap lowE highE powr gro0 bounds steps with ⟨v1, gro1, bou0⟩
  rw [hB] at d1 d2 d3
  simp only at d1 d2 d3
  obtain ⟨bou1, pea1, n1, n2, n3⟩ := c_np24 (errors := errors) (alive := alive) (tru := tru1) (gro := gro1) 6 0 bou0 peaks rfl
  obtain ⟨qbou1, qpea1, q1, q2, q3⟩ := m_np19 (left := left) (qerrors := qerrors) (qdead := qdead) (qsteps := qsteps) (wrm := wrm') (nxt := nxt2) 6 0 row' qpeaks rfl
  obtain ⟨sts1, held1, k1, k2, k3, k4⟩ := c_cpass (steps := steps) h0 h8 hz
  -- numbers
  have hF7 : ∀ n : Nat, n < 7 → 0 ≤ nu_F lowCap highCap lowE highE powr base slope steep knee steps b n := nu_F_nonneg K' hstv (fun n hn => (Bb n hn).1)
  have hFlim : mt_ok (nu_F lowCap highCap lowE highE powr base slope steep knee steps) (nu_F lowCap highCap lowE highE powr base slope steep knee idle) (iE lim) ((8 - held.toInt).toNat - 1) (nu_F lowCap highCap lowE highE powr base slope steep knee steps b) := by
    by_cases h9 : held.toInt = 8
    · have e : nu_F lowCap highCap lowE highE powr base slope steep knee steps = nu_F lowCap highCap lowE highE powr base slope steep knee idle := nu_F_stp (fun j hj => by rw [hz h9 j hj, hid j hj])
      rw [show (8 - held.toInt).toNat = 0 by omega] at hok ⊢
      rw [e]
      exact fun i n hn => hok (i + 1) n hn
    · obtain ⟨k9, hk9⟩ : ∃ k9 : Nat, (8 - held.toInt).toNat = k9 + 1 := ⟨(8 - held.toInt).toNat - 1, by omega⟩
      rw [hk9] at hok ⊢
      exact hok.2
  have hFl : ∀ n : Nat, n < 6 → nu_F lowCap highCap lowE highE powr base slope steep knee steps b n ≤ (lim n).toInt := mt_ok_now hFlim
  have hGn : ∀ n : Nat, n < 7 → 0 ≤ nu_G truCap truE powr base slope steep knee steps told t n := by
    refine mt_G_nonneg (cf_nice K') (fun n o hn ho => T.2 n o (by omega) ho) (fun n hn => T.1 n hn) (fun n hn => (nu_ts_ran P L hstv htov Bt hn).1) (fun n hn => (Bt n hn).1)
  have hGF : mt_le (nu_G truCap truE powr base slope steep knee steps told t) (nu_F lowCap highCap lowE highE powr base slope steep knee steps b) := by
    intro n hn
    refine Int.le_trans (mt_G_le (src := nu_src (nu_pw powr steps) base.toInt slope.toInt steep.toInt knee.toInt) (cf_nice K') (fun n o hn ho => T.2 n o (by omega) ho) (fun n hn => T.1 n hn) (fun n x hn => ?_) t n hn) (nu_F_mono K' t b (fun o ho => (htb o ho).2) n hn)
    unfold nu_src
    by_cases h4 : n < 4
    · rw [if_pos h4, if_pos h4]
      have := nu_dr_ran P hstv htov h4
      omega
    · rw [if_neg h4, if_neg h4]; exact Int.le_refl _
  -- node by node
  have e200 : (nI 200).toInt = 200 := by decide
  have node : ∀ n : Nat, n < 6 → (bou1 n).toInt = (qbou1 n).toInt ∧ nu_G truCap truE powr base slope steep knee steps told t n ≤ (bou1 n).toInt ∧ (bou1 n).toInt ≤ nu_F lowCap highCap lowE highE powr base slope steep knee steps b n ∧ (pea1 n).toInt = (qpea1 n).toInt := by
    intro n hn
    have a1 := c1 n (by omega)
    have a2 := m2 n hn
    rw [eG n hn] at a2
    have a3 := d1 n (by omega)
    have a4 := u1 n hn
    obtain ⟨a5, a6, a7⟩ := her n hn
    have a8 := hGn n (by omega)
    have a9 := hGF n (by omega)
    have a10 := hFl n hn
    have a11 := M n hn
    have r1 : (p_reading tru1 errors n + nI 200).toInt = nu_G truCap truE powr base slope steep knee steps told t n + (errors n).toInt + 200 := by
      have r0 : (p_reading tru1 errors n).toInt = nu_G truCap truE powr base slope steep knee steps told t n + (errors n).toInt := by
        unfold p_reading
        rw [n_add (by rw [a1]; omega) (by rw [a1]; omega), a1]
      rw [n_add (by rw [r0, e200]; omega) (by rw [r0, e200]; omega), r0, e200]
    have r2 : (wrm' n + (qerrors n).toInt64 + 200).toInt = nu_G truCap truE powr base slope steep knee steps told t n + (errors n).toInt + 200 := by
      have c9 := Int32.toInt_toInt64 (qerrors n)
      rw [← a5] at c9
      have r0 : (wrm' n + (qerrors n).toInt64).toInt = nu_G truCap truE powr base slope steep knee steps told t n + (errors n).toInt := by
        rw [← a5, l_add (by rw [a2, c9]; omega) (by rw [a2, c9]; omega), a2, c9]
      have e2 : (200 : Int64).toInt = 200 := by decide
      rw [l_add (by rw [r0, e2]; omega) (by rw [r0, e2]; omega), r0, e2]
    have hbn : (cnb errors alive tru1 n (bou0 n)).toInt = (mnb qerrors qdead wrm' n (row' n)).toInt ∧ nu_G truCap truE powr base slope steep knee steps told t n ≤ (cnb errors alive tru1 n (bou0 n)).toInt ∧ (cnb errors alive tru1 n (bou0 n)).toInt ≤ nu_F lowCap highCap lowE highE powr base slope steep knee steps b n := by
      unfold cnb mnb
      by_cases ha : alive n = 0
      · rw [if_pos ha, if_neg ((hal n hn).mp ha)]
        omega
      · have hd : qdead n = 0 := by
          by_cases q : qdead n = 0
          · exact q
          · exact absurd ((hal n hn).mpr q) ha
        rw [if_neg ha, if_pos hd]
        by_cases hc : p_reading tru1 errors n + nI 200 < bou0 n
        · have hc' := n_lt.mp hc
          rw [r1, a3] at hc'
          rw [if_pos hc, if_neg (fun q => by have := l_le.mp ((lg_cmp_ge _ _).mp q); rw [r2, a4] at this; omega)]
          omega
        · have hc' : ¬ (p_reading tru1 errors n + nI 200).toInt < (bou0 n).toInt := fun q => hc (n_lt.mpr q)
          rw [r1, a3] at hc'
          rw [if_neg hc, if_pos ((lg_cmp_ge _ _).mpr (l_le.mpr (by rw [r2, a4]; omega)))]
          omega
    have f1 : bou1 n = cnb errors alive tru1 n (bou0 n) := by rw [n2 n, if_pos ⟨Nat.zero_le _, hn⟩]
    have f2 : qbou1 n = mnb qerrors qdead wrm' n (row' n) := by rw [q2 n, if_pos ⟨Nat.zero_le _, hn⟩]
    have f3 : pea1 n = cmx (peaks n) (cnb errors alive tru1 n (bou0 n)) := by rw [n3 n, if_pos ⟨Nat.zero_le _, hn⟩]
    have f4 : qpea1 n = mmx (qpeaks n) (mnb qerrors qdead wrm' n (row' n)) := by rw [q3 n, if_pos ⟨Nat.zero_le _, hn⟩]
    refine ⟨by rw [f1, f2]; exact hbn.1, by rw [f1]; exact hbn.2.1, by rw [f1]; exact hbn.2.2, ?_⟩
    rw [f3, f4]
    have hp := hpk n hn
    unfold cmx mmx
    by_cases hc : peaks n < cnb errors alive tru1 n (bou0 n)
    · have hc' := n_lt.mp hc
      rw [if_pos hc, if_neg (fun q => by have := l_le.mp ((lg_cmp_le _ _).mp q); omega)]
      exact hbn.1
    · have hc' : ¬ (peaks n).toInt < (cnb errors alive tru1 n (bou0 n)).toInt := fun q => hc (n_lt.mpr q)
      rw [if_neg hc, if_pos ((lg_cmp_le _ _).mpr (l_le.mpr (by omega)))]
      exact hp
  have bou16 : bou1 6 = bounds 6 := by rw [n2 6, if_neg (by omega), d2]
  have bou16i : (bou1 6).toInt = b 6 := by rw [bou16, hb 6 (by omega)]
  -- the model's end
  have e1 : (nI 1).toInt = 1 := by decide
  obtain ⟨left1, hleft, hl1⟩ : ∃ left1 : Int32, left1.toInt = (if left.toInt = 0 then 0 else left.toInt - 1) ∧ p_mTickOnce_19 left qerrors qdead qsteps wrm' nxt2 0 6 qbou1 qpea1 = p_mTickOnce_141 wrm' nxt2 qbou1 qpea1 4 0 qsteps left1 := by
    by_cases hc : left ≤ 0
    · have hc' := n_le.mp hc
      rw [n_0] at hc'
      exact ⟨nI 0, by rw [if_pos (by omega)]; decide, by rw [p_mTickOnce_19, if_pos hc]⟩
    · have hc' : ¬ left.toInt ≤ (0 : Int32).toInt := fun q => hc (n_le.mpr q)
      rw [n_0] at hc'
      exact ⟨left - nI 1, by rw [if_neg (by omega), n_sub (by omega) (by omega), e1], by rw [p_mTickOnce_19, if_neg hc]⟩
  obtain ⟨qsts1, s1, s2, s3⟩ := m_141 (wrm := wrm') (nxt := nxt2) (bou := qbou1) (pea := qpea1) 4 0 qsteps left1 rfl (fun j hj => by omega) (Or.inl rfl)
  have hl0 : left1 = 0 ↔ left1.toInt = 0 := by rw [n_eq, n_0]
  have hsts : ∀ j : Nat, j < 4 → sts1 j = qsts1 j ∧ vp_in (sts1 j) 4 ∧ (sts1 j = steps j ∨ sts1 j = nI 0) := by
    intro j hj
    rcases hl with hl | hl
    · by_cases h9 : held1.toInt = 8
      · have hl9 : left1.toInt = 0 := by
          rw [hleft]
          rw [h9] at k2
          split at k2 <;> split <;> omega
        rw [k3 h9 j hj, s2 (hl0.mpr hl9) j hj]
        exact ⟨rfl, vin_0, Or.inr rfl⟩
      · have hl9 : ¬ left1.toInt = 0 := by
          rw [hleft]
          split at k2 <;> split <;> omega
        rw [k4 h9, s3 (fun q => hl9 (hl0.mp q))]
        exact ⟨(hst j hj).1, (hst j hj).2, Or.inl rfl⟩
    · have z1 : sts1 j = nI 0 := by
        by_cases h9 : held1.toInt = 8
        · exact k3 h9 j hj
        · rw [k4 h9]; exact hl j hj
      have z2 : qsts1 j = nI 0 := by
        by_cases h9 : left1 = 0
        · exact s2 h9 j hj
        · rw [s3 h9, ← (hst j hj).1]; exact hl j hj
      rw [z1, z2]
      exact ⟨rfl, vin_0, Or.inr rfl⟩
  refine ⟨tru1, bou1, pea1, gro1, sts1, held1, wrm', qbou1, qpea1, nxt2, qsts1, left1, ?_, k1, ?_, ?_⟩
  · unfold p_nodesPass
    rw [hT]
    simp only [ap2]
    rw [hB]
    simp only [ap3]
    exact n1
  · unfold p_mTickOnce
    rw [m1]
    simp only [ap2]
    rw [u0]
    simp only [ap3]
    exact q1.trans (hl1.trans s1)
  · refine ⟨⟨nu_G truCap truE powr base slope steep knee steps told t, fun o => (bou1 o).toInt, c1, fun o _ => rfl, fun o ho => by rw [m2 o ho, eG o ho], fun o ho => ((node o ho).1).symm, ?_, ?_, fun o ho => ⟨hGn o ho, ?_⟩, ?_⟩, fun o ho => (node o ho).2.2.2, her, hal, fun j hj => ⟨(hsts j hj).1, (hsts j hj).2.1⟩, hto, ?_, ?_, ?_, ?_, ?_, k3⟩
    · unfold nu_G mt_G
      rw [if_neg (by omega)]; exact ht6
    · exact bou16i.trans hb6
    · by_cases h6 : o < 6
      · exact (node o h6).2.1
      · rw [show o = 6 by omega]
        show nu_G truCap truE powr base slope steep knee steps told t 6 ≤ (bou1 6).toInt
        rw [bou16i]
        have : nu_G truCap truE powr base slope steep knee steps told t 6 = t 6 := by unfold nu_G mt_G; rw [if_neg (by omega)]
        rw [this]
        exact (htb 6 (by omega)).2
    · have hle : mt_le (fun o => (bou1 o).toInt) (nu_F lowCap highCap lowE highE powr base slope steep knee steps b) := by
        intro o ho
        by_cases h6 : o < 6
        · exact (node o h6).2.2.1
        · rw [show o = 6 by omega, nu_F_air]
          show (bou1 6).toInt ≤ b 6
          rw [bou16i]; exact Int.le_refl _
      have hk : (8 - held1.toInt).toNat = (8 - held.toInt).toNat - 1 := by
        split at k2 <;> omega
      rw [hk]
      have h9 := mt_ok_le (nu_F_mono (stp := steps) K') (nu_F_mono (stp := idle) K') _ _ _ hle hFlim
      by_cases h10 : held1.toInt = 8
      · rw [show (8 - held.toInt).toNat - 1 = 0 by omega] at h9 ⊢
        exact mt_ok_zero h9
      · rw [k4 h10]; exact h9
    · split at k2 <;> omega
    · split at k2 <;> omega
    · split at hleft <;> omega
    · split at hleft <;> omega
    · rcases hl with hl | hl
      · left
        split at k2 <;> split at hleft <;> omega
      · right
        intro j hj
        rcases (hsts j hj).2.2 with h | h
        · rw [h]; exact hl j hj
        · exact h
end PS
